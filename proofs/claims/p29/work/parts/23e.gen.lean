noncomputable def g481 : CR := (320, [(2, 90, 90), (0, 0, 6), (0, 4, 4), (0, 6, 6)], [], some (0, 1, 210), [], [106])
theorem r481 {l : Launch} {D : va_G} {tys : List (ClassId × FieldType)} {A : Nat → Prop} {ad : Nat → Nat} (hAD : ∀ i : Nat, ad (1000 + i) = D.2 1000 i) : CRok l D tys A ad GG 2 g481 := zqlv (b := 4) (C := 210) (by omega) (by decide +kernel)
noncomputable def g482 : CR := (320, [(2, 90, 90), (0, 0, 6), (0, 5, 5), (0, 6, 6)], [], some (0, 1, 462), [], [106])
theorem r482 {l : Launch} {D : va_G} {tys : List (ClassId × FieldType)} {A : Nat → Prop} {ad : Nat → Nat} (hAD : ∀ i : Nat, ad (1000 + i) = D.2 1000 i) : CRok l D tys A ad GG 2 g482 := zqlv (b := 5) (C := 462) (by omega) (by decide +kernel)
noncomputable def g483 : CR := (320, [(2, 90, 90), (0, 0, 6), (0, 6, 6), (0, 6, 6)], [], some (0, 1, 924), [], [106])
theorem r483 {l : Launch} {D : va_G} {tys : List (ClassId × FieldType)} {A : Nat → Prop} {ad : Nat → Nat} (hAD : ∀ i : Nat, ad (1000 + i) = D.2 1000 i) : CRok l D tys A ad GG 2 g483 := zqlv (b := 6) (C := 924) (by omega) (by decide +kernel)
noncomputable def g484 : CR := (321, [(2, 90, 90), (0, (-2147483648), 2147483647), (0, (-2147483648), 2147483647), (0, (-2147483648), 2147483647)], [], some (0, (-2147483648), 2147483647), [], [106])
theorem w484 : vrf GG [(2, g476), (2, g478), (2, g479), (2, g480), (2, g481), (2, g482), (2, g483), (2, g477)] [] 300 3 g484
  [] = true := by decide +kernel
theorem r484 {l : Launch} {D : va_G} {tys : List (ClassId × FieldType)} {A : Nat → Prop} {ad : Nat → Nat} (hAD : ∀ i : Nat, ad (1000 + i) = D.2 1000 i) : CRok l D tys A ad GG 4 g484 := CR_of_vrf (dep := 3) hAD (List.forall_mem_cons.mpr ⟨r476 hAD, List.forall_mem_cons.mpr ⟨r478 hAD, List.forall_mem_cons.mpr ⟨r479 hAD, List.forall_mem_cons.mpr ⟨r480 hAD, List.forall_mem_cons.mpr ⟨r481 hAD, List.forall_mem_cons.mpr ⟨r482 hAD, List.forall_mem_cons.mpr ⟨r483 hAD, List.forall_mem_cons.mpr ⟨r477 hAD, fun c hc => by cases hc⟩⟩⟩⟩⟩⟩⟩⟩) T2OK_nil w484
noncomputable def g485 : CR := (59, [(2, 0, 0), (0, (-2147483648), 2147483647), (0, (-2147483648), 2147483647)], [], some (0, (-2), 6), [], [52])
theorem w485 : vrf GG [(2, g474)] [] 300 2 g485
  (uK (uC kN14 (uE kI0 kI5 (uE kI0 kI5 (uE kI0 kI7 (uE kI1 kI6 uE0)))) (uA kN0 (rA kI0) (uA kN1 (uis kN0) (uA kN2 (uis kN1) (uA kN3 (uis kN2) uA0)))) uS0 (uO kN4 kN4 (uis kN3) uO0) kI914 (uL kJ118 kN2 uL0))
  uK0) = true := by decide +kernel
theorem r485 {l : Launch} {D : va_G} {tys : List (ClassId × FieldType)} {A : Nat → Prop} {ad : Nat → Nat} (hAD : ∀ i : Nat, ad (1000 + i) = D.2 1000 i) : CRok l D tys A ad GG 3 g485 := CR_of_vrf (dep := 2) hAD (List.forall_mem_cons.mpr ⟨r474 hAD, fun c hc => by cases hc⟩) T2OK_nil w485
noncomputable def g486 : CR := (322, [(2, 90, 90), (0, (-2147483648), 2147483647), (0, (-2147483648), 2147483647)], [], some (0, (-2), 6), [], [106])
theorem w486 : vrf GG [(2, g476), (2, g478), (2, g479), (2, g480), (2, g481), (2, g482), (2, g483), (2, g477)] [] 300 3 g486
  (uK (uC kN14 (uE kI0 kI5 (uE kI0 kI5 (uE kI0 kI6 (uE kI1 kI6 uE0)))) (uA kN0 (rA kI90) (uA kN1 (uis kN0) (uA kN2 (uis kN1) (uA kN3 (uis kN2) uA0)))) uS0 (uO kN91 kN3 (uis kN3) uO0) (Int.ofNat (nat_lit 558)) (uL (Int.negSucc (nat_lit 83)) kN2 uL0))
  uK0) = true := by decide +kernel
theorem r486 {l : Launch} {D : va_G} {tys : List (ClassId × FieldType)} {A : Nat → Prop} {ad : Nat → Nat} (hAD : ∀ i : Nat, ad (1000 + i) = D.2 1000 i) : CRok l D tys A ad GG 4 g486 := CR_of_vrf (dep := 3) hAD (List.forall_mem_cons.mpr ⟨r476 hAD, List.forall_mem_cons.mpr ⟨r478 hAD, List.forall_mem_cons.mpr ⟨r479 hAD, List.forall_mem_cons.mpr ⟨r480 hAD, List.forall_mem_cons.mpr ⟨r481 hAD, List.forall_mem_cons.mpr ⟨r482 hAD, List.forall_mem_cons.mpr ⟨r483 hAD, List.forall_mem_cons.mpr ⟨r477 hAD, fun c hc => by cases hc⟩⟩⟩⟩⟩⟩⟩⟩) T2OK_nil w486
noncomputable def g487 : CR := (60, [(2, 0, 0), (0, (-2147483648), 0)], [], some (0, (-2), (-2)), [], [])
theorem w487 : vrf GG [] [] 300 1 g487
  [] = true := by decide +kernel
theorem r487 {l : Launch} {D : va_G} {tys : List (ClassId × FieldType)} {A : Nat → Prop} {ad : Nat → Nat} (hAD : ∀ i : Nat, ad (1000 + i) = D.2 1000 i) : CRok l D tys A ad GG 2 g487 := CR_of_vrf (dep := 1) hAD (fun c hc => by cases hc) T2OK_nil w487
noncomputable def g488 : CR := (60, [(2, 0, 0), (0, 7, 2147483647)], [], some (0, (-2), (-2)), [], [])
theorem w488 : vrf GG [] [] 300 1 g488
  [] = true := by decide +kernel
theorem r488 {l : Launch} {D : va_G} {tys : List (ClassId × FieldType)} {A : Nat → Prop} {ad : Nat → Nat} (hAD : ∀ i : Nat, ad (1000 + i) = D.2 1000 i) : CRok l D tys A ad GG 2 g488 := CR_of_vrf (dep := 1) hAD (fun c hc => by cases hc) T2OK_nil w488
noncomputable def g489 : CR := (126, [(2, 50, 50), (2, 4, 4), (0, 0, 5), (0, 0, 6)], [], some (0, 0, 1), [], [])
theorem w489 : vrf GG [] [] 300 2 g489
  (uK (uC kN3 (uE kI0 kI5 (uE kI0 kI6 (uE kI0 kI6 uE0))) (uA kN0 (rA kI50) (uA kN1 (rA kI4) (uA kN2 (uis kN0) (uA kN3 (uis kN1) (uA kN4 (uis kN2) uA0))))) uS0 uO0 (Int.ofNat (nat_lit 552)) (uL kJ80 kN2 uL0))
  uK0) = true := by decide +kernel
theorem r489 {l : Launch} {D : va_G} {tys : List (ClassId × FieldType)} {A : Nat → Prop} {ad : Nat → Nat} (hAD : ∀ i : Nat, ad (1000 + i) = D.2 1000 i) : CRok l D tys A ad GG 3 g489 := CR_of_vrf (dep := 2) hAD (fun c hc => by cases hc) T2OK_nil w489
noncomputable def g490 : CR := (128, [(2, 4, 4), (0, 0, 5), (0, 0, 5), (0, 0, 6)], [], some (0, 0, 1), [], [])
theorem w490 : vrf GG [] [] 300 2 g490
  (uK (uC kN3 (uE kI0 kI5 (uE kI0 kI5 (uE kI0 kI6 (uE kI0 kI6 uE0)))) (uA kN0 (rA kI4) (uA kN1 (uis kN0) (uA kN2 (uis kN1) (uA kN3 (uis kN2) (uA kN4 (uis kN3) uA0))))) uS0 uO0 (Int.ofNat (nat_lit 524)) (uL (Int.negSucc (nat_lit 75)) kN3 uL0))
  uK0) = true := by decide +kernel
theorem r490 {l : Launch} {D : va_G} {tys : List (ClassId × FieldType)} {A : Nat → Prop} {ad : Nat → Nat} (hAD : ∀ i : Nat, ad (1000 + i) = D.2 1000 i) : CRok l D tys A ad GG 3 g490 := CR_of_vrf (dep := 2) hAD (fun c hc => by cases hc) T2OK_nil w490
noncomputable def g491 : CR := (127, [(2, 4, 4), (0, 0, 5), (0, 1, 6)], [], some (0, 0, 1), [], [])
theorem w491 : vrf GG [(3, g490)] [] 300 3 g491
  (uK (uC kN13 (uE kI0 kI5 (uE kI1 kI6 (uE kI0 kI6 (uE kI0 kI6 uE0)))) (uA kN0 (rA kI4) (uA kN1 (uis kN0) (uA kN2 (uis kN1) (uA kN3 (uis kN2) (uA kN4 (uis kN3) uA0))))) uS0 uO0 (Int.ofNat (nat_lit 1288)) (uL kJ188 kN3 uL0))
  (uK (uC kN52 (uE kI0 kI5 (uE kI1 kI6 (uE kI0 kI6 (uE kI0 kI5 (uE kI0 kI6 (uE kI1 kI6 uE0)))))) (uA kN0 (rA kI4) (uA kN1 (uis kN0) (uA kN2 (uis kN1) (uA kN3 (uis kN2) (uA kN4 (uis kN3) (uA kN5 (uis kN4) uA0)))))) uS0 (uO kN4 kN4 (uis kN5) uO0) (Int.ofNat (nat_lit 1249)) (uL kJ188 kN3 uL0))
  (uK (uC kN56 (uE kI0 kI5 (uE kI1 kI6 (uE kI0 kI6 (uE kI0 kI5 (uE kI0 kI6 (uE kI1 kI6 uE0)))))) (uA kN0 (rA kI4) (uA kN1 (uis kN0) (uA kN2 (uis kN1) (uA kN3 (uis kN2) (uA kN4 (uis kN3) (uA kN5 (uis kN4) uA0)))))) uS0 (uO kN4 kN4 (uis kN5) uO0) (Int.ofNat (nat_lit 1245)) (uL kJ188 kN3 uL0))
  (uK (uC kN57 (uE kI0 kI5 (uE kI1 kI6 (uE kI0 kI6 (uE kI0 kI5 (uE kI0 kI6 (uE kI0 kI1 (uE kI1 kI6 uE0))))))) (uA kN0 (rA kI4) (uA kN1 (uis kN0) (uA kN2 (uis kN1) (uA kN3 (uis kN2) (uA kN4 (uis kN3) (uA kN5 (uis kN4) uA0)))))) (uS (uis kN5) uS0) (uO kN4 kN4 (uis kN6) uO0) (Int.ofNat (nat_lit 1244)) (uL kJ188 kN3 uL0))
  (uK (uC kN84 (uE kI0 kI5 (uE kI1 kI6 (uE kI0 kI6 (uE kI0 kI5 (uE kI0 kI6 (uE kI0 kI1 (uE kI1 kI6 uE0))))))) (uA kN0 (rA kI4) (uA kN1 (uis kN0) (uA kN2 (uis kN1) (uA kN3 (uis kN2) (uA kN4 (uis kN3) (uA kN5 (uis kN4) (uA kN6 (uis kN5) uA0))))))) uS0 (uO kN4 kN4 (uis kN6) uO0) kI1217 (uL kJ188 kN3 uL0))
  uK0))))) = true := by decide +kernel
theorem r491 {l : Launch} {D : va_G} {tys : List (ClassId × FieldType)} {A : Nat → Prop} {ad : Nat → Nat} (hAD : ∀ i : Nat, ad (1000 + i) = D.2 1000 i) : CRok l D tys A ad GG 4 g491 := CR_of_vrf (dep := 3) hAD (List.forall_mem_cons.mpr ⟨r490 hAD, fun c hc => by cases hc⟩) T2OK_nil w491
noncomputable def g492 : CR := (151, [(0, 0, 9), (0, 0, 0)], [], some (1, 1, 1), [], [])
theorem w492 : vrf GG [] [] 300 0 g492
  (uK (uC kN5 (uE kI0 kI9 uE0) (uA kN0 (uis kN0) (uA kN1 (uic kI0) (uA kN2 (ulc kI1) (uA kN4 (uic kI0) uA0)))) uS0 uO0 kI40 uL0)
  uK0) = true := by decide +kernel
theorem r492 {l : Launch} {D : va_G} {tys : List (ClassId × FieldType)} {A : Nat → Prop} {ad : Nat → Nat} (hAD : ∀ i : Nat, ad (1000 + i) = D.2 1000 i) : CRok l D tys A ad GG 1 g492 := CR_of_vrf (dep := 0) hAD (fun c hc => by cases hc) T2OK_nil w492
noncomputable def g493 : CR := (151, [(0, 0, 9), (0, 1, 1)], [], some (1, (-9223372036854775808), 9223372036854775807), [], [])
theorem w493 : vrf GG [] [] 300 0 g493
  (uK (uC kN5 (uE kI0 kI9 (uE kJ9223372036854775808 kI9223372036854775807 (uE kI0 kI1 uE0))) (uA kN0 (uis kN0) (uA kN1 (uic kI1) (uA kN2 (uls kN1) (uA kN4 (uis kN2) uA0)))) uS0 uO0 kI92 (uL kJ52 kN2 uL0))
  uK0) = true := by decide +kernel
theorem r493 {l : Launch} {D : va_G} {tys : List (ClassId × FieldType)} {A : Nat → Prop} {ad : Nat → Nat} (hAD : ∀ i : Nat, ad (1000 + i) = D.2 1000 i) : CRok l D tys A ad GG 1 g493 := CR_of_vrf (dep := 0) hAD (fun c hc => by cases hc) T2OK_nil w493
noncomputable def g494 : CR := (125, [(2, 50, 50), (2, 4, 4), (0, 1, 1), (0, 0, 0)], [], some (0, (-2147483648), 2147483647), [], [])
theorem w494 : vrf GG [(3, g489), (4, g491), (1, g492), (1, g493)] [] 300 4 g494
  (uK (uC kN15 (uE kJ9223372036854775808 kI9223372036854775807 (uE kI0 kI6 (uE kI0 kI9 uE0))) (uA kN0 (rA kI50) (uA kN1 (rA kI4) (uA kN2 (uic kI1) (uA kN3 (uic kI0) (uA kN4 (uls kN0) (uA kN6 (uis kN1) uA0)))))) uS0 (uO kN4 kN1 (uis kN2) uO0) kI1340 (uL kJ196 kN1 uL0))
  (uK (uC kN86 (uE kJ9223372036854775808 kI9223372036854775807 (uE kI0 kI5 (uE kI0 kI1 (uE kI0 kI9 (uE kI1 kI6 uE0))))) (uA kN0 (rA kI50) (uA kN1 (rA kI4) (uA kN2 (uic kI1) (uA kN3 (uic kI0) (uA kN4 (uls kN0) (uA kN6 (uis kN1) (uA kN7 (uis kN2) uA0))))))) uS0 (uO kN4 kN1 (uis kN3) (uO kN4 kN4 (uis kN4) uO0)) kI1269 (uL kJ196 kN1 uL0))
  uK0)) = true := by decide +kernel
theorem r494 {l : Launch} {D : va_G} {tys : List (ClassId × FieldType)} {A : Nat → Prop} {ad : Nat → Nat} (hAD : ∀ i : Nat, ad (1000 + i) = D.2 1000 i) : CRok l D tys A ad GG 5 g494 := CR_of_vrf (dep := 4) hAD (List.forall_mem_cons.mpr ⟨r489 hAD, List.forall_mem_cons.mpr ⟨r491 hAD, List.forall_mem_cons.mpr ⟨r492 hAD, List.forall_mem_cons.mpr ⟨r493 hAD, fun c hc => by cases hc⟩⟩⟩⟩) T2OK_nil w494
noncomputable def g495 : CR := (60, [(2, 0, 0), (0, 1, 1)], [], some (0, (-2147483648), 2147483647), [], [])
theorem w495 : vrf GG [(5, g494)] [] 300 5 g495
  [] = true := by decide +kernel
theorem r495 {l : Launch} {D : va_G} {tys : List (ClassId × FieldType)} {A : Nat → Prop} {ad : Nat → Nat} (hAD : ∀ i : Nat, ad (1000 + i) = D.2 1000 i) : CRok l D tys A ad GG 6 g495 := CR_of_vrf (dep := 5) hAD (List.forall_mem_cons.mpr ⟨r494 hAD, fun c hc => by cases hc⟩) T2OK_nil w495
noncomputable def g496 : CR := (151, [(0, 0, 9), (0, 2, 2)], [], some (1, (-9223372036854775808), 9223372036854775807), [], [])
theorem w496 : vrf GG [] [] 300 0 g496
  (uK (uC kN5 (uE kI0 kI9 (uE kJ9223372036854775808 kI9223372036854775807 (uE kI0 kI2 uE0))) (uA kN0 (uis kN0) (uA kN1 (uic kI2) (uA kN2 (uls kN1) (uA kN4 (uis kN2) uA0)))) uS0 uO0 kI144 (uL kJ52 kN2 uL0))
  uK0) = true := by decide +kernel
theorem r496 {l : Launch} {D : va_G} {tys : List (ClassId × FieldType)} {A : Nat → Prop} {ad : Nat → Nat} (hAD : ∀ i : Nat, ad (1000 + i) = D.2 1000 i) : CRok l D tys A ad GG 1 g496 := CR_of_vrf (dep := 0) hAD (fun c hc => by cases hc) T2OK_nil w496
noncomputable def g497 : CR := (125, [(2, 50, 50), (2, 4, 4), (0, 2, 2), (0, 0, 0)], [], some (0, (-2147483648), 2147483647), [], [])
theorem w497 : vrf GG [(3, g489), (4, g491), (1, g492), (1, g493), (1, g496)] [] 300 4 g497
  (uK (uC kN15 (uE kJ9223372036854775808 kI9223372036854775807 (uE kI0 kI6 (uE kI0 kI9 uE0))) (uA kN0 (rA kI50) (uA kN1 (rA kI4) (uA kN2 (uic kI2) (uA kN3 (uic kI0) (uA kN4 (uls kN0) (uA kN6 (uis kN1) uA0)))))) uS0 (uO kN4 kN1 (uis kN2) uO0) kI1340 (uL kJ196 kN1 uL0))
  (uK (uC kN86 (uE kJ9223372036854775808 kI9223372036854775807 (uE kI0 kI5 (uE kI0 kI2 (uE kI0 kI9 (uE kI1 kI6 uE0))))) (uA kN0 (rA kI50) (uA kN1 (rA kI4) (uA kN2 (uic kI2) (uA kN3 (uic kI0) (uA kN4 (uls kN0) (uA kN6 (uis kN1) (uA kN7 (uis kN2) uA0))))))) uS0 (uO kN4 kN1 (uis kN3) (uO kN4 kN4 (uis kN4) uO0)) kI1269 (uL kJ196 kN1 uL0))
  uK0)) = true := by decide +kernel
theorem r497 {l : Launch} {D : va_G} {tys : List (ClassId × FieldType)} {A : Nat → Prop} {ad : Nat → Nat} (hAD : ∀ i : Nat, ad (1000 + i) = D.2 1000 i) : CRok l D tys A ad GG 5 g497 := CR_of_vrf (dep := 4) hAD (List.forall_mem_cons.mpr ⟨r489 hAD, List.forall_mem_cons.mpr ⟨r491 hAD, List.forall_mem_cons.mpr ⟨r492 hAD, List.forall_mem_cons.mpr ⟨r493 hAD, List.forall_mem_cons.mpr ⟨r496 hAD, fun c hc => by cases hc⟩⟩⟩⟩⟩) T2OK_nil w497
noncomputable def g498 : CR := (60, [(2, 0, 0), (0, 2, 2)], [], some (0, (-2147483648), 2147483647), [], [])
theorem w498 : vrf GG [(5, g497)] [] 300 5 g498
  [] = true := by decide +kernel
theorem r498 {l : Launch} {D : va_G} {tys : List (ClassId × FieldType)} {A : Nat → Prop} {ad : Nat → Nat} (hAD : ∀ i : Nat, ad (1000 + i) = D.2 1000 i) : CRok l D tys A ad GG 6 g498 := CR_of_vrf (dep := 5) hAD (List.forall_mem_cons.mpr ⟨r497 hAD, fun c hc => by cases hc⟩) T2OK_nil w498
noncomputable def g499 : CR := (151, [(0, 0, 9), (0, 1, 2)], [], some (1, (-9223372036854775808), 9223372036854775807), [], [])
theorem w499 : vrf GG [] [] 300 0 g499
  (uK (uC kN5 (uE kI0 kI9 (uE kI1 kI2 (uE kJ9223372036854775808 kI9223372036854775807 (uE kI0 kI2 uE0)))) (uA kN0 (uis kN0) (uA kN1 (uis kN1) (uA kN2 (uls kN2) (uA kN4 (uis kN3) uA0)))) uS0 uO0 kI144 (uL kJ52 kN3 uL0))
  uK0) = true := by decide +kernel
theorem r499 {l : Launch} {D : va_G} {tys : List (ClassId × FieldType)} {A : Nat → Prop} {ad : Nat → Nat} (hAD : ∀ i : Nat, ad (1000 + i) = D.2 1000 i) : CRok l D tys A ad GG 1 g499 := CR_of_vrf (dep := 0) hAD (fun c hc => by cases hc) T2OK_nil w499
noncomputable def g500 : CR := (151, [(0, 0, 9), (0, 3, 3)], [], some (1, (-9223372036854775808), 9223372036854775807), [], [])
theorem w500 : vrf GG [] [] 300 0 g500
  (uK (uC kN5 (uE kI0 kI9 (uE kJ9223372036854775808 kI9223372036854775807 (uE kI0 kI3 uE0))) (uA kN0 (uis kN0) (uA kN1 (uic kI3) (uA kN2 (uls kN1) (uA kN4 (uis kN2) uA0)))) uS0 uO0 (Int.ofNat (nat_lit 196)) (uL kJ52 kN2 uL0))
  uK0) = true := by decide +kernel
theorem r500 {l : Launch} {D : va_G} {tys : List (ClassId × FieldType)} {A : Nat → Prop} {ad : Nat → Nat} (hAD : ∀ i : Nat, ad (1000 + i) = D.2 1000 i) : CRok l D tys A ad GG 1 g500 := CR_of_vrf (dep := 0) hAD (fun c hc => by cases hc) T2OK_nil w500
noncomputable def g501 : CR := (125, [(2, 50, 50), (2, 4, 4), (0, 3, 3), (0, 0, 0)], [], some (0, (-2147483648), 2147483647), [], [])
theorem w501 : vrf GG [(3, g489), (4, g491), (1, g492), (1, g500), (1, g499)] [] 300 4 g501
  (uK (uC kN15 (uE kJ9223372036854775808 kI9223372036854775807 (uE kI0 kI6 (uE kI0 kI9 uE0))) (uA kN0 (rA kI50) (uA kN1 (rA kI4) (uA kN2 (uic kI3) (uA kN3 (uic kI0) (uA kN4 (uls kN0) (uA kN6 (uis kN1) uA0)))))) uS0 (uO kN4 kN1 (uis kN2) uO0) kI1340 (uL kJ196 kN1 uL0))
  (uK (uC kN86 (uE kJ9223372036854775808 kI9223372036854775807 (uE kI0 kI5 (uE kI0 kI3 (uE kI0 kI9 (uE kI1 kI6 uE0))))) (uA kN0 (rA kI50) (uA kN1 (rA kI4) (uA kN2 (uic kI3) (uA kN3 (uic kI0) (uA kN4 (uls kN0) (uA kN6 (uis kN1) (uA kN7 (uis kN2) uA0))))))) uS0 (uO kN4 kN1 (uis kN3) (uO kN4 kN4 (uis kN4) uO0)) kI1269 (uL kJ196 kN1 uL0))
  uK0)) = true := by decide +kernel
theorem r501 {l : Launch} {D : va_G} {tys : List (ClassId × FieldType)} {A : Nat → Prop} {ad : Nat → Nat} (hAD : ∀ i : Nat, ad (1000 + i) = D.2 1000 i) : CRok l D tys A ad GG 5 g501 := CR_of_vrf (dep := 4) hAD (List.forall_mem_cons.mpr ⟨r489 hAD, List.forall_mem_cons.mpr ⟨r491 hAD, List.forall_mem_cons.mpr ⟨r492 hAD, List.forall_mem_cons.mpr ⟨r500 hAD, List.forall_mem_cons.mpr ⟨r499 hAD, fun c hc => by cases hc⟩⟩⟩⟩⟩) T2OK_nil w501
noncomputable def g502 : CR := (60, [(2, 0, 0), (0, 3, 3)], [], some (0, (-2147483648), 2147483647), [], [])
theorem w502 : vrf GG [(5, g501)] [] 300 5 g502
  [] = true := by decide +kernel
theorem r502 {l : Launch} {D : va_G} {tys : List (ClassId × FieldType)} {A : Nat → Prop} {ad : Nat → Nat} (hAD : ∀ i : Nat, ad (1000 + i) = D.2 1000 i) : CRok l D tys A ad GG 6 g502 := CR_of_vrf (dep := 5) hAD (List.forall_mem_cons.mpr ⟨r501 hAD, fun c hc => by cases hc⟩) T2OK_nil w502
noncomputable def g503 : CR := (151, [(0, 0, 9), (0, 1, 3)], [], some (1, (-9223372036854775808), 9223372036854775807), [], [])
theorem w503 : vrf GG [] [] 300 0 g503
  (uK (uC kN5 (uE kI0 kI9 (uE kI1 kI3 (uE kJ9223372036854775808 kI9223372036854775807 (uE kI0 kI3 uE0)))) (uA kN0 (uis kN0) (uA kN1 (uis kN1) (uA kN2 (uls kN2) (uA kN4 (uis kN3) uA0)))) uS0 uO0 (Int.ofNat (nat_lit 196)) (uL kJ52 kN3 uL0))
  uK0) = true := by decide +kernel
theorem r503 {l : Launch} {D : va_G} {tys : List (ClassId × FieldType)} {A : Nat → Prop} {ad : Nat → Nat} (hAD : ∀ i : Nat, ad (1000 + i) = D.2 1000 i) : CRok l D tys A ad GG 1 g503 := CR_of_vrf (dep := 0) hAD (fun c hc => by cases hc) T2OK_nil w503
noncomputable def g504 : CR := (151, [(0, 0, 9), (0, 4, 4)], [], some (1, (-9223372036854775808), 9223372036854775807), [], [])
theorem w504 : vrf GG [] [] 300 0 g504
  (uK (uC kN5 (uE kI0 kI9 (uE kJ9223372036854775808 kI9223372036854775807 (uE kI0 kI4 uE0))) (uA kN0 (uis kN0) (uA kN1 (uic kI4) (uA kN2 (uls kN1) (uA kN4 (uis kN2) uA0)))) uS0 uO0 kI248 (uL kJ52 kN2 uL0))
  uK0) = true := by decide +kernel
theorem r504 {l : Launch} {D : va_G} {tys : List (ClassId × FieldType)} {A : Nat → Prop} {ad : Nat → Nat} (hAD : ∀ i : Nat, ad (1000 + i) = D.2 1000 i) : CRok l D tys A ad GG 1 g504 := CR_of_vrf (dep := 0) hAD (fun c hc => by cases hc) T2OK_nil w504
noncomputable def g505 : CR := (125, [(2, 50, 50), (2, 4, 4), (0, 4, 4), (0, 0, 0)], [], some (0, (-2147483648), 2147483647), [], [])
theorem w505 : vrf GG [(3, g489), (4, g491), (1, g492), (1, g504), (1, g503)] [] 300 4 g505
  (uK (uC kN15 (uE kJ9223372036854775808 kI9223372036854775807 (uE kI0 kI6 (uE kI0 kI9 uE0))) (uA kN0 (rA kI50) (uA kN1 (rA kI4) (uA kN2 (uic kI4) (uA kN3 (uic kI0) (uA kN4 (uls kN0) (uA kN6 (uis kN1) uA0)))))) uS0 (uO kN4 kN1 (uis kN2) uO0) kI1340 (uL kJ196 kN1 uL0))
  (uK (uC kN86 (uE kJ9223372036854775808 kI9223372036854775807 (uE kI0 kI5 (uE kI0 kI4 (uE kI0 kI9 (uE kI1 kI6 uE0))))) (uA kN0 (rA kI50) (uA kN1 (rA kI4) (uA kN2 (uic kI4) (uA kN3 (uic kI0) (uA kN4 (uls kN0) (uA kN6 (uis kN1) (uA kN7 (uis kN2) uA0))))))) uS0 (uO kN4 kN1 (uis kN3) (uO kN4 kN4 (uis kN4) uO0)) kI1269 (uL kJ196 kN1 uL0))
  uK0)) = true := by decide +kernel
theorem r505 {l : Launch} {D : va_G} {tys : List (ClassId × FieldType)} {A : Nat → Prop} {ad : Nat → Nat} (hAD : ∀ i : Nat, ad (1000 + i) = D.2 1000 i) : CRok l D tys A ad GG 5 g505 := CR_of_vrf (dep := 4) hAD (List.forall_mem_cons.mpr ⟨r489 hAD, List.forall_mem_cons.mpr ⟨r491 hAD, List.forall_mem_cons.mpr ⟨r492 hAD, List.forall_mem_cons.mpr ⟨r504 hAD, List.forall_mem_cons.mpr ⟨r503 hAD, fun c hc => by cases hc⟩⟩⟩⟩⟩) T2OK_nil w505
noncomputable def g506 : CR := (60, [(2, 0, 0), (0, 4, 4)], [], some (0, (-2147483648), 2147483647), [], [])
theorem w506 : vrf GG [(5, g505)] [] 300 5 g506
  [] = true := by decide +kernel
theorem r506 {l : Launch} {D : va_G} {tys : List (ClassId × FieldType)} {A : Nat → Prop} {ad : Nat → Nat} (hAD : ∀ i : Nat, ad (1000 + i) = D.2 1000 i) : CRok l D tys A ad GG 6 g506 := CR_of_vrf (dep := 5) hAD (List.forall_mem_cons.mpr ⟨r505 hAD, fun c hc => by cases hc⟩) T2OK_nil w506
noncomputable def g507 : CR := (151, [(0, 0, 9), (0, 1, 4)], [], some (1, (-9223372036854775808), 9223372036854775807), [], [])
theorem w507 : vrf GG [] [] 300 0 g507
  (uK (uC kN5 (uE kI0 kI9 (uE kI1 kI4 (uE kJ9223372036854775808 kI9223372036854775807 (uE kI0 kI4 uE0)))) (uA kN0 (uis kN0) (uA kN1 (uis kN1) (uA kN2 (uls kN2) (uA kN4 (uis kN3) uA0)))) uS0 uO0 kI248 (uL kJ52 kN3 uL0))
  uK0) = true := by decide +kernel
theorem r507 {l : Launch} {D : va_G} {tys : List (ClassId × FieldType)} {A : Nat → Prop} {ad : Nat → Nat} (hAD : ∀ i : Nat, ad (1000 + i) = D.2 1000 i) : CRok l D tys A ad GG 1 g507 := CR_of_vrf (dep := 0) hAD (fun c hc => by cases hc) T2OK_nil w507
noncomputable def g508 : CR := (151, [(0, 0, 9), (0, 5, 5)], [], some (1, (-9223372036854775808), 9223372036854775807), [], [])
theorem w508 : vrf GG [] [] 300 0 g508
  (uK (uC kN5 (uE kI0 kI9 (uE kJ9223372036854775808 kI9223372036854775807 (uE kI0 kI5 uE0))) (uA kN0 (uis kN0) (uA kN1 (uic kI5) (uA kN2 (uls kN1) (uA kN4 (uis kN2) uA0)))) uS0 uO0 kI300 (uL kJ52 kN2 uL0))
  uK0) = true := by decide +kernel
theorem r508 {l : Launch} {D : va_G} {tys : List (ClassId × FieldType)} {A : Nat → Prop} {ad : Nat → Nat} (hAD : ∀ i : Nat, ad (1000 + i) = D.2 1000 i) : CRok l D tys A ad GG 1 g508 := CR_of_vrf (dep := 0) hAD (fun c hc => by cases hc) T2OK_nil w508
noncomputable def g509 : CR := (125, [(2, 50, 50), (2, 4, 4), (0, 5, 5), (0, 0, 0)], [], some (0, (-2147483648), 2147483647), [], [])
theorem w509 : vrf GG [(3, g489), (4, g491), (1, g492), (1, g508), (1, g507)] [] 300 4 g509
  (uK (uC kN15 (uE kJ9223372036854775808 kI9223372036854775807 (uE kI0 kI6 (uE kI0 kI9 uE0))) (uA kN0 (rA kI50) (uA kN1 (rA kI4) (uA kN2 (uic kI5) (uA kN3 (uic kI0) (uA kN4 (uls kN0) (uA kN6 (uis kN1) uA0)))))) uS0 (uO kN4 kN1 (uis kN2) uO0) kI1340 (uL kJ196 kN1 uL0))
  (uK (uC kN86 (uE kJ9223372036854775808 kI9223372036854775807 (uE kI0 kI5 (uE kI0 kI5 (uE kI0 kI9 (uE kI1 kI6 uE0))))) (uA kN0 (rA kI50) (uA kN1 (rA kI4) (uA kN2 (uic kI5) (uA kN3 (uic kI0) (uA kN4 (uls kN0) (uA kN6 (uis kN1) (uA kN7 (uis kN2) uA0))))))) uS0 (uO kN4 kN1 (uis kN3) (uO kN4 kN4 (uis kN4) uO0)) kI1269 (uL kJ196 kN1 uL0))
  uK0)) = true := by decide +kernel
theorem r509 {l : Launch} {D : va_G} {tys : List (ClassId × FieldType)} {A : Nat → Prop} {ad : Nat → Nat} (hAD : ∀ i : Nat, ad (1000 + i) = D.2 1000 i) : CRok l D tys A ad GG 5 g509 := CR_of_vrf (dep := 4) hAD (List.forall_mem_cons.mpr ⟨r489 hAD, List.forall_mem_cons.mpr ⟨r491 hAD, List.forall_mem_cons.mpr ⟨r492 hAD, List.forall_mem_cons.mpr ⟨r508 hAD, List.forall_mem_cons.mpr ⟨r507 hAD, fun c hc => by cases hc⟩⟩⟩⟩⟩) T2OK_nil w509
noncomputable def g510 : CR := (60, [(2, 0, 0), (0, 5, 5)], [], some (0, (-2147483648), 2147483647), [], [])
theorem w510 : vrf GG [(5, g509)] [] 300 5 g510
  [] = true := by decide +kernel
theorem r510 {l : Launch} {D : va_G} {tys : List (ClassId × FieldType)} {A : Nat → Prop} {ad : Nat → Nat} (hAD : ∀ i : Nat, ad (1000 + i) = D.2 1000 i) : CRok l D tys A ad GG 6 g510 := CR_of_vrf (dep := 5) hAD (List.forall_mem_cons.mpr ⟨r509 hAD, fun c hc => by cases hc⟩) T2OK_nil w510
noncomputable def g511 : CR := (151, [(0, 0, 9), (0, 1, 5)], [], some (1, (-9223372036854775808), 9223372036854775807), [], [])
theorem w511 : vrf GG [] [] 300 0 g511
  (uK (uC kN5 (uE kI0 kI9 (uE kI1 kI5 (uE kJ9223372036854775808 kI9223372036854775807 (uE kI0 kI5 uE0)))) (uA kN0 (uis kN0) (uA kN1 (uis kN1) (uA kN2 (uls kN2) (uA kN4 (uis kN3) uA0)))) uS0 uO0 kI300 (uL kJ52 kN3 uL0))
  uK0) = true := by decide +kernel
theorem r511 {l : Launch} {D : va_G} {tys : List (ClassId × FieldType)} {A : Nat → Prop} {ad : Nat → Nat} (hAD : ∀ i : Nat, ad (1000 + i) = D.2 1000 i) : CRok l D tys A ad GG 1 g511 := CR_of_vrf (dep := 0) hAD (fun c hc => by cases hc) T2OK_nil w511
noncomputable def g512 : CR := (151, [(0, 0, 9), (0, 6, 6)], [], some (1, (-9223372036854775808), 9223372036854775807), [], [])
theorem w512 : vrf GG [] [] 300 0 g512
  (uK (uC kN5 (uE kI0 kI9 (uE kJ9223372036854775808 kI9223372036854775807 (uE kI0 kI6 uE0))) (uA kN0 (uis kN0) (uA kN1 (uic kI6) (uA kN2 (uls kN1) (uA kN4 (uis kN2) uA0)))) uS0 uO0 (Int.ofNat (nat_lit 352)) (uL kJ52 kN2 uL0))
  uK0) = true := by decide +kernel
theorem r512 {l : Launch} {D : va_G} {tys : List (ClassId × FieldType)} {A : Nat → Prop} {ad : Nat → Nat} (hAD : ∀ i : Nat, ad (1000 + i) = D.2 1000 i) : CRok l D tys A ad GG 1 g512 := CR_of_vrf (dep := 0) hAD (fun c hc => by cases hc) T2OK_nil w512
noncomputable def g513 : CR := (125, [(2, 50, 50), (2, 4, 4), (0, 6, 6), (0, 0, 0)], [], some (0, (-2147483648), 2147483647), [], [])
theorem w513 : vrf GG [(3, g489), (4, g491), (1, g492), (1, g512), (1, g511)] [] 300 4 g513
  (uK (uC kN15 (uE kJ9223372036854775808 kI9223372036854775807 (uE kI0 kI6 (uE kI0 kI9 uE0))) (uA kN0 (rA kI50) (uA kN1 (rA kI4) (uA kN2 (uic kI6) (uA kN3 (uic kI0) (uA kN4 (uls kN0) (uA kN6 (uis kN1) uA0)))))) uS0 (uO kN4 kN1 (uis kN2) uO0) kI1340 (uL kJ196 kN1 uL0))
  (uK (uC kN86 (uE kJ9223372036854775808 kI9223372036854775807 (uE kI0 kI5 (uE kI0 kI6 (uE kI0 kI9 (uE kI1 kI6 uE0))))) (uA kN0 (rA kI50) (uA kN1 (rA kI4) (uA kN2 (uic kI6) (uA kN3 (uic kI0) (uA kN4 (uls kN0) (uA kN6 (uis kN1) (uA kN7 (uis kN2) uA0))))))) uS0 (uO kN4 kN1 (uis kN3) (uO kN4 kN4 (uis kN4) uO0)) kI1269 (uL kJ196 kN1 uL0))
  uK0)) = true := by decide +kernel
theorem r513 {l : Launch} {D : va_G} {tys : List (ClassId × FieldType)} {A : Nat → Prop} {ad : Nat → Nat} (hAD : ∀ i : Nat, ad (1000 + i) = D.2 1000 i) : CRok l D tys A ad GG 5 g513 := CR_of_vrf (dep := 4) hAD (List.forall_mem_cons.mpr ⟨r489 hAD, List.forall_mem_cons.mpr ⟨r491 hAD, List.forall_mem_cons.mpr ⟨r492 hAD, List.forall_mem_cons.mpr ⟨r512 hAD, List.forall_mem_cons.mpr ⟨r511 hAD, fun c hc => by cases hc⟩⟩⟩⟩⟩) T2OK_nil w513
noncomputable def g514 : CR := (60, [(2, 0, 0), (0, 6, 6)], [], some (0, (-2147483648), 2147483647), [], [])
theorem w514 : vrf GG [(5, g513)] [] 300 5 g514
  [] = true := by decide +kernel
theorem r514 {l : Launch} {D : va_G} {tys : List (ClassId × FieldType)} {A : Nat → Prop} {ad : Nat → Nat} (hAD : ∀ i : Nat, ad (1000 + i) = D.2 1000 i) : CRok l D tys A ad GG 6 g514 := CR_of_vrf (dep := 5) hAD (List.forall_mem_cons.mpr ⟨r513 hAD, fun c hc => by cases hc⟩) T2OK_nil w514
noncomputable def g515 : CR := (325, [(2, 90, 90), (0, (-2147483648), 0)], [((91, 0), (0, 0, 0))], some (0, (-2), (-2)), [], [])
theorem w515 : vrf GG [] [] 300 1 g515
  [] = true := by decide +kernel
theorem r515 {l : Launch} {D : va_G} {tys : List (ClassId × FieldType)} {A : Nat → Prop} {ad : Nat → Nat} (hAD : ∀ i : Nat, ad (1000 + i) = D.2 1000 i) : CRok l D tys A ad GG 2 g515 := CR_of_vrf (dep := 1) hAD (fun c hc => by cases hc) T2OK_nil w515
noncomputable def g516 : CR := (325, [(2, 90, 90), (0, (-2147483648), 0)], [((91, 0), (0, 1, 9))], some (0, (-2), (-2)), [], [])
theorem w516 : vrf GG [] [] 300 1 g516
  [] = true := by decide +kernel
theorem r516 {l : Launch} {D : va_G} {tys : List (ClassId × FieldType)} {A : Nat → Prop} {ad : Nat → Nat} (hAD : ∀ i : Nat, ad (1000 + i) = D.2 1000 i) : CRok l D tys A ad GG 2 g516 := CR_of_vrf (dep := 1) hAD (fun c hc => by cases hc) T2OK_nil w516
noncomputable def g517 : CR := (325, [(2, 90, 90), (0, 7, 2147483647)], [((91, 0), (0, 0, 0))], some (0, (-2), (-2)), [], [])
theorem w517 : vrf GG [] [] 300 1 g517
  [] = true := by decide +kernel
theorem r517 {l : Launch} {D : va_G} {tys : List (ClassId × FieldType)} {A : Nat → Prop} {ad : Nat → Nat} (hAD : ∀ i : Nat, ad (1000 + i) = D.2 1000 i) : CRok l D tys A ad GG 2 g517 := CR_of_vrf (dep := 1) hAD (fun c hc => by cases hc) T2OK_nil w517
noncomputable def g518 : CR := (325, [(2, 90, 90), (0, 7, 2147483647)], [((91, 0), (0, 1, 9))], some (0, (-2), (-2)), [], [])
theorem w518 : vrf GG [] [] 300 1 g518
  [] = true := by decide +kernel
theorem r518 {l : Launch} {D : va_G} {tys : List (ClassId × FieldType)} {A : Nat → Prop} {ad : Nat → Nat} (hAD : ∀ i : Nat, ad (1000 + i) = D.2 1000 i) : CRok l D tys A ad GG 2 g518 := CR_of_vrf (dep := 1) hAD (fun c hc => by cases hc) T2OK_nil w518
noncomputable def g519 : CR := (325, [(2, 90, 90), (0, 1, 1)], [((91, 0), (0, 0, 0))], some (0, (-2), 0), [], [])
theorem w519 : vrf GG [(1, g352)] [] 300 1 g519
  (uK (uC kN26 (uE kI1 kI2147483647 uE0) (uA kN0 (rA kI90) (uA kN1 (uic kI1) (uA kN2 (uic kI0) (uA kN3 (uic kI0) uA0)))) uS0 (uO kN91 kN0 (uic kI0) (uO kN91 kN5 (uis kN0) uO0)) kI78 uL0)
  uK0) = true := by decide +kernel
theorem r519 {l : Launch} {D : va_G} {tys : List (ClassId × FieldType)} {A : Nat → Prop} {ad : Nat → Nat} (hAD : ∀ i : Nat, ad (1000 + i) = D.2 1000 i) : CRok l D tys A ad GG 2 g519 := CR_of_vrf (dep := 1) hAD (List.forall_mem_cons.mpr ⟨r352 hAD, fun c hc => by cases hc⟩) T2OK_nil w519
noncomputable def g520 : CR := (323, [(2, 90, 90), (0, 0, 5)], [((91, 0), (0, 1, 9))], some (0, 0, 1), [], [])
theorem w520 : vrf GG [] [] 300 1 g520
  (uK (uC kN2 (uE kI0 kI5 (uE kI0 kI6 (uE kI1 kI9 uE0))) (uA kN0 (rA kI90) (uA kN1 (uis kN0) (uA kN2 (uis kN1) uA0))) uS0 (uO kN91 kN0 (uis kN2) uO0) (Int.ofNat (nat_lit 638)) (uL kJ92 kN1 uL0))
  uK0) = true := by decide +kernel
theorem r520 {l : Launch} {D : va_G} {tys : List (ClassId × FieldType)} {A : Nat → Prop} {ad : Nat → Nat} (hAD : ∀ i : Nat, ad (1000 + i) = D.2 1000 i) : CRok l D tys A ad GG 2 g520 := CR_of_vrf (dep := 1) hAD (fun c hc => by cases hc) T2OK_nil w520
noncomputable def g521 : CR := (324, [(2, 90, 90)], [((91, 0), (0, 1, 9))], some (0, 0, 1), [], [])
theorem w521 : vrf GG [(2, g520)] [] 300 2 g521
  (uK (uC kN2 (uE kI0 kI6 (uE kI1 kI9 uE0)) (uA kN0 (rA kI90) (uA kN1 (uis kN0) uA0)) uS0 (uO kN91 kN0 (uis kN1) uO0) (Int.ofNat (nat_lit 442)) (uL (Int.negSucc (nat_lit 63)) kN0 uL0))
  uK0) = true := by decide +kernel
theorem r521 {l : Launch} {D : va_G} {tys : List (ClassId × FieldType)} {A : Nat → Prop} {ad : Nat → Nat} (hAD : ∀ i : Nat, ad (1000 + i) = D.2 1000 i) : CRok l D tys A ad GG 3 g521 := CR_of_vrf (dep := 2) hAD (List.forall_mem_cons.mpr ⟨r520 hAD, fun c hc => by cases hc⟩) T2OK_nil w521
noncomputable def g522 : CR := (325, [(2, 90, 90), (0, 1, 1)], [((91, 0), (0, 1, 9))], some (0, (-2147483648), 2147483647), [], [90, 105])
theorem w522 : vrf GG [(1, g391), (1, g392), (3, g521)] [] 300 3 g522
  (uK (uC kN26 (uE kJ2147483648 kI2147483647 (uE kI0 kI9 (uE kI1 kI9 (uE kI1 kI2147483647 uE0)))) (uA kN0 (rA kI90) (uA kN1 (uic kI1) (uA kN2 (uis kN0) (uA kN3 (uis kN1) uA0)))) uS0 (uO kN91 kN0 (uis kN2) (uO kN91 kN5 (uis kN3) uO0)) (Int.ofNat (nat_lit 1266)) (uL kJ132 kN1 uL0))
  (uK (uC kN54 (uE kJ2147483648 kI2147483647 (uE kI0 kI8 (uE kI0 kI1 (uE kJ2147483648 kI2147483647 (uE kI1 kI9 (uE kI1 kI2147483647 uE0)))))) (uA kN0 (rA kI90) (uA kN1 (uic kI1) (uA kN2 (uis kN0) (uA kN3 (uis kN1) uA0)))) (uS (uis kN2) (uS (uis kN3) uS0)) (uO kN91 kN0 (uis kN4) (uO kN91 kN5 (uis kN5) uO0)) kI1238 (uL kJ132 kN1 uL0))
  uK0)) = true := by decide +kernel
theorem r522 {l : Launch} {D : va_G} {tys : List (ClassId × FieldType)} {A : Nat → Prop} {ad : Nat → Nat} (hAD : ∀ i : Nat, ad (1000 + i) = D.2 1000 i) : CRok l D tys A ad GG 4 g522 := CR_of_vrf (dep := 3) hAD (List.forall_mem_cons.mpr ⟨r391 hAD, List.forall_mem_cons.mpr ⟨r392 hAD, List.forall_mem_cons.mpr ⟨r521 hAD, fun c hc => by cases hc⟩⟩⟩) T2OK_nil w522
noncomputable def g523 : CR := (325, [(2, 90, 90), (0, 2, 2)], [((91, 0), (0, 0, 0))], some (0, (-2), 0), [], [])
theorem w523 : vrf GG [(1, g394)] [] 300 1 g523
  (uK (uC kN26 (uE kI1 kI2147483647 uE0) (uA kN0 (rA kI90) (uA kN1 (uic kI2) (uA kN2 (uic kI0) (uA kN3 (uic kI0) uA0)))) uS0 (uO kN91 kN0 (uic kI0) (uO kN91 kN5 (uis kN0) uO0)) kI78 uL0)
  uK0) = true := by decide +kernel
theorem r523 {l : Launch} {D : va_G} {tys : List (ClassId × FieldType)} {A : Nat → Prop} {ad : Nat → Nat} (hAD : ∀ i : Nat, ad (1000 + i) = D.2 1000 i) : CRok l D tys A ad GG 2 g523 := CR_of_vrf (dep := 1) hAD (List.forall_mem_cons.mpr ⟨r394 hAD, fun c hc => by cases hc⟩) T2OK_nil w523
noncomputable def g524 : CR := (325, [(2, 90, 90), (0, 2, 2)], [((91, 0), (0, 1, 9))], some (0, (-2147483648), 2147483647), [], [90, 105])
theorem w524 : vrf GG [(1, g396), (1, g397), (3, g521)] [] 300 3 g524
  (uK (uC kN26 (uE kJ2147483648 kI2147483647 (uE kJ2147483647 kI2147483647 (uE kI1 kI9 (uE kI1 kI2147483647 uE0)))) (uA kN0 (rA kI90) (uA kN1 (uic kI2) (uA kN2 (uis kN0) (uA kN3 (uis kN1) uA0)))) uS0 (uO kN91 kN0 (uis kN2) (uO kN91 kN5 (uis kN3) uO0)) kI283467841482 (uL kJ132 kN1 uL0))
  (uK (uC kN54 (uE kJ2147483648 kI2147483647 (uE kJ2147483647 kI2147483646 (uE kI0 kI1 (uE kJ2147483648 kI2147483647 (uE kI1 kI9 (uE kI1 kI2147483647 uE0)))))) (uA kN0 (rA kI90) (uA kN1 (uic kI2) (uA kN2 (uis kN0) (uA kN3 (uis kN1) uA0)))) (uS (uis kN2) (uS (uis kN3) uS0)) (uO kN91 kN0 (uis kN4) (uO kN91 kN5 (uis kN5) uO0)) kI283467841454 (uL kJ132 kN1 uL0))
  uK0)) = true := by decide +kernel
theorem r524 {l : Launch} {D : va_G} {tys : List (ClassId × FieldType)} {A : Nat → Prop} {ad : Nat → Nat} (hAD : ∀ i : Nat, ad (1000 + i) = D.2 1000 i) : CRok l D tys A ad GG 4 g524 := CR_of_vrf (dep := 3) hAD (List.forall_mem_cons.mpr ⟨r396 hAD, List.forall_mem_cons.mpr ⟨r397 hAD, List.forall_mem_cons.mpr ⟨r521 hAD, fun c hc => by cases hc⟩⟩⟩) T2OK_nil w524
noncomputable def g525 : CR := (325, [(2, 90, 90), (0, 3, 3)], [((91, 0), (0, 0, 0))], some (0, (-2), 0), [], [])
theorem w525 : vrf GG [(1, g399)] [] 300 1 g525
  (uK (uC kN26 (uE kI1 kI2147483647 uE0) (uA kN0 (rA kI90) (uA kN1 (uic kI3) (uA kN2 (uic kI0) (uA kN3 (uic kI0) uA0)))) uS0 (uO kN91 kN0 (uic kI0) (uO kN91 kN5 (uis kN0) uO0)) kI78 uL0)
  uK0) = true := by decide +kernel
theorem r525 {l : Launch} {D : va_G} {tys : List (ClassId × FieldType)} {A : Nat → Prop} {ad : Nat → Nat} (hAD : ∀ i : Nat, ad (1000 + i) = D.2 1000 i) : CRok l D tys A ad GG 2 g525 := CR_of_vrf (dep := 1) hAD (List.forall_mem_cons.mpr ⟨r399 hAD, fun c hc => by cases hc⟩) T2OK_nil w525
noncomputable def g526 : CR := (325, [(2, 90, 90), (0, 3, 3)], [((91, 0), (0, 1, 9))], some (0, (-2147483648), 2147483647), [], [90, 105])
theorem w526 : vrf GG [(1, g401), (1, g402), (3, g521)] [] 300 3 g526
  (uK (uC kN26 (uE kJ2147483648 kI2147483647 (uE kJ2147483647 kI2147483647 (uE kI1 kI9 (uE kI1 kI2147483647 uE0)))) (uA kN0 (rA kI90) (uA kN1 (uic kI3) (uA kN2 (uis kN0) (uA kN3 (uis kN1) uA0)))) uS0 (uO kN91 kN0 (uis kN2) (uO kN91 kN5 (uis kN3) uO0)) kI283467841482 (uL kJ132 kN1 uL0))
  (uK (uC kN54 (uE kJ2147483648 kI2147483647 (uE kJ2147483647 kI2147483646 (uE kI0 kI1 (uE kJ2147483648 kI2147483647 (uE kI1 kI9 (uE kI1 kI2147483647 uE0)))))) (uA kN0 (rA kI90) (uA kN1 (uic kI3) (uA kN2 (uis kN0) (uA kN3 (uis kN1) uA0)))) (uS (uis kN2) (uS (uis kN3) uS0)) (uO kN91 kN0 (uis kN4) (uO kN91 kN5 (uis kN5) uO0)) kI283467841454 (uL kJ132 kN1 uL0))
  uK0)) = true := by decide +kernel
theorem r526 {l : Launch} {D : va_G} {tys : List (ClassId × FieldType)} {A : Nat → Prop} {ad : Nat → Nat} (hAD : ∀ i : Nat, ad (1000 + i) = D.2 1000 i) : CRok l D tys A ad GG 4 g526 := CR_of_vrf (dep := 3) hAD (List.forall_mem_cons.mpr ⟨r401 hAD, List.forall_mem_cons.mpr ⟨r402 hAD, List.forall_mem_cons.mpr ⟨r521 hAD, fun c hc => by cases hc⟩⟩⟩) T2OK_nil w526
noncomputable def g527 : CR := (325, [(2, 90, 90), (0, 4, 4)], [((91, 0), (0, 0, 0))], some (0, (-2), 0), [], [])
theorem w527 : vrf GG [(1, g404)] [] 300 1 g527
  (uK (uC kN26 (uE kI1 kI2147483647 uE0) (uA kN0 (rA kI90) (uA kN1 (uic kI4) (uA kN2 (uic kI0) (uA kN3 (uic kI0) uA0)))) uS0 (uO kN91 kN0 (uic kI0) (uO kN91 kN5 (uis kN0) uO0)) kI78 uL0)
  uK0) = true := by decide +kernel
theorem r527 {l : Launch} {D : va_G} {tys : List (ClassId × FieldType)} {A : Nat → Prop} {ad : Nat → Nat} (hAD : ∀ i : Nat, ad (1000 + i) = D.2 1000 i) : CRok l D tys A ad GG 2 g527 := CR_of_vrf (dep := 1) hAD (List.forall_mem_cons.mpr ⟨r404 hAD, fun c hc => by cases hc⟩) T2OK_nil w527
noncomputable def g528 : CR := (325, [(2, 90, 90), (0, 4, 4)], [((91, 0), (0, 1, 9))], some (0, (-2147483648), 2147483647), [], [90, 105])
theorem w528 : vrf GG [(1, g406), (1, g407), (3, g521)] [] 300 3 g528
  (uK (uC kN26 (uE kJ2147483648 kI2147483647 (uE kJ2147483647 kI2147483647 (uE kI1 kI9 (uE kI1 kI2147483647 uE0)))) (uA kN0 (rA kI90) (uA kN1 (uic kI4) (uA kN2 (uis kN0) (uA kN3 (uis kN1) uA0)))) uS0 (uO kN91 kN0 (uis kN2) (uO kN91 kN5 (uis kN3) uO0)) kI283467841482 (uL kJ132 kN1 uL0))
  (uK (uC kN54 (uE kJ2147483648 kI2147483647 (uE kJ2147483647 kI2147483646 (uE kI0 kI1 (uE kJ2147483648 kI2147483647 (uE kI1 kI9 (uE kI1 kI2147483647 uE0)))))) (uA kN0 (rA kI90) (uA kN1 (uic kI4) (uA kN2 (uis kN0) (uA kN3 (uis kN1) uA0)))) (uS (uis kN2) (uS (uis kN3) uS0)) (uO kN91 kN0 (uis kN4) (uO kN91 kN5 (uis kN5) uO0)) kI283467841454 (uL kJ132 kN1 uL0))
  uK0)) = true := by decide +kernel
theorem r528 {l : Launch} {D : va_G} {tys : List (ClassId × FieldType)} {A : Nat → Prop} {ad : Nat → Nat} (hAD : ∀ i : Nat, ad (1000 + i) = D.2 1000 i) : CRok l D tys A ad GG 4 g528 := CR_of_vrf (dep := 3) hAD (List.forall_mem_cons.mpr ⟨r406 hAD, List.forall_mem_cons.mpr ⟨r407 hAD, List.forall_mem_cons.mpr ⟨r521 hAD, fun c hc => by cases hc⟩⟩⟩) T2OK_nil w528
noncomputable def g529 : CR := (325, [(2, 90, 90), (0, 5, 5)], [((91, 0), (0, 0, 0))], some (0, (-2), 0), [], [])
theorem w529 : vrf GG [(1, g409)] [] 300 1 g529
  (uK (uC kN26 (uE kI1 kI2147483647 uE0) (uA kN0 (rA kI90) (uA kN1 (uic kI5) (uA kN2 (uic kI0) (uA kN3 (uic kI0) uA0)))) uS0 (uO kN91 kN0 (uic kI0) (uO kN91 kN5 (uis kN0) uO0)) kI78 uL0)
  uK0) = true := by decide +kernel
theorem r529 {l : Launch} {D : va_G} {tys : List (ClassId × FieldType)} {A : Nat → Prop} {ad : Nat → Nat} (hAD : ∀ i : Nat, ad (1000 + i) = D.2 1000 i) : CRok l D tys A ad GG 2 g529 := CR_of_vrf (dep := 1) hAD (List.forall_mem_cons.mpr ⟨r409 hAD, fun c hc => by cases hc⟩) T2OK_nil w529
noncomputable def g530 : CR := (325, [(2, 90, 90), (0, 5, 5)], [((91, 0), (0, 1, 9))], some (0, (-2147483648), 2147483647), [], [90, 105])
theorem w530 : vrf GG [(1, g411), (1, g412), (3, g521)] [] 300 3 g530
  (uK (uC kN26 (uE kJ2147483648 kI2147483647 (uE kJ2147483647 kI2147483647 (uE kI1 kI9 (uE kI1 kI2147483647 uE0)))) (uA kN0 (rA kI90) (uA kN1 (uic kI5) (uA kN2 (uis kN0) (uA kN3 (uis kN1) uA0)))) uS0 (uO kN91 kN0 (uis kN2) (uO kN91 kN5 (uis kN3) uO0)) kI283467841482 (uL kJ132 kN1 uL0))
  (uK (uC kN54 (uE kJ2147483648 kI2147483647 (uE kJ2147483647 kI2147483646 (uE kI0 kI1 (uE kJ2147483648 kI2147483647 (uE kI1 kI9 (uE kI1 kI2147483647 uE0)))))) (uA kN0 (rA kI90) (uA kN1 (uic kI5) (uA kN2 (uis kN0) (uA kN3 (uis kN1) uA0)))) (uS (uis kN2) (uS (uis kN3) uS0)) (uO kN91 kN0 (uis kN4) (uO kN91 kN5 (uis kN5) uO0)) kI283467841454 (uL kJ132 kN1 uL0))
  uK0)) = true := by decide +kernel
theorem r530 {l : Launch} {D : va_G} {tys : List (ClassId × FieldType)} {A : Nat → Prop} {ad : Nat → Nat} (hAD : ∀ i : Nat, ad (1000 + i) = D.2 1000 i) : CRok l D tys A ad GG 4 g530 := CR_of_vrf (dep := 3) hAD (List.forall_mem_cons.mpr ⟨r411 hAD, List.forall_mem_cons.mpr ⟨r412 hAD, List.forall_mem_cons.mpr ⟨r521 hAD, fun c hc => by cases hc⟩⟩⟩) T2OK_nil w530
noncomputable def g531 : CR := (325, [(2, 90, 90), (0, 6, 6)], [((91, 0), (0, 0, 0))], some (0, (-2), 0), [], [])
theorem w531 : vrf GG [(1, g414)] [] 300 1 g531
  (uK (uC kN26 (uE kI1 kI2147483647 uE0) (uA kN0 (rA kI90) (uA kN1 (uic kI6) (uA kN2 (uic kI0) (uA kN3 (uic kI0) uA0)))) uS0 (uO kN91 kN0 (uic kI0) (uO kN91 kN5 (uis kN0) uO0)) kI78 uL0)
  uK0) = true := by decide +kernel
theorem r531 {l : Launch} {D : va_G} {tys : List (ClassId × FieldType)} {A : Nat → Prop} {ad : Nat → Nat} (hAD : ∀ i : Nat, ad (1000 + i) = D.2 1000 i) : CRok l D tys A ad GG 2 g531 := CR_of_vrf (dep := 1) hAD (List.forall_mem_cons.mpr ⟨r414 hAD, fun c hc => by cases hc⟩) T2OK_nil w531
noncomputable def g532 : CR := (325, [(2, 90, 90), (0, 6, 6)], [((91, 0), (0, 1, 9))], some (0, (-2147483648), 2147483647), [], [90, 105])
theorem w532 : vrf GG [(1, g416), (1, g417), (3, g521)] [] 300 3 g532
  (uK (uC kN26 (uE kJ2147483648 kI2147483647 (uE kJ2147483647 kI2147483647 (uE kI1 kI9 (uE kI1 kI2147483647 uE0)))) (uA kN0 (rA kI90) (uA kN1 (uic kI6) (uA kN2 (uis kN0) (uA kN3 (uis kN1) uA0)))) uS0 (uO kN91 kN0 (uis kN2) (uO kN91 kN5 (uis kN3) uO0)) kI283467841482 (uL kJ132 kN1 uL0))
  (uK (uC kN54 (uE kJ2147483648 kI2147483647 (uE kJ2147483647 kI2147483646 (uE kI0 kI1 (uE kJ2147483648 kI2147483647 (uE kI1 kI9 (uE kI1 kI2147483647 uE0)))))) (uA kN0 (rA kI90) (uA kN1 (uic kI6) (uA kN2 (uis kN0) (uA kN3 (uis kN1) uA0)))) (uS (uis kN2) (uS (uis kN3) uS0)) (uO kN91 kN0 (uis kN4) (uO kN91 kN5 (uis kN5) uO0)) kI283467841454 (uL kJ132 kN1 uL0))
  uK0)) = true := by decide +kernel
theorem r532 {l : Launch} {D : va_G} {tys : List (ClassId × FieldType)} {A : Nat → Prop} {ad : Nat → Nat} (hAD : ∀ i : Nat, ad (1000 + i) = D.2 1000 i) : CRok l D tys A ad GG 4 g532 := CR_of_vrf (dep := 3) hAD (List.forall_mem_cons.mpr ⟨r416 hAD, List.forall_mem_cons.mpr ⟨r417 hAD, List.forall_mem_cons.mpr ⟨r521 hAD, fun c hc => by cases hc⟩⟩⟩) T2OK_nil w532
noncomputable def g533 : CR := (151, [(0, 0, 9), (0, (-2147483648), 6)], [], some (1, (-9223372036854775808), 9223372036854775807), [], [])
theorem w533 : vrf GG [] [] 300 0 g533
  (uK (uC kN5 (uE kI0 kI9 (uE kJ2147483648 kI6 (uE kJ9223372036854775808 kI9223372036854775807 (uE kI0 kI6 uE0)))) (uA kN0 (uis kN0) (uA kN1 (uis kN1) (uA kN2 (uls kN2) (uA kN4 (uis kN3) uA0)))) uS0 uO0 (Int.ofNat (nat_lit 352)) (uL kJ52 kN3 uL0))
  uK0) = true := by decide +kernel
theorem r533 {l : Launch} {D : va_G} {tys : List (ClassId × FieldType)} {A : Nat → Prop} {ad : Nat → Nat} (hAD : ∀ i : Nat, ad (1000 + i) = D.2 1000 i) : CRok l D tys A ad GG 1 g533 := CR_of_vrf (dep := 0) hAD (fun c hc => by cases hc) T2OK_nil w533
noncomputable def g534 : CR := (125, [(2, 50, 50), (2, 4, 4), (0, 1, 6), (0, 0, 0)], [], some (0, (-2147483648), 2147483647), [], [])
theorem w534 : vrf GG [(3, g489), (4, g491), (1, g492), (1, g533)] [] 300 4 g534
  (uK (uC kN15 (uE kI1 kI6 (uE kJ9223372036854775808 kI9223372036854775807 (uE kI0 kI6 (uE kI0 kI9 uE0)))) (uA kN0 (rA kI50) (uA kN1 (rA kI4) (uA kN2 (uis kN0) (uA kN3 (uic kI0) (uA kN4 (uls kN1) (uA kN6 (uis kN2) uA0)))))) uS0 (uO kN4 kN1 (uis kN3) uO0) kI1340 (uL kJ196 kN2 uL0))
  (uK (uC kN86 (uE kI1 kI6 (uE kJ9223372036854775808 kI9223372036854775807 (uE kI0 kI5 (uE kI0 kI6 (uE kI0 kI9 (uE kI1 kI6 uE0)))))) (uA kN0 (rA kI50) (uA kN1 (rA kI4) (uA kN2 (uis kN0) (uA kN3 (uic kI0) (uA kN4 (uls kN1) (uA kN6 (uis kN2) (uA kN7 (uis kN3) uA0))))))) uS0 (uO kN4 kN1 (uis kN4) (uO kN4 kN4 (uis kN5) uO0)) kI1269 (uL kJ196 kN2 uL0))
  uK0)) = true := by decide +kernel
theorem r534 {l : Launch} {D : va_G} {tys : List (ClassId × FieldType)} {A : Nat → Prop} {ad : Nat → Nat} (hAD : ∀ i : Nat, ad (1000 + i) = D.2 1000 i) : CRok l D tys A ad GG 5 g534 := CR_of_vrf (dep := 4) hAD (List.forall_mem_cons.mpr ⟨r489 hAD, List.forall_mem_cons.mpr ⟨r491 hAD, List.forall_mem_cons.mpr ⟨r492 hAD, List.forall_mem_cons.mpr ⟨r533 hAD, fun c hc => by cases hc⟩⟩⟩⟩) T2OK_nil w534
noncomputable def g535 : CR := (129, [(2, 50, 50), (2, 4, 4)], [], some (0, (-1), 6), [], [])
theorem w535 : vrf GG [(5, g534)] [] 300 5 g535
  (uK (uC kN2 (uE kI1 kI7 uE0) (uA kN0 (rA kI50) (uA kN1 (rA kI4) (uA kN2 (uis kN0) uA0))) uS0 uO0 kI474 (uL kJ60 kN0 uL0))
  uK0) = true := by decide +kernel
theorem r535 {l : Launch} {D : va_G} {tys : List (ClassId × FieldType)} {A : Nat → Prop} {ad : Nat → Nat} (hAD : ∀ i : Nat, ad (1000 + i) = D.2 1000 i) : CRok l D tys A ad GG 6 g535 := CR_of_vrf (dep := 5) hAD (List.forall_mem_cons.mpr ⟨r534 hAD, fun c hc => by cases hc⟩) T2OK_nil w535
noncomputable def g536 : CR := (126, [(2, 50, 50), (2, 4, 4), (0, 0, 5), (0, 0, 5)], [], some (0, 0, 1), [], [])
theorem w536 : vrf GG [] [] 300 2 g536
  (uK (uC kN3 (uE kI0 kI5 (uE kI0 kI5 (uE kI0 kI5 uE0))) (uA kN0 (rA kI50) (uA kN1 (rA kI4) (uA kN2 (uis kN0) (uA kN3 (uis kN1) (uA kN4 (uis kN2) uA0))))) uS0 uO0 (Int.ofNat (nat_lit 472)) (uL kJ80 kN2 uL0))
  uK0) = true := by decide +kernel
theorem r536 {l : Launch} {D : va_G} {tys : List (ClassId × FieldType)} {A : Nat → Prop} {ad : Nat → Nat} (hAD : ∀ i : Nat, ad (1000 + i) = D.2 1000 i) : CRok l D tys A ad GG 3 g536 := CR_of_vrf (dep := 2) hAD (fun c hc => by cases hc) T2OK_nil w536
noncomputable def g537 : CR := (125, [(2, 50, 50), (2, 4, 4), (0, 1, 6), (0, 1, 6)], [], some (0, (-2147483648), 2147483647), [], [])
theorem w537 : vrf GG [(3, g536), (3, g489), (4, g491), (1, g492), (1, g533)] [] 300 4 g537
  (uK (uC kN15 (uE kI1 kI6 (uE kI1 kI6 (uE kJ9223372036854775808 kI9223372036854775807 (uE kI0 kI6 (uE kI0 kI9 uE0))))) (uA kN0 (rA kI50) (uA kN1 (rA kI4) (uA kN2 (uis kN0) (uA kN3 (uis kN1) (uA kN4 (uls kN2) (uA kN6 (uis kN3) uA0)))))) uS0 (uO kN4 kN1 (uis kN4) uO0) kI1340 (uL kJ196 kN3 uL0))
  (uK (uC kN86 (uE kI1 kI6 (uE kI1 kI6 (uE kJ9223372036854775808 kI9223372036854775807 (uE kI0 kI5 (uE kI0 kI6 (uE kI0 kI9 (uE kI1 kI6 uE0))))))) (uA kN0 (rA kI50) (uA kN1 (rA kI4) (uA kN2 (uis kN0) (uA kN3 (uis kN1) (uA kN4 (uls kN2) (uA kN6 (uis kN3) (uA kN7 (uis kN4) uA0))))))) uS0 (uO kN4 kN1 (uis kN5) (uO kN4 kN4 (uis kN6) uO0)) kI1269 (uL kJ196 kN3 uL0))
  uK0)) = true := by decide +kernel
theorem r537 {l : Launch} {D : va_G} {tys : List (ClassId × FieldType)} {A : Nat → Prop} {ad : Nat → Nat} (hAD : ∀ i : Nat, ad (1000 + i) = D.2 1000 i) : CRok l D tys A ad GG 5 g537 := CR_of_vrf (dep := 4) hAD (List.forall_mem_cons.mpr ⟨r536 hAD, List.forall_mem_cons.mpr ⟨r489 hAD, List.forall_mem_cons.mpr ⟨r491 hAD, List.forall_mem_cons.mpr ⟨r492 hAD, List.forall_mem_cons.mpr ⟨r533 hAD, fun c hc => by cases hc⟩⟩⟩⟩⟩) T2OK_nil w537
noncomputable def g538 : CR := (130, [(2, 50, 50), (2, 4, 4), (0, 1, 6)], [], none, [], [51])
theorem w538 : vrf GG [(5, g537)] [] 300 5 g538
  (uK (uC kN2 (uE kI1 kI6 (uE kI0 kI6 uE0)) (uA kN0 (rA kI50) (uA kN1 (rA kI4) (uA kN2 (uis kN0) (uA kN3 (uis kN1) uA0)))) uS0 uO0 (Int.ofNat (nat_lit 9906)) (uL kJ1416 kN1 uL0))
  (uK (uC kN10 (uE kI1 kI6 (uE kI0 kI5 (uE kI0 kI9 uE0))) (uA kN0 (rA kI50) (uA kN1 (rA kI4) (uA kN2 (uis kN0) (uA kN3 (uis kN1) (uA kN4 (uis kN2) uA0))))) uS0 uO0 (Int.ofNat (nat_lit 9710)) (uL kJ118 kN2 (uL kJ1416 kN1 uL0)))
  (uK (uC kN50 (uE kI1 kI6 (uE kI0 kI5 (uE kI0 kI9 (uE kI0 kI9 uE0)))) (uA kN0 (rA kI50) (uA kN1 (rA kI4) (uA kN2 (uis kN0) (uA kN3 (uis kN1) (uA kN4 (uis kN2) uA0))))) uS0 (uO kN4 kN1 (uis kN3) uO0) (Int.ofNat (nat_lit 8560)) (uL kJ1416 kN1 uL0))
  uK0))) = true := by decide +kernel
theorem r538 {l : Launch} {D : va_G} {tys : List (ClassId × FieldType)} {A : Nat → Prop} {ad : Nat → Nat} (hAD : ∀ i : Nat, ad (1000 + i) = D.2 1000 i) : CRok l D tys A ad GG 6 g538 := CR_of_vrf (dep := 5) hAD (List.forall_mem_cons.mpr ⟨r537 hAD, fun c hc => by cases hc⟩) T2OK_nil w538
noncomputable def g539 : CR := (61, [(2, 0, 0), (0, (-2147483648), 2147483647)], [], some (0, (-2147483648), 2147483647), [], [51])
theorem w539 : vrf GG [(6, g535), (6, g538)] [] 300 6 g539
  [] = true := by decide +kernel
theorem r539 {l : Launch} {D : va_G} {tys : List (ClassId × FieldType)} {A : Nat → Prop} {ad : Nat → Nat} (hAD : ∀ i : Nat, ad (1000 + i) = D.2 1000 i) : CRok l D tys A ad GG 7 g539 := CR_of_vrf (dep := 6) hAD (List.forall_mem_cons.mpr ⟨r535 hAD, List.forall_mem_cons.mpr ⟨r538 hAD, fun c hc => by cases hc⟩⟩) T2OK_nil w539
noncomputable def g540 : CR := (309, [(2, 90, 90), (0, 1, 6)], [((91, 0), (0, 0, 0))], some (0, 0, 0), [], [])
theorem w540 : vrf GG [] [] 300 0 g540
  [] = true := by decide +kernel
theorem r540 {l : Launch} {D : va_G} {tys : List (ClassId × FieldType)} {A : Nat → Prop} {ad : Nat → Nat} (hAD : ∀ i : Nat, ad (1000 + i) = D.2 1000 i) : CRok l D tys A ad GG 1 g540 := CR_of_vrf (dep := 0) hAD (fun c hc => by cases hc) T2OK_nil w540
noncomputable def g541 : CR := (326, [(2, 90, 90), (0, (-2147483648), 2147483647)], [((91, 0), (0, 0, 0))], some (0, (-2), (-1)), [], [])
theorem w541 : vrf GG [(1, g540)] [] 300 1 g541
  (uK (uC kN17 (uE kJ1 kI2147483647 (uE kI1 kI7 (uE kI1 kI2147483647 uE0))) (uA kN0 (rA kI90) (uA kN1 (uis kN0) (uA kN2 (uis kN1) uA0))) uS0 (uO kN91 kN0 (uic kI0) (uO kN91 kN5 (uis kN2) uO0)) (Int.ofNat (nat_lit 4188)) (uL (Int.negSucc (nat_lit 527)) kN1 uL0))
  (uK (uC kN25 (uE kJ1 kI2147483647 (uE kI1 kI6 (uE kI1 kI2147483647 uE0))) (uA kN0 (rA kI90) (uA kN1 (uis kN0) (uA kN2 (uis kN1) (uA kN3 (uic kI0) uA0)))) uS0 (uO kN91 kN0 (uic kI0) (uO kN91 kN5 (uis kN2) uO0)) (Int.ofNat (nat_lit 3890)) (uL (Int.negSucc (nat_lit 527)) kN1 uL0))
  uK0)) = true := by decide +kernel
theorem r541 {l : Launch} {D : va_G} {tys : List (ClassId × FieldType)} {A : Nat → Prop} {ad : Nat → Nat} (hAD : ∀ i : Nat, ad (1000 + i) = D.2 1000 i) : CRok l D tys A ad GG 2 g541 := CR_of_vrf (dep := 1) hAD (List.forall_mem_cons.mpr ⟨r540 hAD, fun c hc => by cases hc⟩) T2OK_nil w541
noncomputable def g542 : CR := (309, [(2, 90, 90), (0, 1, 6)], [((91, 0), (0, 1, 9))], some (0, (-2147483648), 2147483647), [], [])
theorem w542 : vrf GG [] [] 300 0 g542
  [] = true := by decide +kernel
theorem r542 {l : Launch} {D : va_G} {tys : List (ClassId × FieldType)} {A : Nat → Prop} {ad : Nat → Nat} (hAD : ∀ i : Nat, ad (1000 + i) = D.2 1000 i) : CRok l D tys A ad GG 1 g542 := CR_of_vrf (dep := 0) hAD (fun c hc => by cases hc) T2OK_nil w542
noncomputable def g543 : CR := (310, [(2, 90, 90), (0, 0, 2147483646), (0, 1, 6)], [((91, 0), (0, 1, 9))], none, [], [90, 105])
theorem w543 : vrf GG [] [] 300 0 g543
  (uK (uC kN12 (uE kI0 kI2147483646 (uE kI1 kI6 (uE kI0 kI2147483646 (uE kJ1 kI5 (uE kI1 kI6 (uE kI1 kI9 uE0)))))) (uA kN0 (rA kI90) (uA kN1 (uis kN0) (uA kN2 (uis kN1) (uA kN3 (uis kN2) (uA kN4 (uis kN3) uA0))))) uS0 (uO kN90 kN30 (uis kN4) (uO kN91 kN0 (uis kN5) uO0)) kI174 (uL kI100 kN3 uL0))
  uK0) = true := by decide +kernel
theorem r543 {l : Launch} {D : va_G} {tys : List (ClassId × FieldType)} {A : Nat → Prop} {ad : Nat → Nat} (hAD : ∀ i : Nat, ad (1000 + i) = D.2 1000 i) : CRok l D tys A ad GG 1 g543 := CR_of_vrf (dep := 0) hAD (fun c hc => by cases hc) T2OK_nil w543
noncomputable def g544 : CR := (326, [(2, 90, 90), (0, (-2147483648), 2147483647)], [((91, 0), (0, 1, 9))], some (0, (-2147483648), 2147483647), [], [90, 105])
theorem w544 : vrf GG [(1, g542), (1, g543), (3, g521)] [] 300 3 g544
  (uK (uC kN17 (uE kJ1 kI2147483647 (uE kI1 kI7 (uE kI1 kI9 (uE kI1 kI2147483647 uE0)))) (uA kN0 (rA kI90) (uA kN1 (uis kN0) (uA kN2 (uis kN1) uA0))) uS0 (uO kN91 kN0 (uis kN2) (uO kN91 kN5 (uis kN3) uO0)) (Int.ofNat (nat_lit 3023656979164)) (uL kJ377957122400 kN1 uL0))
  (uK (uC kN25 (uE kJ1 kI2147483647 (uE kI1 kI6 (uE kI0 kI2147483647 (uE kI1 kI9 (uE kI1 kI2147483647 uE0))))) (uA kN0 (rA kI90) (uA kN1 (uis kN0) (uA kN2 (uis kN1) (uA kN3 (uis kN2) uA0)))) uS0 (uO kN91 kN0 (uis kN3) (uO kN91 kN5 (uis kN4) uO0)) (Int.ofNat (nat_lit 3023656978866)) (uL kJ176 kN2 (uL kJ377957122400 kN1 uL0)))
  (uK (uC kN71 (uE kJ1 kI2147483647 (uE kI1 kI6 (uE kI0 kI2147483646 (uE kJ2147483648 kI2147483647 (uE kI1 kI9 (uE kI1 kI2147483647 uE0)))))) (uA kN0 (rA kI90) (uA kN1 (uis kN0) (uA kN2 (uis kN1) (uA kN3 (uis kN2) uA0)))) (uS (uis kN3) uS0) (uO kN91 kN0 (uis kN4) (uO kN91 kN5 (uis kN5) uO0)) (Int.ofNat (nat_lit 3023656978820)) (uL kJ176 kN2 (uL kJ377957122400 kN1 uL0)))
  uK0))) = true := by decide +kernel
theorem r544 {l : Launch} {D : va_G} {tys : List (ClassId × FieldType)} {A : Nat → Prop} {ad : Nat → Nat} (hAD : ∀ i : Nat, ad (1000 + i) = D.2 1000 i) : CRok l D tys A ad GG 4 g544 := CR_of_vrf (dep := 3) hAD (List.forall_mem_cons.mpr ⟨r542 hAD, List.forall_mem_cons.mpr ⟨r543 hAD, List.forall_mem_cons.mpr ⟨r521 hAD, fun c hc => by cases hc⟩⟩⟩) T2OK_nil w544
noncomputable def g547 : CR := (151, [(0, 100, 100), (0, 0, 63)], [], some (1, (-9223372036854775808), 9223372036854775807), [], [])
theorem w547 : vrf GG [] [] 300 0 g547
  (uK (uC kN5 (uE kI0 kI63 (uE kJ9223372036854775808 kI9223372036854775807 (uE kI0 kI63 uE0))) (uA kN0 (uic kI100) (uA kN1 (uis kN0) (uA kN2 (uls kN1) (uA kN4 (uis kN2) uA0)))) uS0 uO0 (Int.ofNat (nat_lit 3316)) (uL kJ52 kN2 uL0))
  uK0) = true := by decide +kernel
theorem r547 {l : Launch} {D : va_G} {tys : List (ClassId × FieldType)} {A : Nat → Prop} {ad : Nat → Nat} (hAD : ∀ i : Nat, ad (1000 + i) = D.2 1000 i) : CRok l D tys A ad GG 1 g547 := CR_of_vrf (dep := 0) hAD (fun c hc => by cases hc) T2OK_nil w547
noncomputable def g548 : CR := (152, [(1, (-9223372036854775808), 9223372036854775807), (1, (-9223372036854775808), 9223372036854775807)], [], some (1, (-9223372036854775808), 9223372036854775807), [], [])
theorem w548 : vrf GG [] [] 300 0 g548
  (uK (uC kN9 (uE kJ9223372036854775808 kI9223372036854775807 (uE kJ9223372036854775808 kI9223372036854775807 (uE kJ9223372036854775808 kI9223372036854775807 (uE kJ9223372036854775808 kI9223372036854775807 (uE kI0 (Int.ofNat (nat_lit 200)) uE0))))) (uA kN0 (uls kN0) (uA kN2 (uls kN1) (uA kN4 (uls kN2) (uA kN6 (uls kN3) (uA kN8 (uis kN4) uA0))))) uS0 uO0 (Int.ofNat (nat_lit 20080)) (uL (Int.negSucc (nat_lit 99)) kN4 uL0))
  uK0) = true := by decide +kernel
theorem r548 {l : Launch} {D : va_G} {tys : List (ClassId × FieldType)} {A : Nat → Prop} {ad : Nat → Nat} (hAD : ∀ i : Nat, ad (1000 + i) = D.2 1000 i) : CRok l D tys A ad GG 1 g548 := CR_of_vrf (dep := 0) hAD (fun c hc => by cases hc) T2OK_nil w548
noncomputable def g549 : CR := (63, [(2, 0, 0), (0, 0, 5)], [], some (0, 0, 4095), [], [])
theorem w549 : vrf GG [] [] 300 2 g549
  (uK (uC kN4 (uE kI0 kI5 (uE kI0 kI4095 (uE kI0 kI12 uE0))) (uA kN0 (rA kI0) (uA kN1 (uis kN0) (uA kN2 (uis kN1) (uA kN3 (uis kN2) uA0)))) uS0 uO0 (Int.ofNat (nat_lit 2642)) (uL kJ204 kN2 uL0))
  (uK (uC kN38 (uE kI0 kI5 (uE kI0 kI4095 (uE kI0 kI11 (uE kI0 kI1 (uE kI1 kI12 uE0))))) (uA kN0 (rA kI0) (uA kN1 (uis kN0) (uA kN2 (uis kN1) (uA kN3 (uis kN2) uA0)))) (uS (uis kN3) uS0) (uO kN4 kN5 (uis kN4) uO0) (Int.ofNat (nat_lit 2608)) (uL kJ204 kN2 uL0))
  (uK (uC kN92 (uE kI0 kI5 (uE kI0 kI4095 (uE kI0 kI11 (uE kI0 kI1 (uE kJ2147483648 kI2147483647 (uE kI1 kI12 uE0)))))) (uA kN0 (rA kI0) (uA kN1 (uis kN0) (uA kN2 (uis kN1) (uA kN3 (uis kN2) (uA kN4 (uis kN3) (uA kN5 (uis kN4) uA0)))))) uS0 (uO kN4 kN5 (uis kN5) uO0) (Int.ofNat (nat_lit 2554)) (uL kJ204 kN2 uL0))
  uK0))) = true := by decide +kernel
theorem r549 {l : Launch} {D : va_G} {tys : List (ClassId × FieldType)} {A : Nat → Prop} {ad : Nat → Nat} (hAD : ∀ i : Nat, ad (1000 + i) = D.2 1000 i) : CRok l D tys A ad GG 3 g549 := CR_of_vrf (dep := 2) hAD (fun c hc => by cases hc) T2OK_nil w549
noncomputable def g550 : CR := (92, [(2, 28, 28), (2, 4, 4), (0, (-2147483648), 2147483647), (0, (-2147483648), 2147483647)], [], some (0, 0, 63), [], [31])
theorem w550 : vrf GG [] [] 748 2 g550
  (uK (uC kN28 (uE kJ2147483648 kI2147483647 (uE kJ2147483648 kI2147483647 (uE kJ2147483648 kI2147483647 (uE kJ2147483648 kI2147483647 (uE kI0 kI63 (uE kI0 kI6 uE0)))))) (uA kN0 (rA kI28) (uA kN1 (rA kI4) (uA kN2 (uis kN0) (uA kN3 (uis kN1) (uA kN4 (uis kN2) (uA kN5 (uis kN3) (uA kN6 (uis kN4) (uA kN7 (uis kN5) uA0)))))))) uS0 uO0 kI1426 (uL kJ212 kN5 uL0))
  (uK (uC kN95 (uE kJ2147483648 kI2147483647 (uE kJ2147483648 kI2147483647 (uE kJ2147483648 kI2147483647 (uE kJ2147483648 kI2147483647 (uE kI0 kI63 (uE kI0 kI5 (uE kI1 kI6 uE0))))))) (uA kN0 (rA kI28) (uA kN1 (rA kI4) (uA kN2 (uis kN0) (uA kN3 (uis kN1) (uA kN4 (uis kN2) (uA kN5 (uis kN3) (uA kN6 (uis kN4) (uA kN7 (uis kN5) uA0)))))))) uS0 (uO kN4 kN4 (uis kN6) uO0) kI1359 (uL kJ212 kN5 uL0))
  uK0)) = true := by decide +kernel
theorem r550 {l : Launch} {D : va_G} {tys : List (ClassId × FieldType)} {A : Nat → Prop} {ad : Nat → Nat} (hAD : ∀ i : Nat, ad (1000 + i) = D.2 1000 i) : CRok l D tys A ad GG 3 g550 := CR_of_vrf (dep := 2) hAD (fun c hc => by cases hc) T2OK_nil w550
noncomputable def g551 : CR := (94, [(2, 28, 28), (2, 4, 4), (0, 0, 5), (0, 0, 5), (0, 0, 4095)], [], some (0, 0, 1), [], [31])
theorem w551 : vrf GG [(3, g75), (3, g550)] [] 675 3 g551
  (uK (uC kN8 (uE kI0 kI5 (uE kI0 kI5 (uE kI0 kI4095 (uE kI0 kI12 uE0)))) (uA kN0 (rA kI28) (uA kN1 (rA kI4) (uA kN2 (uis kN0) (uA kN3 (uis kN1) (uA kN4 (uis kN2) (uA kN5 (uis kN3) uA0)))))) uS0 uO0 (Int.ofNat (nat_lit 2738)) (uL kJ212 kN3 uL0))
  (uK (uC kN66 (uE kI0 kI5 (uE kI0 kI5 (uE kI0 kI4095 (uE kI0 kI11 (uE kJ2147483648 kI2147483647 (uE kJ2147483648 kI2147483647 (uE kI1 kI12 uE0))))))) (uA kN0 (rA kI28) (uA kN1 (rA kI4) (uA kN2 (uis kN0) (uA kN3 (uis kN1) (uA kN4 (uis kN2) (uA kN5 (uis kN3) (uA kN6 (uis kN4) uA0))))))) (uS (uis kN5) uS0) (uO kN4 kN5 (uis kN6) uO0) (Int.ofNat (nat_lit 2680)) (uL kJ212 kN3 uL0))
  (uK (uC kN78 (uE kI0 kI5 (uE kI0 kI5 (uE kI0 kI4095 (uE kI0 kI11 (uE kJ2147483648 kI2147483647 (uE kI1 kI12 uE0)))))) (uA kN0 (rA kI28) (uA kN1 (rA kI4) (uA kN2 (uis kN0) (uA kN3 (uis kN1) (uA kN4 (uis kN2) (uA kN5 (uis kN3) (uA kN6 (uis kN4) uA0))))))) uS0 (uO kN4 kN5 (uis kN5) uO0) (Int.ofNat (nat_lit 2668)) (uL kJ212 kN3 uL0))
  uK0))) = true := by decide +kernel
theorem r551 {l : Launch} {D : va_G} {tys : List (ClassId × FieldType)} {A : Nat → Prop} {ad : Nat → Nat} (hAD : ∀ i : Nat, ad (1000 + i) = D.2 1000 i) : CRok l D tys A ad GG 4 g551 := CR_of_vrf (dep := 3) hAD (List.forall_mem_cons.mpr ⟨r75 hAD, List.forall_mem_cons.mpr ⟨r550 hAD, fun c hc => by cases hc⟩⟩) T2OK_nil w551
noncomputable def g552 : CR := (96, [(0, 0, 4095), (0, 0, 4095), (0, (-2147483648), 2147483647)], [], some (1, (-9223372036854775808), 9223372036854775807), [], [])
theorem w552 : vrf GG [] [] 300 0 g552
  (uK (uC kN5 (uE kI0 kI4095 (uE kI0 kI4095 (uE kJ2147483648 kI2147483647 (uE kJ9223372036854775808 kI9223372036854775807 (uE kI0 kI12 uE0))))) (uA kN0 (uis kN0) (uA kN1 (uis kN1) (uA kN2 (uis kN2) (uA kN3 (uls kN3) (uA kN5 (uis kN4) uA0))))) uS0 uO0 (Int.ofNat (nat_lit 1366)) (uL kJ106 kN4 uL0))
  (uK (uC kN41 (uE kI0 kI4095 (uE kI0 kI4095 (uE kJ2147483648 kI2147483647 (uE kJ9223372036854775808 kI9223372036854775807 (uE kI0 kI11 (uE kJ2147483648 kI2147483647 (uE kJ9223372036854775808 kI9223372036854775807 uE0))))))) (uA kN0 (uis kN0) (uA kN1 (uis kN1) (uA kN2 (uis kN2) (uA kN3 (uls kN3) (uA kN5 (uis kN4) uA0))))) (uS (uls kN5) (uS (uls kN6) uS0)) uO0 (Int.ofNat (nat_lit 1330)) (uL kJ106 kN4 uL0))
  (uK (uC kN43 (uE kI0 kI4095 (uE kI0 kI4095 (uE kJ2147483648 kI2147483647 (uE kJ9223372036854775808 kI9223372036854775807 (uE kI0 kI11 uE0))))) (uA kN0 (uis kN0) (uA kN1 (uis kN1) (uA kN2 (uis kN2) (uA kN3 (uls kN3) (uA kN5 (uis kN4) uA0))))) uS0 uO0 (Int.ofNat (nat_lit 1328)) (uL kJ106 kN4 uL0))
  uK0))) = true := by decide +kernel
theorem r552 {l : Launch} {D : va_G} {tys : List (ClassId × FieldType)} {A : Nat → Prop} {ad : Nat → Nat} (hAD : ∀ i : Nat, ad (1000 + i) = D.2 1000 i) : CRok l D tys A ad GG 1 g552 := CR_of_vrf (dep := 0) hAD (fun c hc => by cases hc) T2OK_nil w552
noncomputable def g553 : CR := (95, [(2, 28, 28), (2, 4, 4), (0, 0, 5), (0, 0, 5), (0, 0, 4095)], [], some (1, (-9223372036854775808), 9223372036854775807), [], [31])
theorem w553 : vrf GG [(4, g551), (1, g552)] [] 300 4 g553
  (uK (uC kN9 (uE kI0 kI5 (uE kI0 kI5 (uE kI0 kI4095 (uE kJ9223372036854775808 kI9223372036854775807 (uE kI0 kI4095 (uE kI0 kI256 uE0)))))) (uA kN0 (rA kI28) (uA kN1 (rA kI4) (uA kN2 (uis kN0) (uA kN3 (uis kN1) (uA kN4 (uis kN2) (uA kN5 (uls kN3) (uA kN7 (uis kN4) (uA kN8 (uis kN5) uA0)))))))) uS0 uO0 (Int.ofNat (nat_lit 45726)) (uL (Int.negSucc (nat_lit 177)) kN5 uL0))
  (uK (uC kN60 (uE kI0 kI5 (uE kI0 kI5 (uE kI0 kI4095 (uE kJ9223372036854775808 kI9223372036854775807 (uE kI0 kI4095 (uE kI0 kI255 (uE kJ9223372036854775808 kI9223372036854775807 uE0))))))) (uA kN0 (rA kI28) (uA kN1 (rA kI4) (uA kN2 (uis kN0) (uA kN3 (uis kN1) (uA kN4 (uis kN2) (uA kN5 (uls kN3) (uA kN7 (uis kN4) (uA kN8 (uis kN5) (uA kN9 (uls kN6) uA0))))))))) uS0 uO0 (Int.ofNat (nat_lit 45675)) (uL (Int.negSucc (nat_lit 177)) kN5 uL0))
  uK0)) = true := by decide +kernel
theorem r553 {l : Launch} {D : va_G} {tys : List (ClassId × FieldType)} {A : Nat → Prop} {ad : Nat → Nat} (hAD : ∀ i : Nat, ad (1000 + i) = D.2 1000 i) : CRok l D tys A ad GG 5 g553 := CR_of_vrf (dep := 4) hAD (List.forall_mem_cons.mpr ⟨r551 hAD, List.forall_mem_cons.mpr ⟨r552 hAD, fun c hc => by cases hc⟩⟩) T2OK_nil w553
noncomputable def g554 : CR := (62, [(2, 0, 0), (0, (-2147483648), 2147483647), (0, (-2147483648), 2147483647), (0, (-2147483648), 2147483647)], [], some (1, (-9223372036854775808), 9223372036854775807), [], [31])
theorem w554 : vrf GG [(3, g549), (5, g553), (1, g547), (1, g548)] [] 300 5 g554
  [] = true := by decide +kernel
theorem r554 {l : Launch} {D : va_G} {tys : List (ClassId × FieldType)} {A : Nat → Prop} {ad : Nat → Nat} (hAD : ∀ i : Nat, ad (1000 + i) = D.2 1000 i) : CRok l D tys A ad GG 6 g554 := CR_of_vrf (dep := 5) hAD (List.forall_mem_cons.mpr ⟨r549 hAD, List.forall_mem_cons.mpr ⟨r553 hAD, List.forall_mem_cons.mpr ⟨r547 hAD, List.forall_mem_cons.mpr ⟨r548 hAD, fun c hc => by cases hc⟩⟩⟩⟩) T2OK_nil w554
noncomputable def g555 : CR := (327, [(2, 90, 90), (0, 0, 5)], [], some (0, 0, 4095), [], [])
theorem w555 : vrf GG [] [] 300 2 g555
  (uK (uC kN4 (uE kI0 kI5 (uE kI0 kI4095 (uE kI0 kI12 uE0))) (uA kN0 (rA kI90) (uA kN1 (uis kN0) (uA kN2 (uis kN1) (uA kN3 (uis kN2) uA0)))) uS0 uO0 (Int.ofNat (nat_lit 2512)) (uL kJ194 kN2 uL0))
  (uK (uC kN66 (uE kI0 kI5 (uE kI0 kI4095 (uE kI0 kI11 (uE kI0 kI5 (uE kI0 kI63 (uE kI0 kI4095 (uE kI1 kI12 uE0))))))) (uA kN0 (rA kI90) (uA kN1 (uis kN0) (uA kN2 (uis kN1) (uA kN3 (uis kN2) (uA kN4 (uis kN3) uA0))))) (uS (uis kN4) (uS (uis kN5) uS0)) (uO kN91 kN4 (uis kN6) uO0) (Int.ofNat (nat_lit 2450)) (uL kJ194 kN2 uL0))
  (uK (uC kN84 (uE kI0 kI5 (uE kI0 kI4095 (uE kI0 kI11 (uE kI0 kI5 (uE kI0 kI4095 (uE kI1 kI12 uE0)))))) (uA kN0 (rA kI90) (uA kN1 (uis kN0) (uA kN2 (uis kN1) (uA kN3 (uis kN2) (uA kN4 (uis kN3) uA0))))) (uS (uis kN4) uS0) (uO kN91 kN4 (uis kN5) uO0) (Int.ofNat (nat_lit 2432)) (uL kJ194 kN2 uL0))
  (uK (uC kN85 (uE kI0 kI5 (uE kI0 kI4095 (uE kI0 kI11 (uE kI0 kI5 (uE kI0 kI2048 (uE kI0 kI4095 (uE kI1 kI12 uE0))))))) (uA kN0 (rA kI90) (uA kN1 (uis kN0) (uA kN2 (uis kN1) (uA kN3 (uis kN2) (uA kN4 (uis kN3) uA0))))) (uS (uis kN4) (uS (uis kN5) uS0)) (uO kN91 kN4 (uis kN6) uO0) (Int.ofNat (nat_lit 2431)) (uL kJ194 kN2 uL0))
  uK0)))) = true := by decide +kernel
theorem r555 {l : Launch} {D : va_G} {tys : List (ClassId × FieldType)} {A : Nat → Prop} {ad : Nat → Nat} (hAD : ∀ i : Nat, ad (1000 + i) = D.2 1000 i) : CRok l D tys A ad GG 3 g555 := CR_of_vrf (dep := 2) hAD (fun c hc => by cases hc) T2OK_nil w555
noncomputable def g556 : CR := (329, [(2, 90, 90), (0, 0, 5), (0, 0, 5), (0, 0, 4095)], [], some (1, (-9223372036854775808), 9223372036854775807), [], [90, 98, 99, 100, 101])
theorem w556 : vrf GG [(4, g96)] [] 300 5 g556
  (uK (uC kN6 (uE kI0 kI5 (uE kI0 kI5 (uE kI0 kI4095 (uE kJ9223372036854775808 kI9223372036854775807 (uE kI0 kI4096 uE0))))) (uA kN0 (rA kI90) (uA kN1 (uis kN0) (uA kN2 (uis kN1) (uA kN3 (uis kN2) (uA kN4 (uls kN3) (uA kN6 (uis kN4) uA0)))))) uS0 uO0 (Int.ofNat (nat_lit 19542676)) (uL kJ4770 kN4 uL0))
  (uK (uC kN30 (uE kI0 kI5 (uE kI0 kI5 (uE kI0 kI4095 (uE kJ9223372036854775808 kI9223372036854775807 (uE kI0 kI4095 (uE kJ9223372036854775808 kI9223372036854775807 (uE kI0 kI12 uE0))))))) (uA kN0 (rA kI90) (uA kN1 (uis kN0) (uA kN2 (uis kN1) (uA kN3 (uis kN2) (uA kN4 (uls kN3) (uA kN6 (uis kN4) (uA kN7 (uls kN5) (uA kN9 (uis kN6) uA0)))))))) uS0 uO0 (Int.ofNat (nat_lit 19542144)) (uL (Int.negSucc (nat_lit 317)) kN6 (uL kJ4770 kN4 uL0)))
  (uK (uC kN89 (uE kI0 kI5 (uE kI0 kI5 (uE kI0 kI4095 (uE kJ9223372036854775808 kI9223372036854775807 (uE kI0 kI4095 (uE kJ9223372036854775808 kI9223372036854775807 (uE kI0 kI11 (uE kI0 kI100 (uE kJ9223372036854775808 kI9223372036854775807 uE0))))))))) (uA kN0 (rA kI90) (uA kN1 (uis kN0) (uA kN2 (uis kN1) (uA kN3 (uis kN2) (uA kN4 (uls kN3) (uA kN6 (uis kN4) (uA kN7 (uls kN5) (uA kN9 (uis kN6) uA0)))))))) (uS (uls kN7) (uS (uls kN8) uS0)) uO0 (Int.ofNat (nat_lit 19542085)) (uL (Int.negSucc (nat_lit 317)) kN6 (uL kJ4770 kN4 uL0)))
  (uK (uC kN145 (uE kI0 kI5 (uE kI0 kI5 (uE kI0 kI4095 (uE kJ9223372036854775808 kI9223372036854775807 (uE kI0 kI4095 (uE kJ9223372036854775808 kI9223372036854775807 (uE kJ9223372036854775808 kI9223372036854775807 (uE kJ9223372036854775808 kI9223372036854775807 (uE kI0 kI24 uE0))))))))) (uA kN0 (rA kI90) (uA kN1 (uis kN0) (uA kN2 (uis kN1) (uA kN3 (uis kN2) (uA kN4 (uls kN3) (uA kN6 (uis kN4) (uA kN7 (uls kN5) (uA kN9 (uic kI12) uA0)))))))) (uS (uls kN6) (uS (uls kN7) uS0)) (uO kN90 kN22 (uic kJ1) (uO kN91 kN2 (uis kN8) uO0)) (Int.ofNat (nat_lit 19538085)) (uL kJ4770 kN4 uL0))
  (uK (uC kN148 (uE kI0 kI5 (uE kI0 kI5 (uE kI0 kI4095 (uE kJ9223372036854775808 kI9223372036854775807 (uE kI0 kI4095 uE0))))) (uA kN0 (rA kI90) (uA kN1 (uis kN0) (uA kN2 (uis kN1) (uA kN3 (uis kN2) (uA kN4 (uls kN3) (uA kN6 (uis kN4) uA0)))))) uS0 uO0 (Int.ofNat (nat_lit 19538082)) (uL kJ4770 kN4 uL0))
  uK0))))) = true := by decide +kernel
theorem r556 {l : Launch} {D : va_G} {tys : List (ClassId × FieldType)} {A : Nat → Prop} {ad : Nat → Nat} (hAD : ∀ i : Nat, ad (1000 + i) = D.2 1000 i) : CRok l D tys A ad GG 6 g556 := CR_of_vrf (dep := 5) hAD (List.forall_mem_cons.mpr ⟨r96 hAD, fun c hc => by cases hc⟩) T2OK_nil w556
noncomputable def g557 : CR := (330, [(2, 90, 90), (0, (-2147483648), 2147483647), (0, (-2147483648), 2147483647), (0, (-2147483648), 2147483647)], [], some (1, (-9223372036854775808), 9223372036854775807), [], [90, 98, 99, 100, 101])
theorem w557 : vrf GG [(1, g174), (4, g96), (3, g555), (6, g556)] hDiv 812 6 g557
  [] = true := by decide +kernel
theorem r557 {l : Launch} {D : va_G} {tys : List (ClassId × FieldType)} {A : Nat → Prop} {ad : Nat → Nat} (hAD : ∀ i : Nat, ad (1000 + i) = D.2 1000 i) : CRok l D tys A ad GG 7 g557 := CR_of_vrf (dep := 6) hAD (List.forall_mem_cons.mpr ⟨r174 hAD, List.forall_mem_cons.mpr ⟨r96 hAD, List.forall_mem_cons.mpr ⟨r555 hAD, List.forall_mem_cons.mpr ⟨r556 hAD, fun c hc => by cases hc⟩⟩⟩⟩) HDiv_ok w557
