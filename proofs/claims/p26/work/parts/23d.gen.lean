section
noncomputable def g360 : CR := (307, [(2, 90, 90), (0, 0, 0)], [((91, 0), (0, 1, 9)), ((107, 0), (0, 4, 4))], some (0, 0, 1), [], [])
theorem w360 : vrf GG [] [] 300 1 g360
  (uK (uC kN2 (uE kI0 kI3 (uE kI1 kI9 uE0)) (uA kN0 (rA kI90) (uA kN1 (uic kI0) (uA kN2 (uis kN0) uA0))) uS0 (uO kN91 kN0 (uis kN1) (uO kN107 kN0 (uic kI4) uO0)) kI4810 (uL kJ1204 kN0 uL0))
  (uK (uC kN22 (uE kI0 kI2 (uE kI0 kI1 (uE kI0 kI4 (uE kI4 kI6 (uE kI1 kI9 uE0))))) (uA kN0 (rA kI90) (uA kN1 (uic kI0) (uA kN2 (uis kN0) (uA kN3 (uis kN1) (uA kN4 (uis kN2) uA0))))) uS0 (uO kN90 kN30 (uis kN3) (uO kN91 kN0 (uis kN4) (uO kN107 kN0 (uic kI4) uO0))) kI4509 (uL kJ172 kN2 (uL kJ1204 kN0 uL0)))
  (uK (uC kN63 (uE kI0 kI2 (uE kI0 kI3 (uE kI0 kI1 (uE kI4 kI6 (uE kI1 kI9 uE0))))) (uA kN0 (rA kI90) (uA kN1 (uic kI0) (uA kN2 (uis kN0) (uA kN3 (uic kI1) (uA kN4 (uis kN1) uA0))))) (uS (uis kN2) uS0) (uO kN90 kN30 (uis kN3) (uO kN91 kN0 (uis kN4) (uO kN107 kN0 (uic kI4) uO0))) kI4468 (uL kJ172 kN1 (uL kJ1204 kN0 uL0)))
  (uK (uC kN70 (uE kI0 kI2 (uE kI0 kI1 (uE kI0 kI4 (uE kI4 kI6 (uE kI1 kI9 uE0))))) (uA kN0 (rA kI90) (uA kN1 (uic kI0) (uA kN2 (uis kN0) (uA kN3 (uis kN1) (uA kN4 (uis kN2) uA0))))) uS0 (uO kN90 kN30 (uis kN3) (uO kN91 kN0 (uis kN4) (uO kN107 kN0 (uic kI4) uO0))) kI3710 (uL kJ1204 kN0 uL0))
  uK0)))) = true := by decide +kernel
theorem r360 {l : Launch} {D : va_G} {tys : List (ClassId × FieldType)} {A : Nat → Prop} {ad : Nat → Nat} (hAD : ∀ i : Nat, ad (1000 + i) = D.2 1000 i) : CRok l D tys A ad GG 2 g360 := CR_of_vrf (dep := 1) hAD (fun c hc => by cases hc) T2OK_nil w360
noncomputable def g361 : CR := (307, [(2, 90, 90), (0, 0, 0)], [((91, 0), (0, 1, 9)), ((107, 0), (0, 5, 5))], some (0, 0, 1), [], [])
theorem w361 : vrf GG [] [] 300 1 g361
  (uK (uC kN2 (uE kI0 kI2 (uE kI1 kI9 uE0)) (uA kN0 (rA kI90) (uA kN1 (uic kI0) (uA kN2 (uis kN0) uA0))) uS0 (uO kN91 kN0 (uis kN1) (uO kN107 kN0 (uic kI5) uO0)) kI4122 (uL kJ1376 kN0 uL0))
  (uK (uC kN22 (uE kI0 kI1 (uE kI0 kI1 (uE kI0 kI5 (uE kI5 kI6 (uE kI1 kI9 uE0))))) (uA kN0 (rA kI90) (uA kN1 (uic kI0) (uA kN2 (uis kN0) (uA kN3 (uis kN1) (uA kN4 (uis kN2) uA0))))) uS0 (uO kN90 kN30 (uis kN3) (uO kN91 kN0 (uis kN4) (uO kN107 kN0 (uic kI5) uO0))) kI3821 (uL kJ172 kN2 (uL kJ1376 kN0 uL0)))
  (uK (uC kN63 (uE kI0 kI1 (uE kI0 kI4 (uE kI0 kI1 (uE kI5 kI6 (uE kI1 kI9 uE0))))) (uA kN0 (rA kI90) (uA kN1 (uic kI0) (uA kN2 (uis kN0) (uA kN3 (uic kI1) (uA kN4 (uis kN1) uA0))))) (uS (uis kN2) uS0) (uO kN90 kN30 (uis kN3) (uO kN91 kN0 (uis kN4) (uO kN107 kN0 (uic kI5) uO0))) kI3780 (uL kJ172 kN1 (uL kJ1376 kN0 uL0)))
  (uK (uC kN70 (uE kI0 kI1 (uE kI0 kI1 (uE kI0 kI5 (uE kI5 kI6 (uE kI1 kI9 uE0))))) (uA kN0 (rA kI90) (uA kN1 (uic kI0) (uA kN2 (uis kN0) (uA kN3 (uis kN1) (uA kN4 (uis kN2) uA0))))) uS0 (uO kN90 kN30 (uis kN3) (uO kN91 kN0 (uis kN4) (uO kN107 kN0 (uic kI5) uO0))) kI2850 (uL kJ1376 kN0 uL0))
  uK0)))) = true := by decide +kernel
theorem r361 {l : Launch} {D : va_G} {tys : List (ClassId × FieldType)} {A : Nat → Prop} {ad : Nat → Nat} (hAD : ∀ i : Nat, ad (1000 + i) = D.2 1000 i) : CRok l D tys A ad GG 2 g361 := CR_of_vrf (dep := 1) hAD (fun c hc => by cases hc) T2OK_nil w361
noncomputable def g362 : CR := (307, [(2, 90, 90), (0, 0, 0)], [((91, 0), (0, 1, 9)), ((107, 0), (0, 6, 6))], some (0, 0, 1), [], [])
theorem w362 : vrf GG [] [] 300 1 g362
  (uK (uC kN2 (uE kI0 kI1 (uE kI1 kI9 uE0)) (uA kN0 (rA kI90) (uA kN1 (uic kI0) (uA kN2 (uis kN0) uA0))) uS0 (uO kN91 kN0 (uis kN1) (uO kN107 kN0 (uic kI6) uO0)) kI3090 (uL kJ1548 kN0 uL0))
  (uK (uC kN22 (uE kI0 kI1 (uE kI0 kI6 (uE kI1 kI9 uE0))) (uA kN0 (rA kI90) (uA kN1 (uic kI0) (uA kN2 (uic kI0) (uA kN3 (uis kN0) (uA kN4 (uis kN1) uA0))))) uS0 (uO kN90 kN30 (uic kI6) (uO kN91 kN0 (uis kN2) (uO kN107 kN0 (uic kI6) uO0))) kI2789 (uL kJ172 kN1 uL0))
  (uK (uC kN63 (uE kI0 kI5 (uE kI0 kI1 (uE kI1 kI9 uE0))) (uA kN0 (rA kI90) (uA kN1 (uic kI0) (uA kN2 (uic kI0) (uA kN3 (uic kI1) (uA kN4 (uis kN0) uA0))))) (uS (uis kN1) uS0) (uO kN90 kN30 (uic kI6) (uO kN91 kN0 (uis kN2) (uO kN107 kN0 (uic kI6) uO0))) kI2748 (uL kJ172 kN0 uL0))
  (uK (uC kN70 (uE kI0 kI1 (uE kI0 kI6 (uE kI1 kI9 uE0))) (uA kN0 (rA kI90) (uA kN1 (uic kI0) (uA kN2 (uic kI0) (uA kN3 (uis kN0) (uA kN4 (uis kN1) uA0))))) uS0 (uO kN90 kN30 (uic kI6) (uO kN91 kN0 (uis kN2) (uO kN107 kN0 (uic kI6) uO0))) kI1646 uL0)
  uK0)))) = true := by decide +kernel
theorem r362 {l : Launch} {D : va_G} {tys : List (ClassId × FieldType)} {A : Nat → Prop} {ad : Nat → Nat} (hAD : ∀ i : Nat, ad (1000 + i) = D.2 1000 i) : CRok l D tys A ad GG 2 g362 := CR_of_vrf (dep := 1) hAD (fun c hc => by cases hc) T2OK_nil w362
noncomputable def g363 : CR := (307, [(2, 90, 90), (0, 0, 0)], [((91, 0), (0, 1, 9)), ((107, 0), (0, 7, 60))], some (0, 0, 0), [], [])
theorem w363 : vrf GG [] [] 300 0 g363
  (uK (uC kN2 (uE kI1 kI9 (uE kI7 kI60 uE0)) (uA kN0 (rA kI90) (uA kN1 (uic kI0) (uA kN2 (uic kI0) uA0))) uS0 (uO kN91 kN0 (uis kN0) (uO kN107 kN0 (uis kN1) uO0)) kI510 uL0)
  uK0) = true := by decide +kernel
theorem r363 {l : Launch} {D : va_G} {tys : List (ClassId × FieldType)} {A : Nat → Prop} {ad : Nat → Nat} (hAD : ∀ i : Nat, ad (1000 + i) = D.2 1000 i) : CRok l D tys A ad GG 1 g363 := CR_of_vrf (dep := 0) hAD (fun c hc => by cases hc) T2OK_nil w363
noncomputable def g364 : CR := (307, [(2, 90, 90), (0, 1, 1)], [((91, 0), (0, 1, 9)), ((107, 1), (0, (-1), (-1)))], some (0, 1, 1), [], [])
theorem w364 : vrf GG [] [] 300 0 g364
  (uK (uC kN2 (uE kI1 kI9 uE0) (uA kN0 (rA kI90) (uA kN1 (uic kI1) (uA kN2 (uic kI0) uA0))) uS0 (uO kN91 kN0 (uis kN0) (uO kN107 kN1 (uic kJ1) uO0)) kI510 uL0)
  (uK (uC kN22 (uE kI0 kI6 (uE kI1 kI9 uE0)) (uA kN0 (rA kI90) (uA kN1 (uic kI1) (uA kN2 (uic kI0) (uA kN3 (uic kI1) (uA kN4 (uic kI0) uA0))))) uS0 (uO kN90 kN30 (uis kN0) (uO kN91 kN0 (uis kN1) (uO kN107 kN1 (uic kJ1) uO0))) kI209 uL0)
  (uK (uC kN70 (uE kI0 kI6 (uE kI1 kI9 uE0)) (uA kN0 (rA kI90) (uA kN1 (uic kI1) (uA kN2 (uic kI0) (uA kN3 (uic kI1) (uA kN4 (uic kI0) uA0))))) uS0 (uO kN90 kN30 (uis kN0) (uO kN91 kN0 (uis kN1) (uO kN107 kN1 (uic kJ1) uO0))) kI98 uL0)
  uK0))) = true := by decide +kernel
theorem r364 {l : Launch} {D : va_G} {tys : List (ClassId × FieldType)} {A : Nat → Prop} {ad : Nat → Nat} (hAD : ∀ i : Nat, ad (1000 + i) = D.2 1000 i) : CRok l D tys A ad GG 1 g364 := CR_of_vrf (dep := 0) hAD (fun c hc => by cases hc) T2OK_nil w364
noncomputable def g365 : CR := (307, [(2, 90, 90), (0, 1, 1)], [((91, 0), (0, 1, 9)), ((107, 1), (0, 0, 0))], some (0, 1, 1), [], [])
theorem w365 : vrf GG [] [] 300 0 g365
  (uK (uC kN2 (uE kI1 kI9 uE0) (uA kN0 (rA kI90) (uA kN1 (uic kI1) (uA kN2 (uic kI0) uA0))) uS0 (uO kN91 kN0 (uis kN0) (uO kN107 kN1 (uic kI0) uO0)) kI510 uL0)
  (uK (uC kN22 (uE kI0 kI6 (uE kI1 kI9 uE0)) (uA kN0 (rA kI90) (uA kN1 (uic kI1) (uA kN2 (uic kI0) (uA kN3 (uic kI1) (uA kN4 (uic kI0) uA0))))) uS0 (uO kN90 kN30 (uis kN0) (uO kN91 kN0 (uis kN1) (uO kN107 kN1 (uic kI0) uO0))) kI209 uL0)
  (uK (uC kN70 (uE kI0 kI6 (uE kI1 kI9 uE0)) (uA kN0 (rA kI90) (uA kN1 (uic kI1) (uA kN2 (uic kI0) (uA kN3 (uic kI1) (uA kN4 (uic kI0) uA0))))) uS0 (uO kN90 kN30 (uis kN0) (uO kN91 kN0 (uis kN1) (uO kN107 kN1 (uic kI0) uO0))) kI98 uL0)
  uK0))) = true := by decide +kernel
theorem r365 {l : Launch} {D : va_G} {tys : List (ClassId × FieldType)} {A : Nat → Prop} {ad : Nat → Nat} (hAD : ∀ i : Nat, ad (1000 + i) = D.2 1000 i) : CRok l D tys A ad GG 1 g365 := CR_of_vrf (dep := 0) hAD (fun c hc => by cases hc) T2OK_nil w365
noncomputable def g366 : CR := (307, [(2, 90, 90), (0, 1, 1)], [((91, 0), (0, 1, 9)), ((107, 1), (0, 1, 1))], some (0, 0, 1), [], [])
theorem w366 : vrf GG [] [] 300 1 g366
  (uK (uC kN2 (uE kI0 kI6 (uE kI1 kI9 uE0)) (uA kN0 (rA kI90) (uA kN1 (uic kI1) (uA kN2 (uis kN0) uA0))) uS0 (uO kN91 kN0 (uis kN1) (uO kN107 kN1 (uic kI1) uO0)) kI4810 (uL kJ688 kN0 uL0))
  (uK (uC kN22 (uE kI0 kI5 (uE kI0 kI1 (uE kI0 kI1 (uE kI1 kI6 (uE kI1 kI9 uE0))))) (uA kN0 (rA kI90) (uA kN1 (uic kI1) (uA kN2 (uis kN0) (uA kN3 (uis kN1) (uA kN4 (uis kN2) uA0))))) uS0 (uO kN90 kN30 (uis kN3) (uO kN91 kN0 (uis kN4) (uO kN107 kN1 (uic kI1) uO0))) kI4509 (uL kJ172 kN2 (uL kJ688 kN0 uL0)))
  (uK (uC kN63 (uE kI0 kI5 (uE kI0 kI1 (uE kI1 kI6 (uE kI1 kI9 (uE kJ9223372036854775808 kI9223372036854775807 uE0))))) (uA kN0 (rA kI90) (uA kN1 (uic kI1) (uA kN2 (uis kN0) (uA kN3 (uic kI1) (uA kN4 (uic kI0) uA0))))) (uS (uis kN1) uS0) (uO kN90 kN30 (uis kN2) (uO kN91 kN0 (uis kN3) (uO kN107 kN1 (uic kI1) (uO kN109 kN60 (uls kN4) uO0)))) kI4468 (uL kJ688 kN0 uL0))
  (uK (uC kN70 (uE kI0 kI5 (uE kI0 kI1 (uE kI0 kI1 (uE kI1 kI6 (uE kI1 kI9 uE0))))) (uA kN0 (rA kI90) (uA kN1 (uic kI1) (uA kN2 (uis kN0) (uA kN3 (uis kN1) (uA kN4 (uis kN2) uA0))))) uS0 (uO kN90 kN30 (uis kN3) (uO kN91 kN0 (uis kN4) (uO kN107 kN1 (uic kI1) uO0))) kI4226 (uL kJ688 kN0 uL0))
  uK0)))) = true := by decide +kernel
theorem r366 {l : Launch} {D : va_G} {tys : List (ClassId × FieldType)} {A : Nat → Prop} {ad : Nat → Nat} (hAD : ∀ i : Nat, ad (1000 + i) = D.2 1000 i) : CRok l D tys A ad GG 2 g366 := CR_of_vrf (dep := 1) hAD (fun c hc => by cases hc) T2OK_nil w366
noncomputable def g367 : CR := (307, [(2, 90, 90), (0, 1, 1)], [((91, 0), (0, 1, 9)), ((107, 1), (0, 2, 2))], some (0, 0, 1), [], [])
theorem w367 : vrf GG [] [] 300 1 g367
  (uK (uC kN2 (uE kI0 kI5 (uE kI1 kI9 uE0)) (uA kN0 (rA kI90) (uA kN1 (uic kI1) (uA kN2 (uis kN0) uA0))) uS0 (uO kN91 kN0 (uis kN1) (uO kN107 kN1 (uic kI2) uO0)) kI5154 (uL kJ860 kN0 uL0))
  (uK (uC kN22 (uE kI0 kI4 (uE kI0 kI1 (uE kI0 kI2 (uE kI2 kI6 (uE kI1 kI9 uE0))))) (uA kN0 (rA kI90) (uA kN1 (uic kI1) (uA kN2 (uis kN0) (uA kN3 (uis kN1) (uA kN4 (uis kN2) uA0))))) uS0 (uO kN90 kN30 (uis kN3) (uO kN91 kN0 (uis kN4) (uO kN107 kN1 (uic kI2) uO0))) kI4853 (uL kJ172 kN2 (uL kJ860 kN0 uL0)))
  (uK (uC kN63 (uE kI0 kI4 (uE kI0 kI1 (uE kI0 kI1 (uE kI2 kI6 (uE kI1 kI9 uE0))))) (uA kN0 (rA kI90) (uA kN1 (uic kI1) (uA kN2 (uis kN0) (uA kN3 (uic kI1) (uA kN4 (uis kN1) uA0))))) (uS (uis kN2) uS0) (uO kN90 kN30 (uis kN3) (uO kN91 kN0 (uis kN4) (uO kN107 kN1 (uic kI2) uO0))) kI4812 (uL kJ172 kN1 (uL kJ860 kN0 uL0)))
  (uK (uC kN70 (uE kI0 kI4 (uE kI0 kI1 (uE kI0 kI2 (uE kI2 kI6 (uE kI1 kI9 uE0))))) (uA kN0 (rA kI90) (uA kN1 (uic kI1) (uA kN2 (uis kN0) (uA kN3 (uis kN1) (uA kN4 (uis kN2) uA0))))) uS0 (uO kN90 kN30 (uis kN3) (uO kN91 kN0 (uis kN4) (uO kN107 kN1 (uic kI2) uO0))) kI4398 (uL kJ860 kN0 uL0))
  uK0)))) = true := by decide +kernel
theorem r367 {l : Launch} {D : va_G} {tys : List (ClassId × FieldType)} {A : Nat → Prop} {ad : Nat → Nat} (hAD : ∀ i : Nat, ad (1000 + i) = D.2 1000 i) : CRok l D tys A ad GG 2 g367 := CR_of_vrf (dep := 1) hAD (fun c hc => by cases hc) T2OK_nil w367
noncomputable def g368 : CR := (307, [(2, 90, 90), (0, 1, 1)], [((91, 0), (0, 1, 9)), ((107, 1), (0, 3, 3))], some (0, 0, 1), [], [])
theorem w368 : vrf GG [] [] 300 1 g368
  (uK (uC kN2 (uE kI0 kI4 (uE kI1 kI9 uE0)) (uA kN0 (rA kI90) (uA kN1 (uic kI1) (uA kN2 (uis kN0) uA0))) uS0 (uO kN91 kN0 (uis kN1) (uO kN107 kN1 (uic kI3) uO0)) kI5154 (uL kJ1032 kN0 uL0))
  (uK (uC kN22 (uE kI0 kI3 (uE kI0 kI1 (uE kI0 kI3 (uE kI3 kI6 (uE kI1 kI9 uE0))))) (uA kN0 (rA kI90) (uA kN1 (uic kI1) (uA kN2 (uis kN0) (uA kN3 (uis kN1) (uA kN4 (uis kN2) uA0))))) uS0 (uO kN90 kN30 (uis kN3) (uO kN91 kN0 (uis kN4) (uO kN107 kN1 (uic kI3) uO0))) kI4853 (uL kJ172 kN2 (uL kJ1032 kN0 uL0)))
  (uK (uC kN63 (uE kI0 kI3 (uE kI0 kI2 (uE kI0 kI1 (uE kI3 kI6 (uE kI1 kI9 uE0))))) (uA kN0 (rA kI90) (uA kN1 (uic kI1) (uA kN2 (uis kN0) (uA kN3 (uic kI1) (uA kN4 (uis kN1) uA0))))) (uS (uis kN2) uS0) (uO kN90 kN30 (uis kN3) (uO kN91 kN0 (uis kN4) (uO kN107 kN1 (uic kI3) uO0))) kI4812 (uL kJ172 kN1 (uL kJ1032 kN0 uL0)))
  (uK (uC kN70 (uE kI0 kI3 (uE kI0 kI1 (uE kI0 kI3 (uE kI3 kI6 (uE kI1 kI9 uE0))))) (uA kN0 (rA kI90) (uA kN1 (uic kI1) (uA kN2 (uis kN0) (uA kN3 (uis kN1) (uA kN4 (uis kN2) uA0))))) uS0 (uO kN90 kN30 (uis kN3) (uO kN91 kN0 (uis kN4) (uO kN107 kN1 (uic kI3) uO0))) kI4226 (uL kJ1032 kN0 uL0))
  uK0)))) = true := by decide +kernel
theorem r368 {l : Launch} {D : va_G} {tys : List (ClassId × FieldType)} {A : Nat → Prop} {ad : Nat → Nat} (hAD : ∀ i : Nat, ad (1000 + i) = D.2 1000 i) : CRok l D tys A ad GG 2 g368 := CR_of_vrf (dep := 1) hAD (fun c hc => by cases hc) T2OK_nil w368
noncomputable def g369 : CR := (307, [(2, 90, 90), (0, 1, 1)], [((91, 0), (0, 1, 9)), ((107, 1), (0, 4, 4))], some (0, 0, 1), [], [])
theorem w369 : vrf GG [] [] 300 1 g369
  (uK (uC kN2 (uE kI0 kI3 (uE kI1 kI9 uE0)) (uA kN0 (rA kI90) (uA kN1 (uic kI1) (uA kN2 (uis kN0) uA0))) uS0 (uO kN91 kN0 (uis kN1) (uO kN107 kN1 (uic kI4) uO0)) kI4810 (uL kJ1204 kN0 uL0))
  (uK (uC kN22 (uE kI0 kI2 (uE kI0 kI1 (uE kI0 kI4 (uE kI4 kI6 (uE kI1 kI9 uE0))))) (uA kN0 (rA kI90) (uA kN1 (uic kI1) (uA kN2 (uis kN0) (uA kN3 (uis kN1) (uA kN4 (uis kN2) uA0))))) uS0 (uO kN90 kN30 (uis kN3) (uO kN91 kN0 (uis kN4) (uO kN107 kN1 (uic kI4) uO0))) kI4509 (uL kJ172 kN2 (uL kJ1204 kN0 uL0)))
  (uK (uC kN63 (uE kI0 kI2 (uE kI0 kI3 (uE kI0 kI1 (uE kI4 kI6 (uE kI1 kI9 uE0))))) (uA kN0 (rA kI90) (uA kN1 (uic kI1) (uA kN2 (uis kN0) (uA kN3 (uic kI1) (uA kN4 (uis kN1) uA0))))) (uS (uis kN2) uS0) (uO kN90 kN30 (uis kN3) (uO kN91 kN0 (uis kN4) (uO kN107 kN1 (uic kI4) uO0))) kI4468 (uL kJ172 kN1 (uL kJ1204 kN0 uL0)))
  (uK (uC kN70 (uE kI0 kI2 (uE kI0 kI1 (uE kI0 kI4 (uE kI4 kI6 (uE kI1 kI9 uE0))))) (uA kN0 (rA kI90) (uA kN1 (uic kI1) (uA kN2 (uis kN0) (uA kN3 (uis kN1) (uA kN4 (uis kN2) uA0))))) uS0 (uO kN90 kN30 (uis kN3) (uO kN91 kN0 (uis kN4) (uO kN107 kN1 (uic kI4) uO0))) kI3710 (uL kJ1204 kN0 uL0))
  uK0)))) = true := by decide +kernel
theorem r369 {l : Launch} {D : va_G} {tys : List (ClassId × FieldType)} {A : Nat → Prop} {ad : Nat → Nat} (hAD : ∀ i : Nat, ad (1000 + i) = D.2 1000 i) : CRok l D tys A ad GG 2 g369 := CR_of_vrf (dep := 1) hAD (fun c hc => by cases hc) T2OK_nil w369
noncomputable def g370 : CR := (307, [(2, 90, 90), (0, 1, 1)], [((91, 0), (0, 1, 9)), ((107, 1), (0, 5, 5))], some (0, 0, 1), [], [])
theorem w370 : vrf GG [] [] 300 1 g370
  (uK (uC kN2 (uE kI0 kI2 (uE kI1 kI9 uE0)) (uA kN0 (rA kI90) (uA kN1 (uic kI1) (uA kN2 (uis kN0) uA0))) uS0 (uO kN91 kN0 (uis kN1) (uO kN107 kN1 (uic kI5) uO0)) kI4122 (uL kJ1376 kN0 uL0))
  (uK (uC kN22 (uE kI0 kI1 (uE kI0 kI1 (uE kI0 kI5 (uE kI5 kI6 (uE kI1 kI9 uE0))))) (uA kN0 (rA kI90) (uA kN1 (uic kI1) (uA kN2 (uis kN0) (uA kN3 (uis kN1) (uA kN4 (uis kN2) uA0))))) uS0 (uO kN90 kN30 (uis kN3) (uO kN91 kN0 (uis kN4) (uO kN107 kN1 (uic kI5) uO0))) kI3821 (uL kJ172 kN2 (uL kJ1376 kN0 uL0)))
  (uK (uC kN63 (uE kI0 kI1 (uE kI0 kI4 (uE kI0 kI1 (uE kI5 kI6 (uE kI1 kI9 uE0))))) (uA kN0 (rA kI90) (uA kN1 (uic kI1) (uA kN2 (uis kN0) (uA kN3 (uic kI1) (uA kN4 (uis kN1) uA0))))) (uS (uis kN2) uS0) (uO kN90 kN30 (uis kN3) (uO kN91 kN0 (uis kN4) (uO kN107 kN1 (uic kI5) uO0))) kI3780 (uL kJ172 kN1 (uL kJ1376 kN0 uL0)))
  (uK (uC kN70 (uE kI0 kI1 (uE kI0 kI1 (uE kI0 kI5 (uE kI5 kI6 (uE kI1 kI9 uE0))))) (uA kN0 (rA kI90) (uA kN1 (uic kI1) (uA kN2 (uis kN0) (uA kN3 (uis kN1) (uA kN4 (uis kN2) uA0))))) uS0 (uO kN90 kN30 (uis kN3) (uO kN91 kN0 (uis kN4) (uO kN107 kN1 (uic kI5) uO0))) kI2850 (uL kJ1376 kN0 uL0))
  uK0)))) = true := by decide +kernel
theorem r370 {l : Launch} {D : va_G} {tys : List (ClassId × FieldType)} {A : Nat → Prop} {ad : Nat → Nat} (hAD : ∀ i : Nat, ad (1000 + i) = D.2 1000 i) : CRok l D tys A ad GG 2 g370 := CR_of_vrf (dep := 1) hAD (fun c hc => by cases hc) T2OK_nil w370
noncomputable def g371 : CR := (307, [(2, 90, 90), (0, 1, 1)], [((91, 0), (0, 1, 9)), ((107, 1), (0, 6, 6))], some (0, 0, 1), [], [])
theorem w371 : vrf GG [] [] 300 1 g371
  (uK (uC kN2 (uE kI0 kI1 (uE kI1 kI9 uE0)) (uA kN0 (rA kI90) (uA kN1 (uic kI1) (uA kN2 (uis kN0) uA0))) uS0 (uO kN91 kN0 (uis kN1) (uO kN107 kN1 (uic kI6) uO0)) kI3090 (uL kJ1548 kN0 uL0))
  (uK (uC kN22 (uE kI0 kI1 (uE kI0 kI6 (uE kI1 kI9 uE0))) (uA kN0 (rA kI90) (uA kN1 (uic kI1) (uA kN2 (uic kI0) (uA kN3 (uis kN0) (uA kN4 (uis kN1) uA0))))) uS0 (uO kN90 kN30 (uic kI6) (uO kN91 kN0 (uis kN2) (uO kN107 kN1 (uic kI6) uO0))) kI2789 (uL kJ172 kN1 uL0))
  (uK (uC kN63 (uE kI0 kI5 (uE kI0 kI1 (uE kI1 kI9 uE0))) (uA kN0 (rA kI90) (uA kN1 (uic kI1) (uA kN2 (uic kI0) (uA kN3 (uic kI1) (uA kN4 (uis kN0) uA0))))) (uS (uis kN1) uS0) (uO kN90 kN30 (uic kI6) (uO kN91 kN0 (uis kN2) (uO kN107 kN1 (uic kI6) uO0))) kI2748 (uL kJ172 kN0 uL0))
  (uK (uC kN70 (uE kI0 kI1 (uE kI0 kI6 (uE kI1 kI9 uE0))) (uA kN0 (rA kI90) (uA kN1 (uic kI1) (uA kN2 (uic kI0) (uA kN3 (uis kN0) (uA kN4 (uis kN1) uA0))))) uS0 (uO kN90 kN30 (uic kI6) (uO kN91 kN0 (uis kN2) (uO kN107 kN1 (uic kI6) uO0))) kI1646 uL0)
  uK0)))) = true := by decide +kernel
theorem r371 {l : Launch} {D : va_G} {tys : List (ClassId × FieldType)} {A : Nat → Prop} {ad : Nat → Nat} (hAD : ∀ i : Nat, ad (1000 + i) = D.2 1000 i) : CRok l D tys A ad GG 2 g371 := CR_of_vrf (dep := 1) hAD (fun c hc => by cases hc) T2OK_nil w371
noncomputable def g372 : CR := (307, [(2, 90, 90), (0, 1, 1)], [((91, 0), (0, 1, 9)), ((107, 1), (0, 7, 60))], some (0, 0, 0), [], [])
theorem w372 : vrf GG [] [] 300 0 g372
  (uK (uC kN2 (uE kI1 kI9 (uE kI7 kI60 uE0)) (uA kN0 (rA kI90) (uA kN1 (uic kI1) (uA kN2 (uic kI0) uA0))) uS0 (uO kN91 kN0 (uis kN0) (uO kN107 kN1 (uis kN1) uO0)) kI510 uL0)
  uK0) = true := by decide +kernel
theorem r372 {l : Launch} {D : va_G} {tys : List (ClassId × FieldType)} {A : Nat → Prop} {ad : Nat → Nat} (hAD : ∀ i : Nat, ad (1000 + i) = D.2 1000 i) : CRok l D tys A ad GG 1 g372 := CR_of_vrf (dep := 0) hAD (fun c hc => by cases hc) T2OK_nil w372
noncomputable def g373 : CR := (307, [(2, 90, 90), (0, 2, 2)], [((91, 0), (0, 1, 9)), ((107, 2), (0, (-1), (-1)))], some (0, 1, 1), [], [])
theorem w373 : vrf GG [] [] 300 0 g373
  (uK (uC kN2 (uE kI1 kI9 uE0) (uA kN0 (rA kI90) (uA kN1 (uic kI2) (uA kN2 (uic kI0) uA0))) uS0 (uO kN91 kN0 (uis kN0) (uO kN107 kN2 (uic kJ1) uO0)) kI510 uL0)
  (uK (uC kN22 (uE kI0 kI6 (uE kI1 kI9 uE0)) (uA kN0 (rA kI90) (uA kN1 (uic kI2) (uA kN2 (uic kI0) (uA kN3 (uic kI1) (uA kN4 (uic kI0) uA0))))) uS0 (uO kN90 kN30 (uis kN0) (uO kN91 kN0 (uis kN1) (uO kN107 kN2 (uic kJ1) uO0))) kI209 uL0)
  (uK (uC kN70 (uE kI0 kI6 (uE kI1 kI9 uE0)) (uA kN0 (rA kI90) (uA kN1 (uic kI2) (uA kN2 (uic kI0) (uA kN3 (uic kI1) (uA kN4 (uic kI0) uA0))))) uS0 (uO kN90 kN30 (uis kN0) (uO kN91 kN0 (uis kN1) (uO kN107 kN2 (uic kJ1) uO0))) kI98 uL0)
  uK0))) = true := by decide +kernel
theorem r373 {l : Launch} {D : va_G} {tys : List (ClassId × FieldType)} {A : Nat → Prop} {ad : Nat → Nat} (hAD : ∀ i : Nat, ad (1000 + i) = D.2 1000 i) : CRok l D tys A ad GG 1 g373 := CR_of_vrf (dep := 0) hAD (fun c hc => by cases hc) T2OK_nil w373
noncomputable def g374 : CR := (307, [(2, 90, 90), (0, 2, 2)], [((91, 0), (0, 1, 9)), ((107, 2), (0, 0, 0))], some (0, 1, 1), [], [])
theorem w374 : vrf GG [] [] 300 0 g374
  (uK (uC kN2 (uE kI1 kI9 uE0) (uA kN0 (rA kI90) (uA kN1 (uic kI2) (uA kN2 (uic kI0) uA0))) uS0 (uO kN91 kN0 (uis kN0) (uO kN107 kN2 (uic kI0) uO0)) kI510 uL0)
  (uK (uC kN22 (uE kI0 kI6 (uE kI1 kI9 uE0)) (uA kN0 (rA kI90) (uA kN1 (uic kI2) (uA kN2 (uic kI0) (uA kN3 (uic kI1) (uA kN4 (uic kI0) uA0))))) uS0 (uO kN90 kN30 (uis kN0) (uO kN91 kN0 (uis kN1) (uO kN107 kN2 (uic kI0) uO0))) kI209 uL0)
  (uK (uC kN70 (uE kI0 kI6 (uE kI1 kI9 uE0)) (uA kN0 (rA kI90) (uA kN1 (uic kI2) (uA kN2 (uic kI0) (uA kN3 (uic kI1) (uA kN4 (uic kI0) uA0))))) uS0 (uO kN90 kN30 (uis kN0) (uO kN91 kN0 (uis kN1) (uO kN107 kN2 (uic kI0) uO0))) kI98 uL0)
  uK0))) = true := by decide +kernel
theorem r374 {l : Launch} {D : va_G} {tys : List (ClassId × FieldType)} {A : Nat → Prop} {ad : Nat → Nat} (hAD : ∀ i : Nat, ad (1000 + i) = D.2 1000 i) : CRok l D tys A ad GG 1 g374 := CR_of_vrf (dep := 0) hAD (fun c hc => by cases hc) T2OK_nil w374
noncomputable def g375 : CR := (307, [(2, 90, 90), (0, 2, 2)], [((91, 0), (0, 1, 9)), ((107, 2), (0, 1, 1))], some (0, 0, 1), [], [])
theorem w375 : vrf GG [] [] 300 1 g375
  (uK (uC kN2 (uE kI0 kI6 (uE kI1 kI9 uE0)) (uA kN0 (rA kI90) (uA kN1 (uic kI2) (uA kN2 (uis kN0) uA0))) uS0 (uO kN91 kN0 (uis kN1) (uO kN107 kN2 (uic kI1) uO0)) kI4810 (uL kJ688 kN0 uL0))
  (uK (uC kN22 (uE kI0 kI5 (uE kI0 kI1 (uE kI0 kI1 (uE kI1 kI6 (uE kI1 kI9 uE0))))) (uA kN0 (rA kI90) (uA kN1 (uic kI2) (uA kN2 (uis kN0) (uA kN3 (uis kN1) (uA kN4 (uis kN2) uA0))))) uS0 (uO kN90 kN30 (uis kN3) (uO kN91 kN0 (uis kN4) (uO kN107 kN2 (uic kI1) uO0))) kI4509 (uL kJ172 kN2 (uL kJ688 kN0 uL0)))
  (uK (uC kN63 (uE kI0 kI5 (uE kI0 kI1 (uE kI1 kI6 (uE kI1 kI9 (uE kJ9223372036854775808 kI9223372036854775807 uE0))))) (uA kN0 (rA kI90) (uA kN1 (uic kI2) (uA kN2 (uis kN0) (uA kN3 (uic kI1) (uA kN4 (uic kI0) uA0))))) (uS (uis kN1) uS0) (uO kN90 kN30 (uis kN2) (uO kN91 kN0 (uis kN3) (uO kN107 kN2 (uic kI1) (uO kN109 kN120 (uls kN4) uO0)))) kI4468 (uL kJ688 kN0 uL0))
  (uK (uC kN70 (uE kI0 kI5 (uE kI0 kI1 (uE kI0 kI1 (uE kI1 kI6 (uE kI1 kI9 uE0))))) (uA kN0 (rA kI90) (uA kN1 (uic kI2) (uA kN2 (uis kN0) (uA kN3 (uis kN1) (uA kN4 (uis kN2) uA0))))) uS0 (uO kN90 kN30 (uis kN3) (uO kN91 kN0 (uis kN4) (uO kN107 kN2 (uic kI1) uO0))) kI4226 (uL kJ688 kN0 uL0))
  uK0)))) = true := by decide +kernel
theorem r375 {l : Launch} {D : va_G} {tys : List (ClassId × FieldType)} {A : Nat → Prop} {ad : Nat → Nat} (hAD : ∀ i : Nat, ad (1000 + i) = D.2 1000 i) : CRok l D tys A ad GG 2 g375 := CR_of_vrf (dep := 1) hAD (fun c hc => by cases hc) T2OK_nil w375
noncomputable def g376 : CR := (307, [(2, 90, 90), (0, 2, 2)], [((91, 0), (0, 1, 9)), ((107, 2), (0, 2, 2))], some (0, 0, 1), [], [])
theorem w376 : vrf GG [] [] 300 1 g376
  (uK (uC kN2 (uE kI0 kI5 (uE kI1 kI9 uE0)) (uA kN0 (rA kI90) (uA kN1 (uic kI2) (uA kN2 (uis kN0) uA0))) uS0 (uO kN91 kN0 (uis kN1) (uO kN107 kN2 (uic kI2) uO0)) kI5154 (uL kJ860 kN0 uL0))
  (uK (uC kN22 (uE kI0 kI4 (uE kI0 kI1 (uE kI0 kI2 (uE kI2 kI6 (uE kI1 kI9 uE0))))) (uA kN0 (rA kI90) (uA kN1 (uic kI2) (uA kN2 (uis kN0) (uA kN3 (uis kN1) (uA kN4 (uis kN2) uA0))))) uS0 (uO kN90 kN30 (uis kN3) (uO kN91 kN0 (uis kN4) (uO kN107 kN2 (uic kI2) uO0))) kI4853 (uL kJ172 kN2 (uL kJ860 kN0 uL0)))
  (uK (uC kN63 (uE kI0 kI4 (uE kI0 kI1 (uE kI0 kI1 (uE kI2 kI6 (uE kI1 kI9 uE0))))) (uA kN0 (rA kI90) (uA kN1 (uic kI2) (uA kN2 (uis kN0) (uA kN3 (uic kI1) (uA kN4 (uis kN1) uA0))))) (uS (uis kN2) uS0) (uO kN90 kN30 (uis kN3) (uO kN91 kN0 (uis kN4) (uO kN107 kN2 (uic kI2) uO0))) kI4812 (uL kJ172 kN1 (uL kJ860 kN0 uL0)))
  (uK (uC kN70 (uE kI0 kI4 (uE kI0 kI1 (uE kI0 kI2 (uE kI2 kI6 (uE kI1 kI9 uE0))))) (uA kN0 (rA kI90) (uA kN1 (uic kI2) (uA kN2 (uis kN0) (uA kN3 (uis kN1) (uA kN4 (uis kN2) uA0))))) uS0 (uO kN90 kN30 (uis kN3) (uO kN91 kN0 (uis kN4) (uO kN107 kN2 (uic kI2) uO0))) kI4398 (uL kJ860 kN0 uL0))
  uK0)))) = true := by decide +kernel
theorem r376 {l : Launch} {D : va_G} {tys : List (ClassId × FieldType)} {A : Nat → Prop} {ad : Nat → Nat} (hAD : ∀ i : Nat, ad (1000 + i) = D.2 1000 i) : CRok l D tys A ad GG 2 g376 := CR_of_vrf (dep := 1) hAD (fun c hc => by cases hc) T2OK_nil w376
noncomputable def g377 : CR := (307, [(2, 90, 90), (0, 2, 2)], [((91, 0), (0, 1, 9)), ((107, 2), (0, 3, 3))], some (0, 0, 1), [], [])
theorem w377 : vrf GG [] [] 300 1 g377
  (uK (uC kN2 (uE kI0 kI4 (uE kI1 kI9 uE0)) (uA kN0 (rA kI90) (uA kN1 (uic kI2) (uA kN2 (uis kN0) uA0))) uS0 (uO kN91 kN0 (uis kN1) (uO kN107 kN2 (uic kI3) uO0)) kI5154 (uL kJ1032 kN0 uL0))
  (uK (uC kN22 (uE kI0 kI3 (uE kI0 kI1 (uE kI0 kI3 (uE kI3 kI6 (uE kI1 kI9 uE0))))) (uA kN0 (rA kI90) (uA kN1 (uic kI2) (uA kN2 (uis kN0) (uA kN3 (uis kN1) (uA kN4 (uis kN2) uA0))))) uS0 (uO kN90 kN30 (uis kN3) (uO kN91 kN0 (uis kN4) (uO kN107 kN2 (uic kI3) uO0))) kI4853 (uL kJ172 kN2 (uL kJ1032 kN0 uL0)))
  (uK (uC kN63 (uE kI0 kI3 (uE kI0 kI2 (uE kI0 kI1 (uE kI3 kI6 (uE kI1 kI9 uE0))))) (uA kN0 (rA kI90) (uA kN1 (uic kI2) (uA kN2 (uis kN0) (uA kN3 (uic kI1) (uA kN4 (uis kN1) uA0))))) (uS (uis kN2) uS0) (uO kN90 kN30 (uis kN3) (uO kN91 kN0 (uis kN4) (uO kN107 kN2 (uic kI3) uO0))) kI4812 (uL kJ172 kN1 (uL kJ1032 kN0 uL0)))
  (uK (uC kN70 (uE kI0 kI3 (uE kI0 kI1 (uE kI0 kI3 (uE kI3 kI6 (uE kI1 kI9 uE0))))) (uA kN0 (rA kI90) (uA kN1 (uic kI2) (uA kN2 (uis kN0) (uA kN3 (uis kN1) (uA kN4 (uis kN2) uA0))))) uS0 (uO kN90 kN30 (uis kN3) (uO kN91 kN0 (uis kN4) (uO kN107 kN2 (uic kI3) uO0))) kI4226 (uL kJ1032 kN0 uL0))
  uK0)))) = true := by decide +kernel
theorem r377 {l : Launch} {D : va_G} {tys : List (ClassId × FieldType)} {A : Nat → Prop} {ad : Nat → Nat} (hAD : ∀ i : Nat, ad (1000 + i) = D.2 1000 i) : CRok l D tys A ad GG 2 g377 := CR_of_vrf (dep := 1) hAD (fun c hc => by cases hc) T2OK_nil w377
noncomputable def g378 : CR := (307, [(2, 90, 90), (0, 2, 2)], [((91, 0), (0, 1, 9)), ((107, 2), (0, 4, 4))], some (0, 0, 1), [], [])
theorem w378 : vrf GG [] [] 300 1 g378
  (uK (uC kN2 (uE kI0 kI3 (uE kI1 kI9 uE0)) (uA kN0 (rA kI90) (uA kN1 (uic kI2) (uA kN2 (uis kN0) uA0))) uS0 (uO kN91 kN0 (uis kN1) (uO kN107 kN2 (uic kI4) uO0)) kI4810 (uL kJ1204 kN0 uL0))
  (uK (uC kN22 (uE kI0 kI2 (uE kI0 kI1 (uE kI0 kI4 (uE kI4 kI6 (uE kI1 kI9 uE0))))) (uA kN0 (rA kI90) (uA kN1 (uic kI2) (uA kN2 (uis kN0) (uA kN3 (uis kN1) (uA kN4 (uis kN2) uA0))))) uS0 (uO kN90 kN30 (uis kN3) (uO kN91 kN0 (uis kN4) (uO kN107 kN2 (uic kI4) uO0))) kI4509 (uL kJ172 kN2 (uL kJ1204 kN0 uL0)))
  (uK (uC kN63 (uE kI0 kI2 (uE kI0 kI3 (uE kI0 kI1 (uE kI4 kI6 (uE kI1 kI9 uE0))))) (uA kN0 (rA kI90) (uA kN1 (uic kI2) (uA kN2 (uis kN0) (uA kN3 (uic kI1) (uA kN4 (uis kN1) uA0))))) (uS (uis kN2) uS0) (uO kN90 kN30 (uis kN3) (uO kN91 kN0 (uis kN4) (uO kN107 kN2 (uic kI4) uO0))) kI4468 (uL kJ172 kN1 (uL kJ1204 kN0 uL0)))
  (uK (uC kN70 (uE kI0 kI2 (uE kI0 kI1 (uE kI0 kI4 (uE kI4 kI6 (uE kI1 kI9 uE0))))) (uA kN0 (rA kI90) (uA kN1 (uic kI2) (uA kN2 (uis kN0) (uA kN3 (uis kN1) (uA kN4 (uis kN2) uA0))))) uS0 (uO kN90 kN30 (uis kN3) (uO kN91 kN0 (uis kN4) (uO kN107 kN2 (uic kI4) uO0))) kI3710 (uL kJ1204 kN0 uL0))
  uK0)))) = true := by decide +kernel
theorem r378 {l : Launch} {D : va_G} {tys : List (ClassId × FieldType)} {A : Nat → Prop} {ad : Nat → Nat} (hAD : ∀ i : Nat, ad (1000 + i) = D.2 1000 i) : CRok l D tys A ad GG 2 g378 := CR_of_vrf (dep := 1) hAD (fun c hc => by cases hc) T2OK_nil w378
noncomputable def g379 : CR := (307, [(2, 90, 90), (0, 2, 2)], [((91, 0), (0, 1, 9)), ((107, 2), (0, 5, 5))], some (0, 0, 1), [], [])
theorem w379 : vrf GG [] [] 300 1 g379
  (uK (uC kN2 (uE kI0 kI2 (uE kI1 kI9 uE0)) (uA kN0 (rA kI90) (uA kN1 (uic kI2) (uA kN2 (uis kN0) uA0))) uS0 (uO kN91 kN0 (uis kN1) (uO kN107 kN2 (uic kI5) uO0)) kI4122 (uL kJ1376 kN0 uL0))
  (uK (uC kN22 (uE kI0 kI1 (uE kI0 kI1 (uE kI0 kI5 (uE kI5 kI6 (uE kI1 kI9 uE0))))) (uA kN0 (rA kI90) (uA kN1 (uic kI2) (uA kN2 (uis kN0) (uA kN3 (uis kN1) (uA kN4 (uis kN2) uA0))))) uS0 (uO kN90 kN30 (uis kN3) (uO kN91 kN0 (uis kN4) (uO kN107 kN2 (uic kI5) uO0))) kI3821 (uL kJ172 kN2 (uL kJ1376 kN0 uL0)))
  (uK (uC kN63 (uE kI0 kI1 (uE kI0 kI4 (uE kI0 kI1 (uE kI5 kI6 (uE kI1 kI9 uE0))))) (uA kN0 (rA kI90) (uA kN1 (uic kI2) (uA kN2 (uis kN0) (uA kN3 (uic kI1) (uA kN4 (uis kN1) uA0))))) (uS (uis kN2) uS0) (uO kN90 kN30 (uis kN3) (uO kN91 kN0 (uis kN4) (uO kN107 kN2 (uic kI5) uO0))) kI3780 (uL kJ172 kN1 (uL kJ1376 kN0 uL0)))
  (uK (uC kN70 (uE kI0 kI1 (uE kI0 kI1 (uE kI0 kI5 (uE kI5 kI6 (uE kI1 kI9 uE0))))) (uA kN0 (rA kI90) (uA kN1 (uic kI2) (uA kN2 (uis kN0) (uA kN3 (uis kN1) (uA kN4 (uis kN2) uA0))))) uS0 (uO kN90 kN30 (uis kN3) (uO kN91 kN0 (uis kN4) (uO kN107 kN2 (uic kI5) uO0))) kI2850 (uL kJ1376 kN0 uL0))
  uK0)))) = true := by decide +kernel
theorem r379 {l : Launch} {D : va_G} {tys : List (ClassId × FieldType)} {A : Nat → Prop} {ad : Nat → Nat} (hAD : ∀ i : Nat, ad (1000 + i) = D.2 1000 i) : CRok l D tys A ad GG 2 g379 := CR_of_vrf (dep := 1) hAD (fun c hc => by cases hc) T2OK_nil w379
noncomputable def g380 : CR := (307, [(2, 90, 90), (0, 2, 2)], [((91, 0), (0, 1, 9)), ((107, 2), (0, 6, 6))], some (0, 0, 1), [], [])
theorem w380 : vrf GG [] [] 300 1 g380
  (uK (uC kN2 (uE kI0 kI1 (uE kI1 kI9 uE0)) (uA kN0 (rA kI90) (uA kN1 (uic kI2) (uA kN2 (uis kN0) uA0))) uS0 (uO kN91 kN0 (uis kN1) (uO kN107 kN2 (uic kI6) uO0)) kI3090 (uL kJ1548 kN0 uL0))
  (uK (uC kN22 (uE kI0 kI1 (uE kI0 kI6 (uE kI1 kI9 uE0))) (uA kN0 (rA kI90) (uA kN1 (uic kI2) (uA kN2 (uic kI0) (uA kN3 (uis kN0) (uA kN4 (uis kN1) uA0))))) uS0 (uO kN90 kN30 (uic kI6) (uO kN91 kN0 (uis kN2) (uO kN107 kN2 (uic kI6) uO0))) kI2789 (uL kJ172 kN1 uL0))
  (uK (uC kN63 (uE kI0 kI5 (uE kI0 kI1 (uE kI1 kI9 uE0))) (uA kN0 (rA kI90) (uA kN1 (uic kI2) (uA kN2 (uic kI0) (uA kN3 (uic kI1) (uA kN4 (uis kN0) uA0))))) (uS (uis kN1) uS0) (uO kN90 kN30 (uic kI6) (uO kN91 kN0 (uis kN2) (uO kN107 kN2 (uic kI6) uO0))) kI2748 (uL kJ172 kN0 uL0))
  (uK (uC kN70 (uE kI0 kI1 (uE kI0 kI6 (uE kI1 kI9 uE0))) (uA kN0 (rA kI90) (uA kN1 (uic kI2) (uA kN2 (uic kI0) (uA kN3 (uis kN0) (uA kN4 (uis kN1) uA0))))) uS0 (uO kN90 kN30 (uic kI6) (uO kN91 kN0 (uis kN2) (uO kN107 kN2 (uic kI6) uO0))) kI1646 uL0)
  uK0)))) = true := by decide +kernel
theorem r380 {l : Launch} {D : va_G} {tys : List (ClassId × FieldType)} {A : Nat → Prop} {ad : Nat → Nat} (hAD : ∀ i : Nat, ad (1000 + i) = D.2 1000 i) : CRok l D tys A ad GG 2 g380 := CR_of_vrf (dep := 1) hAD (fun c hc => by cases hc) T2OK_nil w380
noncomputable def g381 : CR := (307, [(2, 90, 90), (0, 2, 2)], [((91, 0), (0, 1, 9)), ((107, 2), (0, 7, 60))], some (0, 0, 0), [], [])
theorem w381 : vrf GG [] [] 300 0 g381
  (uK (uC kN2 (uE kI1 kI9 (uE kI7 kI60 uE0)) (uA kN0 (rA kI90) (uA kN1 (uic kI2) (uA kN2 (uic kI0) uA0))) uS0 (uO kN91 kN0 (uis kN0) (uO kN107 kN2 (uis kN1) uO0)) kI510 uL0)
  uK0) = true := by decide +kernel
theorem r381 {l : Launch} {D : va_G} {tys : List (ClassId × FieldType)} {A : Nat → Prop} {ad : Nat → Nat} (hAD : ∀ i : Nat, ad (1000 + i) = D.2 1000 i) : CRok l D tys A ad GG 1 g381 := CR_of_vrf (dep := 0) hAD (fun c hc => by cases hc) T2OK_nil w381
noncomputable def g382 : CR := (307, [(2, 90, 90), (0, 3, 3)], [((91, 0), (0, 1, 9)), ((107, 3), (0, (-1), (-1)))], some (0, 1, 1), [], [])
theorem w382 : vrf GG [] [] 300 0 g382
  (uK (uC kN2 (uE kI1 kI9 uE0) (uA kN0 (rA kI90) (uA kN1 (uic kI3) (uA kN2 (uic kI0) uA0))) uS0 (uO kN91 kN0 (uis kN0) (uO kN107 kN3 (uic kJ1) uO0)) kI510 uL0)
  (uK (uC kN22 (uE kI0 kI6 (uE kI1 kI9 uE0)) (uA kN0 (rA kI90) (uA kN1 (uic kI3) (uA kN2 (uic kI0) (uA kN3 (uic kI1) (uA kN4 (uic kI0) uA0))))) uS0 (uO kN90 kN30 (uis kN0) (uO kN91 kN0 (uis kN1) (uO kN107 kN3 (uic kJ1) uO0))) kI209 uL0)
  (uK (uC kN70 (uE kI0 kI6 (uE kI1 kI9 uE0)) (uA kN0 (rA kI90) (uA kN1 (uic kI3) (uA kN2 (uic kI0) (uA kN3 (uic kI1) (uA kN4 (uic kI0) uA0))))) uS0 (uO kN90 kN30 (uis kN0) (uO kN91 kN0 (uis kN1) (uO kN107 kN3 (uic kJ1) uO0))) kI98 uL0)
  uK0))) = true := by decide +kernel
theorem r382 {l : Launch} {D : va_G} {tys : List (ClassId × FieldType)} {A : Nat → Prop} {ad : Nat → Nat} (hAD : ∀ i : Nat, ad (1000 + i) = D.2 1000 i) : CRok l D tys A ad GG 1 g382 := CR_of_vrf (dep := 0) hAD (fun c hc => by cases hc) T2OK_nil w382
noncomputable def g383 : CR := (307, [(2, 90, 90), (0, 3, 3)], [((91, 0), (0, 1, 9)), ((107, 3), (0, 0, 0))], some (0, 1, 1), [], [])
theorem w383 : vrf GG [] [] 300 0 g383
  (uK (uC kN2 (uE kI1 kI9 uE0) (uA kN0 (rA kI90) (uA kN1 (uic kI3) (uA kN2 (uic kI0) uA0))) uS0 (uO kN91 kN0 (uis kN0) (uO kN107 kN3 (uic kI0) uO0)) kI510 uL0)
  (uK (uC kN22 (uE kI0 kI6 (uE kI1 kI9 uE0)) (uA kN0 (rA kI90) (uA kN1 (uic kI3) (uA kN2 (uic kI0) (uA kN3 (uic kI1) (uA kN4 (uic kI0) uA0))))) uS0 (uO kN90 kN30 (uis kN0) (uO kN91 kN0 (uis kN1) (uO kN107 kN3 (uic kI0) uO0))) kI209 uL0)
  (uK (uC kN70 (uE kI0 kI6 (uE kI1 kI9 uE0)) (uA kN0 (rA kI90) (uA kN1 (uic kI3) (uA kN2 (uic kI0) (uA kN3 (uic kI1) (uA kN4 (uic kI0) uA0))))) uS0 (uO kN90 kN30 (uis kN0) (uO kN91 kN0 (uis kN1) (uO kN107 kN3 (uic kI0) uO0))) kI98 uL0)
  uK0))) = true := by decide +kernel
theorem r383 {l : Launch} {D : va_G} {tys : List (ClassId × FieldType)} {A : Nat → Prop} {ad : Nat → Nat} (hAD : ∀ i : Nat, ad (1000 + i) = D.2 1000 i) : CRok l D tys A ad GG 1 g383 := CR_of_vrf (dep := 0) hAD (fun c hc => by cases hc) T2OK_nil w383
noncomputable def g384 : CR := (307, [(2, 90, 90), (0, 3, 3)], [((91, 0), (0, 1, 9)), ((107, 3), (0, 1, 1))], some (0, 0, 1), [], [])
theorem w384 : vrf GG [] [] 300 1 g384
  (uK (uC kN2 (uE kI0 kI6 (uE kI1 kI9 uE0)) (uA kN0 (rA kI90) (uA kN1 (uic kI3) (uA kN2 (uis kN0) uA0))) uS0 (uO kN91 kN0 (uis kN1) (uO kN107 kN3 (uic kI1) uO0)) kI4810 (uL kJ688 kN0 uL0))
  (uK (uC kN22 (uE kI0 kI5 (uE kI0 kI1 (uE kI0 kI1 (uE kI1 kI6 (uE kI1 kI9 uE0))))) (uA kN0 (rA kI90) (uA kN1 (uic kI3) (uA kN2 (uis kN0) (uA kN3 (uis kN1) (uA kN4 (uis kN2) uA0))))) uS0 (uO kN90 kN30 (uis kN3) (uO kN91 kN0 (uis kN4) (uO kN107 kN3 (uic kI1) uO0))) kI4509 (uL kJ172 kN2 (uL kJ688 kN0 uL0)))
  (uK (uC kN63 (uE kI0 kI5 (uE kI0 kI1 (uE kI1 kI6 (uE kI1 kI9 (uE kJ9223372036854775808 kI9223372036854775807 uE0))))) (uA kN0 (rA kI90) (uA kN1 (uic kI3) (uA kN2 (uis kN0) (uA kN3 (uic kI1) (uA kN4 (uic kI0) uA0))))) (uS (uis kN1) uS0) (uO kN90 kN30 (uis kN2) (uO kN91 kN0 (uis kN3) (uO kN107 kN3 (uic kI1) (uO kN109 kN180 (uls kN4) uO0)))) kI4468 (uL kJ688 kN0 uL0))
  (uK (uC kN70 (uE kI0 kI5 (uE kI0 kI1 (uE kI0 kI1 (uE kI1 kI6 (uE kI1 kI9 uE0))))) (uA kN0 (rA kI90) (uA kN1 (uic kI3) (uA kN2 (uis kN0) (uA kN3 (uis kN1) (uA kN4 (uis kN2) uA0))))) uS0 (uO kN90 kN30 (uis kN3) (uO kN91 kN0 (uis kN4) (uO kN107 kN3 (uic kI1) uO0))) kI4226 (uL kJ688 kN0 uL0))
  uK0)))) = true := by decide +kernel
theorem r384 {l : Launch} {D : va_G} {tys : List (ClassId × FieldType)} {A : Nat → Prop} {ad : Nat → Nat} (hAD : ∀ i : Nat, ad (1000 + i) = D.2 1000 i) : CRok l D tys A ad GG 2 g384 := CR_of_vrf (dep := 1) hAD (fun c hc => by cases hc) T2OK_nil w384
noncomputable def g385 : CR := (307, [(2, 90, 90), (0, 3, 3)], [((91, 0), (0, 1, 9)), ((107, 3), (0, 2, 2))], some (0, 0, 1), [], [])
theorem w385 : vrf GG [] [] 300 1 g385
  (uK (uC kN2 (uE kI0 kI5 (uE kI1 kI9 uE0)) (uA kN0 (rA kI90) (uA kN1 (uic kI3) (uA kN2 (uis kN0) uA0))) uS0 (uO kN91 kN0 (uis kN1) (uO kN107 kN3 (uic kI2) uO0)) kI5154 (uL kJ860 kN0 uL0))
  (uK (uC kN22 (uE kI0 kI4 (uE kI0 kI1 (uE kI0 kI2 (uE kI2 kI6 (uE kI1 kI9 uE0))))) (uA kN0 (rA kI90) (uA kN1 (uic kI3) (uA kN2 (uis kN0) (uA kN3 (uis kN1) (uA kN4 (uis kN2) uA0))))) uS0 (uO kN90 kN30 (uis kN3) (uO kN91 kN0 (uis kN4) (uO kN107 kN3 (uic kI2) uO0))) kI4853 (uL kJ172 kN2 (uL kJ860 kN0 uL0)))
  (uK (uC kN63 (uE kI0 kI4 (uE kI0 kI1 (uE kI0 kI1 (uE kI2 kI6 (uE kI1 kI9 uE0))))) (uA kN0 (rA kI90) (uA kN1 (uic kI3) (uA kN2 (uis kN0) (uA kN3 (uic kI1) (uA kN4 (uis kN1) uA0))))) (uS (uis kN2) uS0) (uO kN90 kN30 (uis kN3) (uO kN91 kN0 (uis kN4) (uO kN107 kN3 (uic kI2) uO0))) kI4812 (uL kJ172 kN1 (uL kJ860 kN0 uL0)))
  (uK (uC kN70 (uE kI0 kI4 (uE kI0 kI1 (uE kI0 kI2 (uE kI2 kI6 (uE kI1 kI9 uE0))))) (uA kN0 (rA kI90) (uA kN1 (uic kI3) (uA kN2 (uis kN0) (uA kN3 (uis kN1) (uA kN4 (uis kN2) uA0))))) uS0 (uO kN90 kN30 (uis kN3) (uO kN91 kN0 (uis kN4) (uO kN107 kN3 (uic kI2) uO0))) kI4398 (uL kJ860 kN0 uL0))
  uK0)))) = true := by decide +kernel
theorem r385 {l : Launch} {D : va_G} {tys : List (ClassId × FieldType)} {A : Nat → Prop} {ad : Nat → Nat} (hAD : ∀ i : Nat, ad (1000 + i) = D.2 1000 i) : CRok l D tys A ad GG 2 g385 := CR_of_vrf (dep := 1) hAD (fun c hc => by cases hc) T2OK_nil w385
noncomputable def g386 : CR := (307, [(2, 90, 90), (0, 3, 3)], [((91, 0), (0, 1, 9)), ((107, 3), (0, 3, 3))], some (0, 0, 1), [], [])
theorem w386 : vrf GG [] [] 300 1 g386
  (uK (uC kN2 (uE kI0 kI4 (uE kI1 kI9 uE0)) (uA kN0 (rA kI90) (uA kN1 (uic kI3) (uA kN2 (uis kN0) uA0))) uS0 (uO kN91 kN0 (uis kN1) (uO kN107 kN3 (uic kI3) uO0)) kI5154 (uL kJ1032 kN0 uL0))
  (uK (uC kN22 (uE kI0 kI3 (uE kI0 kI1 (uE kI0 kI3 (uE kI3 kI6 (uE kI1 kI9 uE0))))) (uA kN0 (rA kI90) (uA kN1 (uic kI3) (uA kN2 (uis kN0) (uA kN3 (uis kN1) (uA kN4 (uis kN2) uA0))))) uS0 (uO kN90 kN30 (uis kN3) (uO kN91 kN0 (uis kN4) (uO kN107 kN3 (uic kI3) uO0))) kI4853 (uL kJ172 kN2 (uL kJ1032 kN0 uL0)))
  (uK (uC kN63 (uE kI0 kI3 (uE kI0 kI2 (uE kI0 kI1 (uE kI3 kI6 (uE kI1 kI9 uE0))))) (uA kN0 (rA kI90) (uA kN1 (uic kI3) (uA kN2 (uis kN0) (uA kN3 (uic kI1) (uA kN4 (uis kN1) uA0))))) (uS (uis kN2) uS0) (uO kN90 kN30 (uis kN3) (uO kN91 kN0 (uis kN4) (uO kN107 kN3 (uic kI3) uO0))) kI4812 (uL kJ172 kN1 (uL kJ1032 kN0 uL0)))
  (uK (uC kN70 (uE kI0 kI3 (uE kI0 kI1 (uE kI0 kI3 (uE kI3 kI6 (uE kI1 kI9 uE0))))) (uA kN0 (rA kI90) (uA kN1 (uic kI3) (uA kN2 (uis kN0) (uA kN3 (uis kN1) (uA kN4 (uis kN2) uA0))))) uS0 (uO kN90 kN30 (uis kN3) (uO kN91 kN0 (uis kN4) (uO kN107 kN3 (uic kI3) uO0))) kI4226 (uL kJ1032 kN0 uL0))
  uK0)))) = true := by decide +kernel
theorem r386 {l : Launch} {D : va_G} {tys : List (ClassId × FieldType)} {A : Nat → Prop} {ad : Nat → Nat} (hAD : ∀ i : Nat, ad (1000 + i) = D.2 1000 i) : CRok l D tys A ad GG 2 g386 := CR_of_vrf (dep := 1) hAD (fun c hc => by cases hc) T2OK_nil w386
noncomputable def g387 : CR := (307, [(2, 90, 90), (0, 3, 3)], [((91, 0), (0, 1, 9)), ((107, 3), (0, 4, 4))], some (0, 0, 1), [], [])
theorem w387 : vrf GG [] [] 300 1 g387
  (uK (uC kN2 (uE kI0 kI3 (uE kI1 kI9 uE0)) (uA kN0 (rA kI90) (uA kN1 (uic kI3) (uA kN2 (uis kN0) uA0))) uS0 (uO kN91 kN0 (uis kN1) (uO kN107 kN3 (uic kI4) uO0)) kI4810 (uL kJ1204 kN0 uL0))
  (uK (uC kN22 (uE kI0 kI2 (uE kI0 kI1 (uE kI0 kI4 (uE kI4 kI6 (uE kI1 kI9 uE0))))) (uA kN0 (rA kI90) (uA kN1 (uic kI3) (uA kN2 (uis kN0) (uA kN3 (uis kN1) (uA kN4 (uis kN2) uA0))))) uS0 (uO kN90 kN30 (uis kN3) (uO kN91 kN0 (uis kN4) (uO kN107 kN3 (uic kI4) uO0))) kI4509 (uL kJ172 kN2 (uL kJ1204 kN0 uL0)))
  (uK (uC kN63 (uE kI0 kI2 (uE kI0 kI3 (uE kI0 kI1 (uE kI4 kI6 (uE kI1 kI9 uE0))))) (uA kN0 (rA kI90) (uA kN1 (uic kI3) (uA kN2 (uis kN0) (uA kN3 (uic kI1) (uA kN4 (uis kN1) uA0))))) (uS (uis kN2) uS0) (uO kN90 kN30 (uis kN3) (uO kN91 kN0 (uis kN4) (uO kN107 kN3 (uic kI4) uO0))) kI4468 (uL kJ172 kN1 (uL kJ1204 kN0 uL0)))
  (uK (uC kN70 (uE kI0 kI2 (uE kI0 kI1 (uE kI0 kI4 (uE kI4 kI6 (uE kI1 kI9 uE0))))) (uA kN0 (rA kI90) (uA kN1 (uic kI3) (uA kN2 (uis kN0) (uA kN3 (uis kN1) (uA kN4 (uis kN2) uA0))))) uS0 (uO kN90 kN30 (uis kN3) (uO kN91 kN0 (uis kN4) (uO kN107 kN3 (uic kI4) uO0))) kI3710 (uL kJ1204 kN0 uL0))
  uK0)))) = true := by decide +kernel
theorem r387 {l : Launch} {D : va_G} {tys : List (ClassId × FieldType)} {A : Nat → Prop} {ad : Nat → Nat} (hAD : ∀ i : Nat, ad (1000 + i) = D.2 1000 i) : CRok l D tys A ad GG 2 g387 := CR_of_vrf (dep := 1) hAD (fun c hc => by cases hc) T2OK_nil w387
noncomputable def g388 : CR := (307, [(2, 90, 90), (0, 3, 3)], [((91, 0), (0, 1, 9)), ((107, 3), (0, 5, 5))], some (0, 0, 1), [], [])
theorem w388 : vrf GG [] [] 300 1 g388
  (uK (uC kN2 (uE kI0 kI2 (uE kI1 kI9 uE0)) (uA kN0 (rA kI90) (uA kN1 (uic kI3) (uA kN2 (uis kN0) uA0))) uS0 (uO kN91 kN0 (uis kN1) (uO kN107 kN3 (uic kI5) uO0)) kI4122 (uL kJ1376 kN0 uL0))
  (uK (uC kN22 (uE kI0 kI1 (uE kI0 kI1 (uE kI0 kI5 (uE kI5 kI6 (uE kI1 kI9 uE0))))) (uA kN0 (rA kI90) (uA kN1 (uic kI3) (uA kN2 (uis kN0) (uA kN3 (uis kN1) (uA kN4 (uis kN2) uA0))))) uS0 (uO kN90 kN30 (uis kN3) (uO kN91 kN0 (uis kN4) (uO kN107 kN3 (uic kI5) uO0))) kI3821 (uL kJ172 kN2 (uL kJ1376 kN0 uL0)))
  (uK (uC kN63 (uE kI0 kI1 (uE kI0 kI4 (uE kI0 kI1 (uE kI5 kI6 (uE kI1 kI9 uE0))))) (uA kN0 (rA kI90) (uA kN1 (uic kI3) (uA kN2 (uis kN0) (uA kN3 (uic kI1) (uA kN4 (uis kN1) uA0))))) (uS (uis kN2) uS0) (uO kN90 kN30 (uis kN3) (uO kN91 kN0 (uis kN4) (uO kN107 kN3 (uic kI5) uO0))) kI3780 (uL kJ172 kN1 (uL kJ1376 kN0 uL0)))
  (uK (uC kN70 (uE kI0 kI1 (uE kI0 kI1 (uE kI0 kI5 (uE kI5 kI6 (uE kI1 kI9 uE0))))) (uA kN0 (rA kI90) (uA kN1 (uic kI3) (uA kN2 (uis kN0) (uA kN3 (uis kN1) (uA kN4 (uis kN2) uA0))))) uS0 (uO kN90 kN30 (uis kN3) (uO kN91 kN0 (uis kN4) (uO kN107 kN3 (uic kI5) uO0))) kI2850 (uL kJ1376 kN0 uL0))
  uK0)))) = true := by decide +kernel
theorem r388 {l : Launch} {D : va_G} {tys : List (ClassId × FieldType)} {A : Nat → Prop} {ad : Nat → Nat} (hAD : ∀ i : Nat, ad (1000 + i) = D.2 1000 i) : CRok l D tys A ad GG 2 g388 := CR_of_vrf (dep := 1) hAD (fun c hc => by cases hc) T2OK_nil w388
noncomputable def g389 : CR := (307, [(2, 90, 90), (0, 3, 3)], [((91, 0), (0, 1, 9)), ((107, 3), (0, 6, 6))], some (0, 0, 1), [], [])
theorem w389 : vrf GG [] [] 300 1 g389
  (uK (uC kN2 (uE kI0 kI1 (uE kI1 kI9 uE0)) (uA kN0 (rA kI90) (uA kN1 (uic kI3) (uA kN2 (uis kN0) uA0))) uS0 (uO kN91 kN0 (uis kN1) (uO kN107 kN3 (uic kI6) uO0)) kI3090 (uL kJ1548 kN0 uL0))
  (uK (uC kN22 (uE kI0 kI1 (uE kI0 kI6 (uE kI1 kI9 uE0))) (uA kN0 (rA kI90) (uA kN1 (uic kI3) (uA kN2 (uic kI0) (uA kN3 (uis kN0) (uA kN4 (uis kN1) uA0))))) uS0 (uO kN90 kN30 (uic kI6) (uO kN91 kN0 (uis kN2) (uO kN107 kN3 (uic kI6) uO0))) kI2789 (uL kJ172 kN1 uL0))
  (uK (uC kN63 (uE kI0 kI5 (uE kI0 kI1 (uE kI1 kI9 uE0))) (uA kN0 (rA kI90) (uA kN1 (uic kI3) (uA kN2 (uic kI0) (uA kN3 (uic kI1) (uA kN4 (uis kN0) uA0))))) (uS (uis kN1) uS0) (uO kN90 kN30 (uic kI6) (uO kN91 kN0 (uis kN2) (uO kN107 kN3 (uic kI6) uO0))) kI2748 (uL kJ172 kN0 uL0))
  (uK (uC kN70 (uE kI0 kI1 (uE kI0 kI6 (uE kI1 kI9 uE0))) (uA kN0 (rA kI90) (uA kN1 (uic kI3) (uA kN2 (uic kI0) (uA kN3 (uis kN0) (uA kN4 (uis kN1) uA0))))) uS0 (uO kN90 kN30 (uic kI6) (uO kN91 kN0 (uis kN2) (uO kN107 kN3 (uic kI6) uO0))) kI1646 uL0)
  uK0)))) = true := by decide +kernel
theorem r389 {l : Launch} {D : va_G} {tys : List (ClassId × FieldType)} {A : Nat → Prop} {ad : Nat → Nat} (hAD : ∀ i : Nat, ad (1000 + i) = D.2 1000 i) : CRok l D tys A ad GG 2 g389 := CR_of_vrf (dep := 1) hAD (fun c hc => by cases hc) T2OK_nil w389
noncomputable def g390 : CR := (307, [(2, 90, 90), (0, 3, 3)], [((91, 0), (0, 1, 9)), ((107, 3), (0, 7, 60))], some (0, 0, 0), [], [])
theorem w390 : vrf GG [] [] 300 0 g390
  (uK (uC kN2 (uE kI1 kI9 (uE kI7 kI60 uE0)) (uA kN0 (rA kI90) (uA kN1 (uic kI3) (uA kN2 (uic kI0) uA0))) uS0 (uO kN91 kN0 (uis kN0) (uO kN107 kN3 (uis kN1) uO0)) kI510 uL0)
  uK0) = true := by decide +kernel
theorem r390 {l : Launch} {D : va_G} {tys : List (ClassId × FieldType)} {A : Nat → Prop} {ad : Nat → Nat} (hAD : ∀ i : Nat, ad (1000 + i) = D.2 1000 i) : CRok l D tys A ad GG 1 g390 := CR_of_vrf (dep := 0) hAD (fun c hc => by cases hc) T2OK_nil w390
noncomputable def g391 : CR := (309, [(2, 90, 90), (0, 1, 1)], [((91, 0), (0, 1, 9))], some (0, 1, 9), [], [])
theorem w391 : vrf GG [] [] 300 0 g391
  [] = true := by decide +kernel
theorem r391 {l : Launch} {D : va_G} {tys : List (ClassId × FieldType)} {A : Nat → Prop} {ad : Nat → Nat} (hAD : ∀ i : Nat, ad (1000 + i) = D.2 1000 i) : CRok l D tys A ad GG 1 g391 := CR_of_vrf (dep := 0) hAD (fun c hc => by cases hc) T2OK_nil w391
noncomputable def g392 : CR := (310, [(2, 90, 90), (0, 0, 8), (0, 1, 1)], [((91, 0), (0, 1, 9))], none, [], [90, 105])
theorem w392 : vrf GG [] [] 300 0 g392
  (uK (uC kN12 (uE kI0 kI8 (uE kI0 kI8 (uE kJ1 kI0 (uE kI1 kI9 uE0)))) (uA kN0 (rA kI90) (uA kN1 (uis kN0) (uA kN2 (uic kI1) (uA kN3 (uis kN1) (uA kN4 (uis kN2) uA0))))) uS0 (uO kN90 kN30 (uic kI1) (uO kN91 kN0 (uis kN3) uO0)) kI174 (uL kI100 kN2 uL0))
  uK0) = true := by decide +kernel
theorem r392 {l : Launch} {D : va_G} {tys : List (ClassId × FieldType)} {A : Nat → Prop} {ad : Nat → Nat} (hAD : ∀ i : Nat, ad (1000 + i) = D.2 1000 i) : CRok l D tys A ad GG 1 g392 := CR_of_vrf (dep := 0) hAD (fun c hc => by cases hc) T2OK_nil w392
noncomputable def g393 : CR := (311, [(2, 90, 90), (0, 0, 3), (0, 1, 1)], [((91, 0), (0, 1, 9))], some (0, (-2147483648), 2147483647), [], [90, 105])
theorem w393 : vrf GG [(3, g354), (1, g355), (1, g356), (2, g357), (2, g358), (2, g359), (2, g360), (2, g361), (2, g362), (1, g363), (1, g364), (1, g365), (2, g366), (2, g367), (2, g368), (2, g369), (2, g370), (2, g371), (1, g372), (1, g373), (1, g374), (2, g375), (2, g376), (2, g377), (2, g378), (2, g379), (2, g380), (1, g381), (1, g382), (1, g383), (2, g384), (2, g385), (2, g386), (2, g387), (2, g388), (2, g389), (1, g390), (1, g391), (1, g392)] [] 300 3 g393
  (uK (uC kN27 (uE kI0 kI3 (uE kJ2147483648 kI2147483647 (uE kI0 kI9 (uE kI1 kI9 uE0)))) (uA kN0 (rA kI90) (uA kN1 (uis kN0) (uA kN2 (uic kI1) (uA kN3 (uic kI0) (uA kN4 (uis kN1) (uA kN5 (uis kN2) uA0)))))) uS0 (uO kN91 kN0 (uis kN3) uO0) (Int.ofNat (nat_lit 1404)) (uL kJ146 kN2 uL0))
  (uK (uC kN59 (uE kI0 kI3 (uE kJ2147483648 kI2147483647 (uE kI0 kI8 (uE kI0 kI1 (uE kJ2147483648 kI2147483647 (uE kI1 kI9 uE0)))))) (uA kN0 (rA kI90) (uA kN1 (uis kN0) (uA kN2 (uic kI1) (uA kN3 (uic kI0) (uA kN4 (uis kN1) (uA kN5 (uis kN2) uA0)))))) (uS (uis kN3) (uS (uis kN4) uS0)) (uO kN91 kN0 (uis kN5) uO0) (Int.ofNat (nat_lit 1372)) (uL kJ146 kN2 uL0))
  uK0)) = true := by decide +kernel
theorem r393 {l : Launch} {D : va_G} {tys : List (ClassId × FieldType)} {A : Nat → Prop} {ad : Nat → Nat} (hAD : ∀ i : Nat, ad (1000 + i) = D.2 1000 i) : CRok l D tys A ad GG 4 g393 := CR_of_vrf (dep := 3) hAD (List.forall_mem_cons.mpr ⟨r354 hAD, List.forall_mem_cons.mpr ⟨r355 hAD, List.forall_mem_cons.mpr ⟨r356 hAD, List.forall_mem_cons.mpr ⟨r357 hAD, List.forall_mem_cons.mpr ⟨r358 hAD, List.forall_mem_cons.mpr ⟨r359 hAD, List.forall_mem_cons.mpr ⟨r360 hAD, List.forall_mem_cons.mpr ⟨r361 hAD, List.forall_mem_cons.mpr ⟨r362 hAD, List.forall_mem_cons.mpr ⟨r363 hAD, List.forall_mem_cons.mpr ⟨r364 hAD, List.forall_mem_cons.mpr ⟨r365 hAD, List.forall_mem_cons.mpr ⟨r366 hAD, List.forall_mem_cons.mpr ⟨r367 hAD, List.forall_mem_cons.mpr ⟨r368 hAD, List.forall_mem_cons.mpr ⟨r369 hAD, List.forall_mem_cons.mpr ⟨r370 hAD, List.forall_mem_cons.mpr ⟨r371 hAD, List.forall_mem_cons.mpr ⟨r372 hAD, List.forall_mem_cons.mpr ⟨r373 hAD, List.forall_mem_cons.mpr ⟨r374 hAD, List.forall_mem_cons.mpr ⟨r375 hAD, List.forall_mem_cons.mpr ⟨r376 hAD, List.forall_mem_cons.mpr ⟨r377 hAD, List.forall_mem_cons.mpr ⟨r378 hAD, List.forall_mem_cons.mpr ⟨r379 hAD, List.forall_mem_cons.mpr ⟨r380 hAD, List.forall_mem_cons.mpr ⟨r381 hAD, List.forall_mem_cons.mpr ⟨r382 hAD, List.forall_mem_cons.mpr ⟨r383 hAD, List.forall_mem_cons.mpr ⟨r384 hAD, List.forall_mem_cons.mpr ⟨r385 hAD, List.forall_mem_cons.mpr ⟨r386 hAD, List.forall_mem_cons.mpr ⟨r387 hAD, List.forall_mem_cons.mpr ⟨r388 hAD, List.forall_mem_cons.mpr ⟨r389 hAD, List.forall_mem_cons.mpr ⟨r390 hAD, List.forall_mem_cons.mpr ⟨r391 hAD, List.forall_mem_cons.mpr ⟨r392 hAD, fun c hc => by cases hc⟩⟩⟩⟩⟩⟩⟩⟩⟩⟩⟩⟩⟩⟩⟩⟩⟩⟩⟩⟩⟩⟩⟩⟩⟩⟩⟩⟩⟩⟩⟩⟩⟩⟩⟩⟩⟩⟩⟩) T2OK_nil w393
noncomputable def g394 : CR := (309, [(2, 90, 90), (0, 2, 2)], [((91, 0), (0, 0, 0))], some (0, 0, 0), [], [])
theorem w394 : vrf GG [] [] 300 0 g394
  [] = true := by decide +kernel
theorem r394 {l : Launch} {D : va_G} {tys : List (ClassId × FieldType)} {A : Nat → Prop} {ad : Nat → Nat} (hAD : ∀ i : Nat, ad (1000 + i) = D.2 1000 i) : CRok l D tys A ad GG 1 g394 := CR_of_vrf (dep := 0) hAD (fun c hc => by cases hc) T2OK_nil w394
noncomputable def g395 : CR := (311, [(2, 90, 90), (0, 0, 3), (0, 2, 2)], [((91, 0), (0, 0, 0))], some (0, (-6), 0), [], [])
theorem w395 : vrf GG [(3, g351), (1, g394)] [] 300 3 g395
  (uK (uC kN27 (uE kI0 kI3 uE0) (uA kN0 (rA kI90) (uA kN1 (uis kN0) (uA kN2 (uic kI2) (uA kN3 (uic kI0) (uA kN4 (uic kI0) (uA kN5 (uic kI0) uA0)))))) uS0 (uO kN91 kN0 (uic kI0) uO0) kI90 uL0)
  uK0) = true := by decide +kernel
theorem r395 {l : Launch} {D : va_G} {tys : List (ClassId × FieldType)} {A : Nat → Prop} {ad : Nat → Nat} (hAD : ∀ i : Nat, ad (1000 + i) = D.2 1000 i) : CRok l D tys A ad GG 4 g395 := CR_of_vrf (dep := 3) hAD (List.forall_mem_cons.mpr ⟨r351 hAD, List.forall_mem_cons.mpr ⟨r394 hAD, fun c hc => by cases hc⟩⟩) T2OK_nil w395
noncomputable def g396 : CR := (309, [(2, 90, 90), (0, 2, 2)], [((91, 0), (0, 1, 9))], some (0, (-2147483648), 2147483647), [], [])
theorem w396 : vrf GG [] [] 300 0 g396
  [] = true := by decide +kernel
theorem r396 {l : Launch} {D : va_G} {tys : List (ClassId × FieldType)} {A : Nat → Prop} {ad : Nat → Nat} (hAD : ∀ i : Nat, ad (1000 + i) = D.2 1000 i) : CRok l D tys A ad GG 1 g396 := CR_of_vrf (dep := 0) hAD (fun c hc => by cases hc) T2OK_nil w396
noncomputable def g397 : CR := (310, [(2, 90, 90), (0, (-2147483647), 2147483646), (0, 2, 2)], [((91, 0), (0, 1, 9))], none, [], [90, 105])
theorem w397 : vrf GG [] [] 300 0 g397
  (uK (uC kN12 (uE kJ2147483647 kI2147483646 (uE kJ2147483647 kI2147483646 (uE kJ1 kI1 (uE kI1 kI9 uE0)))) (uA kN0 (rA kI90) (uA kN1 (uis kN0) (uA kN2 (uic kI2) (uA kN3 (uis kN1) (uA kN4 (uis kN2) uA0))))) uS0 (uO kN90 kN30 (uic kI2) (uO kN91 kN0 (uis kN3) uO0)) kI174 (uL kI100 kN2 uL0))
  uK0) = true := by decide +kernel
theorem r397 {l : Launch} {D : va_G} {tys : List (ClassId × FieldType)} {A : Nat → Prop} {ad : Nat → Nat} (hAD : ∀ i : Nat, ad (1000 + i) = D.2 1000 i) : CRok l D tys A ad GG 1 g397 := CR_of_vrf (dep := 0) hAD (fun c hc => by cases hc) T2OK_nil w397
noncomputable def g398 : CR := (311, [(2, 90, 90), (0, 0, 3), (0, 2, 2)], [((91, 0), (0, 1, 9))], some (0, (-2147483648), 2147483647), [], [90, 105])
theorem w398 : vrf GG [(3, g354), (1, g355), (1, g356), (2, g357), (2, g358), (2, g359), (2, g360), (2, g361), (2, g362), (1, g363), (1, g364), (1, g365), (2, g366), (2, g367), (2, g368), (2, g369), (2, g370), (2, g371), (1, g372), (1, g373), (1, g374), (2, g375), (2, g376), (2, g377), (2, g378), (2, g379), (2, g380), (1, g381), (1, g382), (1, g383), (2, g384), (2, g385), (2, g386), (2, g387), (2, g388), (2, g389), (1, g390), (1, g396), (1, g397)] [] 300 3 g398
  (uK (uC kN27 (uE kI0 kI3 (uE kJ2147483648 kI2147483647 (uE kJ2147483647 kI2147483647 (uE kI1 kI9 uE0)))) (uA kN0 (rA kI90) (uA kN1 (uis kN0) (uA kN2 (uic kI2) (uA kN3 (uic kI0) (uA kN4 (uis kN1) (uA kN5 (uis kN2) uA0)))))) uS0 (uO kN91 kN0 (uis kN3) uO0) kI313532612552 (uL kJ146 kN2 uL0))
  (uK (uC kN59 (uE kI0 kI3 (uE kJ2147483648 kI2147483647 (uE kJ2147483647 kI2147483646 (uE kI0 kI1 (uE kJ2147483648 kI2147483647 (uE kI1 kI9 uE0)))))) (uA kN0 (rA kI90) (uA kN1 (uis kN0) (uA kN2 (uic kI2) (uA kN3 (uic kI0) (uA kN4 (uis kN1) (uA kN5 (uis kN2) uA0)))))) (uS (uis kN3) (uS (uis kN4) uS0)) (uO kN91 kN0 (uis kN5) uO0) kI313532612520 (uL kJ146 kN2 uL0))
  uK0)) = true := by decide +kernel
theorem r398 {l : Launch} {D : va_G} {tys : List (ClassId × FieldType)} {A : Nat → Prop} {ad : Nat → Nat} (hAD : ∀ i : Nat, ad (1000 + i) = D.2 1000 i) : CRok l D tys A ad GG 4 g398 := CR_of_vrf (dep := 3) hAD (List.forall_mem_cons.mpr ⟨r354 hAD, List.forall_mem_cons.mpr ⟨r355 hAD, List.forall_mem_cons.mpr ⟨r356 hAD, List.forall_mem_cons.mpr ⟨r357 hAD, List.forall_mem_cons.mpr ⟨r358 hAD, List.forall_mem_cons.mpr ⟨r359 hAD, List.forall_mem_cons.mpr ⟨r360 hAD, List.forall_mem_cons.mpr ⟨r361 hAD, List.forall_mem_cons.mpr ⟨r362 hAD, List.forall_mem_cons.mpr ⟨r363 hAD, List.forall_mem_cons.mpr ⟨r364 hAD, List.forall_mem_cons.mpr ⟨r365 hAD, List.forall_mem_cons.mpr ⟨r366 hAD, List.forall_mem_cons.mpr ⟨r367 hAD, List.forall_mem_cons.mpr ⟨r368 hAD, List.forall_mem_cons.mpr ⟨r369 hAD, List.forall_mem_cons.mpr ⟨r370 hAD, List.forall_mem_cons.mpr ⟨r371 hAD, List.forall_mem_cons.mpr ⟨r372 hAD, List.forall_mem_cons.mpr ⟨r373 hAD, List.forall_mem_cons.mpr ⟨r374 hAD, List.forall_mem_cons.mpr ⟨r375 hAD, List.forall_mem_cons.mpr ⟨r376 hAD, List.forall_mem_cons.mpr ⟨r377 hAD, List.forall_mem_cons.mpr ⟨r378 hAD, List.forall_mem_cons.mpr ⟨r379 hAD, List.forall_mem_cons.mpr ⟨r380 hAD, List.forall_mem_cons.mpr ⟨r381 hAD, List.forall_mem_cons.mpr ⟨r382 hAD, List.forall_mem_cons.mpr ⟨r383 hAD, List.forall_mem_cons.mpr ⟨r384 hAD, List.forall_mem_cons.mpr ⟨r385 hAD, List.forall_mem_cons.mpr ⟨r386 hAD, List.forall_mem_cons.mpr ⟨r387 hAD, List.forall_mem_cons.mpr ⟨r388 hAD, List.forall_mem_cons.mpr ⟨r389 hAD, List.forall_mem_cons.mpr ⟨r390 hAD, List.forall_mem_cons.mpr ⟨r396 hAD, List.forall_mem_cons.mpr ⟨r397 hAD, fun c hc => by cases hc⟩⟩⟩⟩⟩⟩⟩⟩⟩⟩⟩⟩⟩⟩⟩⟩⟩⟩⟩⟩⟩⟩⟩⟩⟩⟩⟩⟩⟩⟩⟩⟩⟩⟩⟩⟩⟩⟩⟩) T2OK_nil w398
noncomputable def g399 : CR := (309, [(2, 90, 90), (0, 3, 3)], [((91, 0), (0, 0, 0))], some (0, 0, 0), [], [])
theorem w399 : vrf GG [] [] 300 0 g399
  [] = true := by decide +kernel
theorem r399 {l : Launch} {D : va_G} {tys : List (ClassId × FieldType)} {A : Nat → Prop} {ad : Nat → Nat} (hAD : ∀ i : Nat, ad (1000 + i) = D.2 1000 i) : CRok l D tys A ad GG 1 g399 := CR_of_vrf (dep := 0) hAD (fun c hc => by cases hc) T2OK_nil w399
noncomputable def g400 : CR := (311, [(2, 90, 90), (0, 0, 3), (0, 3, 3)], [((91, 0), (0, 0, 0))], some (0, (-6), 0), [], [])
theorem w400 : vrf GG [(3, g351), (1, g399)] [] 300 3 g400
  (uK (uC kN27 (uE kI0 kI3 uE0) (uA kN0 (rA kI90) (uA kN1 (uis kN0) (uA kN2 (uic kI3) (uA kN3 (uic kI0) (uA kN4 (uic kI0) (uA kN5 (uic kI0) uA0)))))) uS0 (uO kN91 kN0 (uic kI0) uO0) kI90 uL0)
  uK0) = true := by decide +kernel
theorem r400 {l : Launch} {D : va_G} {tys : List (ClassId × FieldType)} {A : Nat → Prop} {ad : Nat → Nat} (hAD : ∀ i : Nat, ad (1000 + i) = D.2 1000 i) : CRok l D tys A ad GG 4 g400 := CR_of_vrf (dep := 3) hAD (List.forall_mem_cons.mpr ⟨r351 hAD, List.forall_mem_cons.mpr ⟨r399 hAD, fun c hc => by cases hc⟩⟩) T2OK_nil w400
noncomputable def g401 : CR := (309, [(2, 90, 90), (0, 3, 3)], [((91, 0), (0, 1, 9))], some (0, (-2147483648), 2147483647), [], [])
theorem w401 : vrf GG [] [] 300 0 g401
  [] = true := by decide +kernel
theorem r401 {l : Launch} {D : va_G} {tys : List (ClassId × FieldType)} {A : Nat → Prop} {ad : Nat → Nat} (hAD : ∀ i : Nat, ad (1000 + i) = D.2 1000 i) : CRok l D tys A ad GG 1 g401 := CR_of_vrf (dep := 0) hAD (fun c hc => by cases hc) T2OK_nil w401
noncomputable def g402 : CR := (310, [(2, 90, 90), (0, (-2147483647), 2147483646), (0, 3, 3)], [((91, 0), (0, 1, 9))], none, [], [90, 105])
theorem w402 : vrf GG [] [] 300 0 g402
  (uK (uC kN12 (uE kJ2147483647 kI2147483646 (uE kJ2147483647 kI2147483646 (uE kJ1 kI2 (uE kI1 kI9 uE0)))) (uA kN0 (rA kI90) (uA kN1 (uis kN0) (uA kN2 (uic kI3) (uA kN3 (uis kN1) (uA kN4 (uis kN2) uA0))))) uS0 (uO kN90 kN30 (uic kI3) (uO kN91 kN0 (uis kN3) uO0)) kI174 (uL kI100 kN2 uL0))
  uK0) = true := by decide +kernel
theorem r402 {l : Launch} {D : va_G} {tys : List (ClassId × FieldType)} {A : Nat → Prop} {ad : Nat → Nat} (hAD : ∀ i : Nat, ad (1000 + i) = D.2 1000 i) : CRok l D tys A ad GG 1 g402 := CR_of_vrf (dep := 0) hAD (fun c hc => by cases hc) T2OK_nil w402
noncomputable def g403 : CR := (311, [(2, 90, 90), (0, 0, 3), (0, 3, 3)], [((91, 0), (0, 1, 9))], some (0, (-2147483648), 2147483647), [], [90, 105])
theorem w403 : vrf GG [(3, g354), (1, g355), (1, g356), (2, g357), (2, g358), (2, g359), (2, g360), (2, g361), (2, g362), (1, g363), (1, g364), (1, g365), (2, g366), (2, g367), (2, g368), (2, g369), (2, g370), (2, g371), (1, g372), (1, g373), (1, g374), (2, g375), (2, g376), (2, g377), (2, g378), (2, g379), (2, g380), (1, g381), (1, g382), (1, g383), (2, g384), (2, g385), (2, g386), (2, g387), (2, g388), (2, g389), (1, g390), (1, g401), (1, g402)] [] 300 3 g403
  (uK (uC kN27 (uE kI0 kI3 (uE kJ2147483648 kI2147483647 (uE kJ2147483647 kI2147483647 (uE kI1 kI9 uE0)))) (uA kN0 (rA kI90) (uA kN1 (uis kN0) (uA kN2 (uic kI3) (uA kN3 (uic kI0) (uA kN4 (uis kN1) (uA kN5 (uis kN2) uA0)))))) uS0 (uO kN91 kN0 (uis kN3) uO0) kI313532612552 (uL kJ146 kN2 uL0))
  (uK (uC kN59 (uE kI0 kI3 (uE kJ2147483648 kI2147483647 (uE kJ2147483647 kI2147483646 (uE kI0 kI1 (uE kJ2147483648 kI2147483647 (uE kI1 kI9 uE0)))))) (uA kN0 (rA kI90) (uA kN1 (uis kN0) (uA kN2 (uic kI3) (uA kN3 (uic kI0) (uA kN4 (uis kN1) (uA kN5 (uis kN2) uA0)))))) (uS (uis kN3) (uS (uis kN4) uS0)) (uO kN91 kN0 (uis kN5) uO0) kI313532612520 (uL kJ146 kN2 uL0))
  uK0)) = true := by decide +kernel
theorem r403 {l : Launch} {D : va_G} {tys : List (ClassId × FieldType)} {A : Nat → Prop} {ad : Nat → Nat} (hAD : ∀ i : Nat, ad (1000 + i) = D.2 1000 i) : CRok l D tys A ad GG 4 g403 := CR_of_vrf (dep := 3) hAD (List.forall_mem_cons.mpr ⟨r354 hAD, List.forall_mem_cons.mpr ⟨r355 hAD, List.forall_mem_cons.mpr ⟨r356 hAD, List.forall_mem_cons.mpr ⟨r357 hAD, List.forall_mem_cons.mpr ⟨r358 hAD, List.forall_mem_cons.mpr ⟨r359 hAD, List.forall_mem_cons.mpr ⟨r360 hAD, List.forall_mem_cons.mpr ⟨r361 hAD, List.forall_mem_cons.mpr ⟨r362 hAD, List.forall_mem_cons.mpr ⟨r363 hAD, List.forall_mem_cons.mpr ⟨r364 hAD, List.forall_mem_cons.mpr ⟨r365 hAD, List.forall_mem_cons.mpr ⟨r366 hAD, List.forall_mem_cons.mpr ⟨r367 hAD, List.forall_mem_cons.mpr ⟨r368 hAD, List.forall_mem_cons.mpr ⟨r369 hAD, List.forall_mem_cons.mpr ⟨r370 hAD, List.forall_mem_cons.mpr ⟨r371 hAD, List.forall_mem_cons.mpr ⟨r372 hAD, List.forall_mem_cons.mpr ⟨r373 hAD, List.forall_mem_cons.mpr ⟨r374 hAD, List.forall_mem_cons.mpr ⟨r375 hAD, List.forall_mem_cons.mpr ⟨r376 hAD, List.forall_mem_cons.mpr ⟨r377 hAD, List.forall_mem_cons.mpr ⟨r378 hAD, List.forall_mem_cons.mpr ⟨r379 hAD, List.forall_mem_cons.mpr ⟨r380 hAD, List.forall_mem_cons.mpr ⟨r381 hAD, List.forall_mem_cons.mpr ⟨r382 hAD, List.forall_mem_cons.mpr ⟨r383 hAD, List.forall_mem_cons.mpr ⟨r384 hAD, List.forall_mem_cons.mpr ⟨r385 hAD, List.forall_mem_cons.mpr ⟨r386 hAD, List.forall_mem_cons.mpr ⟨r387 hAD, List.forall_mem_cons.mpr ⟨r388 hAD, List.forall_mem_cons.mpr ⟨r389 hAD, List.forall_mem_cons.mpr ⟨r390 hAD, List.forall_mem_cons.mpr ⟨r401 hAD, List.forall_mem_cons.mpr ⟨r402 hAD, fun c hc => by cases hc⟩⟩⟩⟩⟩⟩⟩⟩⟩⟩⟩⟩⟩⟩⟩⟩⟩⟩⟩⟩⟩⟩⟩⟩⟩⟩⟩⟩⟩⟩⟩⟩⟩⟩⟩⟩⟩⟩⟩) T2OK_nil w403
noncomputable def g404 : CR := (309, [(2, 90, 90), (0, 4, 4)], [((91, 0), (0, 0, 0))], some (0, 0, 0), [], [])
theorem w404 : vrf GG [] [] 300 0 g404
  [] = true := by decide +kernel
theorem r404 {l : Launch} {D : va_G} {tys : List (ClassId × FieldType)} {A : Nat → Prop} {ad : Nat → Nat} (hAD : ∀ i : Nat, ad (1000 + i) = D.2 1000 i) : CRok l D tys A ad GG 1 g404 := CR_of_vrf (dep := 0) hAD (fun c hc => by cases hc) T2OK_nil w404
noncomputable def g405 : CR := (311, [(2, 90, 90), (0, 0, 3), (0, 4, 4)], [((91, 0), (0, 0, 0))], some (0, (-6), 0), [], [])
theorem w405 : vrf GG [(3, g351), (1, g404)] [] 300 3 g405
  (uK (uC kN27 (uE kI0 kI3 uE0) (uA kN0 (rA kI90) (uA kN1 (uis kN0) (uA kN2 (uic kI4) (uA kN3 (uic kI0) (uA kN4 (uic kI0) (uA kN5 (uic kI0) uA0)))))) uS0 (uO kN91 kN0 (uic kI0) uO0) kI90 uL0)
  uK0) = true := by decide +kernel
theorem r405 {l : Launch} {D : va_G} {tys : List (ClassId × FieldType)} {A : Nat → Prop} {ad : Nat → Nat} (hAD : ∀ i : Nat, ad (1000 + i) = D.2 1000 i) : CRok l D tys A ad GG 4 g405 := CR_of_vrf (dep := 3) hAD (List.forall_mem_cons.mpr ⟨r351 hAD, List.forall_mem_cons.mpr ⟨r404 hAD, fun c hc => by cases hc⟩⟩) T2OK_nil w405
noncomputable def g406 : CR := (309, [(2, 90, 90), (0, 4, 4)], [((91, 0), (0, 1, 9))], some (0, (-2147483648), 2147483647), [], [])
theorem w406 : vrf GG [] [] 300 0 g406
  [] = true := by decide +kernel
theorem r406 {l : Launch} {D : va_G} {tys : List (ClassId × FieldType)} {A : Nat → Prop} {ad : Nat → Nat} (hAD : ∀ i : Nat, ad (1000 + i) = D.2 1000 i) : CRok l D tys A ad GG 1 g406 := CR_of_vrf (dep := 0) hAD (fun c hc => by cases hc) T2OK_nil w406
noncomputable def g407 : CR := (310, [(2, 90, 90), (0, (-2147483647), 2147483646), (0, 4, 4)], [((91, 0), (0, 1, 9))], none, [], [90, 105])
theorem w407 : vrf GG [] [] 300 0 g407
  (uK (uC kN12 (uE kJ2147483647 kI2147483646 (uE kJ2147483647 kI2147483646 (uE kJ1 kI3 (uE kI1 kI9 uE0)))) (uA kN0 (rA kI90) (uA kN1 (uis kN0) (uA kN2 (uic kI4) (uA kN3 (uis kN1) (uA kN4 (uis kN2) uA0))))) uS0 (uO kN90 kN30 (uic kI4) (uO kN91 kN0 (uis kN3) uO0)) kI174 (uL kI100 kN2 uL0))
  uK0) = true := by decide +kernel
theorem r407 {l : Launch} {D : va_G} {tys : List (ClassId × FieldType)} {A : Nat → Prop} {ad : Nat → Nat} (hAD : ∀ i : Nat, ad (1000 + i) = D.2 1000 i) : CRok l D tys A ad GG 1 g407 := CR_of_vrf (dep := 0) hAD (fun c hc => by cases hc) T2OK_nil w407
noncomputable def g408 : CR := (311, [(2, 90, 90), (0, 0, 3), (0, 4, 4)], [((91, 0), (0, 1, 9))], some (0, (-2147483648), 2147483647), [], [90, 105])
theorem w408 : vrf GG [(3, g354), (1, g355), (1, g356), (2, g357), (2, g358), (2, g359), (2, g360), (2, g361), (2, g362), (1, g363), (1, g364), (1, g365), (2, g366), (2, g367), (2, g368), (2, g369), (2, g370), (2, g371), (1, g372), (1, g373), (1, g374), (2, g375), (2, g376), (2, g377), (2, g378), (2, g379), (2, g380), (1, g381), (1, g382), (1, g383), (2, g384), (2, g385), (2, g386), (2, g387), (2, g388), (2, g389), (1, g390), (1, g406), (1, g407)] [] 300 3 g408
  (uK (uC kN27 (uE kI0 kI3 (uE kJ2147483648 kI2147483647 (uE kJ2147483647 kI2147483647 (uE kI1 kI9 uE0)))) (uA kN0 (rA kI90) (uA kN1 (uis kN0) (uA kN2 (uic kI4) (uA kN3 (uic kI0) (uA kN4 (uis kN1) (uA kN5 (uis kN2) uA0)))))) uS0 (uO kN91 kN0 (uis kN3) uO0) kI313532612552 (uL kJ146 kN2 uL0))
  (uK (uC kN59 (uE kI0 kI3 (uE kJ2147483648 kI2147483647 (uE kJ2147483647 kI2147483646 (uE kI0 kI1 (uE kJ2147483648 kI2147483647 (uE kI1 kI9 uE0)))))) (uA kN0 (rA kI90) (uA kN1 (uis kN0) (uA kN2 (uic kI4) (uA kN3 (uic kI0) (uA kN4 (uis kN1) (uA kN5 (uis kN2) uA0)))))) (uS (uis kN3) (uS (uis kN4) uS0)) (uO kN91 kN0 (uis kN5) uO0) kI313532612520 (uL kJ146 kN2 uL0))
  uK0)) = true := by decide +kernel
theorem r408 {l : Launch} {D : va_G} {tys : List (ClassId × FieldType)} {A : Nat → Prop} {ad : Nat → Nat} (hAD : ∀ i : Nat, ad (1000 + i) = D.2 1000 i) : CRok l D tys A ad GG 4 g408 := CR_of_vrf (dep := 3) hAD (List.forall_mem_cons.mpr ⟨r354 hAD, List.forall_mem_cons.mpr ⟨r355 hAD, List.forall_mem_cons.mpr ⟨r356 hAD, List.forall_mem_cons.mpr ⟨r357 hAD, List.forall_mem_cons.mpr ⟨r358 hAD, List.forall_mem_cons.mpr ⟨r359 hAD, List.forall_mem_cons.mpr ⟨r360 hAD, List.forall_mem_cons.mpr ⟨r361 hAD, List.forall_mem_cons.mpr ⟨r362 hAD, List.forall_mem_cons.mpr ⟨r363 hAD, List.forall_mem_cons.mpr ⟨r364 hAD, List.forall_mem_cons.mpr ⟨r365 hAD, List.forall_mem_cons.mpr ⟨r366 hAD, List.forall_mem_cons.mpr ⟨r367 hAD, List.forall_mem_cons.mpr ⟨r368 hAD, List.forall_mem_cons.mpr ⟨r369 hAD, List.forall_mem_cons.mpr ⟨r370 hAD, List.forall_mem_cons.mpr ⟨r371 hAD, List.forall_mem_cons.mpr ⟨r372 hAD, List.forall_mem_cons.mpr ⟨r373 hAD, List.forall_mem_cons.mpr ⟨r374 hAD, List.forall_mem_cons.mpr ⟨r375 hAD, List.forall_mem_cons.mpr ⟨r376 hAD, List.forall_mem_cons.mpr ⟨r377 hAD, List.forall_mem_cons.mpr ⟨r378 hAD, List.forall_mem_cons.mpr ⟨r379 hAD, List.forall_mem_cons.mpr ⟨r380 hAD, List.forall_mem_cons.mpr ⟨r381 hAD, List.forall_mem_cons.mpr ⟨r382 hAD, List.forall_mem_cons.mpr ⟨r383 hAD, List.forall_mem_cons.mpr ⟨r384 hAD, List.forall_mem_cons.mpr ⟨r385 hAD, List.forall_mem_cons.mpr ⟨r386 hAD, List.forall_mem_cons.mpr ⟨r387 hAD, List.forall_mem_cons.mpr ⟨r388 hAD, List.forall_mem_cons.mpr ⟨r389 hAD, List.forall_mem_cons.mpr ⟨r390 hAD, List.forall_mem_cons.mpr ⟨r406 hAD, List.forall_mem_cons.mpr ⟨r407 hAD, fun c hc => by cases hc⟩⟩⟩⟩⟩⟩⟩⟩⟩⟩⟩⟩⟩⟩⟩⟩⟩⟩⟩⟩⟩⟩⟩⟩⟩⟩⟩⟩⟩⟩⟩⟩⟩⟩⟩⟩⟩⟩⟩) T2OK_nil w408
noncomputable def g409 : CR := (309, [(2, 90, 90), (0, 5, 5)], [((91, 0), (0, 0, 0))], some (0, 0, 0), [], [])
theorem w409 : vrf GG [] [] 300 0 g409
  [] = true := by decide +kernel
theorem r409 {l : Launch} {D : va_G} {tys : List (ClassId × FieldType)} {A : Nat → Prop} {ad : Nat → Nat} (hAD : ∀ i : Nat, ad (1000 + i) = D.2 1000 i) : CRok l D tys A ad GG 1 g409 := CR_of_vrf (dep := 0) hAD (fun c hc => by cases hc) T2OK_nil w409
noncomputable def g410 : CR := (311, [(2, 90, 90), (0, 0, 3), (0, 5, 5)], [((91, 0), (0, 0, 0))], some (0, (-6), 0), [], [])
theorem w410 : vrf GG [(3, g351), (1, g409)] [] 300 3 g410
  (uK (uC kN27 (uE kI0 kI3 uE0) (uA kN0 (rA kI90) (uA kN1 (uis kN0) (uA kN2 (uic kI5) (uA kN3 (uic kI0) (uA kN4 (uic kI0) (uA kN5 (uic kI0) uA0)))))) uS0 (uO kN91 kN0 (uic kI0) uO0) kI90 uL0)
  uK0) = true := by decide +kernel
theorem r410 {l : Launch} {D : va_G} {tys : List (ClassId × FieldType)} {A : Nat → Prop} {ad : Nat → Nat} (hAD : ∀ i : Nat, ad (1000 + i) = D.2 1000 i) : CRok l D tys A ad GG 4 g410 := CR_of_vrf (dep := 3) hAD (List.forall_mem_cons.mpr ⟨r351 hAD, List.forall_mem_cons.mpr ⟨r409 hAD, fun c hc => by cases hc⟩⟩) T2OK_nil w410
noncomputable def g411 : CR := (309, [(2, 90, 90), (0, 5, 5)], [((91, 0), (0, 1, 9))], some (0, (-2147483648), 2147483647), [], [])
theorem w411 : vrf GG [] [] 300 0 g411
  [] = true := by decide +kernel
theorem r411 {l : Launch} {D : va_G} {tys : List (ClassId × FieldType)} {A : Nat → Prop} {ad : Nat → Nat} (hAD : ∀ i : Nat, ad (1000 + i) = D.2 1000 i) : CRok l D tys A ad GG 1 g411 := CR_of_vrf (dep := 0) hAD (fun c hc => by cases hc) T2OK_nil w411
noncomputable def g412 : CR := (310, [(2, 90, 90), (0, (-2147483647), 2147483646), (0, 5, 5)], [((91, 0), (0, 1, 9))], none, [], [90, 105])
theorem w412 : vrf GG [] [] 300 0 g412
  (uK (uC kN12 (uE kJ2147483647 kI2147483646 (uE kJ2147483647 kI2147483646 (uE kJ1 kI4 (uE kI1 kI9 uE0)))) (uA kN0 (rA kI90) (uA kN1 (uis kN0) (uA kN2 (uic kI5) (uA kN3 (uis kN1) (uA kN4 (uis kN2) uA0))))) uS0 (uO kN90 kN30 (uic kI5) (uO kN91 kN0 (uis kN3) uO0)) kI174 (uL kI100 kN2 uL0))
  uK0) = true := by decide +kernel
theorem r412 {l : Launch} {D : va_G} {tys : List (ClassId × FieldType)} {A : Nat → Prop} {ad : Nat → Nat} (hAD : ∀ i : Nat, ad (1000 + i) = D.2 1000 i) : CRok l D tys A ad GG 1 g412 := CR_of_vrf (dep := 0) hAD (fun c hc => by cases hc) T2OK_nil w412
noncomputable def g413 : CR := (311, [(2, 90, 90), (0, 0, 3), (0, 5, 5)], [((91, 0), (0, 1, 9))], some (0, (-2147483648), 2147483647), [], [90, 105])
theorem w413 : vrf GG [(3, g354), (1, g355), (1, g356), (2, g357), (2, g358), (2, g359), (2, g360), (2, g361), (2, g362), (1, g363), (1, g364), (1, g365), (2, g366), (2, g367), (2, g368), (2, g369), (2, g370), (2, g371), (1, g372), (1, g373), (1, g374), (2, g375), (2, g376), (2, g377), (2, g378), (2, g379), (2, g380), (1, g381), (1, g382), (1, g383), (2, g384), (2, g385), (2, g386), (2, g387), (2, g388), (2, g389), (1, g390), (1, g411), (1, g412)] [] 300 3 g413
  (uK (uC kN27 (uE kI0 kI3 (uE kJ2147483648 kI2147483647 (uE kJ2147483647 kI2147483647 (uE kI1 kI9 uE0)))) (uA kN0 (rA kI90) (uA kN1 (uis kN0) (uA kN2 (uic kI5) (uA kN3 (uic kI0) (uA kN4 (uis kN1) (uA kN5 (uis kN2) uA0)))))) uS0 (uO kN91 kN0 (uis kN3) uO0) kI313532612552 (uL kJ146 kN2 uL0))
  (uK (uC kN59 (uE kI0 kI3 (uE kJ2147483648 kI2147483647 (uE kJ2147483647 kI2147483646 (uE kI0 kI1 (uE kJ2147483648 kI2147483647 (uE kI1 kI9 uE0)))))) (uA kN0 (rA kI90) (uA kN1 (uis kN0) (uA kN2 (uic kI5) (uA kN3 (uic kI0) (uA kN4 (uis kN1) (uA kN5 (uis kN2) uA0)))))) (uS (uis kN3) (uS (uis kN4) uS0)) (uO kN91 kN0 (uis kN5) uO0) kI313532612520 (uL kJ146 kN2 uL0))
  uK0)) = true := by decide +kernel
theorem r413 {l : Launch} {D : va_G} {tys : List (ClassId × FieldType)} {A : Nat → Prop} {ad : Nat → Nat} (hAD : ∀ i : Nat, ad (1000 + i) = D.2 1000 i) : CRok l D tys A ad GG 4 g413 := CR_of_vrf (dep := 3) hAD (List.forall_mem_cons.mpr ⟨r354 hAD, List.forall_mem_cons.mpr ⟨r355 hAD, List.forall_mem_cons.mpr ⟨r356 hAD, List.forall_mem_cons.mpr ⟨r357 hAD, List.forall_mem_cons.mpr ⟨r358 hAD, List.forall_mem_cons.mpr ⟨r359 hAD, List.forall_mem_cons.mpr ⟨r360 hAD, List.forall_mem_cons.mpr ⟨r361 hAD, List.forall_mem_cons.mpr ⟨r362 hAD, List.forall_mem_cons.mpr ⟨r363 hAD, List.forall_mem_cons.mpr ⟨r364 hAD, List.forall_mem_cons.mpr ⟨r365 hAD, List.forall_mem_cons.mpr ⟨r366 hAD, List.forall_mem_cons.mpr ⟨r367 hAD, List.forall_mem_cons.mpr ⟨r368 hAD, List.forall_mem_cons.mpr ⟨r369 hAD, List.forall_mem_cons.mpr ⟨r370 hAD, List.forall_mem_cons.mpr ⟨r371 hAD, List.forall_mem_cons.mpr ⟨r372 hAD, List.forall_mem_cons.mpr ⟨r373 hAD, List.forall_mem_cons.mpr ⟨r374 hAD, List.forall_mem_cons.mpr ⟨r375 hAD, List.forall_mem_cons.mpr ⟨r376 hAD, List.forall_mem_cons.mpr ⟨r377 hAD, List.forall_mem_cons.mpr ⟨r378 hAD, List.forall_mem_cons.mpr ⟨r379 hAD, List.forall_mem_cons.mpr ⟨r380 hAD, List.forall_mem_cons.mpr ⟨r381 hAD, List.forall_mem_cons.mpr ⟨r382 hAD, List.forall_mem_cons.mpr ⟨r383 hAD, List.forall_mem_cons.mpr ⟨r384 hAD, List.forall_mem_cons.mpr ⟨r385 hAD, List.forall_mem_cons.mpr ⟨r386 hAD, List.forall_mem_cons.mpr ⟨r387 hAD, List.forall_mem_cons.mpr ⟨r388 hAD, List.forall_mem_cons.mpr ⟨r389 hAD, List.forall_mem_cons.mpr ⟨r390 hAD, List.forall_mem_cons.mpr ⟨r411 hAD, List.forall_mem_cons.mpr ⟨r412 hAD, fun c hc => by cases hc⟩⟩⟩⟩⟩⟩⟩⟩⟩⟩⟩⟩⟩⟩⟩⟩⟩⟩⟩⟩⟩⟩⟩⟩⟩⟩⟩⟩⟩⟩⟩⟩⟩⟩⟩⟩⟩⟩⟩) T2OK_nil w413
noncomputable def g414 : CR := (309, [(2, 90, 90), (0, 6, 6)], [((91, 0), (0, 0, 0))], some (0, 0, 0), [], [])
theorem w414 : vrf GG [] [] 300 0 g414
  [] = true := by decide +kernel
theorem r414 {l : Launch} {D : va_G} {tys : List (ClassId × FieldType)} {A : Nat → Prop} {ad : Nat → Nat} (hAD : ∀ i : Nat, ad (1000 + i) = D.2 1000 i) : CRok l D tys A ad GG 1 g414 := CR_of_vrf (dep := 0) hAD (fun c hc => by cases hc) T2OK_nil w414
noncomputable def g415 : CR := (311, [(2, 90, 90), (0, 0, 3), (0, 6, 6)], [((91, 0), (0, 0, 0))], some (0, (-6), 0), [], [])
theorem w415 : vrf GG [(3, g351), (1, g414)] [] 300 3 g415
  (uK (uC kN27 (uE kI0 kI3 uE0) (uA kN0 (rA kI90) (uA kN1 (uis kN0) (uA kN2 (uic kI6) (uA kN3 (uic kI0) (uA kN4 (uic kI0) (uA kN5 (uic kI0) uA0)))))) uS0 (uO kN91 kN0 (uic kI0) uO0) kI90 uL0)
  uK0) = true := by decide +kernel
theorem r415 {l : Launch} {D : va_G} {tys : List (ClassId × FieldType)} {A : Nat → Prop} {ad : Nat → Nat} (hAD : ∀ i : Nat, ad (1000 + i) = D.2 1000 i) : CRok l D tys A ad GG 4 g415 := CR_of_vrf (dep := 3) hAD (List.forall_mem_cons.mpr ⟨r351 hAD, List.forall_mem_cons.mpr ⟨r414 hAD, fun c hc => by cases hc⟩⟩) T2OK_nil w415
noncomputable def g416 : CR := (309, [(2, 90, 90), (0, 6, 6)], [((91, 0), (0, 1, 9))], some (0, (-2147483648), 2147483647), [], [])
theorem w416 : vrf GG [] [] 300 0 g416
  [] = true := by decide +kernel
theorem r416 {l : Launch} {D : va_G} {tys : List (ClassId × FieldType)} {A : Nat → Prop} {ad : Nat → Nat} (hAD : ∀ i : Nat, ad (1000 + i) = D.2 1000 i) : CRok l D tys A ad GG 1 g416 := CR_of_vrf (dep := 0) hAD (fun c hc => by cases hc) T2OK_nil w416
noncomputable def g417 : CR := (310, [(2, 90, 90), (0, (-2147483647), 2147483646), (0, 6, 6)], [((91, 0), (0, 1, 9))], none, [], [90, 105])
theorem w417 : vrf GG [] [] 300 0 g417
  (uK (uC kN12 (uE kJ2147483647 kI2147483646 (uE kJ2147483647 kI2147483646 (uE kJ1 kI5 (uE kI1 kI9 uE0)))) (uA kN0 (rA kI90) (uA kN1 (uis kN0) (uA kN2 (uic kI6) (uA kN3 (uis kN1) (uA kN4 (uis kN2) uA0))))) uS0 (uO kN90 kN30 (uic kI6) (uO kN91 kN0 (uis kN3) uO0)) kI174 (uL kI100 kN2 uL0))
  uK0) = true := by decide +kernel
theorem r417 {l : Launch} {D : va_G} {tys : List (ClassId × FieldType)} {A : Nat → Prop} {ad : Nat → Nat} (hAD : ∀ i : Nat, ad (1000 + i) = D.2 1000 i) : CRok l D tys A ad GG 1 g417 := CR_of_vrf (dep := 0) hAD (fun c hc => by cases hc) T2OK_nil w417
noncomputable def g418 : CR := (311, [(2, 90, 90), (0, 0, 3), (0, 6, 6)], [((91, 0), (0, 1, 9))], some (0, (-2147483648), 2147483647), [], [90, 105])
theorem w418 : vrf GG [(3, g354), (1, g355), (1, g356), (2, g357), (2, g358), (2, g359), (2, g360), (2, g361), (2, g362), (1, g363), (1, g364), (1, g365), (2, g366), (2, g367), (2, g368), (2, g369), (2, g370), (2, g371), (1, g372), (1, g373), (1, g374), (2, g375), (2, g376), (2, g377), (2, g378), (2, g379), (2, g380), (1, g381), (1, g382), (1, g383), (2, g384), (2, g385), (2, g386), (2, g387), (2, g388), (2, g389), (1, g390), (1, g416), (1, g417)] [] 300 3 g418
  (uK (uC kN27 (uE kI0 kI3 (uE kJ2147483648 kI2147483647 (uE kJ2147483647 kI2147483647 (uE kI1 kI9 uE0)))) (uA kN0 (rA kI90) (uA kN1 (uis kN0) (uA kN2 (uic kI6) (uA kN3 (uic kI0) (uA kN4 (uis kN1) (uA kN5 (uis kN2) uA0)))))) uS0 (uO kN91 kN0 (uis kN3) uO0) kI313532612552 (uL kJ146 kN2 uL0))
  (uK (uC kN59 (uE kI0 kI3 (uE kJ2147483648 kI2147483647 (uE kJ2147483647 kI2147483646 (uE kI0 kI1 (uE kJ2147483648 kI2147483647 (uE kI1 kI9 uE0)))))) (uA kN0 (rA kI90) (uA kN1 (uis kN0) (uA kN2 (uic kI6) (uA kN3 (uic kI0) (uA kN4 (uis kN1) (uA kN5 (uis kN2) uA0)))))) (uS (uis kN3) (uS (uis kN4) uS0)) (uO kN91 kN0 (uis kN5) uO0) kI313532612520 (uL kJ146 kN2 uL0))
  uK0)) = true := by decide +kernel
theorem r418 {l : Launch} {D : va_G} {tys : List (ClassId × FieldType)} {A : Nat → Prop} {ad : Nat → Nat} (hAD : ∀ i : Nat, ad (1000 + i) = D.2 1000 i) : CRok l D tys A ad GG 4 g418 := CR_of_vrf (dep := 3) hAD (List.forall_mem_cons.mpr ⟨r354 hAD, List.forall_mem_cons.mpr ⟨r355 hAD, List.forall_mem_cons.mpr ⟨r356 hAD, List.forall_mem_cons.mpr ⟨r357 hAD, List.forall_mem_cons.mpr ⟨r358 hAD, List.forall_mem_cons.mpr ⟨r359 hAD, List.forall_mem_cons.mpr ⟨r360 hAD, List.forall_mem_cons.mpr ⟨r361 hAD, List.forall_mem_cons.mpr ⟨r362 hAD, List.forall_mem_cons.mpr ⟨r363 hAD, List.forall_mem_cons.mpr ⟨r364 hAD, List.forall_mem_cons.mpr ⟨r365 hAD, List.forall_mem_cons.mpr ⟨r366 hAD, List.forall_mem_cons.mpr ⟨r367 hAD, List.forall_mem_cons.mpr ⟨r368 hAD, List.forall_mem_cons.mpr ⟨r369 hAD, List.forall_mem_cons.mpr ⟨r370 hAD, List.forall_mem_cons.mpr ⟨r371 hAD, List.forall_mem_cons.mpr ⟨r372 hAD, List.forall_mem_cons.mpr ⟨r373 hAD, List.forall_mem_cons.mpr ⟨r374 hAD, List.forall_mem_cons.mpr ⟨r375 hAD, List.forall_mem_cons.mpr ⟨r376 hAD, List.forall_mem_cons.mpr ⟨r377 hAD, List.forall_mem_cons.mpr ⟨r378 hAD, List.forall_mem_cons.mpr ⟨r379 hAD, List.forall_mem_cons.mpr ⟨r380 hAD, List.forall_mem_cons.mpr ⟨r381 hAD, List.forall_mem_cons.mpr ⟨r382 hAD, List.forall_mem_cons.mpr ⟨r383 hAD, List.forall_mem_cons.mpr ⟨r384 hAD, List.forall_mem_cons.mpr ⟨r385 hAD, List.forall_mem_cons.mpr ⟨r386 hAD, List.forall_mem_cons.mpr ⟨r387 hAD, List.forall_mem_cons.mpr ⟨r388 hAD, List.forall_mem_cons.mpr ⟨r389 hAD, List.forall_mem_cons.mpr ⟨r390 hAD, List.forall_mem_cons.mpr ⟨r416 hAD, List.forall_mem_cons.mpr ⟨r417 hAD, fun c hc => by cases hc⟩⟩⟩⟩⟩⟩⟩⟩⟩⟩⟩⟩⟩⟩⟩⟩⟩⟩⟩⟩⟩⟩⟩⟩⟩⟩⟩⟩⟩⟩⟩⟩⟩⟩⟩⟩⟩⟩⟩) T2OK_nil w418
noncomputable def g419 : CR := (54, [(2, 0, 0), (0, (-2147483648), (-1))], [], some (0, (-2), (-2)), [], [])
theorem w419 : vrf GG [] [] 300 2 g419
  [] = true := by decide +kernel
theorem r419 {l : Launch} {D : va_G} {tys : List (ClassId × FieldType)} {A : Nat → Prop} {ad : Nat → Nat} (hAD : ∀ i : Nat, ad (1000 + i) = D.2 1000 i) : CRok l D tys A ad GG 3 g419 := CR_of_vrf (dep := 2) hAD (fun c hc => by cases hc) T2OK_nil w419
noncomputable def g420 : CR := (54, [(2, 0, 0), (0, 4, 2147483647)], [], some (0, (-2), (-2)), [], [])
theorem w420 : vrf GG [] [] 300 2 g420
  [] = true := by decide +kernel
theorem r420 {l : Launch} {D : va_G} {tys : List (ClassId × FieldType)} {A : Nat → Prop} {ad : Nat → Nat} (hAD : ∀ i : Nat, ad (1000 + i) = D.2 1000 i) : CRok l D tys A ad GG 3 g420 := CR_of_vrf (dep := 2) hAD (fun c hc => by cases hc) T2OK_nil w420
noncomputable def g421 : CR := (120, [(2, 47, 47), (2, 4, 4), (2, 39, 39), (0, 0, 0)], [], some (0, 0, 1), [], [])
theorem w421 : vrf GG [] [] 470 3 g421
  (uK (uC kN10 (uE kJ1 kI60 (uE kI0 kI60 (uE kJ1 kI60 uE0))) (uA kN0 (rA kI47) (uA kN1 (rA kI4) (uA kN2 (rA kI39) (uA kN3 (uic kI0) (uA kN4 (uis kN0) (uA kN5 (uis kN1) uA0)))))) uS0 (uO kN42 kN0 (uis kN2) uO0) kI10592 (uL kJ174 kN1 uL0))
  (uK (uC kN37 (uE kI1 kI60 (uE kI0 kI59 (uE kJ1 kI8 (uE kJ1 kI60 uE0)))) (uA kN0 (rA kI47) (uA kN1 (rA kI4) (uA kN2 (rA kI39) (uA kN3 (uic kI0) (uA kN4 (uis kN0) (uA kN5 (uis kN1) uA0)))))) (uS (uls kN2) uS0) (uO kN42 kN0 (uis kN3) uO0) kI10565 (uL kJ174 kN1 uL0))
  (uK (uC kN64 (uE kI1 kI60 (uE kI0 kI59 (uE kJ1 kI8 (uE kJ1 kI60 uE0)))) (uA kN0 (rA kI47) (uA kN1 (rA kI4) (uA kN2 (rA kI39) (uA kN3 (uic kI0) (uA kN4 (uis kN0) (uA kN5 (uis kN1) (uA kN6 (uls kN2) uA0))))))) uS0 (uO kN42 kN0 (uis kN3) uO0) kI10538 (uL kJ174 kN1 uL0))
  uK0))) = true := by decide +kernel
theorem r421 {l : Launch} {D : va_G} {tys : List (ClassId × FieldType)} {A : Nat → Prop} {ad : Nat → Nat} (hAD : ∀ i : Nat, ad (1000 + i) = D.2 1000 i) : CRok l D tys A ad GG 4 g421 := CR_of_vrf (dep := 3) hAD (fun c hc => by cases hc) T2OK_nil w421
noncomputable def g422 : CR := (121, [(2, 47, 47), (2, 4, 4), (2, 39, 39), (0, 0, 0)], [], some (0, 0, 63), [], [])
theorem w422 : vrf GG [] [] 741 3 g422
  (uK (uC kN9 (uE kI0 kI63 (uE kI0 kI60 (uE kI0 kI6 uE0))) (uA kN0 (rA kI47) (uA kN1 (rA kI4) (uA kN2 (rA kI39) (uA kN3 (uic kI0) (uA kN4 (uis kN0) (uA kN5 (uis kN1) uA0)))))) uS0 (uO kN4 kN4 (uis kN2) uO0) kI102094 (uL kJ1674 kN1 uL0))
  (uK (uC kN34 (uE kI0 kI63 (uE kI0 kI58 (uE kJ2147483648 kI2147483647 (uE kI0 kI6 (uE kI0 kI6 (uE kI2 kI60 uE0)))))) (uA kN0 (rA kI47) (uA kN1 (rA kI4) (uA kN2 (rA kI39) (uA kN3 (uic kI0) (uA kN4 (uis kN0) (uA kN5 (uis kN1) (uA kN6 (uis kN2) (uA kN7 (uis kN3) uA0)))))))) uS0 (uO kN4 kN4 (uis kN4) (uO kN42 kN0 (uis kN5) uO0)) kI101755 (uL kJ186 kN3 (uL kJ1674 kN1 uL0)))
  (uK (uC kN76 (uE kI0 kI63 (uE kI0 kI58 (uE kJ2147483648 kI2147483647 (uE kI0 kI5 (uE kI1 kI6 (uE kI2 kI60 uE0)))))) (uA kN0 (rA kI47) (uA kN1 (rA kI4) (uA kN2 (rA kI39) (uA kN3 (uic kI0) (uA kN4 (uis kN0) (uA kN5 (uis kN1) (uA kN6 (uis kN2) (uA kN7 (uis kN3) uA0)))))))) uS0 (uO kN4 kN4 (uis kN4) (uO kN42 kN0 (uis kN5) uO0)) kI101713 (uL kJ186 kN3 (uL kJ1674 kN1 uL0)))
  uK0))) = true := by decide +kernel
theorem r422 {l : Launch} {D : va_G} {tys : List (ClassId × FieldType)} {A : Nat → Prop} {ad : Nat → Nat} (hAD : ∀ i : Nat, ad (1000 + i) = D.2 1000 i) : CRok l D tys A ad GG 4 g422 := CR_of_vrf (dep := 3) hAD (fun c hc => by cases hc) T2OK_nil w422
noncomputable def g423 : CR := (54, [(2, 0, 0), (0, 0, 0)], [], some (0, (-6), 63), [], [])
theorem w423 : vrf GG [(4, g421), (4, g422)] [] 300 5 g423
  [] = true := by decide +kernel
theorem r423 {l : Launch} {D : va_G} {tys : List (ClassId × FieldType)} {A : Nat → Prop} {ad : Nat → Nat} (hAD : ∀ i : Nat, ad (1000 + i) = D.2 1000 i) : CRok l D tys A ad GG 6 g423 := CR_of_vrf (dep := 5) hAD (List.forall_mem_cons.mpr ⟨r421 hAD, List.forall_mem_cons.mpr ⟨r422 hAD, fun c hc => by cases hc⟩⟩) T2OK_nil w423
noncomputable def g424 : CR := (120, [(2, 47, 47), (2, 4, 4), (2, 39, 39), (0, 1, 1)], [], some (0, 0, 1), [], [])
theorem w424 : vrf GG [] [] 470 3 g424
  (uK (uC kN10 (uE kJ1 kI60 (uE kI0 kI60 (uE kJ1 kI60 uE0))) (uA kN0 (rA kI47) (uA kN1 (rA kI4) (uA kN2 (rA kI39) (uA kN3 (uic kI1) (uA kN4 (uis kN0) (uA kN5 (uis kN1) uA0)))))) uS0 (uO kN42 kN1 (uis kN2) uO0) kI10592 (uL kJ174 kN1 uL0))
  (uK (uC kN37 (uE kI1 kI60 (uE kI0 kI59 (uE kJ1 kI8 (uE kJ1 kI60 uE0)))) (uA kN0 (rA kI47) (uA kN1 (rA kI4) (uA kN2 (rA kI39) (uA kN3 (uic kI1) (uA kN4 (uis kN0) (uA kN5 (uis kN1) uA0)))))) (uS (uls kN2) uS0) (uO kN42 kN1 (uis kN3) uO0) kI10565 (uL kJ174 kN1 uL0))
  (uK (uC kN64 (uE kI1 kI60 (uE kI0 kI59 (uE kJ1 kI8 (uE kJ1 kI60 uE0)))) (uA kN0 (rA kI47) (uA kN1 (rA kI4) (uA kN2 (rA kI39) (uA kN3 (uic kI1) (uA kN4 (uis kN0) (uA kN5 (uis kN1) (uA kN6 (uls kN2) uA0))))))) uS0 (uO kN42 kN1 (uis kN3) uO0) kI10538 (uL kJ174 kN1 uL0))
  uK0))) = true := by decide +kernel
theorem r424 {l : Launch} {D : va_G} {tys : List (ClassId × FieldType)} {A : Nat → Prop} {ad : Nat → Nat} (hAD : ∀ i : Nat, ad (1000 + i) = D.2 1000 i) : CRok l D tys A ad GG 4 g424 := CR_of_vrf (dep := 3) hAD (fun c hc => by cases hc) T2OK_nil w424
noncomputable def g425 : CR := (121, [(2, 47, 47), (2, 4, 4), (2, 39, 39), (0, 1, 1)], [], some (0, 0, 63), [], [])
theorem w425 : vrf GG [] [] 741 3 g425
  (uK (uC kN9 (uE kI0 kI63 (uE kI0 kI60 (uE kI0 kI6 uE0))) (uA kN0 (rA kI47) (uA kN1 (rA kI4) (uA kN2 (rA kI39) (uA kN3 (uic kI1) (uA kN4 (uis kN0) (uA kN5 (uis kN1) uA0)))))) uS0 (uO kN4 kN4 (uis kN2) uO0) kI102094 (uL kJ1674 kN1 uL0))
  (uK (uC kN34 (uE kI0 kI63 (uE kI0 kI58 (uE kJ2147483648 kI2147483647 (uE kI0 kI6 (uE kI0 kI6 (uE kI2 kI60 uE0)))))) (uA kN0 (rA kI47) (uA kN1 (rA kI4) (uA kN2 (rA kI39) (uA kN3 (uic kI1) (uA kN4 (uis kN0) (uA kN5 (uis kN1) (uA kN6 (uis kN2) (uA kN7 (uis kN3) uA0)))))))) uS0 (uO kN4 kN4 (uis kN4) (uO kN42 kN1 (uis kN5) uO0)) kI101755 (uL kJ186 kN3 (uL kJ1674 kN1 uL0)))
  (uK (uC kN76 (uE kI0 kI63 (uE kI0 kI58 (uE kJ2147483648 kI2147483647 (uE kI0 kI5 (uE kI1 kI6 (uE kI2 kI60 uE0)))))) (uA kN0 (rA kI47) (uA kN1 (rA kI4) (uA kN2 (rA kI39) (uA kN3 (uic kI1) (uA kN4 (uis kN0) (uA kN5 (uis kN1) (uA kN6 (uis kN2) (uA kN7 (uis kN3) uA0)))))))) uS0 (uO kN4 kN4 (uis kN4) (uO kN42 kN1 (uis kN5) uO0)) kI101713 (uL kJ186 kN3 (uL kJ1674 kN1 uL0)))
  uK0))) = true := by decide +kernel
theorem r425 {l : Launch} {D : va_G} {tys : List (ClassId × FieldType)} {A : Nat → Prop} {ad : Nat → Nat} (hAD : ∀ i : Nat, ad (1000 + i) = D.2 1000 i) : CRok l D tys A ad GG 4 g425 := CR_of_vrf (dep := 3) hAD (fun c hc => by cases hc) T2OK_nil w425
noncomputable def g426 : CR := (54, [(2, 0, 0), (0, 1, 1)], [], some (0, (-6), 63), [], [])
theorem w426 : vrf GG [(4, g424), (4, g425)] [] 300 5 g426
  [] = true := by decide +kernel
theorem r426 {l : Launch} {D : va_G} {tys : List (ClassId × FieldType)} {A : Nat → Prop} {ad : Nat → Nat} (hAD : ∀ i : Nat, ad (1000 + i) = D.2 1000 i) : CRok l D tys A ad GG 6 g426 := CR_of_vrf (dep := 5) hAD (List.forall_mem_cons.mpr ⟨r424 hAD, List.forall_mem_cons.mpr ⟨r425 hAD, fun c hc => by cases hc⟩⟩) T2OK_nil w426
noncomputable def g427 : CR := (120, [(2, 47, 47), (2, 4, 4), (2, 39, 39), (0, 2, 2)], [], some (0, 0, 1), [], [])
theorem w427 : vrf GG [] [] 470 3 g427
  (uK (uC kN10 (uE kJ1 kI60 (uE kI0 kI60 (uE kJ1 kI60 uE0))) (uA kN0 (rA kI47) (uA kN1 (rA kI4) (uA kN2 (rA kI39) (uA kN3 (uic kI2) (uA kN4 (uis kN0) (uA kN5 (uis kN1) uA0)))))) uS0 (uO kN42 kN2 (uis kN2) uO0) kI10592 (uL kJ174 kN1 uL0))
  (uK (uC kN37 (uE kI1 kI60 (uE kI0 kI59 (uE kJ1 kI8 (uE kJ1 kI60 uE0)))) (uA kN0 (rA kI47) (uA kN1 (rA kI4) (uA kN2 (rA kI39) (uA kN3 (uic kI2) (uA kN4 (uis kN0) (uA kN5 (uis kN1) uA0)))))) (uS (uls kN2) uS0) (uO kN42 kN2 (uis kN3) uO0) kI10565 (uL kJ174 kN1 uL0))
  (uK (uC kN64 (uE kI1 kI60 (uE kI0 kI59 (uE kJ1 kI8 (uE kJ1 kI60 uE0)))) (uA kN0 (rA kI47) (uA kN1 (rA kI4) (uA kN2 (rA kI39) (uA kN3 (uic kI2) (uA kN4 (uis kN0) (uA kN5 (uis kN1) (uA kN6 (uls kN2) uA0))))))) uS0 (uO kN42 kN2 (uis kN3) uO0) kI10538 (uL kJ174 kN1 uL0))
  uK0))) = true := by decide +kernel
theorem r427 {l : Launch} {D : va_G} {tys : List (ClassId × FieldType)} {A : Nat → Prop} {ad : Nat → Nat} (hAD : ∀ i : Nat, ad (1000 + i) = D.2 1000 i) : CRok l D tys A ad GG 4 g427 := CR_of_vrf (dep := 3) hAD (fun c hc => by cases hc) T2OK_nil w427
noncomputable def g428 : CR := (121, [(2, 47, 47), (2, 4, 4), (2, 39, 39), (0, 2, 2)], [], some (0, 0, 63), [], [])
theorem w428 : vrf GG [] [] 741 3 g428
  (uK (uC kN9 (uE kI0 kI63 (uE kI0 kI60 (uE kI0 kI6 uE0))) (uA kN0 (rA kI47) (uA kN1 (rA kI4) (uA kN2 (rA kI39) (uA kN3 (uic kI2) (uA kN4 (uis kN0) (uA kN5 (uis kN1) uA0)))))) uS0 (uO kN4 kN4 (uis kN2) uO0) kI102094 (uL kJ1674 kN1 uL0))
  (uK (uC kN34 (uE kI0 kI63 (uE kI0 kI58 (uE kJ2147483648 kI2147483647 (uE kI0 kI6 (uE kI0 kI6 (uE kI2 kI60 uE0)))))) (uA kN0 (rA kI47) (uA kN1 (rA kI4) (uA kN2 (rA kI39) (uA kN3 (uic kI2) (uA kN4 (uis kN0) (uA kN5 (uis kN1) (uA kN6 (uis kN2) (uA kN7 (uis kN3) uA0)))))))) uS0 (uO kN4 kN4 (uis kN4) (uO kN42 kN2 (uis kN5) uO0)) kI101755 (uL kJ186 kN3 (uL kJ1674 kN1 uL0)))
  (uK (uC kN76 (uE kI0 kI63 (uE kI0 kI58 (uE kJ2147483648 kI2147483647 (uE kI0 kI5 (uE kI1 kI6 (uE kI2 kI60 uE0)))))) (uA kN0 (rA kI47) (uA kN1 (rA kI4) (uA kN2 (rA kI39) (uA kN3 (uic kI2) (uA kN4 (uis kN0) (uA kN5 (uis kN1) (uA kN6 (uis kN2) (uA kN7 (uis kN3) uA0)))))))) uS0 (uO kN4 kN4 (uis kN4) (uO kN42 kN2 (uis kN5) uO0)) kI101713 (uL kJ186 kN3 (uL kJ1674 kN1 uL0)))
  uK0))) = true := by decide +kernel
theorem r428 {l : Launch} {D : va_G} {tys : List (ClassId × FieldType)} {A : Nat → Prop} {ad : Nat → Nat} (hAD : ∀ i : Nat, ad (1000 + i) = D.2 1000 i) : CRok l D tys A ad GG 4 g428 := CR_of_vrf (dep := 3) hAD (fun c hc => by cases hc) T2OK_nil w428
noncomputable def g429 : CR := (54, [(2, 0, 0), (0, 2, 2)], [], some (0, (-6), 63), [], [])
theorem w429 : vrf GG [(4, g427), (4, g428)] [] 300 5 g429
  [] = true := by decide +kernel
theorem r429 {l : Launch} {D : va_G} {tys : List (ClassId × FieldType)} {A : Nat → Prop} {ad : Nat → Nat} (hAD : ∀ i : Nat, ad (1000 + i) = D.2 1000 i) : CRok l D tys A ad GG 6 g429 := CR_of_vrf (dep := 5) hAD (List.forall_mem_cons.mpr ⟨r427 hAD, List.forall_mem_cons.mpr ⟨r428 hAD, fun c hc => by cases hc⟩⟩) T2OK_nil w429
noncomputable def g430 : CR := (120, [(2, 47, 47), (2, 4, 4), (2, 39, 39), (0, 3, 3)], [], some (0, 0, 1), [], [])
theorem w430 : vrf GG [] [] 470 3 g430
  (uK (uC kN10 (uE kJ1 kI60 (uE kI0 kI60 (uE kJ1 kI60 uE0))) (uA kN0 (rA kI47) (uA kN1 (rA kI4) (uA kN2 (rA kI39) (uA kN3 (uic kI3) (uA kN4 (uis kN0) (uA kN5 (uis kN1) uA0)))))) uS0 (uO kN42 kN3 (uis kN2) uO0) kI10592 (uL kJ174 kN1 uL0))
  (uK (uC kN37 (uE kI1 kI60 (uE kI0 kI59 (uE kJ1 kI8 (uE kJ1 kI60 uE0)))) (uA kN0 (rA kI47) (uA kN1 (rA kI4) (uA kN2 (rA kI39) (uA kN3 (uic kI3) (uA kN4 (uis kN0) (uA kN5 (uis kN1) uA0)))))) (uS (uls kN2) uS0) (uO kN42 kN3 (uis kN3) uO0) kI10565 (uL kJ174 kN1 uL0))
  (uK (uC kN64 (uE kI1 kI60 (uE kI0 kI59 (uE kJ1 kI8 (uE kJ1 kI60 uE0)))) (uA kN0 (rA kI47) (uA kN1 (rA kI4) (uA kN2 (rA kI39) (uA kN3 (uic kI3) (uA kN4 (uis kN0) (uA kN5 (uis kN1) (uA kN6 (uls kN2) uA0))))))) uS0 (uO kN42 kN3 (uis kN3) uO0) kI10538 (uL kJ174 kN1 uL0))
  uK0))) = true := by decide +kernel
theorem r430 {l : Launch} {D : va_G} {tys : List (ClassId × FieldType)} {A : Nat → Prop} {ad : Nat → Nat} (hAD : ∀ i : Nat, ad (1000 + i) = D.2 1000 i) : CRok l D tys A ad GG 4 g430 := CR_of_vrf (dep := 3) hAD (fun c hc => by cases hc) T2OK_nil w430
noncomputable def g431 : CR := (121, [(2, 47, 47), (2, 4, 4), (2, 39, 39), (0, 3, 3)], [], some (0, 0, 63), [], [])
theorem w431 : vrf GG [] [] 741 3 g431
  (uK (uC kN9 (uE kI0 kI63 (uE kI0 kI60 (uE kI0 kI6 uE0))) (uA kN0 (rA kI47) (uA kN1 (rA kI4) (uA kN2 (rA kI39) (uA kN3 (uic kI3) (uA kN4 (uis kN0) (uA kN5 (uis kN1) uA0)))))) uS0 (uO kN4 kN4 (uis kN2) uO0) kI102094 (uL kJ1674 kN1 uL0))
  (uK (uC kN34 (uE kI0 kI63 (uE kI0 kI58 (uE kJ2147483648 kI2147483647 (uE kI0 kI6 (uE kI0 kI6 (uE kI2 kI60 uE0)))))) (uA kN0 (rA kI47) (uA kN1 (rA kI4) (uA kN2 (rA kI39) (uA kN3 (uic kI3) (uA kN4 (uis kN0) (uA kN5 (uis kN1) (uA kN6 (uis kN2) (uA kN7 (uis kN3) uA0)))))))) uS0 (uO kN4 kN4 (uis kN4) (uO kN42 kN3 (uis kN5) uO0)) kI101755 (uL kJ186 kN3 (uL kJ1674 kN1 uL0)))
  (uK (uC kN76 (uE kI0 kI63 (uE kI0 kI58 (uE kJ2147483648 kI2147483647 (uE kI0 kI5 (uE kI1 kI6 (uE kI2 kI60 uE0)))))) (uA kN0 (rA kI47) (uA kN1 (rA kI4) (uA kN2 (rA kI39) (uA kN3 (uic kI3) (uA kN4 (uis kN0) (uA kN5 (uis kN1) (uA kN6 (uis kN2) (uA kN7 (uis kN3) uA0)))))))) uS0 (uO kN4 kN4 (uis kN4) (uO kN42 kN3 (uis kN5) uO0)) kI101713 (uL kJ186 kN3 (uL kJ1674 kN1 uL0)))
  uK0))) = true := by decide +kernel
theorem r431 {l : Launch} {D : va_G} {tys : List (ClassId × FieldType)} {A : Nat → Prop} {ad : Nat → Nat} (hAD : ∀ i : Nat, ad (1000 + i) = D.2 1000 i) : CRok l D tys A ad GG 4 g431 := CR_of_vrf (dep := 3) hAD (fun c hc => by cases hc) T2OK_nil w431
noncomputable def g432 : CR := (54, [(2, 0, 0), (0, 3, 3)], [], some (0, (-6), 63), [], [])
theorem w432 : vrf GG [(4, g430), (4, g431)] [] 300 5 g432
  [] = true := by decide +kernel
theorem r432 {l : Launch} {D : va_G} {tys : List (ClassId × FieldType)} {A : Nat → Prop} {ad : Nat → Nat} (hAD : ∀ i : Nat, ad (1000 + i) = D.2 1000 i) : CRok l D tys A ad GG 6 g432 := CR_of_vrf (dep := 5) hAD (List.forall_mem_cons.mpr ⟨r430 hAD, List.forall_mem_cons.mpr ⟨r431 hAD, fun c hc => by cases hc⟩⟩) T2OK_nil w432
noncomputable def g445 : CR := (55, [(2, 0, 0), (0, (-2147483648), (-1))], [], some (0, (-2), (-2)), [], [])
theorem w445 : vrf GG [] [] 300 2 g445
  [] = true := by decide +kernel
theorem r445 {l : Launch} {D : va_G} {tys : List (ClassId × FieldType)} {A : Nat → Prop} {ad : Nat → Nat} (hAD : ∀ i : Nat, ad (1000 + i) = D.2 1000 i) : CRok l D tys A ad GG 3 g445 := CR_of_vrf (dep := 2) hAD (fun c hc => by cases hc) T2OK_nil w445
noncomputable def g446 : CR := (55, [(2, 0, 0), (0, 4, 2147483647)], [], some (0, (-2), (-2)), [], [])
theorem w446 : vrf GG [] [] 300 2 g446
  [] = true := by decide +kernel
theorem r446 {l : Launch} {D : va_G} {tys : List (ClassId × FieldType)} {A : Nat → Prop} {ad : Nat → Nat} (hAD : ∀ i : Nat, ad (1000 + i) = D.2 1000 i) : CRok l D tys A ad GG 3 g446 := CR_of_vrf (dep := 2) hAD (fun c hc => by cases hc) T2OK_nil w446
noncomputable def g447 : CR := (123, [(2, 47, 47), (2, 4, 4), (0, 0, 63), (0, 0, 5)], [], some (0, 0, 2147483647), [], [])
theorem w447 : vrf GG [] [] 300 2 g447
  (uK (uC kN6 (uE kI0 kI63 (uE kI0 kI5 (uE kI0 kI2147483647 (uE kJ1 kI9 uE0)))) (uA kN0 (rA kI47) (uA kN1 (rA kI4) (uA kN2 (uis kN0) (uA kN3 (uis kN1) (uA kN4 (uis kN2) (uA kN5 (uis kN3) uA0)))))) uS0 uO0 (Int.ofNat (nat_lit 14386)) (uL kJ1440 kN3 uL0))
  (uK (uC kN21 (uE kI0 kI63 (uE kI0 kI5 (uE kI0 kI2147483647 (uE kJ1 kI8 (uE kJ2147483648 kI2147483647 (uE kI0 kI6 (uE kI0 kI9 uE0))))))) (uA kN0 (rA kI47) (uA kN1 (rA kI4) (uA kN2 (uis kN0) (uA kN3 (uis kN1) (uA kN4 (uis kN2) (uA kN5 (uis kN3) (uA kN6 (uis kN4) (uA kN7 (uis kN5) uA0)))))))) uS0 (uO kN4 kN1 (uis kN6) uO0) (Int.ofNat (nat_lit 14109)) (uL kJ160 kN5 (uL kJ1440 kN3 uL0)))
  (uK (uC kN54 (uE kI0 kI63 (uE kI0 kI5 (uE kI0 kI2147483647 (uE kJ1 kI8 (uE kJ2147483648 kI2147483647 (uE kI0 kI5 (uE kI0 kI9 (uE kI1 kI6 uE0)))))))) (uA kN0 (rA kI47) (uA kN1 (rA kI4) (uA kN2 (uis kN0) (uA kN3 (uis kN1) (uA kN4 (uis kN2) (uA kN5 (uis kN3) (uA kN6 (uis kN4) (uA kN7 (uis kN5) uA0)))))))) uS0 (uO kN4 kN1 (uis kN6) (uO kN4 kN4 (uis kN7) uO0)) (Int.ofNat (nat_lit 14076)) (uL kJ160 kN5 (uL kJ1440 kN3 uL0)))
  uK0))) = true := by decide +kernel
theorem r447 {l : Launch} {D : va_G} {tys : List (ClassId × FieldType)} {A : Nat → Prop} {ad : Nat → Nat} (hAD : ∀ i : Nat, ad (1000 + i) = D.2 1000 i) : CRok l D tys A ad GG 3 g447 := CR_of_vrf (dep := 2) hAD (fun c hc => by cases hc) T2OK_nil w447
noncomputable def g448 : CR := (122, [(2, 47, 47), (2, 4, 4), (0, 0, 63)], [], some (0, (-1), 5), [], [])
theorem w448 : vrf GG [(3, g447)] [] 300 3 g448
  (uK (uC kN11 (uE kI0 kI63 (uE kJ1 kI5 (uE kI0 kI63 (uE kI0 kI6 uE0)))) (uA kN0 (rA kI47) (uA kN1 (rA kI4) (uA kN2 (uis kN0) (uA kN3 (uis kN1) (uA kN4 (uis kN2) (uA kN5 (uis kN3) uA0)))))) uS0 uO0 (Int.ofNat (nat_lit 704)) (uL kJ104 kN3 uL0))
  (uK (uC kN42 (uE kI0 kI63 (uE kJ1 kI5 (uE kI0 kI63 (uE kI0 kI5 (uE kI0 kI2147483647 uE0))))) (uA kN0 (rA kI47) (uA kN1 (rA kI4) (uA kN2 (uis kN0) (uA kN3 (uis kN1) (uA kN4 (uis kN2) (uA kN5 (uis kN3) (uA kN6 (uis kN4) uA0))))))) uS0 uO0 (Int.ofNat (nat_lit 673)) (uL kJ104 kN3 uL0))
  uK0)) = true := by decide +kernel
theorem r448 {l : Launch} {D : va_G} {tys : List (ClassId × FieldType)} {A : Nat → Prop} {ad : Nat → Nat} (hAD : ∀ i : Nat, ad (1000 + i) = D.2 1000 i) : CRok l D tys A ad GG 4 g448 := CR_of_vrf (dep := 3) hAD (List.forall_mem_cons.mpr ⟨r447 hAD, fun c hc => by cases hc⟩) T2OK_nil w448
noncomputable def g449 : CR := (55, [(2, 0, 0), (0, 0, 0)], [], some (0, (-6), 5), [], [])
theorem w449 : vrf GG [(4, g421), (4, g422), (4, g448)] [] 300 5 g449
  [] = true := by decide +kernel
theorem r449 {l : Launch} {D : va_G} {tys : List (ClassId × FieldType)} {A : Nat → Prop} {ad : Nat → Nat} (hAD : ∀ i : Nat, ad (1000 + i) = D.2 1000 i) : CRok l D tys A ad GG 6 g449 := CR_of_vrf (dep := 5) hAD (List.forall_mem_cons.mpr ⟨r421 hAD, List.forall_mem_cons.mpr ⟨r422 hAD, List.forall_mem_cons.mpr ⟨r448 hAD, fun c hc => by cases hc⟩⟩⟩) T2OK_nil w449
noncomputable def g450 : CR := (55, [(2, 0, 0), (0, 1, 1)], [], some (0, (-6), 5), [], [])
theorem w450 : vrf GG [(4, g424), (4, g425), (4, g448)] [] 300 5 g450
  [] = true := by decide +kernel
theorem r450 {l : Launch} {D : va_G} {tys : List (ClassId × FieldType)} {A : Nat → Prop} {ad : Nat → Nat} (hAD : ∀ i : Nat, ad (1000 + i) = D.2 1000 i) : CRok l D tys A ad GG 6 g450 := CR_of_vrf (dep := 5) hAD (List.forall_mem_cons.mpr ⟨r424 hAD, List.forall_mem_cons.mpr ⟨r425 hAD, List.forall_mem_cons.mpr ⟨r448 hAD, fun c hc => by cases hc⟩⟩⟩) T2OK_nil w450
noncomputable def g451 : CR := (55, [(2, 0, 0), (0, 2, 2)], [], some (0, (-6), 5), [], [])
theorem w451 : vrf GG [(4, g427), (4, g428), (4, g448)] [] 300 5 g451
  [] = true := by decide +kernel
theorem r451 {l : Launch} {D : va_G} {tys : List (ClassId × FieldType)} {A : Nat → Prop} {ad : Nat → Nat} (hAD : ∀ i : Nat, ad (1000 + i) = D.2 1000 i) : CRok l D tys A ad GG 6 g451 := CR_of_vrf (dep := 5) hAD (List.forall_mem_cons.mpr ⟨r427 hAD, List.forall_mem_cons.mpr ⟨r428 hAD, List.forall_mem_cons.mpr ⟨r448 hAD, fun c hc => by cases hc⟩⟩⟩) T2OK_nil w451
noncomputable def g452 : CR := (55, [(2, 0, 0), (0, 3, 3)], [], some (0, (-6), 5), [], [])
theorem w452 : vrf GG [(4, g430), (4, g431), (4, g448)] [] 300 5 g452
  [] = true := by decide +kernel
theorem r452 {l : Launch} {D : va_G} {tys : List (ClassId × FieldType)} {A : Nat → Prop} {ad : Nat → Nat} (hAD : ∀ i : Nat, ad (1000 + i) = D.2 1000 i) : CRok l D tys A ad GG 6 g452 := CR_of_vrf (dep := 5) hAD (List.forall_mem_cons.mpr ⟨r430 hAD, List.forall_mem_cons.mpr ⟨r431 hAD, List.forall_mem_cons.mpr ⟨r448 hAD, fun c hc => by cases hc⟩⟩⟩) T2OK_nil w452
noncomputable def g453 : CR := (316, [(2, 90, 90), (0, 0, 63), (0, 0, 5)], [], some (0, 0, 2147483647), [], [])
theorem w453 : vrf GG [] [] 300 1 g453
  (uK (uC kN5 (uE kI0 kI63 (uE kI0 kI5 (uE kI0 kI2147483647 (uE kJ1 kI9 uE0)))) (uA kN0 (rA kI90) (uA kN1 (uis kN0) (uA kN2 (uis kN1) (uA kN3 (uis kN2) (uA kN4 (uis kN3) uA0))))) uS0 uO0 (Int.ofNat (nat_lit 18348)) (uL kJ1836 kN3 uL0))
  (uK (uC kN22 (uE kI0 kI63 (uE kI0 kI5 (uE kI0 kI2147483647 (uE kJ1 kI8 (uE kJ2147483648 kI2147483647 (uE kI0 kI6 (uE kI0 kI9 uE0))))))) (uA kN0 (rA kI90) (uA kN1 (uis kN0) (uA kN2 (uis kN1) (uA kN3 (uis kN2) (uA kN4 (uis kN3) (uA kN5 (uis kN4) (uA kN6 (uis kN5) uA0))))))) uS0 (uO kN91 kN0 (uis kN6) uO0) (Int.ofNat (nat_lit 18002)) (uL kJ204 kN5 (uL kJ1836 kN3 uL0)))
  (uK (uC kN66 (uE kI0 kI63 (uE kI0 kI5 (uE kI0 kI2147483647 (uE kJ1 kI8 (uE kJ2147483648 kI2147483647 (uE kI0 kI5 (uE kJ1 kI8 (uE kJ2147483648 kI2147483647 (uE kI0 kI9 (uE kI1 kI6 uE0)))))))))) (uA kN0 (rA kI90) (uA kN1 (uis kN0) (uA kN2 (uis kN1) (uA kN3 (uis kN2) (uA kN4 (uis kN3) (uA kN5 (uis kN4) (uA kN6 (uis kN5) uA0))))))) (uS (uis kN6) (uS (uis kN7) uS0)) (uO kN91 kN0 (uis kN8) (uO kN91 kN3 (uis kN9) uO0)) (Int.ofNat (nat_lit 17958)) (uL kJ204 kN5 (uL kJ1836 kN3 uL0)))
  (uK (uC kN75 (uE kI0 kI63 (uE kI0 kI5 (uE kI0 kI2147483647 (uE kJ1 kI8 (uE kJ2147483648 kI2147483647 (uE kI0 kI5 (uE kJ2147483648 kI2147483647 (uE kI0 kI9 (uE kI1 kI6 uE0))))))))) (uA kN0 (rA kI90) (uA kN1 (uis kN0) (uA kN2 (uis kN1) (uA kN3 (uis kN2) (uA kN4 (uis kN3) (uA kN5 (uis kN4) (uA kN6 (uis kN5) uA0))))))) (uS (uis kN6) uS0) (uO kN91 kN0 (uis kN7) (uO kN91 kN3 (uis kN8) uO0)) (Int.ofNat (nat_lit 17949)) (uL kJ204 kN5 (uL kJ1836 kN3 uL0)))
  (uK (uC kN76 (uE kI0 kI63 (uE kI0 kI5 (uE kI0 kI2147483647 (uE kJ1 kI8 (uE kJ2147483648 kI2147483647 (uE kI0 kI5 (uE kI0 kI1 (uE kJ2147483648 kI2147483647 (uE kI0 kI9 (uE kI1 kI6 uE0)))))))))) (uA kN0 (rA kI90) (uA kN1 (uis kN0) (uA kN2 (uis kN1) (uA kN3 (uis kN2) (uA kN4 (uis kN3) (uA kN5 (uis kN4) (uA kN6 (uis kN5) uA0))))))) (uS (uis kN6) (uS (uis kN7) uS0)) (uO kN91 kN0 (uis kN8) (uO kN91 kN3 (uis kN9) uO0)) (Int.ofNat (nat_lit 17948)) (uL kJ204 kN5 (uL kJ1836 kN3 uL0)))
  uK0))))) = true := by decide +kernel
theorem r453 {l : Launch} {D : va_G} {tys : List (ClassId × FieldType)} {A : Nat → Prop} {ad : Nat → Nat} (hAD : ∀ i : Nat, ad (1000 + i) = D.2 1000 i) : CRok l D tys A ad GG 2 g453 := CR_of_vrf (dep := 1) hAD (fun c hc => by cases hc) T2OK_nil w453
noncomputable def g454 : CR := (317, [(2, 90, 90), (0, 0, 63)], [], some (0, (-1), 5), [], [])
theorem w454 : vrf GG [(1, g122), (2, g453)] [] 300 2 g454
  (uK (uC kN10 (uE kI0 kI63 (uE kI0 kI13 (uE kJ1 kI5 (uE kI0 kI6 uE0)))) (uA kN0 (rA kI90) (uA kN1 (uis kN0) (uA kN2 (uis kN1) (uA kN3 (uis kN2) (uA kN4 (uis kN3) uA0))))) uS0 uO0 kI692 (uL kJ102 kN3 uL0))
  (uK (uC kN41 (uE kI0 kI63 (uE kI0 kI13 (uE kJ1 kI5 (uE kI0 kI5 (uE kI0 kI2147483647 uE0))))) (uA kN0 (rA kI90) (uA kN1 (uis kN0) (uA kN2 (uis kN1) (uA kN3 (uis kN2) (uA kN4 (uis kN3) (uA kN5 (uis kN4) uA0)))))) uS0 uO0 (Int.ofNat (nat_lit 661)) (uL kJ102 kN3 uL0))
  uK0)) = true := by decide +kernel
theorem r454 {l : Launch} {D : va_G} {tys : List (ClassId × FieldType)} {A : Nat → Prop} {ad : Nat → Nat} (hAD : ∀ i : Nat, ad (1000 + i) = D.2 1000 i) : CRok l D tys A ad GG 3 g454 := CR_of_vrf (dep := 2) hAD (List.forall_mem_cons.mpr ⟨r122 hAD, List.forall_mem_cons.mpr ⟨r453 hAD, fun c hc => by cases hc⟩⟩) T2OK_nil w454
noncomputable def g461 : CR := (56, [(2, 0, 0), (0, (-2147483648), (-1))], [], some (0, (-2), (-2)), [], [])
theorem w461 : vrf GG [] [] 300 2 g461
  [] = true := by decide +kernel
theorem r461 {l : Launch} {D : va_G} {tys : List (ClassId × FieldType)} {A : Nat → Prop} {ad : Nat → Nat} (hAD : ∀ i : Nat, ad (1000 + i) = D.2 1000 i) : CRok l D tys A ad GG 3 g461 := CR_of_vrf (dep := 2) hAD (fun c hc => by cases hc) T2OK_nil w461
noncomputable def g462 : CR := (56, [(2, 0, 0), (0, 4, 2147483647)], [], some (0, (-2), (-2)), [], [])
theorem w462 : vrf GG [] [] 300 2 g462
  [] = true := by decide +kernel
theorem r462 {l : Launch} {D : va_G} {tys : List (ClassId × FieldType)} {A : Nat → Prop} {ad : Nat → Nat} (hAD : ∀ i : Nat, ad (1000 + i) = D.2 1000 i) : CRok l D tys A ad GG 3 g462 := CR_of_vrf (dep := 2) hAD (fun c hc => by cases hc) T2OK_nil w462
noncomputable def g463 : CR := (56, [(2, 0, 0), (0, 0, 0)], [], some (0, (-6), 2147483647), [], [])
theorem w463 : vrf GG [(4, g421), (4, g422), (4, g448), (3, g447)] [] 300 5 g463
  [] = true := by decide +kernel
theorem r463 {l : Launch} {D : va_G} {tys : List (ClassId × FieldType)} {A : Nat → Prop} {ad : Nat → Nat} (hAD : ∀ i : Nat, ad (1000 + i) = D.2 1000 i) : CRok l D tys A ad GG 6 g463 := CR_of_vrf (dep := 5) hAD (List.forall_mem_cons.mpr ⟨r421 hAD, List.forall_mem_cons.mpr ⟨r422 hAD, List.forall_mem_cons.mpr ⟨r448 hAD, List.forall_mem_cons.mpr ⟨r447 hAD, fun c hc => by cases hc⟩⟩⟩⟩) T2OK_nil w463
noncomputable def g464 : CR := (56, [(2, 0, 0), (0, 1, 1)], [], some (0, (-6), 2147483647), [], [])
theorem w464 : vrf GG [(4, g424), (4, g425), (4, g448), (3, g447)] [] 300 5 g464
  [] = true := by decide +kernel
theorem r464 {l : Launch} {D : va_G} {tys : List (ClassId × FieldType)} {A : Nat → Prop} {ad : Nat → Nat} (hAD : ∀ i : Nat, ad (1000 + i) = D.2 1000 i) : CRok l D tys A ad GG 6 g464 := CR_of_vrf (dep := 5) hAD (List.forall_mem_cons.mpr ⟨r424 hAD, List.forall_mem_cons.mpr ⟨r425 hAD, List.forall_mem_cons.mpr ⟨r448 hAD, List.forall_mem_cons.mpr ⟨r447 hAD, fun c hc => by cases hc⟩⟩⟩⟩) T2OK_nil w464
noncomputable def g465 : CR := (56, [(2, 0, 0), (0, 2, 2)], [], some (0, (-6), 2147483647), [], [])
theorem w465 : vrf GG [(4, g427), (4, g428), (4, g448), (3, g447)] [] 300 5 g465
  [] = true := by decide +kernel
theorem r465 {l : Launch} {D : va_G} {tys : List (ClassId × FieldType)} {A : Nat → Prop} {ad : Nat → Nat} (hAD : ∀ i : Nat, ad (1000 + i) = D.2 1000 i) : CRok l D tys A ad GG 6 g465 := CR_of_vrf (dep := 5) hAD (List.forall_mem_cons.mpr ⟨r427 hAD, List.forall_mem_cons.mpr ⟨r428 hAD, List.forall_mem_cons.mpr ⟨r448 hAD, List.forall_mem_cons.mpr ⟨r447 hAD, fun c hc => by cases hc⟩⟩⟩⟩) T2OK_nil w465
noncomputable def g466 : CR := (56, [(2, 0, 0), (0, 3, 3)], [], some (0, (-6), 2147483647), [], [])
theorem w466 : vrf GG [(4, g430), (4, g431), (4, g448), (3, g447)] [] 300 5 g466
  [] = true := by decide +kernel
theorem r466 {l : Launch} {D : va_G} {tys : List (ClassId × FieldType)} {A : Nat → Prop} {ad : Nat → Nat} (hAD : ∀ i : Nat, ad (1000 + i) = D.2 1000 i) : CRok l D tys A ad GG 6 g466 := CR_of_vrf (dep := 5) hAD (List.forall_mem_cons.mpr ⟨r430 hAD, List.forall_mem_cons.mpr ⟨r431 hAD, List.forall_mem_cons.mpr ⟨r448 hAD, List.forall_mem_cons.mpr ⟨r447 hAD, fun c hc => by cases hc⟩⟩⟩⟩) T2OK_nil w466
noncomputable def g473 : CR := (149, [(2, 52, 52), (0, 0, 0)], [], none, [], [52])
theorem w473 : vrf GG [] [] 300 0 g473
  (uK (uC kN2 (uE kI0 kI7 uE0) (uA kN0 (rA kI52) (uA kN1 (uic kI0) (uA kN2 (uis kN0) uA0))) uS0 uO0 kI330 (uL kJ42 kN0 uL0))
  uK0) = true := by decide +kernel
theorem r473 {l : Launch} {D : va_G} {tys : List (ClassId × FieldType)} {A : Nat → Prop} {ad : Nat → Nat} (hAD : ∀ i : Nat, ad (1000 + i) = D.2 1000 i) : CRok l D tys A ad GG 1 g473 := CR_of_vrf (dep := 0) hAD (fun c hc => by cases hc) T2OK_nil w473
noncomputable def g474 : CR := (131, [(2, 50, 50), (0, 0, 7), (0, 0, 7), (0, 0, 6)], [], some (0, (-2147483648), 2147483647), [], [52])
theorem w474 : vrf GG [(1, g473)] [] 300 1 g474
  (uK (uC kN11 (uE kI0 kI7 (uE kI0 kI7 (uE kI0 kI6 (uE kI0 kI8 uE0)))) (uA kN0 (rA kI50) (uA kN1 (uis kN0) (uA kN2 (uis kN1) (uA kN3 (uis kN2) (uA kN4 (uis kN3) uA0))))) uS0 uO0 (Int.ofNat (nat_lit 24924)) (uL kJ2772 kN3 uL0))
  (uK (uC kN20 (uE kI0 kI7 (uE kI0 kI7 (uE kI0 kI6 (uE kI0 kI7 (uE kI0 kI8 uE0))))) (uA kN0 (rA kI50) (uA kN1 (uis kN0) (uA kN2 (uis kN1) (uA kN3 (uis kN2) (uA kN4 (uis kN3) (uA kN5 (uis kN4) uA0)))))) uS0 uO0 (Int.ofNat (nat_lit 24516)) (uL kJ252 kN4 (uL kJ2772 kN3 uL0)))
  (uK (uC kN51 (uE kI0 kI7 (uE kI0 kI7 (uE kI0 kI6 (uE kI0 kI7 (uE kI0 kI7 (uE kJ2147483648 kI2147483647 uE0)))))) (uA kN0 (rA kI50) (uA kN1 (uis kN0) (uA kN2 (uis kN1) (uA kN3 (uis kN2) (uA kN4 (uis kN3) (uA kN5 (uis kN4) (uA kN6 (uis kN5) uA0))))))) uS0 uO0 (Int.ofNat (nat_lit 24485)) (uL kJ252 kN4 (uL kJ2772 kN3 uL0)))
  (uK (uC kN73 (uE kI0 kI7 (uE kI0 kI7 (uE kI0 kI6 (uE kI0 kI7 (uE kI0 kI7 (uE kJ2147483648 kI2147483647 (uE kJ2147483648 kI2147483647 (uE kJ2147483648 kI2147483647 uE0)))))))) (uA kN0 (rA kI50) (uA kN1 (uis kN0) (uA kN2 (uis kN1) (uA kN3 (uis kN2) (uA kN4 (uis kN3) (uA kN5 (uis kN4) (uA kN6 (uis kN5) uA0))))))) (uS (uis kN6) (uS (uis kN7) uS0)) uO0 (Int.ofNat (nat_lit 24463)) (uL kJ252 kN4 (uL kJ2772 kN3 uL0)))
  (uK (uC kN74 (uE kI0 kI7 (uE kI0 kI7 (uE kI0 kI6 (uE kI0 kI7 (uE kI0 kI7 (uE kJ2147483648 kI2147483647 (uE kJ2147483648 kI2147483647 uE0))))))) (uA kN0 (rA kI50) (uA kN1 (uis kN0) (uA kN2 (uis kN1) (uA kN3 (uis kN2) (uA kN4 (uis kN3) (uA kN5 (uis kN4) (uA kN6 (uis kN5) uA0))))))) (uS (uis kN6) uS0) uO0 (Int.ofNat (nat_lit 24462)) (uL kJ252 kN4 (uL kJ2772 kN3 uL0)))
  (uK (uC kN100 (uE kI0 kI7 (uE kI0 kI7 (uE kI0 kI6 (uE kI0 kI7 (uE kI0 kI7 (uE kJ2147483648 kI2147483647 (uE kJ2147483648 kI2147483647 (uE kJ2147483648 kI2147483647 (uE kI0 kI7 uE0))))))))) (uA kN0 (rA kI50) (uA kN1 (uis kN0) (uA kN2 (uis kN1) (uA kN3 (uis kN2) (uA kN4 (uis kN3) (uA kN5 (uis kN4) (uA kN6 (uis kN5) (uA kN7 (uis kN6) uA0)))))))) (uS (uis kN7) (uS (uis kN8) (uS (rA kI52) uS0))) uO0 (Int.ofNat (nat_lit 24436)) (uL kJ252 kN4 (uL kJ2772 kN3 uL0)))
  uK0)))))) = true := by decide +kernel
theorem r474 {l : Launch} {D : va_G} {tys : List (ClassId × FieldType)} {A : Nat → Prop} {ad : Nat → Nat} (hAD : ∀ i : Nat, ad (1000 + i) = D.2 1000 i) : CRok l D tys A ad GG 2 g474 := CR_of_vrf (dep := 1) hAD (List.forall_mem_cons.mpr ⟨r473 hAD, fun c hc => by cases hc⟩) T2OK_nil w474
noncomputable def g475 : CR := (58, [(2, 0, 0), (0, (-2147483648), 2147483647), (0, (-2147483648), 2147483647), (0, (-2147483648), 2147483647)], [], some (0, (-2147483648), 2147483647), [], [52])
theorem w475 : vrf GG [(2, g474)] [] 300 2 g475
  [] = true := by decide +kernel
theorem r475 {l : Launch} {D : va_G} {tys : List (ClassId × FieldType)} {A : Nat → Prop} {ad : Nat → Nat} (hAD : ∀ i : Nat, ad (1000 + i) = D.2 1000 i) : CRok l D tys A ad GG 3 g475 := CR_of_vrf (dep := 2) hAD (List.forall_mem_cons.mpr ⟨r474 hAD, fun c hc => by cases hc⟩) T2OK_nil w475
noncomputable def g476 : CR := (320, [(2, 90, 90), (0, 0, 6), (0, 0, 0), (0, 6, 6)], [], some (0, 1, 1), [], [106])
theorem r476 {l : Launch} {D : va_G} {tys : List (ClassId × FieldType)} {A : Nat → Prop} {ad : Nat → Nat} (hAD : ∀ i : Nat, ad (1000 + i) = D.2 1000 i) : CRok l D tys A ad GG 2 g476 := zqlv (b := 0) (C := 1) (by omega) (by decide +kernel)
noncomputable def g477 : CR := (320, [(2, 90, 90), (0, 0, 6), (0, 0, 6), (0, (-2147483648), 5)], [], some (0, (-2147483648), 2147483647), [], [106])
theorem w477 : vrf GG [] [] 300 1 g477
  (uK (uC kN3 (uE kI0 kI6 (uE kI0 kI6 (uE kJ2147483648 kI5 (uE kI0 kI7 uE0)))) (uA kN0 (rA kI90) (uA kN1 (uis kN0) (uA kN2 (uis kN1) (uA kN3 (uis kN2) (uA kN4 (uis kN3) uA0))))) uS0 uO0 (Int.ofNat (nat_lit 22712)) (uL kJ2840 kN3 uL0))
  (uK (uC kN12 (uE kI0 kI6 (uE kI0 kI6 (uE kJ2147483648 kI5 (uE kI0 kI6 (uE kI0 kI7 uE0))))) (uA kN0 (rA kI90) (uA kN1 (uis kN0) (uA kN2 (uis kN1) (uA kN3 (uis kN2) (uA kN4 (uis kN3) (uA kN5 (uis kN4) uA0)))))) uS0 uO0 (Int.ofNat (nat_lit 22264)) (uL kJ284 kN4 (uL kJ2840 kN3 uL0)))
  (uK (uC kN32 (uE kI0 kI6 (uE kI0 kI6 (uE kJ2147483648 kI5 (uE kI0 kI6 (uE kI0 kI6 uE0))))) (uA kN0 (rA kI90) (uA kN1 (uis kN0) (uA kN2 (uis kN1) (uA kN3 (uis kN2) (uA kN4 (uis kN3) (uA kN5 (uis kN4) uA0)))))) uS0 uO0 (Int.ofNat (nat_lit 22244)) (uL kJ284 kN4 (uL kJ2840 kN3 uL0)))
  (uK (uC kN33 (uE kI0 kI6 (uE kI0 kI6 (uE kJ2147483648 kI5 (uE kI0 kI6 (uE kI0 kI6 (uE kI0 kI1 uE0)))))) (uA kN0 (rA kI90) (uA kN1 (uis kN0) (uA kN2 (uis kN1) (uA kN3 (uis kN2) (uA kN4 (uis kN3) (uA kN5 (uis kN4) uA0)))))) (uS (uis kN5) uS0) uO0 (Int.ofNat (nat_lit 22243)) (uL kJ284 kN4 (uL kJ2840 kN3 uL0)))
  (uK (uC kN60 (uE kI0 kI6 (uE kI0 kI6 (uE kJ2147483648 kI5 (uE kI0 kI6 (uE kI0 kI6 (uE kJ2147483648 kI2147483647 uE0)))))) (uA kN0 (rA kI90) (uA kN1 (uis kN0) (uA kN2 (uis kN1) (uA kN3 (uis kN2) (uA kN4 (uis kN3) (uA kN5 (uis kN4) (uA kN6 (uis kN5) uA0))))))) uS0 uO0 (Int.ofNat (nat_lit 22216)) (uL kJ284 kN4 (uL kJ2840 kN3 uL0)))
  (uK (uC kN85 (uE kI0 kI6 (uE kI0 kI6 (uE kJ2147483648 kI5 (uE kI0 kI6 (uE kI0 kI6 (uE kJ2147483648 kI2147483647 uE0)))))) (uA kN0 (rA kI90) (uA kN1 (uis kN0) (uA kN2 (uis kN1) (uA kN3 (uis kN2) (uA kN4 (uis kN3) (uA kN5 (uis kN4) (uA kN6 (uis kN5) uA0))))))) uS0 uO0 (Int.ofNat (nat_lit 22191)) (uL kJ284 kN4 (uL kJ2840 kN3 uL0)))
  (uK (uC kN115 (uE kI0 kI6 (uE kI0 kI6 (uE kJ2147483648 kI5 (uE kI0 kI6 (uE kI0 kI6 (uE kJ2147483648 kI2147483647 (uE kJ2147483648 kI2147483647 (uE kI0 kI48 uE0)))))))) (uA kN0 (rA kI90) (uA kN1 (uis kN0) (uA kN2 (uis kN1) (uA kN3 (uis kN2) (uA kN4 (uis kN3) (uA kN5 (uis kN4) (uA kN6 (uis kN5) uA0))))))) (uS (uis kN6) (uS (uis kN7) (uS (rA kI106) uS0))) uO0 (Int.ofNat (nat_lit 22161)) (uL kJ284 kN4 (uL kJ2840 kN3 uL0)))
  uK0))))))) = true := by decide +kernel
theorem r477 {l : Launch} {D : va_G} {tys : List (ClassId × FieldType)} {A : Nat → Prop} {ad : Nat → Nat} (hAD : ∀ i : Nat, ad (1000 + i) = D.2 1000 i) : CRok l D tys A ad GG 2 g477 := CR_of_vrf (dep := 1) hAD (fun c hc => by cases hc) T2OK_nil w477
noncomputable def g478 : CR := (320, [(2, 90, 90), (0, 0, 6), (0, 1, 1), (0, 6, 6)], [], some (0, 1, 7), [], [106])
theorem r478 {l : Launch} {D : va_G} {tys : List (ClassId × FieldType)} {A : Nat → Prop} {ad : Nat → Nat} (hAD : ∀ i : Nat, ad (1000 + i) = D.2 1000 i) : CRok l D tys A ad GG 2 g478 := zqlv (b := 1) (C := 7) (by omega) (by decide +kernel)
noncomputable def g479 : CR := (320, [(2, 90, 90), (0, 0, 6), (0, 2, 2), (0, 6, 6)], [], some (0, 1, 28), [], [106])
theorem r479 {l : Launch} {D : va_G} {tys : List (ClassId × FieldType)} {A : Nat → Prop} {ad : Nat → Nat} (hAD : ∀ i : Nat, ad (1000 + i) = D.2 1000 i) : CRok l D tys A ad GG 2 g479 := zqlv (b := 2) (C := 28) (by omega) (by decide +kernel)
noncomputable def g480 : CR := (320, [(2, 90, 90), (0, 0, 6), (0, 3, 3), (0, 6, 6)], [], some (0, 1, 84), [], [106])
theorem r480 {l : Launch} {D : va_G} {tys : List (ClassId × FieldType)} {A : Nat → Prop} {ad : Nat → Nat} (hAD : ∀ i : Nat, ad (1000 + i) = D.2 1000 i) : CRok l D tys A ad GG 2 g480 := zqlv (b := 3) (C := 84) (by omega) (by decide +kernel)
end
section
noncomputable def g481 : CR := (320, [(2, 90, 90), (0, 0, 6), (0, 4, 4), (0, 6, 6)], [], some (0, 1, 210), [], [106])
theorem r481 {l : Launch} {D : va_G} {tys : List (ClassId × FieldType)} {A : Nat → Prop} {ad : Nat → Nat} (hAD : ∀ i : Nat, ad (1000 + i) = D.2 1000 i) : CRok l D tys A ad GG 2 g481 := zqlv (b := 4) (C := 210) (by omega) (by decide +kernel)
noncomputable def g482 : CR := (320, [(2, 90, 90), (0, 0, 6), (0, 5, 5), (0, 6, 6)], [], some (0, 1, 462), [], [106])
theorem r482 {l : Launch} {D : va_G} {tys : List (ClassId × FieldType)} {A : Nat → Prop} {ad : Nat → Nat} (hAD : ∀ i : Nat, ad (1000 + i) = D.2 1000 i) : CRok l D tys A ad GG 2 g482 := zqlv (b := 5) (C := 462) (by omega) (by decide +kernel)
noncomputable def g483 : CR := (320, [(2, 90, 90), (0, 0, 6), (0, 6, 6), (0, 6, 6)], [], some (0, 1, 924), [], [106])
theorem r483 {l : Launch} {D : va_G} {tys : List (ClassId × FieldType)} {A : Nat → Prop} {ad : Nat → Nat} (hAD : ∀ i : Nat, ad (1000 + i) = D.2 1000 i) : CRok l D tys A ad GG 2 g483 := zqlv (b := 6) (C := 924) (by omega) (by decide +kernel)
noncomputable def g484 : CR := (321, [(2, 90, 90), (0, (-2147483648), 2147483647), (0, (-2147483648), 2147483647), (0, (-2147483648), 2147483647)], [], some (0, (-2147483648), 2147483647), [], [106])
theorem w484 : vrf GG [(2, g476), (2, g478), (2, g479), (2, g480), (2, g481), (2, g482), (2, g483), (2, g477)] [] 300 3 g484
  [] = true := by decide +kernel
theorem r484 {l : Launch} {D : va_G} {tys : List (ClassId × FieldType)} {A : Nat → Prop} {ad : Nat → Nat} (hAD : ∀ i : Nat, ad (1000 + i) = D.2 1000 i) : CRok l D tys A ad GG 4 g484 := CR_of_vrf (dep := 3) hAD (List.forall_mem_cons.mpr ⟨r476 hAD, List.forall_mem_cons.mpr ⟨r478 hAD, List.forall_mem_cons.mpr ⟨r479 hAD, List.forall_mem_cons.mpr ⟨r480 hAD, List.forall_mem_cons.mpr ⟨r481 hAD, List.forall_mem_cons.mpr ⟨r482 hAD, List.forall_mem_cons.mpr ⟨r483 hAD, List.forall_mem_cons.mpr ⟨r477 hAD, fun c hc => by cases hc⟩⟩⟩⟩⟩⟩⟩⟩) T2OK_nil w484
noncomputable def g485 : CR := (59, [(2, 0, 0), (0, (-2147483648), 2147483647), (0, (-2147483648), 2147483647)], [], some (0, (-2), 6), [], [52])
theorem w485 : vrf GG [(2, g474)] [] 300 2 g485
  (uK (uC kN14 (uE kI0 kI5 (uE kI0 kI5 (uE kI0 kI7 (uE kI1 kI6 uE0)))) (uA kN0 (rA kI0) (uA kN1 (uis kN0) (uA kN2 (uis kN1) (uA kN3 (uis kN2) uA0)))) uS0 (uO kN4 kN4 (uis kN3) uO0) kI914 (uL kJ118 kN2 uL0))
  uK0) = true := by decide +kernel
theorem r485 {l : Launch} {D : va_G} {tys : List (ClassId × FieldType)} {A : Nat → Prop} {ad : Nat → Nat} (hAD : ∀ i : Nat, ad (1000 + i) = D.2 1000 i) : CRok l D tys A ad GG 3 g485 := CR_of_vrf (dep := 2) hAD (List.forall_mem_cons.mpr ⟨r474 hAD, fun c hc => by cases hc⟩) T2OK_nil w485
noncomputable def g486 : CR := (322, [(2, 90, 90), (0, (-2147483648), 2147483647), (0, (-2147483648), 2147483647)], [], some (0, (-2), 6), [], [106])
theorem w486 : vrf GG [(2, g476), (2, g478), (2, g479), (2, g480), (2, g481), (2, g482), (2, g483), (2, g477)] [] 300 3 g486
  (uK (uC kN14 (uE kI0 kI5 (uE kI0 kI5 (uE kI0 kI6 (uE kI1 kI6 uE0)))) (uA kN0 (rA kI90) (uA kN1 (uis kN0) (uA kN2 (uis kN1) (uA kN3 (uis kN2) uA0)))) uS0 (uO kN91 kN3 (uis kN3) uO0) (Int.ofNat (nat_lit 558)) (uL (Int.negSucc (nat_lit 83)) kN2 uL0))
  uK0) = true := by decide +kernel
theorem r486 {l : Launch} {D : va_G} {tys : List (ClassId × FieldType)} {A : Nat → Prop} {ad : Nat → Nat} (hAD : ∀ i : Nat, ad (1000 + i) = D.2 1000 i) : CRok l D tys A ad GG 4 g486 := CR_of_vrf (dep := 3) hAD (List.forall_mem_cons.mpr ⟨r476 hAD, List.forall_mem_cons.mpr ⟨r478 hAD, List.forall_mem_cons.mpr ⟨r479 hAD, List.forall_mem_cons.mpr ⟨r480 hAD, List.forall_mem_cons.mpr ⟨r481 hAD, List.forall_mem_cons.mpr ⟨r482 hAD, List.forall_mem_cons.mpr ⟨r483 hAD, List.forall_mem_cons.mpr ⟨r477 hAD, fun c hc => by cases hc⟩⟩⟩⟩⟩⟩⟩⟩) T2OK_nil w486
noncomputable def g487 : CR := (60, [(2, 0, 0), (0, (-2147483648), 0)], [], some (0, (-2), (-2)), [], [])
theorem w487 : vrf GG [] [] 300 1 g487
  [] = true := by decide +kernel
theorem r487 {l : Launch} {D : va_G} {tys : List (ClassId × FieldType)} {A : Nat → Prop} {ad : Nat → Nat} (hAD : ∀ i : Nat, ad (1000 + i) = D.2 1000 i) : CRok l D tys A ad GG 2 g487 := CR_of_vrf (dep := 1) hAD (fun c hc => by cases hc) T2OK_nil w487
noncomputable def g488 : CR := (60, [(2, 0, 0), (0, 7, 2147483647)], [], some (0, (-2), (-2)), [], [])
theorem w488 : vrf GG [] [] 300 1 g488
  [] = true := by decide +kernel
theorem r488 {l : Launch} {D : va_G} {tys : List (ClassId × FieldType)} {A : Nat → Prop} {ad : Nat → Nat} (hAD : ∀ i : Nat, ad (1000 + i) = D.2 1000 i) : CRok l D tys A ad GG 2 g488 := CR_of_vrf (dep := 1) hAD (fun c hc => by cases hc) T2OK_nil w488
noncomputable def g489 : CR := (126, [(2, 50, 50), (2, 4, 4), (0, 0, 5), (0, 0, 6)], [], some (0, 0, 1), [], [])
theorem w489 : vrf GG [] [] 300 2 g489
  (uK (uC kN3 (uE kI0 kI5 (uE kI0 kI6 (uE kI0 kI6 uE0))) (uA kN0 (rA kI50) (uA kN1 (rA kI4) (uA kN2 (uis kN0) (uA kN3 (uis kN1) (uA kN4 (uis kN2) uA0))))) uS0 uO0 (Int.ofNat (nat_lit 552)) (uL kJ80 kN2 uL0))
  uK0) = true := by decide +kernel
theorem r489 {l : Launch} {D : va_G} {tys : List (ClassId × FieldType)} {A : Nat → Prop} {ad : Nat → Nat} (hAD : ∀ i : Nat, ad (1000 + i) = D.2 1000 i) : CRok l D tys A ad GG 3 g489 := CR_of_vrf (dep := 2) hAD (fun c hc => by cases hc) T2OK_nil w489
noncomputable def g490 : CR := (128, [(2, 4, 4), (0, 0, 5), (0, 0, 5), (0, 0, 6)], [], some (0, 0, 1), [], [])
theorem w490 : vrf GG [] [] 300 2 g490
  (uK (uC kN3 (uE kI0 kI5 (uE kI0 kI5 (uE kI0 kI6 (uE kI0 kI6 uE0)))) (uA kN0 (rA kI4) (uA kN1 (uis kN0) (uA kN2 (uis kN1) (uA kN3 (uis kN2) (uA kN4 (uis kN3) uA0))))) uS0 uO0 (Int.ofNat (nat_lit 524)) (uL (Int.negSucc (nat_lit 75)) kN3 uL0))
  uK0) = true := by decide +kernel
theorem r490 {l : Launch} {D : va_G} {tys : List (ClassId × FieldType)} {A : Nat → Prop} {ad : Nat → Nat} (hAD : ∀ i : Nat, ad (1000 + i) = D.2 1000 i) : CRok l D tys A ad GG 3 g490 := CR_of_vrf (dep := 2) hAD (fun c hc => by cases hc) T2OK_nil w490
noncomputable def g491 : CR := (127, [(2, 4, 4), (0, 0, 5), (0, 1, 6)], [], some (0, 0, 1), [], [])
theorem w491 : vrf GG [(3, g490)] [] 300 3 g491
  (uK (uC kN13 (uE kI0 kI5 (uE kI1 kI6 (uE kI0 kI6 (uE kI0 kI6 uE0)))) (uA kN0 (rA kI4) (uA kN1 (uis kN0) (uA kN2 (uis kN1) (uA kN3 (uis kN2) (uA kN4 (uis kN3) uA0))))) uS0 uO0 (Int.ofNat (nat_lit 1288)) (uL kJ188 kN3 uL0))
  (uK (uC kN52 (uE kI0 kI5 (uE kI1 kI6 (uE kI0 kI6 (uE kI0 kI5 (uE kI0 kI6 (uE kI1 kI6 uE0)))))) (uA kN0 (rA kI4) (uA kN1 (uis kN0) (uA kN2 (uis kN1) (uA kN3 (uis kN2) (uA kN4 (uis kN3) (uA kN5 (uis kN4) uA0)))))) uS0 (uO kN4 kN4 (uis kN5) uO0) (Int.ofNat (nat_lit 1249)) (uL kJ188 kN3 uL0))
  (uK (uC kN56 (uE kI0 kI5 (uE kI1 kI6 (uE kI0 kI6 (uE kI0 kI5 (uE kI0 kI6 (uE kI1 kI6 uE0)))))) (uA kN0 (rA kI4) (uA kN1 (uis kN0) (uA kN2 (uis kN1) (uA kN3 (uis kN2) (uA kN4 (uis kN3) (uA kN5 (uis kN4) uA0)))))) uS0 (uO kN4 kN4 (uis kN5) uO0) (Int.ofNat (nat_lit 1245)) (uL kJ188 kN3 uL0))
  (uK (uC kN57 (uE kI0 kI5 (uE kI1 kI6 (uE kI0 kI6 (uE kI0 kI5 (uE kI0 kI6 (uE kI0 kI1 (uE kI1 kI6 uE0))))))) (uA kN0 (rA kI4) (uA kN1 (uis kN0) (uA kN2 (uis kN1) (uA kN3 (uis kN2) (uA kN4 (uis kN3) (uA kN5 (uis kN4) uA0)))))) (uS (uis kN5) uS0) (uO kN4 kN4 (uis kN6) uO0) (Int.ofNat (nat_lit 1244)) (uL kJ188 kN3 uL0))
  (uK (uC kN84 (uE kI0 kI5 (uE kI1 kI6 (uE kI0 kI6 (uE kI0 kI5 (uE kI0 kI6 (uE kI0 kI1 (uE kI1 kI6 uE0))))))) (uA kN0 (rA kI4) (uA kN1 (uis kN0) (uA kN2 (uis kN1) (uA kN3 (uis kN2) (uA kN4 (uis kN3) (uA kN5 (uis kN4) (uA kN6 (uis kN5) uA0))))))) uS0 (uO kN4 kN4 (uis kN6) uO0) kI1217 (uL kJ188 kN3 uL0))
  uK0))))) = true := by decide +kernel
theorem r491 {l : Launch} {D : va_G} {tys : List (ClassId × FieldType)} {A : Nat → Prop} {ad : Nat → Nat} (hAD : ∀ i : Nat, ad (1000 + i) = D.2 1000 i) : CRok l D tys A ad GG 4 g491 := CR_of_vrf (dep := 3) hAD (List.forall_mem_cons.mpr ⟨r490 hAD, fun c hc => by cases hc⟩) T2OK_nil w491
noncomputable def g492 : CR := (151, [(0, 0, 9), (0, 0, 0)], [], some (1, 1, 1), [], [])
theorem w492 : vrf GG [] [] 300 0 g492
  (uK (uC kN5 (uE kI0 kI9 uE0) (uA kN0 (uis kN0) (uA kN1 (uic kI0) (uA kN2 (ulc kI1) (uA kN4 (uic kI0) uA0)))) uS0 uO0 kI40 uL0)
  uK0) = true := by decide +kernel
theorem r492 {l : Launch} {D : va_G} {tys : List (ClassId × FieldType)} {A : Nat → Prop} {ad : Nat → Nat} (hAD : ∀ i : Nat, ad (1000 + i) = D.2 1000 i) : CRok l D tys A ad GG 1 g492 := CR_of_vrf (dep := 0) hAD (fun c hc => by cases hc) T2OK_nil w492
noncomputable def g493 : CR := (151, [(0, 0, 9), (0, 1, 1)], [], some (1, (-9223372036854775808), 9223372036854775807), [], [])
theorem w493 : vrf GG [] [] 300 0 g493
  (uK (uC kN5 (uE kI0 kI9 (uE kJ9223372036854775808 kI9223372036854775807 (uE kI0 kI1 uE0))) (uA kN0 (uis kN0) (uA kN1 (uic kI1) (uA kN2 (uls kN1) (uA kN4 (uis kN2) uA0)))) uS0 uO0 kI92 (uL kJ52 kN2 uL0))
  uK0) = true := by decide +kernel
theorem r493 {l : Launch} {D : va_G} {tys : List (ClassId × FieldType)} {A : Nat → Prop} {ad : Nat → Nat} (hAD : ∀ i : Nat, ad (1000 + i) = D.2 1000 i) : CRok l D tys A ad GG 1 g493 := CR_of_vrf (dep := 0) hAD (fun c hc => by cases hc) T2OK_nil w493
noncomputable def g494 : CR := (125, [(2, 50, 50), (2, 4, 4), (0, 1, 1), (0, 0, 0)], [], some (0, (-2147483648), 2147483647), [], [])
theorem w494 : vrf GG [(3, g489), (4, g491), (1, g492), (1, g493)] [] 300 4 g494
  (uK (uC kN15 (uE kJ9223372036854775808 kI9223372036854775807 (uE kI0 kI6 (uE kI0 kI9 uE0))) (uA kN0 (rA kI50) (uA kN1 (rA kI4) (uA kN2 (uic kI1) (uA kN3 (uic kI0) (uA kN4 (uls kN0) (uA kN6 (uis kN1) uA0)))))) uS0 (uO kN4 kN1 (uis kN2) uO0) kI1340 (uL kJ196 kN1 uL0))
  (uK (uC kN86 (uE kJ9223372036854775808 kI9223372036854775807 (uE kI0 kI5 (uE kI0 kI1 (uE kI0 kI9 (uE kI1 kI6 uE0))))) (uA kN0 (rA kI50) (uA kN1 (rA kI4) (uA kN2 (uic kI1) (uA kN3 (uic kI0) (uA kN4 (uls kN0) (uA kN6 (uis kN1) (uA kN7 (uis kN2) uA0))))))) uS0 (uO kN4 kN1 (uis kN3) (uO kN4 kN4 (uis kN4) uO0)) kI1269 (uL kJ196 kN1 uL0))
  uK0)) = true := by decide +kernel
theorem r494 {l : Launch} {D : va_G} {tys : List (ClassId × FieldType)} {A : Nat → Prop} {ad : Nat → Nat} (hAD : ∀ i : Nat, ad (1000 + i) = D.2 1000 i) : CRok l D tys A ad GG 5 g494 := CR_of_vrf (dep := 4) hAD (List.forall_mem_cons.mpr ⟨r489 hAD, List.forall_mem_cons.mpr ⟨r491 hAD, List.forall_mem_cons.mpr ⟨r492 hAD, List.forall_mem_cons.mpr ⟨r493 hAD, fun c hc => by cases hc⟩⟩⟩⟩) T2OK_nil w494
noncomputable def g495 : CR := (60, [(2, 0, 0), (0, 1, 1)], [], some (0, (-2147483648), 2147483647), [], [])
theorem w495 : vrf GG [(5, g494)] [] 300 5 g495
  [] = true := by decide +kernel
theorem r495 {l : Launch} {D : va_G} {tys : List (ClassId × FieldType)} {A : Nat → Prop} {ad : Nat → Nat} (hAD : ∀ i : Nat, ad (1000 + i) = D.2 1000 i) : CRok l D tys A ad GG 6 g495 := CR_of_vrf (dep := 5) hAD (List.forall_mem_cons.mpr ⟨r494 hAD, fun c hc => by cases hc⟩) T2OK_nil w495
noncomputable def g496 : CR := (151, [(0, 0, 9), (0, 2, 2)], [], some (1, (-9223372036854775808), 9223372036854775807), [], [])
theorem w496 : vrf GG [] [] 300 0 g496
  (uK (uC kN5 (uE kI0 kI9 (uE kJ9223372036854775808 kI9223372036854775807 (uE kI0 kI2 uE0))) (uA kN0 (uis kN0) (uA kN1 (uic kI2) (uA kN2 (uls kN1) (uA kN4 (uis kN2) uA0)))) uS0 uO0 kI144 (uL kJ52 kN2 uL0))
  uK0) = true := by decide +kernel
theorem r496 {l : Launch} {D : va_G} {tys : List (ClassId × FieldType)} {A : Nat → Prop} {ad : Nat → Nat} (hAD : ∀ i : Nat, ad (1000 + i) = D.2 1000 i) : CRok l D tys A ad GG 1 g496 := CR_of_vrf (dep := 0) hAD (fun c hc => by cases hc) T2OK_nil w496
noncomputable def g497 : CR := (125, [(2, 50, 50), (2, 4, 4), (0, 2, 2), (0, 0, 0)], [], some (0, (-2147483648), 2147483647), [], [])
theorem w497 : vrf GG [(3, g489), (4, g491), (1, g492), (1, g493), (1, g496)] [] 300 4 g497
  (uK (uC kN15 (uE kJ9223372036854775808 kI9223372036854775807 (uE kI0 kI6 (uE kI0 kI9 uE0))) (uA kN0 (rA kI50) (uA kN1 (rA kI4) (uA kN2 (uic kI2) (uA kN3 (uic kI0) (uA kN4 (uls kN0) (uA kN6 (uis kN1) uA0)))))) uS0 (uO kN4 kN1 (uis kN2) uO0) kI1340 (uL kJ196 kN1 uL0))
  (uK (uC kN86 (uE kJ9223372036854775808 kI9223372036854775807 (uE kI0 kI5 (uE kI0 kI2 (uE kI0 kI9 (uE kI1 kI6 uE0))))) (uA kN0 (rA kI50) (uA kN1 (rA kI4) (uA kN2 (uic kI2) (uA kN3 (uic kI0) (uA kN4 (uls kN0) (uA kN6 (uis kN1) (uA kN7 (uis kN2) uA0))))))) uS0 (uO kN4 kN1 (uis kN3) (uO kN4 kN4 (uis kN4) uO0)) kI1269 (uL kJ196 kN1 uL0))
  uK0)) = true := by decide +kernel
theorem r497 {l : Launch} {D : va_G} {tys : List (ClassId × FieldType)} {A : Nat → Prop} {ad : Nat → Nat} (hAD : ∀ i : Nat, ad (1000 + i) = D.2 1000 i) : CRok l D tys A ad GG 5 g497 := CR_of_vrf (dep := 4) hAD (List.forall_mem_cons.mpr ⟨r489 hAD, List.forall_mem_cons.mpr ⟨r491 hAD, List.forall_mem_cons.mpr ⟨r492 hAD, List.forall_mem_cons.mpr ⟨r493 hAD, List.forall_mem_cons.mpr ⟨r496 hAD, fun c hc => by cases hc⟩⟩⟩⟩⟩) T2OK_nil w497
noncomputable def g498 : CR := (60, [(2, 0, 0), (0, 2, 2)], [], some (0, (-2147483648), 2147483647), [], [])
theorem w498 : vrf GG [(5, g497)] [] 300 5 g498
  [] = true := by decide +kernel
theorem r498 {l : Launch} {D : va_G} {tys : List (ClassId × FieldType)} {A : Nat → Prop} {ad : Nat → Nat} (hAD : ∀ i : Nat, ad (1000 + i) = D.2 1000 i) : CRok l D tys A ad GG 6 g498 := CR_of_vrf (dep := 5) hAD (List.forall_mem_cons.mpr ⟨r497 hAD, fun c hc => by cases hc⟩) T2OK_nil w498
noncomputable def g499 : CR := (151, [(0, 0, 9), (0, 1, 2)], [], some (1, (-9223372036854775808), 9223372036854775807), [], [])
theorem w499 : vrf GG [] [] 300 0 g499
  (uK (uC kN5 (uE kI0 kI9 (uE kI1 kI2 (uE kJ9223372036854775808 kI9223372036854775807 (uE kI0 kI2 uE0)))) (uA kN0 (uis kN0) (uA kN1 (uis kN1) (uA kN2 (uls kN2) (uA kN4 (uis kN3) uA0)))) uS0 uO0 kI144 (uL kJ52 kN3 uL0))
  uK0) = true := by decide +kernel
theorem r499 {l : Launch} {D : va_G} {tys : List (ClassId × FieldType)} {A : Nat → Prop} {ad : Nat → Nat} (hAD : ∀ i : Nat, ad (1000 + i) = D.2 1000 i) : CRok l D tys A ad GG 1 g499 := CR_of_vrf (dep := 0) hAD (fun c hc => by cases hc) T2OK_nil w499
noncomputable def g500 : CR := (151, [(0, 0, 9), (0, 3, 3)], [], some (1, (-9223372036854775808), 9223372036854775807), [], [])
theorem w500 : vrf GG [] [] 300 0 g500
  (uK (uC kN5 (uE kI0 kI9 (uE kJ9223372036854775808 kI9223372036854775807 (uE kI0 kI3 uE0))) (uA kN0 (uis kN0) (uA kN1 (uic kI3) (uA kN2 (uls kN1) (uA kN4 (uis kN2) uA0)))) uS0 uO0 (Int.ofNat (nat_lit 196)) (uL kJ52 kN2 uL0))
  uK0) = true := by decide +kernel
theorem r500 {l : Launch} {D : va_G} {tys : List (ClassId × FieldType)} {A : Nat → Prop} {ad : Nat → Nat} (hAD : ∀ i : Nat, ad (1000 + i) = D.2 1000 i) : CRok l D tys A ad GG 1 g500 := CR_of_vrf (dep := 0) hAD (fun c hc => by cases hc) T2OK_nil w500
noncomputable def g501 : CR := (125, [(2, 50, 50), (2, 4, 4), (0, 3, 3), (0, 0, 0)], [], some (0, (-2147483648), 2147483647), [], [])
theorem w501 : vrf GG [(3, g489), (4, g491), (1, g492), (1, g500), (1, g499)] [] 300 4 g501
  (uK (uC kN15 (uE kJ9223372036854775808 kI9223372036854775807 (uE kI0 kI6 (uE kI0 kI9 uE0))) (uA kN0 (rA kI50) (uA kN1 (rA kI4) (uA kN2 (uic kI3) (uA kN3 (uic kI0) (uA kN4 (uls kN0) (uA kN6 (uis kN1) uA0)))))) uS0 (uO kN4 kN1 (uis kN2) uO0) kI1340 (uL kJ196 kN1 uL0))
  (uK (uC kN86 (uE kJ9223372036854775808 kI9223372036854775807 (uE kI0 kI5 (uE kI0 kI3 (uE kI0 kI9 (uE kI1 kI6 uE0))))) (uA kN0 (rA kI50) (uA kN1 (rA kI4) (uA kN2 (uic kI3) (uA kN3 (uic kI0) (uA kN4 (uls kN0) (uA kN6 (uis kN1) (uA kN7 (uis kN2) uA0))))))) uS0 (uO kN4 kN1 (uis kN3) (uO kN4 kN4 (uis kN4) uO0)) kI1269 (uL kJ196 kN1 uL0))
  uK0)) = true := by decide +kernel
theorem r501 {l : Launch} {D : va_G} {tys : List (ClassId × FieldType)} {A : Nat → Prop} {ad : Nat → Nat} (hAD : ∀ i : Nat, ad (1000 + i) = D.2 1000 i) : CRok l D tys A ad GG 5 g501 := CR_of_vrf (dep := 4) hAD (List.forall_mem_cons.mpr ⟨r489 hAD, List.forall_mem_cons.mpr ⟨r491 hAD, List.forall_mem_cons.mpr ⟨r492 hAD, List.forall_mem_cons.mpr ⟨r500 hAD, List.forall_mem_cons.mpr ⟨r499 hAD, fun c hc => by cases hc⟩⟩⟩⟩⟩) T2OK_nil w501
noncomputable def g502 : CR := (60, [(2, 0, 0), (0, 3, 3)], [], some (0, (-2147483648), 2147483647), [], [])
theorem w502 : vrf GG [(5, g501)] [] 300 5 g502
  [] = true := by decide +kernel
theorem r502 {l : Launch} {D : va_G} {tys : List (ClassId × FieldType)} {A : Nat → Prop} {ad : Nat → Nat} (hAD : ∀ i : Nat, ad (1000 + i) = D.2 1000 i) : CRok l D tys A ad GG 6 g502 := CR_of_vrf (dep := 5) hAD (List.forall_mem_cons.mpr ⟨r501 hAD, fun c hc => by cases hc⟩) T2OK_nil w502
noncomputable def g503 : CR := (151, [(0, 0, 9), (0, 1, 3)], [], some (1, (-9223372036854775808), 9223372036854775807), [], [])
theorem w503 : vrf GG [] [] 300 0 g503
  (uK (uC kN5 (uE kI0 kI9 (uE kI1 kI3 (uE kJ9223372036854775808 kI9223372036854775807 (uE kI0 kI3 uE0)))) (uA kN0 (uis kN0) (uA kN1 (uis kN1) (uA kN2 (uls kN2) (uA kN4 (uis kN3) uA0)))) uS0 uO0 (Int.ofNat (nat_lit 196)) (uL kJ52 kN3 uL0))
  uK0) = true := by decide +kernel
theorem r503 {l : Launch} {D : va_G} {tys : List (ClassId × FieldType)} {A : Nat → Prop} {ad : Nat → Nat} (hAD : ∀ i : Nat, ad (1000 + i) = D.2 1000 i) : CRok l D tys A ad GG 1 g503 := CR_of_vrf (dep := 0) hAD (fun c hc => by cases hc) T2OK_nil w503
noncomputable def g504 : CR := (151, [(0, 0, 9), (0, 4, 4)], [], some (1, (-9223372036854775808), 9223372036854775807), [], [])
theorem w504 : vrf GG [] [] 300 0 g504
  (uK (uC kN5 (uE kI0 kI9 (uE kJ9223372036854775808 kI9223372036854775807 (uE kI0 kI4 uE0))) (uA kN0 (uis kN0) (uA kN1 (uic kI4) (uA kN2 (uls kN1) (uA kN4 (uis kN2) uA0)))) uS0 uO0 kI248 (uL kJ52 kN2 uL0))
  uK0) = true := by decide +kernel
theorem r504 {l : Launch} {D : va_G} {tys : List (ClassId × FieldType)} {A : Nat → Prop} {ad : Nat → Nat} (hAD : ∀ i : Nat, ad (1000 + i) = D.2 1000 i) : CRok l D tys A ad GG 1 g504 := CR_of_vrf (dep := 0) hAD (fun c hc => by cases hc) T2OK_nil w504
noncomputable def g505 : CR := (125, [(2, 50, 50), (2, 4, 4), (0, 4, 4), (0, 0, 0)], [], some (0, (-2147483648), 2147483647), [], [])
theorem w505 : vrf GG [(3, g489), (4, g491), (1, g492), (1, g504), (1, g503)] [] 300 4 g505
  (uK (uC kN15 (uE kJ9223372036854775808 kI9223372036854775807 (uE kI0 kI6 (uE kI0 kI9 uE0))) (uA kN0 (rA kI50) (uA kN1 (rA kI4) (uA kN2 (uic kI4) (uA kN3 (uic kI0) (uA kN4 (uls kN0) (uA kN6 (uis kN1) uA0)))))) uS0 (uO kN4 kN1 (uis kN2) uO0) kI1340 (uL kJ196 kN1 uL0))
  (uK (uC kN86 (uE kJ9223372036854775808 kI9223372036854775807 (uE kI0 kI5 (uE kI0 kI4 (uE kI0 kI9 (uE kI1 kI6 uE0))))) (uA kN0 (rA kI50) (uA kN1 (rA kI4) (uA kN2 (uic kI4) (uA kN3 (uic kI0) (uA kN4 (uls kN0) (uA kN6 (uis kN1) (uA kN7 (uis kN2) uA0))))))) uS0 (uO kN4 kN1 (uis kN3) (uO kN4 kN4 (uis kN4) uO0)) kI1269 (uL kJ196 kN1 uL0))
  uK0)) = true := by decide +kernel
theorem r505 {l : Launch} {D : va_G} {tys : List (ClassId × FieldType)} {A : Nat → Prop} {ad : Nat → Nat} (hAD : ∀ i : Nat, ad (1000 + i) = D.2 1000 i) : CRok l D tys A ad GG 5 g505 := CR_of_vrf (dep := 4) hAD (List.forall_mem_cons.mpr ⟨r489 hAD, List.forall_mem_cons.mpr ⟨r491 hAD, List.forall_mem_cons.mpr ⟨r492 hAD, List.forall_mem_cons.mpr ⟨r504 hAD, List.forall_mem_cons.mpr ⟨r503 hAD, fun c hc => by cases hc⟩⟩⟩⟩⟩) T2OK_nil w505
noncomputable def g506 : CR := (60, [(2, 0, 0), (0, 4, 4)], [], some (0, (-2147483648), 2147483647), [], [])
theorem w506 : vrf GG [(5, g505)] [] 300 5 g506
  [] = true := by decide +kernel
theorem r506 {l : Launch} {D : va_G} {tys : List (ClassId × FieldType)} {A : Nat → Prop} {ad : Nat → Nat} (hAD : ∀ i : Nat, ad (1000 + i) = D.2 1000 i) : CRok l D tys A ad GG 6 g506 := CR_of_vrf (dep := 5) hAD (List.forall_mem_cons.mpr ⟨r505 hAD, fun c hc => by cases hc⟩) T2OK_nil w506
noncomputable def g507 : CR := (151, [(0, 0, 9), (0, 1, 4)], [], some (1, (-9223372036854775808), 9223372036854775807), [], [])
theorem w507 : vrf GG [] [] 300 0 g507
  (uK (uC kN5 (uE kI0 kI9 (uE kI1 kI4 (uE kJ9223372036854775808 kI9223372036854775807 (uE kI0 kI4 uE0)))) (uA kN0 (uis kN0) (uA kN1 (uis kN1) (uA kN2 (uls kN2) (uA kN4 (uis kN3) uA0)))) uS0 uO0 kI248 (uL kJ52 kN3 uL0))
  uK0) = true := by decide +kernel
theorem r507 {l : Launch} {D : va_G} {tys : List (ClassId × FieldType)} {A : Nat → Prop} {ad : Nat → Nat} (hAD : ∀ i : Nat, ad (1000 + i) = D.2 1000 i) : CRok l D tys A ad GG 1 g507 := CR_of_vrf (dep := 0) hAD (fun c hc => by cases hc) T2OK_nil w507
noncomputable def g508 : CR := (151, [(0, 0, 9), (0, 5, 5)], [], some (1, (-9223372036854775808), 9223372036854775807), [], [])
theorem w508 : vrf GG [] [] 300 0 g508
  (uK (uC kN5 (uE kI0 kI9 (uE kJ9223372036854775808 kI9223372036854775807 (uE kI0 kI5 uE0))) (uA kN0 (uis kN0) (uA kN1 (uic kI5) (uA kN2 (uls kN1) (uA kN4 (uis kN2) uA0)))) uS0 uO0 kI300 (uL kJ52 kN2 uL0))
  uK0) = true := by decide +kernel
theorem r508 {l : Launch} {D : va_G} {tys : List (ClassId × FieldType)} {A : Nat → Prop} {ad : Nat → Nat} (hAD : ∀ i : Nat, ad (1000 + i) = D.2 1000 i) : CRok l D tys A ad GG 1 g508 := CR_of_vrf (dep := 0) hAD (fun c hc => by cases hc) T2OK_nil w508
noncomputable def g509 : CR := (125, [(2, 50, 50), (2, 4, 4), (0, 5, 5), (0, 0, 0)], [], some (0, (-2147483648), 2147483647), [], [])
theorem w509 : vrf GG [(3, g489), (4, g491), (1, g492), (1, g508), (1, g507)] [] 300 4 g509
  (uK (uC kN15 (uE kJ9223372036854775808 kI9223372036854775807 (uE kI0 kI6 (uE kI0 kI9 uE0))) (uA kN0 (rA kI50) (uA kN1 (rA kI4) (uA kN2 (uic kI5) (uA kN3 (uic kI0) (uA kN4 (uls kN0) (uA kN6 (uis kN1) uA0)))))) uS0 (uO kN4 kN1 (uis kN2) uO0) kI1340 (uL kJ196 kN1 uL0))
  (uK (uC kN86 (uE kJ9223372036854775808 kI9223372036854775807 (uE kI0 kI5 (uE kI0 kI5 (uE kI0 kI9 (uE kI1 kI6 uE0))))) (uA kN0 (rA kI50) (uA kN1 (rA kI4) (uA kN2 (uic kI5) (uA kN3 (uic kI0) (uA kN4 (uls kN0) (uA kN6 (uis kN1) (uA kN7 (uis kN2) uA0))))))) uS0 (uO kN4 kN1 (uis kN3) (uO kN4 kN4 (uis kN4) uO0)) kI1269 (uL kJ196 kN1 uL0))
  uK0)) = true := by decide +kernel
theorem r509 {l : Launch} {D : va_G} {tys : List (ClassId × FieldType)} {A : Nat → Prop} {ad : Nat → Nat} (hAD : ∀ i : Nat, ad (1000 + i) = D.2 1000 i) : CRok l D tys A ad GG 5 g509 := CR_of_vrf (dep := 4) hAD (List.forall_mem_cons.mpr ⟨r489 hAD, List.forall_mem_cons.mpr ⟨r491 hAD, List.forall_mem_cons.mpr ⟨r492 hAD, List.forall_mem_cons.mpr ⟨r508 hAD, List.forall_mem_cons.mpr ⟨r507 hAD, fun c hc => by cases hc⟩⟩⟩⟩⟩) T2OK_nil w509
noncomputable def g510 : CR := (60, [(2, 0, 0), (0, 5, 5)], [], some (0, (-2147483648), 2147483647), [], [])
theorem w510 : vrf GG [(5, g509)] [] 300 5 g510
  [] = true := by decide +kernel
theorem r510 {l : Launch} {D : va_G} {tys : List (ClassId × FieldType)} {A : Nat → Prop} {ad : Nat → Nat} (hAD : ∀ i : Nat, ad (1000 + i) = D.2 1000 i) : CRok l D tys A ad GG 6 g510 := CR_of_vrf (dep := 5) hAD (List.forall_mem_cons.mpr ⟨r509 hAD, fun c hc => by cases hc⟩) T2OK_nil w510
noncomputable def g511 : CR := (151, [(0, 0, 9), (0, 1, 5)], [], some (1, (-9223372036854775808), 9223372036854775807), [], [])
theorem w511 : vrf GG [] [] 300 0 g511
  (uK (uC kN5 (uE kI0 kI9 (uE kI1 kI5 (uE kJ9223372036854775808 kI9223372036854775807 (uE kI0 kI5 uE0)))) (uA kN0 (uis kN0) (uA kN1 (uis kN1) (uA kN2 (uls kN2) (uA kN4 (uis kN3) uA0)))) uS0 uO0 kI300 (uL kJ52 kN3 uL0))
  uK0) = true := by decide +kernel
theorem r511 {l : Launch} {D : va_G} {tys : List (ClassId × FieldType)} {A : Nat → Prop} {ad : Nat → Nat} (hAD : ∀ i : Nat, ad (1000 + i) = D.2 1000 i) : CRok l D tys A ad GG 1 g511 := CR_of_vrf (dep := 0) hAD (fun c hc => by cases hc) T2OK_nil w511
noncomputable def g512 : CR := (151, [(0, 0, 9), (0, 6, 6)], [], some (1, (-9223372036854775808), 9223372036854775807), [], [])
theorem w512 : vrf GG [] [] 300 0 g512
  (uK (uC kN5 (uE kI0 kI9 (uE kJ9223372036854775808 kI9223372036854775807 (uE kI0 kI6 uE0))) (uA kN0 (uis kN0) (uA kN1 (uic kI6) (uA kN2 (uls kN1) (uA kN4 (uis kN2) uA0)))) uS0 uO0 (Int.ofNat (nat_lit 352)) (uL kJ52 kN2 uL0))
  uK0) = true := by decide +kernel
theorem r512 {l : Launch} {D : va_G} {tys : List (ClassId × FieldType)} {A : Nat → Prop} {ad : Nat → Nat} (hAD : ∀ i : Nat, ad (1000 + i) = D.2 1000 i) : CRok l D tys A ad GG 1 g512 := CR_of_vrf (dep := 0) hAD (fun c hc => by cases hc) T2OK_nil w512
noncomputable def g513 : CR := (125, [(2, 50, 50), (2, 4, 4), (0, 6, 6), (0, 0, 0)], [], some (0, (-2147483648), 2147483647), [], [])
theorem w513 : vrf GG [(3, g489), (4, g491), (1, g492), (1, g512), (1, g511)] [] 300 4 g513
  (uK (uC kN15 (uE kJ9223372036854775808 kI9223372036854775807 (uE kI0 kI6 (uE kI0 kI9 uE0))) (uA kN0 (rA kI50) (uA kN1 (rA kI4) (uA kN2 (uic kI6) (uA kN3 (uic kI0) (uA kN4 (uls kN0) (uA kN6 (uis kN1) uA0)))))) uS0 (uO kN4 kN1 (uis kN2) uO0) kI1340 (uL kJ196 kN1 uL0))
  (uK (uC kN86 (uE kJ9223372036854775808 kI9223372036854775807 (uE kI0 kI5 (uE kI0 kI6 (uE kI0 kI9 (uE kI1 kI6 uE0))))) (uA kN0 (rA kI50) (uA kN1 (rA kI4) (uA kN2 (uic kI6) (uA kN3 (uic kI0) (uA kN4 (uls kN0) (uA kN6 (uis kN1) (uA kN7 (uis kN2) uA0))))))) uS0 (uO kN4 kN1 (uis kN3) (uO kN4 kN4 (uis kN4) uO0)) kI1269 (uL kJ196 kN1 uL0))
  uK0)) = true := by decide +kernel
theorem r513 {l : Launch} {D : va_G} {tys : List (ClassId × FieldType)} {A : Nat → Prop} {ad : Nat → Nat} (hAD : ∀ i : Nat, ad (1000 + i) = D.2 1000 i) : CRok l D tys A ad GG 5 g513 := CR_of_vrf (dep := 4) hAD (List.forall_mem_cons.mpr ⟨r489 hAD, List.forall_mem_cons.mpr ⟨r491 hAD, List.forall_mem_cons.mpr ⟨r492 hAD, List.forall_mem_cons.mpr ⟨r512 hAD, List.forall_mem_cons.mpr ⟨r511 hAD, fun c hc => by cases hc⟩⟩⟩⟩⟩) T2OK_nil w513
noncomputable def g514 : CR := (60, [(2, 0, 0), (0, 6, 6)], [], some (0, (-2147483648), 2147483647), [], [])
theorem w514 : vrf GG [(5, g513)] [] 300 5 g514
  [] = true := by decide +kernel
theorem r514 {l : Launch} {D : va_G} {tys : List (ClassId × FieldType)} {A : Nat → Prop} {ad : Nat → Nat} (hAD : ∀ i : Nat, ad (1000 + i) = D.2 1000 i) : CRok l D tys A ad GG 6 g514 := CR_of_vrf (dep := 5) hAD (List.forall_mem_cons.mpr ⟨r513 hAD, fun c hc => by cases hc⟩) T2OK_nil w514
noncomputable def g515 : CR := (325, [(2, 90, 90), (0, (-2147483648), 0)], [((91, 0), (0, 0, 0))], some (0, (-2), (-2)), [], [])
theorem w515 : vrf GG [] [] 300 1 g515
  [] = true := by decide +kernel
theorem r515 {l : Launch} {D : va_G} {tys : List (ClassId × FieldType)} {A : Nat → Prop} {ad : Nat → Nat} (hAD : ∀ i : Nat, ad (1000 + i) = D.2 1000 i) : CRok l D tys A ad GG 2 g515 := CR_of_vrf (dep := 1) hAD (fun c hc => by cases hc) T2OK_nil w515
noncomputable def g516 : CR := (325, [(2, 90, 90), (0, (-2147483648), 0)], [((91, 0), (0, 1, 9))], some (0, (-2), (-2)), [], [])
theorem w516 : vrf GG [] [] 300 1 g516
  [] = true := by decide +kernel
theorem r516 {l : Launch} {D : va_G} {tys : List (ClassId × FieldType)} {A : Nat → Prop} {ad : Nat → Nat} (hAD : ∀ i : Nat, ad (1000 + i) = D.2 1000 i) : CRok l D tys A ad GG 2 g516 := CR_of_vrf (dep := 1) hAD (fun c hc => by cases hc) T2OK_nil w516
noncomputable def g517 : CR := (325, [(2, 90, 90), (0, 7, 2147483647)], [((91, 0), (0, 0, 0))], some (0, (-2), (-2)), [], [])
theorem w517 : vrf GG [] [] 300 1 g517
  [] = true := by decide +kernel
theorem r517 {l : Launch} {D : va_G} {tys : List (ClassId × FieldType)} {A : Nat → Prop} {ad : Nat → Nat} (hAD : ∀ i : Nat, ad (1000 + i) = D.2 1000 i) : CRok l D tys A ad GG 2 g517 := CR_of_vrf (dep := 1) hAD (fun c hc => by cases hc) T2OK_nil w517
noncomputable def g518 : CR := (325, [(2, 90, 90), (0, 7, 2147483647)], [((91, 0), (0, 1, 9))], some (0, (-2), (-2)), [], [])
theorem w518 : vrf GG [] [] 300 1 g518
  [] = true := by decide +kernel
theorem r518 {l : Launch} {D : va_G} {tys : List (ClassId × FieldType)} {A : Nat → Prop} {ad : Nat → Nat} (hAD : ∀ i : Nat, ad (1000 + i) = D.2 1000 i) : CRok l D tys A ad GG 2 g518 := CR_of_vrf (dep := 1) hAD (fun c hc => by cases hc) T2OK_nil w518
noncomputable def g519 : CR := (325, [(2, 90, 90), (0, 1, 1)], [((91, 0), (0, 0, 0))], some (0, (-2), 0), [], [])
theorem w519 : vrf GG [(1, g352)] [] 300 1 g519
  (uK (uC kN26 (uE kI1 kI2147483647 uE0) (uA kN0 (rA kI90) (uA kN1 (uic kI1) (uA kN2 (uic kI0) (uA kN3 (uic kI0) uA0)))) uS0 (uO kN91 kN0 (uic kI0) (uO kN91 kN5 (uis kN0) uO0)) kI78 uL0)
  uK0) = true := by decide +kernel
theorem r519 {l : Launch} {D : va_G} {tys : List (ClassId × FieldType)} {A : Nat → Prop} {ad : Nat → Nat} (hAD : ∀ i : Nat, ad (1000 + i) = D.2 1000 i) : CRok l D tys A ad GG 2 g519 := CR_of_vrf (dep := 1) hAD (List.forall_mem_cons.mpr ⟨r352 hAD, fun c hc => by cases hc⟩) T2OK_nil w519
noncomputable def g520 : CR := (323, [(2, 90, 90), (0, 0, 5)], [((91, 0), (0, 1, 9))], some (0, 0, 1), [], [])
theorem w520 : vrf GG [] [] 300 1 g520
  (uK (uC kN2 (uE kI0 kI5 (uE kI0 kI6 (uE kI1 kI9 uE0))) (uA kN0 (rA kI90) (uA kN1 (uis kN0) (uA kN2 (uis kN1) uA0))) uS0 (uO kN91 kN0 (uis kN2) uO0) (Int.ofNat (nat_lit 638)) (uL kJ92 kN1 uL0))
  uK0) = true := by decide +kernel
theorem r520 {l : Launch} {D : va_G} {tys : List (ClassId × FieldType)} {A : Nat → Prop} {ad : Nat → Nat} (hAD : ∀ i : Nat, ad (1000 + i) = D.2 1000 i) : CRok l D tys A ad GG 2 g520 := CR_of_vrf (dep := 1) hAD (fun c hc => by cases hc) T2OK_nil w520
noncomputable def g521 : CR := (324, [(2, 90, 90)], [((91, 0), (0, 1, 9))], some (0, 0, 1), [], [])
theorem w521 : vrf GG [(2, g520)] [] 300 2 g521
  (uK (uC kN2 (uE kI0 kI6 (uE kI1 kI9 uE0)) (uA kN0 (rA kI90) (uA kN1 (uis kN0) uA0)) uS0 (uO kN91 kN0 (uis kN1) uO0) (Int.ofNat (nat_lit 442)) (uL (Int.negSucc (nat_lit 63)) kN0 uL0))
  uK0) = true := by decide +kernel
theorem r521 {l : Launch} {D : va_G} {tys : List (ClassId × FieldType)} {A : Nat → Prop} {ad : Nat → Nat} (hAD : ∀ i : Nat, ad (1000 + i) = D.2 1000 i) : CRok l D tys A ad GG 3 g521 := CR_of_vrf (dep := 2) hAD (List.forall_mem_cons.mpr ⟨r520 hAD, fun c hc => by cases hc⟩) T2OK_nil w521
noncomputable def g522 : CR := (325, [(2, 90, 90), (0, 1, 1)], [((91, 0), (0, 1, 9))], some (0, (-2147483648), 2147483647), [], [90, 105])
theorem w522 : vrf GG [(1, g391), (1, g392), (3, g521)] [] 300 3 g522
  (uK (uC kN26 (uE kJ2147483648 kI2147483647 (uE kI0 kI9 (uE kI1 kI9 (uE kI1 kI2147483647 uE0)))) (uA kN0 (rA kI90) (uA kN1 (uic kI1) (uA kN2 (uis kN0) (uA kN3 (uis kN1) uA0)))) uS0 (uO kN91 kN0 (uis kN2) (uO kN91 kN5 (uis kN3) uO0)) (Int.ofNat (nat_lit 1266)) (uL kJ132 kN1 uL0))
  (uK (uC kN54 (uE kJ2147483648 kI2147483647 (uE kI0 kI8 (uE kI0 kI1 (uE kJ2147483648 kI2147483647 (uE kI1 kI9 (uE kI1 kI2147483647 uE0)))))) (uA kN0 (rA kI90) (uA kN1 (uic kI1) (uA kN2 (uis kN0) (uA kN3 (uis kN1) uA0)))) (uS (uis kN2) (uS (uis kN3) uS0)) (uO kN91 kN0 (uis kN4) (uO kN91 kN5 (uis kN5) uO0)) kI1238 (uL kJ132 kN1 uL0))
  uK0)) = true := by decide +kernel
theorem r522 {l : Launch} {D : va_G} {tys : List (ClassId × FieldType)} {A : Nat → Prop} {ad : Nat → Nat} (hAD : ∀ i : Nat, ad (1000 + i) = D.2 1000 i) : CRok l D tys A ad GG 4 g522 := CR_of_vrf (dep := 3) hAD (List.forall_mem_cons.mpr ⟨r391 hAD, List.forall_mem_cons.mpr ⟨r392 hAD, List.forall_mem_cons.mpr ⟨r521 hAD, fun c hc => by cases hc⟩⟩⟩) T2OK_nil w522
noncomputable def g523 : CR := (325, [(2, 90, 90), (0, 2, 2)], [((91, 0), (0, 0, 0))], some (0, (-2), 0), [], [])
theorem w523 : vrf GG [(1, g394)] [] 300 1 g523
  (uK (uC kN26 (uE kI1 kI2147483647 uE0) (uA kN0 (rA kI90) (uA kN1 (uic kI2) (uA kN2 (uic kI0) (uA kN3 (uic kI0) uA0)))) uS0 (uO kN91 kN0 (uic kI0) (uO kN91 kN5 (uis kN0) uO0)) kI78 uL0)
  uK0) = true := by decide +kernel
theorem r523 {l : Launch} {D : va_G} {tys : List (ClassId × FieldType)} {A : Nat → Prop} {ad : Nat → Nat} (hAD : ∀ i : Nat, ad (1000 + i) = D.2 1000 i) : CRok l D tys A ad GG 2 g523 := CR_of_vrf (dep := 1) hAD (List.forall_mem_cons.mpr ⟨r394 hAD, fun c hc => by cases hc⟩) T2OK_nil w523
noncomputable def g524 : CR := (325, [(2, 90, 90), (0, 2, 2)], [((91, 0), (0, 1, 9))], some (0, (-2147483648), 2147483647), [], [90, 105])
theorem w524 : vrf GG [(1, g396), (1, g397), (3, g521)] [] 300 3 g524
  (uK (uC kN26 (uE kJ2147483648 kI2147483647 (uE kJ2147483647 kI2147483647 (uE kI1 kI9 (uE kI1 kI2147483647 uE0)))) (uA kN0 (rA kI90) (uA kN1 (uic kI2) (uA kN2 (uis kN0) (uA kN3 (uis kN1) uA0)))) uS0 (uO kN91 kN0 (uis kN2) (uO kN91 kN5 (uis kN3) uO0)) kI283467841482 (uL kJ132 kN1 uL0))
  (uK (uC kN54 (uE kJ2147483648 kI2147483647 (uE kJ2147483647 kI2147483646 (uE kI0 kI1 (uE kJ2147483648 kI2147483647 (uE kI1 kI9 (uE kI1 kI2147483647 uE0)))))) (uA kN0 (rA kI90) (uA kN1 (uic kI2) (uA kN2 (uis kN0) (uA kN3 (uis kN1) uA0)))) (uS (uis kN2) (uS (uis kN3) uS0)) (uO kN91 kN0 (uis kN4) (uO kN91 kN5 (uis kN5) uO0)) kI283467841454 (uL kJ132 kN1 uL0))
  uK0)) = true := by decide +kernel
theorem r524 {l : Launch} {D : va_G} {tys : List (ClassId × FieldType)} {A : Nat → Prop} {ad : Nat → Nat} (hAD : ∀ i : Nat, ad (1000 + i) = D.2 1000 i) : CRok l D tys A ad GG 4 g524 := CR_of_vrf (dep := 3) hAD (List.forall_mem_cons.mpr ⟨r396 hAD, List.forall_mem_cons.mpr ⟨r397 hAD, List.forall_mem_cons.mpr ⟨r521 hAD, fun c hc => by cases hc⟩⟩⟩) T2OK_nil w524
noncomputable def g525 : CR := (325, [(2, 90, 90), (0, 3, 3)], [((91, 0), (0, 0, 0))], some (0, (-2), 0), [], [])
theorem w525 : vrf GG [(1, g399)] [] 300 1 g525
  (uK (uC kN26 (uE kI1 kI2147483647 uE0) (uA kN0 (rA kI90) (uA kN1 (uic kI3) (uA kN2 (uic kI0) (uA kN3 (uic kI0) uA0)))) uS0 (uO kN91 kN0 (uic kI0) (uO kN91 kN5 (uis kN0) uO0)) kI78 uL0)
  uK0) = true := by decide +kernel
theorem r525 {l : Launch} {D : va_G} {tys : List (ClassId × FieldType)} {A : Nat → Prop} {ad : Nat → Nat} (hAD : ∀ i : Nat, ad (1000 + i) = D.2 1000 i) : CRok l D tys A ad GG 2 g525 := CR_of_vrf (dep := 1) hAD (List.forall_mem_cons.mpr ⟨r399 hAD, fun c hc => by cases hc⟩) T2OK_nil w525
noncomputable def g526 : CR := (325, [(2, 90, 90), (0, 3, 3)], [((91, 0), (0, 1, 9))], some (0, (-2147483648), 2147483647), [], [90, 105])
theorem w526 : vrf GG [(1, g401), (1, g402), (3, g521)] [] 300 3 g526
  (uK (uC kN26 (uE kJ2147483648 kI2147483647 (uE kJ2147483647 kI2147483647 (uE kI1 kI9 (uE kI1 kI2147483647 uE0)))) (uA kN0 (rA kI90) (uA kN1 (uic kI3) (uA kN2 (uis kN0) (uA kN3 (uis kN1) uA0)))) uS0 (uO kN91 kN0 (uis kN2) (uO kN91 kN5 (uis kN3) uO0)) kI283467841482 (uL kJ132 kN1 uL0))
  (uK (uC kN54 (uE kJ2147483648 kI2147483647 (uE kJ2147483647 kI2147483646 (uE kI0 kI1 (uE kJ2147483648 kI2147483647 (uE kI1 kI9 (uE kI1 kI2147483647 uE0)))))) (uA kN0 (rA kI90) (uA kN1 (uic kI3) (uA kN2 (uis kN0) (uA kN3 (uis kN1) uA0)))) (uS (uis kN2) (uS (uis kN3) uS0)) (uO kN91 kN0 (uis kN4) (uO kN91 kN5 (uis kN5) uO0)) kI283467841454 (uL kJ132 kN1 uL0))
  uK0)) = true := by decide +kernel
theorem r526 {l : Launch} {D : va_G} {tys : List (ClassId × FieldType)} {A : Nat → Prop} {ad : Nat → Nat} (hAD : ∀ i : Nat, ad (1000 + i) = D.2 1000 i) : CRok l D tys A ad GG 4 g526 := CR_of_vrf (dep := 3) hAD (List.forall_mem_cons.mpr ⟨r401 hAD, List.forall_mem_cons.mpr ⟨r402 hAD, List.forall_mem_cons.mpr ⟨r521 hAD, fun c hc => by cases hc⟩⟩⟩) T2OK_nil w526
noncomputable def g527 : CR := (325, [(2, 90, 90), (0, 4, 4)], [((91, 0), (0, 0, 0))], some (0, (-2), 0), [], [])
theorem w527 : vrf GG [(1, g404)] [] 300 1 g527
  (uK (uC kN26 (uE kI1 kI2147483647 uE0) (uA kN0 (rA kI90) (uA kN1 (uic kI4) (uA kN2 (uic kI0) (uA kN3 (uic kI0) uA0)))) uS0 (uO kN91 kN0 (uic kI0) (uO kN91 kN5 (uis kN0) uO0)) kI78 uL0)
  uK0) = true := by decide +kernel
theorem r527 {l : Launch} {D : va_G} {tys : List (ClassId × FieldType)} {A : Nat → Prop} {ad : Nat → Nat} (hAD : ∀ i : Nat, ad (1000 + i) = D.2 1000 i) : CRok l D tys A ad GG 2 g527 := CR_of_vrf (dep := 1) hAD (List.forall_mem_cons.mpr ⟨r404 hAD, fun c hc => by cases hc⟩) T2OK_nil w527
noncomputable def g528 : CR := (325, [(2, 90, 90), (0, 4, 4)], [((91, 0), (0, 1, 9))], some (0, (-2147483648), 2147483647), [], [90, 105])
theorem w528 : vrf GG [(1, g406), (1, g407), (3, g521)] [] 300 3 g528
  (uK (uC kN26 (uE kJ2147483648 kI2147483647 (uE kJ2147483647 kI2147483647 (uE kI1 kI9 (uE kI1 kI2147483647 uE0)))) (uA kN0 (rA kI90) (uA kN1 (uic kI4) (uA kN2 (uis kN0) (uA kN3 (uis kN1) uA0)))) uS0 (uO kN91 kN0 (uis kN2) (uO kN91 kN5 (uis kN3) uO0)) kI283467841482 (uL kJ132 kN1 uL0))
  (uK (uC kN54 (uE kJ2147483648 kI2147483647 (uE kJ2147483647 kI2147483646 (uE kI0 kI1 (uE kJ2147483648 kI2147483647 (uE kI1 kI9 (uE kI1 kI2147483647 uE0)))))) (uA kN0 (rA kI90) (uA kN1 (uic kI4) (uA kN2 (uis kN0) (uA kN3 (uis kN1) uA0)))) (uS (uis kN2) (uS (uis kN3) uS0)) (uO kN91 kN0 (uis kN4) (uO kN91 kN5 (uis kN5) uO0)) kI283467841454 (uL kJ132 kN1 uL0))
  uK0)) = true := by decide +kernel
theorem r528 {l : Launch} {D : va_G} {tys : List (ClassId × FieldType)} {A : Nat → Prop} {ad : Nat → Nat} (hAD : ∀ i : Nat, ad (1000 + i) = D.2 1000 i) : CRok l D tys A ad GG 4 g528 := CR_of_vrf (dep := 3) hAD (List.forall_mem_cons.mpr ⟨r406 hAD, List.forall_mem_cons.mpr ⟨r407 hAD, List.forall_mem_cons.mpr ⟨r521 hAD, fun c hc => by cases hc⟩⟩⟩) T2OK_nil w528
noncomputable def g529 : CR := (325, [(2, 90, 90), (0, 5, 5)], [((91, 0), (0, 0, 0))], some (0, (-2), 0), [], [])
theorem w529 : vrf GG [(1, g409)] [] 300 1 g529
  (uK (uC kN26 (uE kI1 kI2147483647 uE0) (uA kN0 (rA kI90) (uA kN1 (uic kI5) (uA kN2 (uic kI0) (uA kN3 (uic kI0) uA0)))) uS0 (uO kN91 kN0 (uic kI0) (uO kN91 kN5 (uis kN0) uO0)) kI78 uL0)
  uK0) = true := by decide +kernel
theorem r529 {l : Launch} {D : va_G} {tys : List (ClassId × FieldType)} {A : Nat → Prop} {ad : Nat → Nat} (hAD : ∀ i : Nat, ad (1000 + i) = D.2 1000 i) : CRok l D tys A ad GG 2 g529 := CR_of_vrf (dep := 1) hAD (List.forall_mem_cons.mpr ⟨r409 hAD, fun c hc => by cases hc⟩) T2OK_nil w529
noncomputable def g530 : CR := (325, [(2, 90, 90), (0, 5, 5)], [((91, 0), (0, 1, 9))], some (0, (-2147483648), 2147483647), [], [90, 105])
theorem w530 : vrf GG [(1, g411), (1, g412), (3, g521)] [] 300 3 g530
  (uK (uC kN26 (uE kJ2147483648 kI2147483647 (uE kJ2147483647 kI2147483647 (uE kI1 kI9 (uE kI1 kI2147483647 uE0)))) (uA kN0 (rA kI90) (uA kN1 (uic kI5) (uA kN2 (uis kN0) (uA kN3 (uis kN1) uA0)))) uS0 (uO kN91 kN0 (uis kN2) (uO kN91 kN5 (uis kN3) uO0)) kI283467841482 (uL kJ132 kN1 uL0))
  (uK (uC kN54 (uE kJ2147483648 kI2147483647 (uE kJ2147483647 kI2147483646 (uE kI0 kI1 (uE kJ2147483648 kI2147483647 (uE kI1 kI9 (uE kI1 kI2147483647 uE0)))))) (uA kN0 (rA kI90) (uA kN1 (uic kI5) (uA kN2 (uis kN0) (uA kN3 (uis kN1) uA0)))) (uS (uis kN2) (uS (uis kN3) uS0)) (uO kN91 kN0 (uis kN4) (uO kN91 kN5 (uis kN5) uO0)) kI283467841454 (uL kJ132 kN1 uL0))
  uK0)) = true := by decide +kernel
theorem r530 {l : Launch} {D : va_G} {tys : List (ClassId × FieldType)} {A : Nat → Prop} {ad : Nat → Nat} (hAD : ∀ i : Nat, ad (1000 + i) = D.2 1000 i) : CRok l D tys A ad GG 4 g530 := CR_of_vrf (dep := 3) hAD (List.forall_mem_cons.mpr ⟨r411 hAD, List.forall_mem_cons.mpr ⟨r412 hAD, List.forall_mem_cons.mpr ⟨r521 hAD, fun c hc => by cases hc⟩⟩⟩) T2OK_nil w530
noncomputable def g531 : CR := (325, [(2, 90, 90), (0, 6, 6)], [((91, 0), (0, 0, 0))], some (0, (-2), 0), [], [])
theorem w531 : vrf GG [(1, g414)] [] 300 1 g531
  (uK (uC kN26 (uE kI1 kI2147483647 uE0) (uA kN0 (rA kI90) (uA kN1 (uic kI6) (uA kN2 (uic kI0) (uA kN3 (uic kI0) uA0)))) uS0 (uO kN91 kN0 (uic kI0) (uO kN91 kN5 (uis kN0) uO0)) kI78 uL0)
  uK0) = true := by decide +kernel
theorem r531 {l : Launch} {D : va_G} {tys : List (ClassId × FieldType)} {A : Nat → Prop} {ad : Nat → Nat} (hAD : ∀ i : Nat, ad (1000 + i) = D.2 1000 i) : CRok l D tys A ad GG 2 g531 := CR_of_vrf (dep := 1) hAD (List.forall_mem_cons.mpr ⟨r414 hAD, fun c hc => by cases hc⟩) T2OK_nil w531
noncomputable def g532 : CR := (325, [(2, 90, 90), (0, 6, 6)], [((91, 0), (0, 1, 9))], some (0, (-2147483648), 2147483647), [], [90, 105])
theorem w532 : vrf GG [(1, g416), (1, g417), (3, g521)] [] 300 3 g532
  (uK (uC kN26 (uE kJ2147483648 kI2147483647 (uE kJ2147483647 kI2147483647 (uE kI1 kI9 (uE kI1 kI2147483647 uE0)))) (uA kN0 (rA kI90) (uA kN1 (uic kI6) (uA kN2 (uis kN0) (uA kN3 (uis kN1) uA0)))) uS0 (uO kN91 kN0 (uis kN2) (uO kN91 kN5 (uis kN3) uO0)) kI283467841482 (uL kJ132 kN1 uL0))
  (uK (uC kN54 (uE kJ2147483648 kI2147483647 (uE kJ2147483647 kI2147483646 (uE kI0 kI1 (uE kJ2147483648 kI2147483647 (uE kI1 kI9 (uE kI1 kI2147483647 uE0)))))) (uA kN0 (rA kI90) (uA kN1 (uic kI6) (uA kN2 (uis kN0) (uA kN3 (uis kN1) uA0)))) (uS (uis kN2) (uS (uis kN3) uS0)) (uO kN91 kN0 (uis kN4) (uO kN91 kN5 (uis kN5) uO0)) kI283467841454 (uL kJ132 kN1 uL0))
  uK0)) = true := by decide +kernel
theorem r532 {l : Launch} {D : va_G} {tys : List (ClassId × FieldType)} {A : Nat → Prop} {ad : Nat → Nat} (hAD : ∀ i : Nat, ad (1000 + i) = D.2 1000 i) : CRok l D tys A ad GG 4 g532 := CR_of_vrf (dep := 3) hAD (List.forall_mem_cons.mpr ⟨r416 hAD, List.forall_mem_cons.mpr ⟨r417 hAD, List.forall_mem_cons.mpr ⟨r521 hAD, fun c hc => by cases hc⟩⟩⟩) T2OK_nil w532
noncomputable def g533 : CR := (151, [(0, 0, 9), (0, (-2147483648), 6)], [], some (1, (-9223372036854775808), 9223372036854775807), [], [])
theorem w533 : vrf GG [] [] 300 0 g533
  (uK (uC kN5 (uE kI0 kI9 (uE kJ2147483648 kI6 (uE kJ9223372036854775808 kI9223372036854775807 (uE kI0 kI6 uE0)))) (uA kN0 (uis kN0) (uA kN1 (uis kN1) (uA kN2 (uls kN2) (uA kN4 (uis kN3) uA0)))) uS0 uO0 (Int.ofNat (nat_lit 352)) (uL kJ52 kN3 uL0))
  uK0) = true := by decide +kernel
theorem r533 {l : Launch} {D : va_G} {tys : List (ClassId × FieldType)} {A : Nat → Prop} {ad : Nat → Nat} (hAD : ∀ i : Nat, ad (1000 + i) = D.2 1000 i) : CRok l D tys A ad GG 1 g533 := CR_of_vrf (dep := 0) hAD (fun c hc => by cases hc) T2OK_nil w533
noncomputable def g534 : CR := (125, [(2, 50, 50), (2, 4, 4), (0, 1, 6), (0, 0, 0)], [], some (0, (-2147483648), 2147483647), [], [])
theorem w534 : vrf GG [(3, g489), (4, g491), (1, g492), (1, g533)] [] 300 4 g534
  (uK (uC kN15 (uE kI1 kI6 (uE kJ9223372036854775808 kI9223372036854775807 (uE kI0 kI6 (uE kI0 kI9 uE0)))) (uA kN0 (rA kI50) (uA kN1 (rA kI4) (uA kN2 (uis kN0) (uA kN3 (uic kI0) (uA kN4 (uls kN1) (uA kN6 (uis kN2) uA0)))))) uS0 (uO kN4 kN1 (uis kN3) uO0) kI1340 (uL kJ196 kN2 uL0))
  (uK (uC kN86 (uE kI1 kI6 (uE kJ9223372036854775808 kI9223372036854775807 (uE kI0 kI5 (uE kI0 kI6 (uE kI0 kI9 (uE kI1 kI6 uE0)))))) (uA kN0 (rA kI50) (uA kN1 (rA kI4) (uA kN2 (uis kN0) (uA kN3 (uic kI0) (uA kN4 (uls kN1) (uA kN6 (uis kN2) (uA kN7 (uis kN3) uA0))))))) uS0 (uO kN4 kN1 (uis kN4) (uO kN4 kN4 (uis kN5) uO0)) kI1269 (uL kJ196 kN2 uL0))
  uK0)) = true := by decide +kernel
theorem r534 {l : Launch} {D : va_G} {tys : List (ClassId × FieldType)} {A : Nat → Prop} {ad : Nat → Nat} (hAD : ∀ i : Nat, ad (1000 + i) = D.2 1000 i) : CRok l D tys A ad GG 5 g534 := CR_of_vrf (dep := 4) hAD (List.forall_mem_cons.mpr ⟨r489 hAD, List.forall_mem_cons.mpr ⟨r491 hAD, List.forall_mem_cons.mpr ⟨r492 hAD, List.forall_mem_cons.mpr ⟨r533 hAD, fun c hc => by cases hc⟩⟩⟩⟩) T2OK_nil w534
noncomputable def g535 : CR := (129, [(2, 50, 50), (2, 4, 4)], [], some (0, (-1), 6), [], [])
theorem w535 : vrf GG [(5, g534)] [] 300 5 g535
  (uK (uC kN2 (uE kI1 kI7 uE0) (uA kN0 (rA kI50) (uA kN1 (rA kI4) (uA kN2 (uis kN0) uA0))) uS0 uO0 kI474 (uL kJ60 kN0 uL0))
  uK0) = true := by decide +kernel
theorem r535 {l : Launch} {D : va_G} {tys : List (ClassId × FieldType)} {A : Nat → Prop} {ad : Nat → Nat} (hAD : ∀ i : Nat, ad (1000 + i) = D.2 1000 i) : CRok l D tys A ad GG 6 g535 := CR_of_vrf (dep := 5) hAD (List.forall_mem_cons.mpr ⟨r534 hAD, fun c hc => by cases hc⟩) T2OK_nil w535
noncomputable def g536 : CR := (126, [(2, 50, 50), (2, 4, 4), (0, 0, 5), (0, 0, 5)], [], some (0, 0, 1), [], [])
theorem w536 : vrf GG [] [] 300 2 g536
  (uK (uC kN3 (uE kI0 kI5 (uE kI0 kI5 (uE kI0 kI5 uE0))) (uA kN0 (rA kI50) (uA kN1 (rA kI4) (uA kN2 (uis kN0) (uA kN3 (uis kN1) (uA kN4 (uis kN2) uA0))))) uS0 uO0 (Int.ofNat (nat_lit 472)) (uL kJ80 kN2 uL0))
  uK0) = true := by decide +kernel
theorem r536 {l : Launch} {D : va_G} {tys : List (ClassId × FieldType)} {A : Nat → Prop} {ad : Nat → Nat} (hAD : ∀ i : Nat, ad (1000 + i) = D.2 1000 i) : CRok l D tys A ad GG 3 g536 := CR_of_vrf (dep := 2) hAD (fun c hc => by cases hc) T2OK_nil w536
noncomputable def g537 : CR := (125, [(2, 50, 50), (2, 4, 4), (0, 1, 6), (0, 1, 6)], [], some (0, (-2147483648), 2147483647), [], [])
theorem w537 : vrf GG [(3, g536), (3, g489), (4, g491), (1, g492), (1, g533)] [] 300 4 g537
  (uK (uC kN15 (uE kI1 kI6 (uE kI1 kI6 (uE kJ9223372036854775808 kI9223372036854775807 (uE kI0 kI6 (uE kI0 kI9 uE0))))) (uA kN0 (rA kI50) (uA kN1 (rA kI4) (uA kN2 (uis kN0) (uA kN3 (uis kN1) (uA kN4 (uls kN2) (uA kN6 (uis kN3) uA0)))))) uS0 (uO kN4 kN1 (uis kN4) uO0) kI1340 (uL kJ196 kN3 uL0))
  (uK (uC kN86 (uE kI1 kI6 (uE kI1 kI6 (uE kJ9223372036854775808 kI9223372036854775807 (uE kI0 kI5 (uE kI0 kI6 (uE kI0 kI9 (uE kI1 kI6 uE0))))))) (uA kN0 (rA kI50) (uA kN1 (rA kI4) (uA kN2 (uis kN0) (uA kN3 (uis kN1) (uA kN4 (uls kN2) (uA kN6 (uis kN3) (uA kN7 (uis kN4) uA0))))))) uS0 (uO kN4 kN1 (uis kN5) (uO kN4 kN4 (uis kN6) uO0)) kI1269 (uL kJ196 kN3 uL0))
  uK0)) = true := by decide +kernel
theorem r537 {l : Launch} {D : va_G} {tys : List (ClassId × FieldType)} {A : Nat → Prop} {ad : Nat → Nat} (hAD : ∀ i : Nat, ad (1000 + i) = D.2 1000 i) : CRok l D tys A ad GG 5 g537 := CR_of_vrf (dep := 4) hAD (List.forall_mem_cons.mpr ⟨r536 hAD, List.forall_mem_cons.mpr ⟨r489 hAD, List.forall_mem_cons.mpr ⟨r491 hAD, List.forall_mem_cons.mpr ⟨r492 hAD, List.forall_mem_cons.mpr ⟨r533 hAD, fun c hc => by cases hc⟩⟩⟩⟩⟩) T2OK_nil w537
noncomputable def g538 : CR := (130, [(2, 50, 50), (2, 4, 4), (0, 1, 6)], [], none, [], [51])
theorem w538 : vrf GG [(5, g537)] [] 300 5 g538
  (uK (uC kN2 (uE kI1 kI6 (uE kI0 kI6 uE0)) (uA kN0 (rA kI50) (uA kN1 (rA kI4) (uA kN2 (uis kN0) (uA kN3 (uis kN1) uA0)))) uS0 uO0 (Int.ofNat (nat_lit 9906)) (uL kJ1416 kN1 uL0))
  (uK (uC kN10 (uE kI1 kI6 (uE kI0 kI5 (uE kI0 kI9 uE0))) (uA kN0 (rA kI50) (uA kN1 (rA kI4) (uA kN2 (uis kN0) (uA kN3 (uis kN1) (uA kN4 (uis kN2) uA0))))) uS0 uO0 (Int.ofNat (nat_lit 9710)) (uL kJ118 kN2 (uL kJ1416 kN1 uL0)))
  (uK (uC kN50 (uE kI1 kI6 (uE kI0 kI5 (uE kI0 kI9 (uE kI0 kI9 uE0)))) (uA kN0 (rA kI50) (uA kN1 (rA kI4) (uA kN2 (uis kN0) (uA kN3 (uis kN1) (uA kN4 (uis kN2) uA0))))) uS0 (uO kN4 kN1 (uis kN3) uO0) (Int.ofNat (nat_lit 8560)) (uL kJ1416 kN1 uL0))
  uK0))) = true := by decide +kernel
theorem r538 {l : Launch} {D : va_G} {tys : List (ClassId × FieldType)} {A : Nat → Prop} {ad : Nat → Nat} (hAD : ∀ i : Nat, ad (1000 + i) = D.2 1000 i) : CRok l D tys A ad GG 6 g538 := CR_of_vrf (dep := 5) hAD (List.forall_mem_cons.mpr ⟨r537 hAD, fun c hc => by cases hc⟩) T2OK_nil w538
noncomputable def g539 : CR := (61, [(2, 0, 0), (0, (-2147483648), 2147483647)], [], some (0, (-2147483648), 2147483647), [], [51])
theorem w539 : vrf GG [(6, g535), (6, g538)] [] 300 6 g539
  [] = true := by decide +kernel
theorem r539 {l : Launch} {D : va_G} {tys : List (ClassId × FieldType)} {A : Nat → Prop} {ad : Nat → Nat} (hAD : ∀ i : Nat, ad (1000 + i) = D.2 1000 i) : CRok l D tys A ad GG 7 g539 := CR_of_vrf (dep := 6) hAD (List.forall_mem_cons.mpr ⟨r535 hAD, List.forall_mem_cons.mpr ⟨r538 hAD, fun c hc => by cases hc⟩⟩) T2OK_nil w539
noncomputable def g540 : CR := (309, [(2, 90, 90), (0, 1, 6)], [((91, 0), (0, 0, 0))], some (0, 0, 0), [], [])
theorem w540 : vrf GG [] [] 300 0 g540
  [] = true := by decide +kernel
theorem r540 {l : Launch} {D : va_G} {tys : List (ClassId × FieldType)} {A : Nat → Prop} {ad : Nat → Nat} (hAD : ∀ i : Nat, ad (1000 + i) = D.2 1000 i) : CRok l D tys A ad GG 1 g540 := CR_of_vrf (dep := 0) hAD (fun c hc => by cases hc) T2OK_nil w540
noncomputable def g541 : CR := (326, [(2, 90, 90), (0, (-2147483648), 2147483647)], [((91, 0), (0, 0, 0))], some (0, (-2), (-1)), [], [])
theorem w541 : vrf GG [(1, g540)] [] 300 1 g541
  (uK (uC kN17 (uE kJ1 kI2147483647 (uE kI1 kI7 (uE kI1 kI2147483647 uE0))) (uA kN0 (rA kI90) (uA kN1 (uis kN0) (uA kN2 (uis kN1) uA0))) uS0 (uO kN91 kN0 (uic kI0) (uO kN91 kN5 (uis kN2) uO0)) (Int.ofNat (nat_lit 4188)) (uL (Int.negSucc (nat_lit 527)) kN1 uL0))
  (uK (uC kN25 (uE kJ1 kI2147483647 (uE kI1 kI6 (uE kI1 kI2147483647 uE0))) (uA kN0 (rA kI90) (uA kN1 (uis kN0) (uA kN2 (uis kN1) (uA kN3 (uic kI0) uA0)))) uS0 (uO kN91 kN0 (uic kI0) (uO kN91 kN5 (uis kN2) uO0)) (Int.ofNat (nat_lit 3890)) (uL (Int.negSucc (nat_lit 527)) kN1 uL0))
  uK0)) = true := by decide +kernel
theorem r541 {l : Launch} {D : va_G} {tys : List (ClassId × FieldType)} {A : Nat → Prop} {ad : Nat → Nat} (hAD : ∀ i : Nat, ad (1000 + i) = D.2 1000 i) : CRok l D tys A ad GG 2 g541 := CR_of_vrf (dep := 1) hAD (List.forall_mem_cons.mpr ⟨r540 hAD, fun c hc => by cases hc⟩) T2OK_nil w541
noncomputable def g542 : CR := (309, [(2, 90, 90), (0, 1, 6)], [((91, 0), (0, 1, 9))], some (0, (-2147483648), 2147483647), [], [])
theorem w542 : vrf GG [] [] 300 0 g542
  [] = true := by decide +kernel
theorem r542 {l : Launch} {D : va_G} {tys : List (ClassId × FieldType)} {A : Nat → Prop} {ad : Nat → Nat} (hAD : ∀ i : Nat, ad (1000 + i) = D.2 1000 i) : CRok l D tys A ad GG 1 g542 := CR_of_vrf (dep := 0) hAD (fun c hc => by cases hc) T2OK_nil w542
noncomputable def g543 : CR := (310, [(2, 90, 90), (0, 0, 2147483646), (0, 1, 6)], [((91, 0), (0, 1, 9))], none, [], [90, 105])
theorem w543 : vrf GG [] [] 300 0 g543
  (uK (uC kN12 (uE kI0 kI2147483646 (uE kI1 kI6 (uE kI0 kI2147483646 (uE kJ1 kI5 (uE kI1 kI6 (uE kI1 kI9 uE0)))))) (uA kN0 (rA kI90) (uA kN1 (uis kN0) (uA kN2 (uis kN1) (uA kN3 (uis kN2) (uA kN4 (uis kN3) uA0))))) uS0 (uO kN90 kN30 (uis kN4) (uO kN91 kN0 (uis kN5) uO0)) kI174 (uL kI100 kN3 uL0))
  uK0) = true := by decide +kernel
theorem r543 {l : Launch} {D : va_G} {tys : List (ClassId × FieldType)} {A : Nat → Prop} {ad : Nat → Nat} (hAD : ∀ i : Nat, ad (1000 + i) = D.2 1000 i) : CRok l D tys A ad GG 1 g543 := CR_of_vrf (dep := 0) hAD (fun c hc => by cases hc) T2OK_nil w543
noncomputable def g544 : CR := (326, [(2, 90, 90), (0, (-2147483648), 2147483647)], [((91, 0), (0, 1, 9))], some (0, (-2147483648), 2147483647), [], [90, 105])
theorem w544 : vrf GG [(1, g542), (1, g543), (3, g521)] [] 300 3 g544
  (uK (uC kN17 (uE kJ1 kI2147483647 (uE kI1 kI7 (uE kI1 kI9 (uE kI1 kI2147483647 uE0)))) (uA kN0 (rA kI90) (uA kN1 (uis kN0) (uA kN2 (uis kN1) uA0))) uS0 (uO kN91 kN0 (uis kN2) (uO kN91 kN5 (uis kN3) uO0)) (Int.ofNat (nat_lit 3023656979164)) (uL kJ377957122400 kN1 uL0))
  (uK (uC kN25 (uE kJ1 kI2147483647 (uE kI1 kI6 (uE kI0 kI2147483647 (uE kI1 kI9 (uE kI1 kI2147483647 uE0))))) (uA kN0 (rA kI90) (uA kN1 (uis kN0) (uA kN2 (uis kN1) (uA kN3 (uis kN2) uA0)))) uS0 (uO kN91 kN0 (uis kN3) (uO kN91 kN5 (uis kN4) uO0)) (Int.ofNat (nat_lit 3023656978866)) (uL kJ176 kN2 (uL kJ377957122400 kN1 uL0)))
  (uK (uC kN71 (uE kJ1 kI2147483647 (uE kI1 kI6 (uE kI0 kI2147483646 (uE kJ2147483648 kI2147483647 (uE kI1 kI9 (uE kI1 kI2147483647 uE0)))))) (uA kN0 (rA kI90) (uA kN1 (uis kN0) (uA kN2 (uis kN1) (uA kN3 (uis kN2) uA0)))) (uS (uis kN3) uS0) (uO kN91 kN0 (uis kN4) (uO kN91 kN5 (uis kN5) uO0)) (Int.ofNat (nat_lit 3023656978820)) (uL kJ176 kN2 (uL kJ377957122400 kN1 uL0)))
  uK0))) = true := by decide +kernel
theorem r544 {l : Launch} {D : va_G} {tys : List (ClassId × FieldType)} {A : Nat → Prop} {ad : Nat → Nat} (hAD : ∀ i : Nat, ad (1000 + i) = D.2 1000 i) : CRok l D tys A ad GG 4 g544 := CR_of_vrf (dep := 3) hAD (List.forall_mem_cons.mpr ⟨r542 hAD, List.forall_mem_cons.mpr ⟨r543 hAD, List.forall_mem_cons.mpr ⟨r521 hAD, fun c hc => by cases hc⟩⟩⟩) T2OK_nil w544
noncomputable def g545 : CR := (31, [(2, 0, 0), (0, (-2147483648), 2147483647)], [], some (0, (-2), 63), [], [])
theorem w545 : vrf GG [(3, g141)] [] 300 3 g545
  (uK (uC kN18 (uE kI0 kI5 (uE kI0 kI63 (uE kI0 kI6 (uE kI1 kI6 uE0)))) (uA kN0 (rA kI0) (uA kN1 (uis kN0) (uA kN2 (uis kN1) (uA kN3 (uis kN2) uA0)))) uS0 (uO kN4 kN4 (uis kN3) uO0) (Int.ofNat (nat_lit 998)) (uL kJ148 kN2 uL0))
  (uK (uC kN58 (uE kI0 kI5 (uE kI0 kI63 (uE kI0 kI5 (uE kI1 kI6 uE0)))) (uA kN0 (rA kI0) (uA kN1 (uis kN0) (uA kN2 (uis kN1) (uA kN3 (uis kN2) uA0)))) uS0 (uO kN4 kN4 (uis kN3) uO0) (Int.ofNat (nat_lit 958)) (uL kJ148 kN2 uL0))
  (uK (uC kN64 (uE kI0 kI5 (uE kI0 kI63 (uE kI0 kI5 (uE kI1 kI6 uE0)))) (uA kN0 (rA kI0) (uA kN1 (uis kN0) (uA kN2 (uis kN1) (uA kN3 (uis kN2) uA0)))) uS0 (uO kN4 kN4 (uis kN3) uO0) (Int.ofNat (nat_lit 952)) (uL kJ148 kN2 uL0))
  uK0))) = true := by decide +kernel
theorem r545 {l : Launch} {D : va_G} {tys : List (ClassId × FieldType)} {A : Nat → Prop} {ad : Nat → Nat} (hAD : ∀ i : Nat, ad (1000 + i) = D.2 1000 i) : CRok l D tys A ad GG 4 g545 := CR_of_vrf (dep := 3) hAD (List.forall_mem_cons.mpr ⟨r141 hAD, fun c hc => by cases hc⟩) T2OK_nil w545
noncomputable def g546 : CR := (275, [(2, 90, 90), (0, (-2147483648), 2147483647)], [], some (0, (-2), 63), [], [])
theorem w546 : vrf GG [(2, g143)] [] 300 2 g546
  (uK (uC kN15 (uE kI0 kI5 (uE kI0 kI63 (uE kI0 kI6 (uE kI1 kI6 uE0)))) (uA kN0 (rA kI90) (uA kN1 (uis kN0) (uA kN2 (uis kN1) (uA kN3 (uis kN2) uA0)))) uS0 (uO kN91 kN3 (uis kN3) uO0) (Int.ofNat (nat_lit 920)) (uL kJ136 kN2 uL0))
  (uK (uC kN49 (uE kI0 kI5 (uE kI0 kI63 (uE kI0 kI5 (uE kI0 kI63 (uE kI1 kI6 uE0))))) (uA kN0 (rA kI90) (uA kN1 (uis kN0) (uA kN2 (uis kN1) (uA kN3 (uis kN2) uA0)))) (uS (uis kN3) uS0) (uO kN91 kN3 (uis kN4) uO0) (Int.ofNat (nat_lit 886)) (uL kJ136 kN2 uL0))
  (uK (uC kN55 (uE kI0 kI5 (uE kI0 kI63 (uE kI0 kI5 (uE kI0 kI63 (uE kI1 kI6 uE0))))) (uA kN0 (rA kI90) (uA kN1 (uis kN0) (uA kN2 (uis kN1) (uA kN3 (uis kN2) uA0)))) (uS (uis kN3) uS0) (uO kN91 kN3 (uis kN4) uO0) (Int.ofNat (nat_lit 880)) (uL kJ136 kN2 uL0))
  (uK (uC kN56 (uE kI0 kI5 (uE kI0 kI63 (uE kI0 kI5 (uE kI0 kI32 (uE kI0 kI63 (uE kI1 kI6 uE0)))))) (uA kN0 (rA kI90) (uA kN1 (uis kN0) (uA kN2 (uis kN1) (uA kN3 (uis kN2) uA0)))) (uS (uis kN3) (uS (uis kN4) uS0)) (uO kN91 kN3 (uis kN5) uO0) (Int.ofNat (nat_lit 879)) (uL kJ136 kN2 uL0))
  uK0)))) = true := by decide +kernel
theorem r546 {l : Launch} {D : va_G} {tys : List (ClassId × FieldType)} {A : Nat → Prop} {ad : Nat → Nat} (hAD : ∀ i : Nat, ad (1000 + i) = D.2 1000 i) : CRok l D tys A ad GG 3 g546 := CR_of_vrf (dep := 2) hAD (List.forall_mem_cons.mpr ⟨r143 hAD, fun c hc => by cases hc⟩) T2OK_nil w546
noncomputable def g547 : CR := (151, [(0, 100, 100), (0, 0, 63)], [], some (1, (-9223372036854775808), 9223372036854775807), [], [])
theorem w547 : vrf GG [] [] 300 0 g547
  (uK (uC kN5 (uE kI0 kI63 (uE kJ9223372036854775808 kI9223372036854775807 (uE kI0 kI63 uE0))) (uA kN0 (uic kI100) (uA kN1 (uis kN0) (uA kN2 (uls kN1) (uA kN4 (uis kN2) uA0)))) uS0 uO0 (Int.ofNat (nat_lit 3316)) (uL kJ52 kN2 uL0))
  uK0) = true := by decide +kernel
theorem r547 {l : Launch} {D : va_G} {tys : List (ClassId × FieldType)} {A : Nat → Prop} {ad : Nat → Nat} (hAD : ∀ i : Nat, ad (1000 + i) = D.2 1000 i) : CRok l D tys A ad GG 1 g547 := CR_of_vrf (dep := 0) hAD (fun c hc => by cases hc) T2OK_nil w547
noncomputable def g548 : CR := (152, [(1, (-9223372036854775808), 9223372036854775807), (1, (-9223372036854775808), 9223372036854775807)], [], some (1, (-9223372036854775808), 9223372036854775807), [], [])
theorem w548 : vrf GG [] [] 300 0 g548
  (uK (uC kN9 (uE kJ9223372036854775808 kI9223372036854775807 (uE kJ9223372036854775808 kI9223372036854775807 (uE kJ9223372036854775808 kI9223372036854775807 (uE kJ9223372036854775808 kI9223372036854775807 (uE kI0 (Int.ofNat (nat_lit 200)) uE0))))) (uA kN0 (uls kN0) (uA kN2 (uls kN1) (uA kN4 (uls kN2) (uA kN6 (uls kN3) (uA kN8 (uis kN4) uA0))))) uS0 uO0 (Int.ofNat (nat_lit 20080)) (uL (Int.negSucc (nat_lit 99)) kN4 uL0))
  uK0) = true := by decide +kernel
theorem r548 {l : Launch} {D : va_G} {tys : List (ClassId × FieldType)} {A : Nat → Prop} {ad : Nat → Nat} (hAD : ∀ i : Nat, ad (1000 + i) = D.2 1000 i) : CRok l D tys A ad GG 1 g548 := CR_of_vrf (dep := 0) hAD (fun c hc => by cases hc) T2OK_nil w548
noncomputable def g549 : CR := (63, [(2, 0, 0), (0, 0, 5)], [], some (0, 0, 4095), [], [])
theorem w549 : vrf GG [] [] 300 2 g549
  (uK (uC kN4 (uE kI0 kI5 (uE kI0 kI4095 (uE kI0 kI12 uE0))) (uA kN0 (rA kI0) (uA kN1 (uis kN0) (uA kN2 (uis kN1) (uA kN3 (uis kN2) uA0)))) uS0 uO0 (Int.ofNat (nat_lit 2642)) (uL kJ204 kN2 uL0))
  (uK (uC kN38 (uE kI0 kI5 (uE kI0 kI4095 (uE kI0 kI11 (uE kI0 kI1 (uE kI1 kI12 uE0))))) (uA kN0 (rA kI0) (uA kN1 (uis kN0) (uA kN2 (uis kN1) (uA kN3 (uis kN2) uA0)))) (uS (uis kN3) uS0) (uO kN4 kN5 (uis kN4) uO0) (Int.ofNat (nat_lit 2608)) (uL kJ204 kN2 uL0))
  (uK (uC kN92 (uE kI0 kI5 (uE kI0 kI4095 (uE kI0 kI11 (uE kI0 kI1 (uE kJ2147483648 kI2147483647 (uE kI1 kI12 uE0)))))) (uA kN0 (rA kI0) (uA kN1 (uis kN0) (uA kN2 (uis kN1) (uA kN3 (uis kN2) (uA kN4 (uis kN3) (uA kN5 (uis kN4) uA0)))))) uS0 (uO kN4 kN5 (uis kN5) uO0) (Int.ofNat (nat_lit 2554)) (uL kJ204 kN2 uL0))
  uK0))) = true := by decide +kernel
theorem r549 {l : Launch} {D : va_G} {tys : List (ClassId × FieldType)} {A : Nat → Prop} {ad : Nat → Nat} (hAD : ∀ i : Nat, ad (1000 + i) = D.2 1000 i) : CRok l D tys A ad GG 3 g549 := CR_of_vrf (dep := 2) hAD (fun c hc => by cases hc) T2OK_nil w549
noncomputable def g550 : CR := (92, [(2, 28, 28), (2, 4, 4), (0, (-2147483648), 2147483647), (0, (-2147483648), 2147483647)], [], some (0, 0, 63), [], [31])
theorem w550 : vrf GG [] [] 748 2 g550
  (uK (uC kN28 (uE kJ2147483648 kI2147483647 (uE kJ2147483648 kI2147483647 (uE kJ2147483648 kI2147483647 (uE kJ2147483648 kI2147483647 (uE kI0 kI63 (uE kI0 kI6 uE0)))))) (uA kN0 (rA kI28) (uA kN1 (rA kI4) (uA kN2 (uis kN0) (uA kN3 (uis kN1) (uA kN4 (uis kN2) (uA kN5 (uis kN3) (uA kN6 (uis kN4) (uA kN7 (uis kN5) uA0)))))))) uS0 uO0 kI1426 (uL kJ212 kN5 uL0))
  (uK (uC kN95 (uE kJ2147483648 kI2147483647 (uE kJ2147483648 kI2147483647 (uE kJ2147483648 kI2147483647 (uE kJ2147483648 kI2147483647 (uE kI0 kI63 (uE kI0 kI5 (uE kI1 kI6 uE0))))))) (uA kN0 (rA kI28) (uA kN1 (rA kI4) (uA kN2 (uis kN0) (uA kN3 (uis kN1) (uA kN4 (uis kN2) (uA kN5 (uis kN3) (uA kN6 (uis kN4) (uA kN7 (uis kN5) uA0)))))))) uS0 (uO kN4 kN4 (uis kN6) uO0) kI1359 (uL kJ212 kN5 uL0))
  uK0)) = true := by decide +kernel
theorem r550 {l : Launch} {D : va_G} {tys : List (ClassId × FieldType)} {A : Nat → Prop} {ad : Nat → Nat} (hAD : ∀ i : Nat, ad (1000 + i) = D.2 1000 i) : CRok l D tys A ad GG 3 g550 := CR_of_vrf (dep := 2) hAD (fun c hc => by cases hc) T2OK_nil w550
noncomputable def g551 : CR := (94, [(2, 28, 28), (2, 4, 4), (0, 0, 5), (0, 0, 5), (0, 0, 4095)], [], some (0, 0, 1), [], [31])
theorem w551 : vrf GG [(3, g75), (3, g550)] [] 675 3 g551
  (uK (uC kN8 (uE kI0 kI5 (uE kI0 kI5 (uE kI0 kI4095 (uE kI0 kI12 uE0)))) (uA kN0 (rA kI28) (uA kN1 (rA kI4) (uA kN2 (uis kN0) (uA kN3 (uis kN1) (uA kN4 (uis kN2) (uA kN5 (uis kN3) uA0)))))) uS0 uO0 (Int.ofNat (nat_lit 2738)) (uL kJ212 kN3 uL0))
  (uK (uC kN66 (uE kI0 kI5 (uE kI0 kI5 (uE kI0 kI4095 (uE kI0 kI11 (uE kJ2147483648 kI2147483647 (uE kJ2147483648 kI2147483647 (uE kI1 kI12 uE0))))))) (uA kN0 (rA kI28) (uA kN1 (rA kI4) (uA kN2 (uis kN0) (uA kN3 (uis kN1) (uA kN4 (uis kN2) (uA kN5 (uis kN3) (uA kN6 (uis kN4) uA0))))))) (uS (uis kN5) uS0) (uO kN4 kN5 (uis kN6) uO0) (Int.ofNat (nat_lit 2680)) (uL kJ212 kN3 uL0))
  (uK (uC kN78 (uE kI0 kI5 (uE kI0 kI5 (uE kI0 kI4095 (uE kI0 kI11 (uE kJ2147483648 kI2147483647 (uE kI1 kI12 uE0)))))) (uA kN0 (rA kI28) (uA kN1 (rA kI4) (uA kN2 (uis kN0) (uA kN3 (uis kN1) (uA kN4 (uis kN2) (uA kN5 (uis kN3) (uA kN6 (uis kN4) uA0))))))) uS0 (uO kN4 kN5 (uis kN5) uO0) (Int.ofNat (nat_lit 2668)) (uL kJ212 kN3 uL0))
  uK0))) = true := by decide +kernel
theorem r551 {l : Launch} {D : va_G} {tys : List (ClassId × FieldType)} {A : Nat → Prop} {ad : Nat → Nat} (hAD : ∀ i : Nat, ad (1000 + i) = D.2 1000 i) : CRok l D tys A ad GG 4 g551 := CR_of_vrf (dep := 3) hAD (List.forall_mem_cons.mpr ⟨r75 hAD, List.forall_mem_cons.mpr ⟨r550 hAD, fun c hc => by cases hc⟩⟩) T2OK_nil w551
noncomputable def g552 : CR := (96, [(0, 0, 4095), (0, 0, 4095), (0, (-2147483648), 2147483647)], [], some (1, (-9223372036854775808), 9223372036854775807), [], [])
theorem w552 : vrf GG [] [] 300 0 g552
  (uK (uC kN5 (uE kI0 kI4095 (uE kI0 kI4095 (uE kJ2147483648 kI2147483647 (uE kJ9223372036854775808 kI9223372036854775807 (uE kI0 kI12 uE0))))) (uA kN0 (uis kN0) (uA kN1 (uis kN1) (uA kN2 (uis kN2) (uA kN3 (uls kN3) (uA kN5 (uis kN4) uA0))))) uS0 uO0 (Int.ofNat (nat_lit 1366)) (uL kJ106 kN4 uL0))
  (uK (uC kN41 (uE kI0 kI4095 (uE kI0 kI4095 (uE kJ2147483648 kI2147483647 (uE kJ9223372036854775808 kI9223372036854775807 (uE kI0 kI11 (uE kJ2147483648 kI2147483647 (uE kJ9223372036854775808 kI9223372036854775807 uE0))))))) (uA kN0 (uis kN0) (uA kN1 (uis kN1) (uA kN2 (uis kN2) (uA kN3 (uls kN3) (uA kN5 (uis kN4) uA0))))) (uS (uls kN5) (uS (uls kN6) uS0)) uO0 (Int.ofNat (nat_lit 1330)) (uL kJ106 kN4 uL0))
  (uK (uC kN43 (uE kI0 kI4095 (uE kI0 kI4095 (uE kJ2147483648 kI2147483647 (uE kJ9223372036854775808 kI9223372036854775807 (uE kI0 kI11 uE0))))) (uA kN0 (uis kN0) (uA kN1 (uis kN1) (uA kN2 (uis kN2) (uA kN3 (uls kN3) (uA kN5 (uis kN4) uA0))))) uS0 uO0 (Int.ofNat (nat_lit 1328)) (uL kJ106 kN4 uL0))
  uK0))) = true := by decide +kernel
theorem r552 {l : Launch} {D : va_G} {tys : List (ClassId × FieldType)} {A : Nat → Prop} {ad : Nat → Nat} (hAD : ∀ i : Nat, ad (1000 + i) = D.2 1000 i) : CRok l D tys A ad GG 1 g552 := CR_of_vrf (dep := 0) hAD (fun c hc => by cases hc) T2OK_nil w552
noncomputable def g553 : CR := (95, [(2, 28, 28), (2, 4, 4), (0, 0, 5), (0, 0, 5), (0, 0, 4095)], [], some (1, (-9223372036854775808), 9223372036854775807), [], [31])
theorem w553 : vrf GG [(4, g551), (1, g552)] [] 300 4 g553
  (uK (uC kN9 (uE kI0 kI5 (uE kI0 kI5 (uE kI0 kI4095 (uE kJ9223372036854775808 kI9223372036854775807 (uE kI0 kI4095 (uE kI0 kI256 uE0)))))) (uA kN0 (rA kI28) (uA kN1 (rA kI4) (uA kN2 (uis kN0) (uA kN3 (uis kN1) (uA kN4 (uis kN2) (uA kN5 (uls kN3) (uA kN7 (uis kN4) (uA kN8 (uis kN5) uA0)))))))) uS0 uO0 (Int.ofNat (nat_lit 45726)) (uL (Int.negSucc (nat_lit 177)) kN5 uL0))
  (uK (uC kN60 (uE kI0 kI5 (uE kI0 kI5 (uE kI0 kI4095 (uE kJ9223372036854775808 kI9223372036854775807 (uE kI0 kI4095 (uE kI0 kI255 (uE kJ9223372036854775808 kI9223372036854775807 uE0))))))) (uA kN0 (rA kI28) (uA kN1 (rA kI4) (uA kN2 (uis kN0) (uA kN3 (uis kN1) (uA kN4 (uis kN2) (uA kN5 (uls kN3) (uA kN7 (uis kN4) (uA kN8 (uis kN5) (uA kN9 (uls kN6) uA0))))))))) uS0 uO0 (Int.ofNat (nat_lit 45675)) (uL (Int.negSucc (nat_lit 177)) kN5 uL0))
  uK0)) = true := by decide +kernel
theorem r553 {l : Launch} {D : va_G} {tys : List (ClassId × FieldType)} {A : Nat → Prop} {ad : Nat → Nat} (hAD : ∀ i : Nat, ad (1000 + i) = D.2 1000 i) : CRok l D tys A ad GG 5 g553 := CR_of_vrf (dep := 4) hAD (List.forall_mem_cons.mpr ⟨r551 hAD, List.forall_mem_cons.mpr ⟨r552 hAD, fun c hc => by cases hc⟩⟩) T2OK_nil w553
noncomputable def g554 : CR := (62, [(2, 0, 0), (0, (-2147483648), 2147483647), (0, (-2147483648), 2147483647), (0, (-2147483648), 2147483647)], [], some (1, (-9223372036854775808), 9223372036854775807), [], [31])
theorem w554 : vrf GG [(3, g549), (5, g553), (1, g547), (1, g548)] [] 300 5 g554
  [] = true := by decide +kernel
theorem r554 {l : Launch} {D : va_G} {tys : List (ClassId × FieldType)} {A : Nat → Prop} {ad : Nat → Nat} (hAD : ∀ i : Nat, ad (1000 + i) = D.2 1000 i) : CRok l D tys A ad GG 6 g554 := CR_of_vrf (dep := 5) hAD (List.forall_mem_cons.mpr ⟨r549 hAD, List.forall_mem_cons.mpr ⟨r553 hAD, List.forall_mem_cons.mpr ⟨r547 hAD, List.forall_mem_cons.mpr ⟨r548 hAD, fun c hc => by cases hc⟩⟩⟩⟩) T2OK_nil w554
noncomputable def g555 : CR := (327, [(2, 90, 90), (0, 0, 5)], [], some (0, 0, 4095), [], [])
theorem w555 : vrf GG [] [] 300 2 g555
  (uK (uC kN4 (uE kI0 kI5 (uE kI0 kI4095 (uE kI0 kI12 uE0))) (uA kN0 (rA kI90) (uA kN1 (uis kN0) (uA kN2 (uis kN1) (uA kN3 (uis kN2) uA0)))) uS0 uO0 (Int.ofNat (nat_lit 2512)) (uL kJ194 kN2 uL0))
  (uK (uC kN66 (uE kI0 kI5 (uE kI0 kI4095 (uE kI0 kI11 (uE kI0 kI5 (uE kI0 kI63 (uE kI0 kI4095 (uE kI1 kI12 uE0))))))) (uA kN0 (rA kI90) (uA kN1 (uis kN0) (uA kN2 (uis kN1) (uA kN3 (uis kN2) (uA kN4 (uis kN3) uA0))))) (uS (uis kN4) (uS (uis kN5) uS0)) (uO kN91 kN4 (uis kN6) uO0) (Int.ofNat (nat_lit 2450)) (uL kJ194 kN2 uL0))
  (uK (uC kN84 (uE kI0 kI5 (uE kI0 kI4095 (uE kI0 kI11 (uE kI0 kI5 (uE kI0 kI4095 (uE kI1 kI12 uE0)))))) (uA kN0 (rA kI90) (uA kN1 (uis kN0) (uA kN2 (uis kN1) (uA kN3 (uis kN2) (uA kN4 (uis kN3) uA0))))) (uS (uis kN4) uS0) (uO kN91 kN4 (uis kN5) uO0) (Int.ofNat (nat_lit 2432)) (uL kJ194 kN2 uL0))
  (uK (uC kN85 (uE kI0 kI5 (uE kI0 kI4095 (uE kI0 kI11 (uE kI0 kI5 (uE kI0 kI2048 (uE kI0 kI4095 (uE kI1 kI12 uE0))))))) (uA kN0 (rA kI90) (uA kN1 (uis kN0) (uA kN2 (uis kN1) (uA kN3 (uis kN2) (uA kN4 (uis kN3) uA0))))) (uS (uis kN4) (uS (uis kN5) uS0)) (uO kN91 kN4 (uis kN6) uO0) (Int.ofNat (nat_lit 2431)) (uL kJ194 kN2 uL0))
  uK0)))) = true := by decide +kernel
theorem r555 {l : Launch} {D : va_G} {tys : List (ClassId × FieldType)} {A : Nat → Prop} {ad : Nat → Nat} (hAD : ∀ i : Nat, ad (1000 + i) = D.2 1000 i) : CRok l D tys A ad GG 3 g555 := CR_of_vrf (dep := 2) hAD (fun c hc => by cases hc) T2OK_nil w555
noncomputable def g556 : CR := (329, [(2, 90, 90), (0, 0, 5), (0, 0, 5), (0, 0, 4095)], [((90, 22), (0, (-1), (-1))), ((90, 24), (0, 0, 0))], some (1, (-9223372036854775808), 9223372036854775807), [((90, 22), (0, (-1), (-1))), ((90, 24), (0, 0, 0))], [90, 98, 99, 100, 101, 1022])
theorem w556 : vrf GG [(4, g96)] [] 300 5 g556
  (uK (uC kN6 (uE kI0 kI5 (uE kI0 kI5 (uE kI0 kI4095 (uE kJ9223372036854775808 kI9223372036854775807 (uE kI0 kI4096 uE0))))) (uA kN0 (rA kI90) (uA kN1 (uis kN0) (uA kN2 (uis kN1) (uA kN3 (uis kN2) (uA kN4 (uls kN3) (uA kN6 (uis kN4) uA0)))))) uS0 (uO kN90 kN22 (uic kJ1) (uO kN90 kN24 (uic kI0) uO0)) (Int.ofNat (nat_lit 19542676)) (uL kJ4770 kN4 uL0))
  (uK (uC kN30 (uE kI0 kI5 (uE kI0 kI5 (uE kI0 kI4095 (uE kJ9223372036854775808 kI9223372036854775807 (uE kI0 kI4095 (uE kJ9223372036854775808 kI9223372036854775807 (uE kI0 kI12 uE0))))))) (uA kN0 (rA kI90) (uA kN1 (uis kN0) (uA kN2 (uis kN1) (uA kN3 (uis kN2) (uA kN4 (uls kN3) (uA kN6 (uis kN4) (uA kN7 (uls kN5) (uA kN9 (uis kN6) uA0)))))))) uS0 (uO kN90 kN22 (uic kJ1) (uO kN90 kN24 (uic kI0) uO0)) (Int.ofNat (nat_lit 19542144)) (uL (Int.negSucc (nat_lit 317)) kN6 (uL kJ4770 kN4 uL0)))
  (uK (uC kN89 (uE kI0 kI5 (uE kI0 kI5 (uE kI0 kI4095 (uE kJ9223372036854775808 kI9223372036854775807 (uE kI0 kI4095 (uE kJ9223372036854775808 kI9223372036854775807 (uE kI0 kI11 (uE kI0 kI100 (uE kJ9223372036854775808 kI9223372036854775807 uE0))))))))) (uA kN0 (rA kI90) (uA kN1 (uis kN0) (uA kN2 (uis kN1) (uA kN3 (uis kN2) (uA kN4 (uls kN3) (uA kN6 (uis kN4) (uA kN7 (uls kN5) (uA kN9 (uis kN6) uA0)))))))) (uS (uls kN7) (uS (uls kN8) uS0)) (uO kN90 kN22 (uic kJ1) (uO kN90 kN24 (uic kI0) uO0)) (Int.ofNat (nat_lit 19542085)) (uL (Int.negSucc (nat_lit 317)) kN6 (uL kJ4770 kN4 uL0)))
  (uK (uC kN145 (uE kI0 kI5 (uE kI0 kI5 (uE kI0 kI4095 (uE kJ9223372036854775808 kI9223372036854775807 (uE kI0 kI4095 (uE kJ9223372036854775808 kI9223372036854775807 (uE kJ9223372036854775808 kI9223372036854775807 (uE kJ9223372036854775808 kI9223372036854775807 (uE kI0 kI24 uE0))))))))) (uA kN0 (rA kI90) (uA kN1 (uis kN0) (uA kN2 (uis kN1) (uA kN3 (uis kN2) (uA kN4 (uls kN3) (uA kN6 (uis kN4) (uA kN7 (uls kN5) (uA kN9 (uic kI12) uA0)))))))) (uS (uls kN6) (uS (uls kN7) uS0)) (uO kN90 kN22 (uic kJ1) (uO kN90 kN24 (uic kI0) (uO kN91 kN2 (uis kN8) uO0))) (Int.ofNat (nat_lit 19538085)) (uL kJ4770 kN4 uL0))
  (uK (uC kN148 (uE kI0 kI5 (uE kI0 kI5 (uE kI0 kI4095 (uE kJ9223372036854775808 kI9223372036854775807 (uE kI0 kI4095 uE0))))) (uA kN0 (rA kI90) (uA kN1 (uis kN0) (uA kN2 (uis kN1) (uA kN3 (uis kN2) (uA kN4 (uls kN3) (uA kN6 (uis kN4) uA0)))))) uS0 (uO kN90 kN22 (uic kJ1) (uO kN90 kN24 (uic kI0) uO0)) (Int.ofNat (nat_lit 19538082)) (uL kJ4770 kN4 uL0))
  uK0))))) = true := by decide +kernel
theorem r556 {l : Launch} {D : va_G} {tys : List (ClassId × FieldType)} {A : Nat → Prop} {ad : Nat → Nat} (hAD : ∀ i : Nat, ad (1000 + i) = D.2 1000 i) : CRok l D tys A ad GG 6 g556 := CR_of_vrf (dep := 5) hAD (List.forall_mem_cons.mpr ⟨r96 hAD, fun c hc => by cases hc⟩) T2OK_nil w556
noncomputable def g557 : CR := (330, [(2, 90, 90), (0, (-2147483648), 2147483647), (0, (-2147483648), 2147483647), (0, (-2147483648), 2147483647)], [((90, 22), (0, (-1), (-1))), ((90, 24), (0, 0, 0))], some (1, (-9223372036854775808), 9223372036854775807), [((90, 22), (0, (-1), (-1))), ((90, 24), (0, 0, 0))], [90, 98, 99, 100, 101, 1022])
theorem w557 : vrf GG [(1, g174), (4, g96), (3, g555), (6, g556)] hDiv 812 6 g557
  [] = true := by decide +kernel
theorem r557 {l : Launch} {D : va_G} {tys : List (ClassId × FieldType)} {A : Nat → Prop} {ad : Nat → Nat} (hAD : ∀ i : Nat, ad (1000 + i) = D.2 1000 i) : CRok l D tys A ad GG 7 g557 := CR_of_vrf (dep := 6) hAD (List.forall_mem_cons.mpr ⟨r174 hAD, List.forall_mem_cons.mpr ⟨r96 hAD, List.forall_mem_cons.mpr ⟨r555 hAD, List.forall_mem_cons.mpr ⟨r556 hAD, fun c hc => by cases hc⟩⟩⟩⟩) HDiv_ok w557
end
section
noncomputable def g558 : CR := (97, [(2, 28, 28), (2, 4, 4), (1, 0, 2000000000)], [], none, [], [31])
theorem w558 : vrf GG [(3, g75), (3, g550)] [] 631 3 g558
  (uK (uC kN11 (uE kI0 kI2000000000 (uE kI0 kI2147483647 (uE kI0 kI12 uE0))) (uA kN0 (rA kI28) (uA kN1 (rA kI4) (uA kN2 (uls kN0) (uA kN4 (uls kN1) (uA kN6 (uis kN2) uA0))))) uS0 uO0 (Int.ofNat (nat_lit 34608)) (uL kJ2664 kN2 uL0))
  (uK (uC kN49 (uE kI0 kI2000000000 (uE kI0 kI2147483647 (uE kI0 kI11 (uE kJ2147483648 kI2147483647 (uE kJ2147483648 kI2147483647 (uE kI0 kI6 (uE kI1 kI12 uE0))))))) (uA kN0 (rA kI28) (uA kN1 (rA kI4) (uA kN2 (uls kN0) (uA kN4 (uls kN1) (uA kN6 (uis kN2) (uA kN7 (uis kN3) (uA kN8 (uis kN4) (uA kN9 (uis kN5) uA0)))))))) uS0 (uO kN4 kN5 (uis kN6) uO0) (Int.ofNat (nat_lit 34076)) (uL kJ296 kN5 (uL kJ2664 kN2 uL0)))
  (uK (uC kN123 (uE kI0 kI2000000000 (uE kI0 kI2147483647 (uE kI0 kI11 (uE kJ2147483648 kI2147483647 (uE kJ2147483648 kI2147483647 (uE kI0 kI5 (uE kI1 kI6 (uE kI1 kI12 uE0)))))))) (uA kN0 (rA kI28) (uA kN1 (rA kI4) (uA kN2 (uls kN0) (uA kN4 (uls kN1) (uA kN6 (uis kN2) (uA kN7 (uis kN3) (uA kN8 (uis kN4) (uA kN9 (uis kN5) uA0)))))))) uS0 (uO kN4 kN4 (uis kN6) (uO kN4 kN5 (uis kN7) uO0)) (Int.ofNat (nat_lit 34002)) (uL kJ296 kN5 (uL kJ2664 kN2 uL0)))
  (uK (uC kN139 (uE kI0 kI2000000000 (uE kI0 kI2147483647 (uE kI0 kI11 (uE kJ2147483648 kI2147483647 (uE kI1 kI12 uE0))))) (uA kN0 (rA kI28) (uA kN1 (rA kI4) (uA kN2 (uls kN0) (uA kN4 (uls kN1) (uA kN6 (uis kN2) (uA kN7 (uis kN3) uA0)))))) uS0 (uO kN4 kN5 (uis kN4) uO0) (Int.ofNat (nat_lit 32112)) (uL kJ2664 kN2 uL0))
  uK0)))) = true := by decide +kernel
theorem r558 {l : Launch} {D : va_G} {tys : List (ClassId × FieldType)} {A : Nat → Prop} {ad : Nat → Nat} (hAD : ∀ i : Nat, ad (1000 + i) = D.2 1000 i) : CRok l D tys A ad GG 4 g558 := CR_of_vrf (dep := 3) hAD (List.forall_mem_cons.mpr ⟨r75 hAD, List.forall_mem_cons.mpr ⟨r550 hAD, fun c hc => by cases hc⟩⟩) T2OK_nil w558
noncomputable def g559 : CR := (64, [(2, 0, 0), (0, (-2147483648), 2147483647), (0, (-2147483648), 2147483647), (0, (-2147483648), 2147483647)], [], some (0, (-2147483648), 2147483647), [], [31])
theorem w559 : vrf GG [(4, g558)] [] 300 4 g559
  [] = true := by decide +kernel
theorem r559 {l : Launch} {D : va_G} {tys : List (ClassId × FieldType)} {A : Nat → Prop} {ad : Nat → Nat} (hAD : ∀ i : Nat, ad (1000 + i) = D.2 1000 i) : CRok l D tys A ad GG 5 g559 := CR_of_vrf (dep := 4) hAD (List.forall_mem_cons.mpr ⟨r558 hAD, fun c hc => by cases hc⟩) T2OK_nil w559
noncomputable def g560 : CR := (333, [(2, 90, 90), (0, (-2147483648), 2147483647), (0, (-2147483648), 2147483647), (0, (-2147483648), 2147483647)], [((90, 22), (0, (-1), (-1))), ((90, 24), (0, 0, 0))], some (0, (-2), 63), [((90, 22), (0, (-1), (-1))), ((90, 24), (0, 0, 0))], [90, 98, 99, 100, 101, 1024])
theorem w560 : vrf GG [(4, g96)] [] 300 6 g560
  [] = true := by decide +kernel
theorem r560 {l : Launch} {D : va_G} {tys : List (ClassId × FieldType)} {A : Nat → Prop} {ad : Nat → Nat} (hAD : ∀ i : Nat, ad (1000 + i) = D.2 1000 i) : CRok l D tys A ad GG 7 g560 := CR_of_vrf (dep := 6) hAD (List.forall_mem_cons.mpr ⟨r96 hAD, fun c hc => by cases hc⟩) T2OK_nil w560
noncomputable def g561 : CR := (97, [(2, 28, 28), (2, 4, 4), (1, 0, 2147483647)], [], none, [], [31])
theorem w561 : vrf GG [(3, g75), (3, g550)] [] 631 3 g561
  (uK (uC kN11 (uE kI0 kI2147483647 (uE kI0 kI2147483647 (uE kI0 kI12 uE0))) (uA kN0 (rA kI28) (uA kN1 (rA kI4) (uA kN2 (uls kN0) (uA kN4 (uls kN1) (uA kN6 (uis kN2) uA0))))) uS0 uO0 (Int.ofNat (nat_lit 34608)) (uL kJ2664 kN2 uL0))
  (uK (uC kN49 (uE kI0 kI2147483647 (uE kI0 kI2147483647 (uE kI0 kI11 (uE kJ2147483648 kI2147483647 (uE kJ2147483648 kI2147483647 (uE kI0 kI6 (uE kI1 kI12 uE0))))))) (uA kN0 (rA kI28) (uA kN1 (rA kI4) (uA kN2 (uls kN0) (uA kN4 (uls kN1) (uA kN6 (uis kN2) (uA kN7 (uis kN3) (uA kN8 (uis kN4) (uA kN9 (uis kN5) uA0)))))))) uS0 (uO kN4 kN5 (uis kN6) uO0) (Int.ofNat (nat_lit 34076)) (uL kJ296 kN5 (uL kJ2664 kN2 uL0)))
  (uK (uC kN123 (uE kI0 kI2147483647 (uE kI0 kI2147483647 (uE kI0 kI11 (uE kJ2147483648 kI2147483647 (uE kJ2147483648 kI2147483647 (uE kI0 kI5 (uE kI1 kI6 (uE kI1 kI12 uE0)))))))) (uA kN0 (rA kI28) (uA kN1 (rA kI4) (uA kN2 (uls kN0) (uA kN4 (uls kN1) (uA kN6 (uis kN2) (uA kN7 (uis kN3) (uA kN8 (uis kN4) (uA kN9 (uis kN5) uA0)))))))) uS0 (uO kN4 kN4 (uis kN6) (uO kN4 kN5 (uis kN7) uO0)) (Int.ofNat (nat_lit 34002)) (uL kJ296 kN5 (uL kJ2664 kN2 uL0)))
  (uK (uC kN139 (uE kI0 kI2147483647 (uE kI0 kI2147483647 (uE kI0 kI11 (uE kJ2147483648 kI2147483647 (uE kI1 kI12 uE0))))) (uA kN0 (rA kI28) (uA kN1 (rA kI4) (uA kN2 (uls kN0) (uA kN4 (uls kN1) (uA kN6 (uis kN2) (uA kN7 (uis kN3) uA0)))))) uS0 (uO kN4 kN5 (uis kN4) uO0) (Int.ofNat (nat_lit 32112)) (uL kJ2664 kN2 uL0))
  uK0)))) = true := by decide +kernel
theorem r561 {l : Launch} {D : va_G} {tys : List (ClassId × FieldType)} {A : Nat → Prop} {ad : Nat → Nat} (hAD : ∀ i : Nat, ad (1000 + i) = D.2 1000 i) : CRok l D tys A ad GG 4 g561 := CR_of_vrf (dep := 3) hAD (List.forall_mem_cons.mpr ⟨r75 hAD, List.forall_mem_cons.mpr ⟨r550 hAD, fun c hc => by cases hc⟩⟩) T2OK_nil w561
noncomputable def g562 : CR := (65, [(2, 0, 0), (0, (-2147483648), 2147483647), (0, (-2147483648), 2147483647), (0, (-2147483648), 2147483647), (0, (-2147483648), 2147483647)], [], some (0, (-2147483648), 2147483647), [], [31])
theorem w562 : vrf GG [(4, g561)] [] 300 4 g562
  (uK (uC kN57 (uE kI0 kI2000000000 (uE kI1 kI20 (uE kI0 kI5 (uE kI0 kI5 (uE kJ2147483648 kI2147483647 (uE kI0 kI20 (uE kI1 kI6 uE0))))))) (uA kN0 (rA kI0) (uA kN1 (uis kN0) (uA kN2 (uis kN1) (uA kN3 (uis kN2) (uA kN4 (uis kN3) (uA kN5 (uis kN4) (uA kN6 (uis kN5) uA0))))))) uS0 (uO kN4 kN4 (uis kN6) uO0) (Int.ofNat (nat_lit 4756)) (uL (Int.negSucc (nat_lit 231)) kN5 uL0))
  (uK (uC kN105 (uE kI0 kI2000000000 (uE kI1 kI20 (uE kI0 kI5 (uE kI0 kI5 (uE kJ2147483648 kI2147483647 (uE kI0 kI19 (uE kI1 kI6 uE0))))))) (uA kN0 (rA kI0) (uA kN1 (uis kN0) (uA kN2 (uis kN1) (uA kN3 (uis kN2) (uA kN4 (uis kN3) (uA kN5 (uis kN4) (uA kN6 (uis kN5) uA0))))))) uS0 (uO kN4 kN4 (uis kN6) uO0) (Int.ofNat (nat_lit 4708)) (uL (Int.negSucc (nat_lit 231)) kN5 uL0))
  uK0)) = true := by decide +kernel
theorem r562 {l : Launch} {D : va_G} {tys : List (ClassId × FieldType)} {A : Nat → Prop} {ad : Nat → Nat} (hAD : ∀ i : Nat, ad (1000 + i) = D.2 1000 i) : CRok l D tys A ad GG 5 g562 := CR_of_vrf (dep := 4) hAD (List.forall_mem_cons.mpr ⟨r561 hAD, fun c hc => by cases hc⟩) T2OK_nil w562
noncomputable def g563 : CR := (334, [(2, 90, 90), (0, (-2147483648), 2147483647), (0, (-2147483648), 2147483647), (0, (-2147483648), 2147483647), (0, (-2147483648), 2147483647)], [((90, 22), (0, (-1), (-1))), ((90, 24), (0, 0, 0))], some (0, (-2147483648), 2147483647), [((90, 22), (0, (-1), (-1))), ((90, 24), (0, 0, 0))], [90, 98, 99, 100, 101, 1024])
theorem w563 : vrf GG [(4, g96)] [] 300 6 g563
  (uK (uC kN45 (uE kI0 kI2000000000 (uE kI1 kI20 (uE kI0 kI5 (uE kI0 kI5 (uE kJ2147483648 kI2147483647 (uE kI0 kI20 (uE kI1 kI6 uE0))))))) (uA kN0 (rA kI90) (uA kN1 (uis kN0) (uA kN2 (uis kN1) (uA kN3 (uis kN2) (uA kN4 (uis kN3) (uA kN5 (uis kN4) (uA kN6 (uis kN5) uA0))))))) uS0 (uO kN90 kN22 (uic kJ1) (uO kN90 kN24 (uic kI0) (uO kN91 kN3 (uis kN6) uO0))) (Int.ofNat (nat_lit 3772)) (uL (Int.negSucc (nat_lit 183)) kN5 uL0))
  (uK (uC kN78 (uE kI0 kI2000000000 (uE kI1 kI20 (uE kI0 kI5 (uE kI0 kI5 (uE kJ2147483648 kI2147483647 (uE kI0 kI19 (uE kI0 kI1 (uE kJ2147483648 kI2147483647 (uE kI0 kI24 (uE kI1 kI6 uE0)))))))))) (uA kN0 (rA kI90) (uA kN1 (uis kN0) (uA kN2 (uis kN1) (uA kN3 (uis kN2) (uA kN4 (uis kN3) (uA kN5 (uis kN4) (uA kN6 (uis kN5) uA0))))))) (uS (uis kN6) (uS (uis kN7) uS0)) (uO kN90 kN22 (uic kJ1) (uO kN90 kN24 (uic kI0) (uO kN91 kN2 (uis kN8) (uO kN91 kN3 (uis kN9) uO0)))) (Int.ofNat (nat_lit 3739)) (uL (Int.negSucc (nat_lit 183)) kN5 uL0))
  uK0)) = true := by decide +kernel
theorem r563 {l : Launch} {D : va_G} {tys : List (ClassId × FieldType)} {A : Nat → Prop} {ad : Nat → Nat} (hAD : ∀ i : Nat, ad (1000 + i) = D.2 1000 i) : CRok l D tys A ad GG 7 g563 := CR_of_vrf (dep := 6) hAD (List.forall_mem_cons.mpr ⟨r96 hAD, fun c hc => by cases hc⟩) T2OK_nil w563
noncomputable def g566 : CR := (171, [(2, 39, 39)], [], some (0, (-2147483648), 2147483647), [], [])
theorem w566 : vrf GG [] [] 300 3 g566
  (uK (uC kN4 (uE kJ2147483648 kI2147483647 (uE kI0 kI4 uE0)) (uA kN0 (rA kI39) (uA kN1 (uis kN0) (uA kN2 (uis kN1) uA0))) uS0 uO0 kI290 (uL kJ60 kN1 uL0))
  (uK (uC kN20 (uE kJ2147483648 kI2147483647 (uE kI0 kI3 uE0)) (uA kN0 (rA kI39) (uA kN1 (uis kN0) (uA kN2 (uis kN1) uA0))) uS0 uO0 kI274 (uL kJ60 kN1 uL0))
  uK0)) = true := by decide +kernel
theorem r566 {l : Launch} {D : va_G} {tys : List (ClassId × FieldType)} {A : Nat → Prop} {ad : Nat → Nat} (hAD : ∀ i : Nat, ad (1000 + i) = D.2 1000 i) : CRok l D tys A ad GG 4 g566 := CR_of_vrf (dep := 3) hAD (fun c hc => by cases hc) T2OK_nil w566
noncomputable def g567 : CR := (66, [(2, 0, 0), (0, (-2147483648), 2147483647)], [], some (0, (-2147483648), 2147483647), [], [])
theorem w567 : vrf GG [(4, g566)] [] 300 4 g567
  [] = true := by decide +kernel
theorem r567 {l : Launch} {D : va_G} {tys : List (ClassId × FieldType)} {A : Nat → Prop} {ad : Nat → Nat} (hAD : ∀ i : Nat, ad (1000 + i) = D.2 1000 i) : CRok l D tys A ad GG 5 g567 := CR_of_vrf (dep := 4) hAD (List.forall_mem_cons.mpr ⟨r566 hAD, fun c hc => by cases hc⟩) T2OK_nil w567
noncomputable def g568 : CR := (335, [(2, 90, 90), (0, (-2147483648), 2147483647)], [], some (0, (-2147483648), 2147483647), [], [])
theorem w568 : vrf GG [] [] 300 0 g568
  (uK (uC kN97 (uE kJ2147483648 kI2147483647 (uE kI0 kI4 uE0)) (uA kN0 (rA kI90) (uA kN1 (uic kI7) (uA kN2 (uis kN0) (uA kN3 (uis kN1) uA0)))) uS0 uO0 (Int.ofNat (nat_lit 1124)) (uL (Int.negSucc (nat_lit 263)) kN1 uL0))
  (uK (uC kN118 (uE kJ2147483648 kI2147483647 (uE kI0 kI3 (uE kI0 kI1 (uE kJ2147483648 kI2147483647 uE0)))) (uA kN0 (rA kI90) (uA kN1 (uic kI7) (uA kN2 (uis kN0) (uA kN3 (uis kN1) uA0)))) (uS (uis kN2) (uS (uis kN3) uS0)) uO0 (Int.ofNat (nat_lit 1103)) (uL (Int.negSucc (nat_lit 263)) kN1 uL0))
  uK0)) = true := by decide +kernel
theorem r568 {l : Launch} {D : va_G} {tys : List (ClassId × FieldType)} {A : Nat → Prop} {ad : Nat → Nat} (hAD : ∀ i : Nat, ad (1000 + i) = D.2 1000 i) : CRok l D tys A ad GG 1 g568 := CR_of_vrf (dep := 0) hAD (fun c hc => by cases hc) T2OK_nil w568
noncomputable def g655 : CR := (70, [(2, 0, 0), (0, (-2147483648), (-1)), (0, (-2147483648), 2147483647), (0, (-2147483648), 2147483647)], [], some (0, (-2), (-2)), [], [])
theorem w655 : vrf GG [] [] 300 1 g655
  [] = true := by decide +kernel
theorem r655 {l : Launch} {D : va_G} {tys : List (ClassId × FieldType)} {A : Nat → Prop} {ad : Nat → Nat} (hAD : ∀ i : Nat, ad (1000 + i) = D.2 1000 i) : CRok l D tys A ad GG 2 g655 := CR_of_vrf (dep := 1) hAD (fun c hc => by cases hc) T2OK_nil w655
noncomputable def g656 : CR := (70, [(2, 0, 0), (0, 4, 2147483647), (0, (-2147483648), 2147483647), (0, (-2147483648), 2147483647)], [], some (0, (-2), (-2)), [], [])
theorem w656 : vrf GG [] [] 300 1 g656
  [] = true := by decide +kernel
theorem r656 {l : Launch} {D : va_G} {tys : List (ClassId × FieldType)} {A : Nat → Prop} {ad : Nat → Nat} (hAD : ∀ i : Nat, ad (1000 + i) = D.2 1000 i) : CRok l D tys A ad GG 2 g656 := CR_of_vrf (dep := 1) hAD (fun c hc => by cases hc) T2OK_nil w656
noncomputable def g657 : CR := (70, [(2, 0, 0), (0, 0, 3), (0, (-2147483648), (-1)), (0, (-2147483648), 2147483647)], [], some (0, (-2), (-2)), [], [])
theorem w657 : vrf GG [] [] 300 1 g657
  [] = true := by decide +kernel
theorem r657 {l : Launch} {D : va_G} {tys : List (ClassId × FieldType)} {A : Nat → Prop} {ad : Nat → Nat} (hAD : ∀ i : Nat, ad (1000 + i) = D.2 1000 i) : CRok l D tys A ad GG 2 g657 := CR_of_vrf (dep := 1) hAD (fun c hc => by cases hc) T2OK_nil w657
noncomputable def g658 : CR := (70, [(2, 0, 0), (0, 0, 3), (0, 4, 2147483647), (0, (-2147483648), 2147483647)], [], some (0, (-2), (-2)), [], [])
theorem w658 : vrf GG [] [] 300 1 g658
  [] = true := by decide +kernel
theorem r658 {l : Launch} {D : va_G} {tys : List (ClassId × FieldType)} {A : Nat → Prop} {ad : Nat → Nat} (hAD : ∀ i : Nat, ad (1000 + i) = D.2 1000 i) : CRok l D tys A ad GG 2 g658 := CR_of_vrf (dep := 1) hAD (fun c hc => by cases hc) T2OK_nil w658
noncomputable def g659 : CR := (70, [(2, 0, 0), (0, 0, 3), (0, 0, 3), (0, 61, 2147483647)], [], some (0, (-2), (-2)), [], [])
theorem w659 : vrf GG [] [] 300 1 g659
  [] = true := by decide +kernel
theorem r659 {l : Launch} {D : va_G} {tys : List (ClassId × FieldType)} {A : Nat → Prop} {ad : Nat → Nat} (hAD : ∀ i : Nat, ad (1000 + i) = D.2 1000 i) : CRok l D tys A ad GG 2 g659 := CR_of_vrf (dep := 1) hAD (fun c hc => by cases hc) T2OK_nil w659
noncomputable def g660 : CR := (70, [(2, 0, 0), (0, 0, 3), (0, 0, 3), (0, (-2147483648), (-1))], [], some (0, (-3), (-3)), [], [])
theorem w660 : vrf GG [] [] 300 1 g660
  [] = true := by decide +kernel
theorem r660 {l : Launch} {D : va_G} {tys : List (ClassId × FieldType)} {A : Nat → Prop} {ad : Nat → Nat} (hAD : ∀ i : Nat, ad (1000 + i) = D.2 1000 i) : CRok l D tys A ad GG 2 g660 := CR_of_vrf (dep := 1) hAD (fun c hc => by cases hc) T2OK_nil w660
noncomputable def g661 : CR := (166, [(2, 39, 39), (0, 0, 3), (0, 0, 59), (1, 0, 0)], [], none, [], [40])
theorem w661 : vrf GG [] [] 300 2 g661
  [] = true := by decide +kernel
theorem r661 {l : Launch} {D : va_G} {tys : List (ClassId × FieldType)} {A : Nat → Prop} {ad : Nat → Nat} (hAD : ∀ i : Nat, ad (1000 + i) = D.2 1000 i) : CRok l D tys A ad GG 3 g661 := CR_of_vrf (dep := 2) hAD (fun c hc => by cases hc) T2OK_nil w661
noncomputable def g662 : CR := (165, [(2, 39, 39), (0, 0, 3), (0, 0, 3), (0, 0, 60)], [], none, [], [40, 41, 42])
theorem w662 : vrf GG [(3, g661)] [] 300 3 g662
  (uK (uC kN21 (uE kI0 kI3 (uE kI0 kI3 (uE kI0 kI60 (uE kI0 kI60 uE0)))) (uA kN0 (rA kI39) (uA kN1 (uis kN0) (uA kN2 (uis kN1) (uA kN3 (uis kN2) (uA kN4 (uis kN3) uA0))))) uS0 uO0 (Int.ofNat (nat_lit 5324)) (uL kJ88 kN3 uL0))
  uK0) = true := by decide +kernel
theorem r662 {l : Launch} {D : va_G} {tys : List (ClassId × FieldType)} {A : Nat → Prop} {ad : Nat → Nat} (hAD : ∀ i : Nat, ad (1000 + i) = D.2 1000 i) : CRok l D tys A ad GG 4 g662 := CR_of_vrf (dep := 3) hAD (List.forall_mem_cons.mpr ⟨r661 hAD, fun c hc => by cases hc⟩) T2OK_nil w662
noncomputable def g663 : CR := (70, [(2, 0, 0), (0, 0, 3), (0, 0, 3), (0, 0, 60)], [], some (0, 0, 0), [], [40, 41, 42])
theorem w663 : vrf GG [(4, g662)] [] 300 4 g663
  [] = true := by decide +kernel
theorem r663 {l : Launch} {D : va_G} {tys : List (ClassId × FieldType)} {A : Nat → Prop} {ad : Nat → Nat} (hAD : ∀ i : Nat, ad (1000 + i) = D.2 1000 i) : CRok l D tys A ad GG 5 g663 := CR_of_vrf (dep := 4) hAD (List.forall_mem_cons.mpr ⟨r662 hAD, fun c hc => by cases hc⟩) T2OK_nil w663
noncomputable def g664 : CR := (338, [(2, 90, 90), (0, (-2147483648), (-1)), (0, (-2147483648), 2147483647), (0, (-2147483648), 2147483647)], [], some (0, (-2), (-2)), [], [])
theorem w664 : vrf GG [] [] 300 2 g664
  [] = true := by decide +kernel
theorem r664 {l : Launch} {D : va_G} {tys : List (ClassId × FieldType)} {A : Nat → Prop} {ad : Nat → Nat} (hAD : ∀ i : Nat, ad (1000 + i) = D.2 1000 i) : CRok l D tys A ad GG 3 g664 := CR_of_vrf (dep := 2) hAD (fun c hc => by cases hc) T2OK_nil w664
noncomputable def g665 : CR := (338, [(2, 90, 90), (0, 4, 2147483647), (0, (-2147483648), 2147483647), (0, (-2147483648), 2147483647)], [], some (0, (-2), (-2)), [], [])
theorem w665 : vrf GG [] [] 300 2 g665
  [] = true := by decide +kernel
theorem r665 {l : Launch} {D : va_G} {tys : List (ClassId × FieldType)} {A : Nat → Prop} {ad : Nat → Nat} (hAD : ∀ i : Nat, ad (1000 + i) = D.2 1000 i) : CRok l D tys A ad GG 3 g665 := CR_of_vrf (dep := 2) hAD (fun c hc => by cases hc) T2OK_nil w665
noncomputable def g666 : CR := (338, [(2, 90, 90), (0, 0, 3), (0, (-2147483648), (-1)), (0, (-2147483648), 2147483647)], [], some (0, (-2), (-2)), [], [])
theorem w666 : vrf GG [] [] 300 2 g666
  [] = true := by decide +kernel
theorem r666 {l : Launch} {D : va_G} {tys : List (ClassId × FieldType)} {A : Nat → Prop} {ad : Nat → Nat} (hAD : ∀ i : Nat, ad (1000 + i) = D.2 1000 i) : CRok l D tys A ad GG 3 g666 := CR_of_vrf (dep := 2) hAD (fun c hc => by cases hc) T2OK_nil w666
noncomputable def g667 : CR := (338, [(2, 90, 90), (0, 0, 3), (0, 4, 2147483647), (0, (-2147483648), 2147483647)], [], some (0, (-2), (-2)), [], [])
theorem w667 : vrf GG [] [] 300 2 g667
  [] = true := by decide +kernel
theorem r667 {l : Launch} {D : va_G} {tys : List (ClassId × FieldType)} {A : Nat → Prop} {ad : Nat → Nat} (hAD : ∀ i : Nat, ad (1000 + i) = D.2 1000 i) : CRok l D tys A ad GG 3 g667 := CR_of_vrf (dep := 2) hAD (fun c hc => by cases hc) T2OK_nil w667
noncomputable def g668 : CR := (338, [(2, 90, 90), (0, 0, 3), (0, 0, 3), (0, 61, 2147483647)], [], some (0, (-2), (-2)), [], [])
theorem w668 : vrf GG [] [] 300 2 g668
  [] = true := by decide +kernel
theorem r668 {l : Launch} {D : va_G} {tys : List (ClassId × FieldType)} {A : Nat → Prop} {ad : Nat → Nat} (hAD : ∀ i : Nat, ad (1000 + i) = D.2 1000 i) : CRok l D tys A ad GG 3 g668 := CR_of_vrf (dep := 2) hAD (fun c hc => by cases hc) T2OK_nil w668
noncomputable def g669 : CR := (338, [(2, 90, 90), (0, 0, 3), (0, 0, 3), (0, (-2147483648), (-1))], [], some (0, (-3), (-3)), [], [])
theorem w669 : vrf GG [] [] 300 2 g669
  [] = true := by decide +kernel
theorem r669 {l : Launch} {D : va_G} {tys : List (ClassId × FieldType)} {A : Nat → Prop} {ad : Nat → Nat} (hAD : ∀ i : Nat, ad (1000 + i) = D.2 1000 i) : CRok l D tys A ad GG 3 g669 := CR_of_vrf (dep := 2) hAD (fun c hc => by cases hc) T2OK_nil w669
noncomputable def g670 : CR := (338, [(2, 90, 90), (0, 0, 3), (0, 0, 3), (0, 0, 60)], [], some (0, 0, 0), [], [107, 108, 109])
theorem w670 : vrf GG [] [] 300 2 g670
  (uK (uC kN52 (uE kI0 kI3 (uE kI0 kI3 (uE kI0 kI60 (uE kI0 kI60 uE0)))) (uA kN0 (rA kI90) (uA kN1 (uis kN0) (uA kN2 (uis kN1) (uA kN3 (uis kN2) (uA kN4 (uis kN3) uA0))))) uS0 uO0 (Int.ofNat (nat_lit 9898)) (uL (Int.negSucc (nat_lit 163)) kN3 uL0))
  uK0) = true := by decide +kernel
theorem r670 {l : Launch} {D : va_G} {tys : List (ClassId × FieldType)} {A : Nat → Prop} {ad : Nat → Nat} (hAD : ∀ i : Nat, ad (1000 + i) = D.2 1000 i) : CRok l D tys A ad GG 3 g670 := CR_of_vrf (dep := 2) hAD (fun c hc => by cases hc) T2OK_nil w670
noncomputable def g671 : CR := (71, [(2, 0, 0), (0, (-2147483648), (-1)), (0, (-2147483648), 2147483647), (1, (-9223372036854775808), 9223372036854775807)], [], some (0, (-2), (-2)), [], [])
theorem w671 : vrf GG [] [] 300 1 g671
  [] = true := by decide +kernel
theorem r671 {l : Launch} {D : va_G} {tys : List (ClassId × FieldType)} {A : Nat → Prop} {ad : Nat → Nat} (hAD : ∀ i : Nat, ad (1000 + i) = D.2 1000 i) : CRok l D tys A ad GG 2 g671 := CR_of_vrf (dep := 1) hAD (fun c hc => by cases hc) T2OK_nil w671
noncomputable def g672 : CR := (71, [(2, 0, 0), (0, 4, 2147483647), (0, (-2147483648), 2147483647), (1, (-9223372036854775808), 9223372036854775807)], [], some (0, (-2), (-2)), [], [])
theorem w672 : vrf GG [] [] 300 1 g672
  [] = true := by decide +kernel
theorem r672 {l : Launch} {D : va_G} {tys : List (ClassId × FieldType)} {A : Nat → Prop} {ad : Nat → Nat} (hAD : ∀ i : Nat, ad (1000 + i) = D.2 1000 i) : CRok l D tys A ad GG 2 g672 := CR_of_vrf (dep := 1) hAD (fun c hc => by cases hc) T2OK_nil w672
noncomputable def g673 : CR := (166, [(2, 39, 39), (0, 0, 3), (0, 0, 59), (1, (-9223372036854775808), 9223372036854775807)], [], none, [], [40])
theorem w673 : vrf GG [] [] 300 2 g673
  [] = true := by decide +kernel
theorem r673 {l : Launch} {D : va_G} {tys : List (ClassId × FieldType)} {A : Nat → Prop} {ad : Nat → Nat} (hAD : ∀ i : Nat, ad (1000 + i) = D.2 1000 i) : CRok l D tys A ad GG 3 g673 := CR_of_vrf (dep := 2) hAD (fun c hc => by cases hc) T2OK_nil w673
noncomputable def g674 : CR := (71, [(2, 0, 0), (0, 0, 3), (0, (-2147483648), 2147483647), (1, (-9223372036854775808), 9223372036854775807)], [], some (0, (-7), 0), [], [40])
theorem w674 : vrf GG [(3, g673)] [] 300 3 g674
  [] = true := by decide +kernel
theorem r674 {l : Launch} {D : va_G} {tys : List (ClassId × FieldType)} {A : Nat → Prop} {ad : Nat → Nat} (hAD : ∀ i : Nat, ad (1000 + i) = D.2 1000 i) : CRok l D tys A ad GG 4 g674 := CR_of_vrf (dep := 3) hAD (List.forall_mem_cons.mpr ⟨r673 hAD, fun c hc => by cases hc⟩) T2OK_nil w674
noncomputable def g675 : CR := (339, [(2, 90, 90), (0, (-2147483648), (-1)), (0, (-2147483648), 2147483647), (1, (-9223372036854775808), 9223372036854775807)], [], some (0, (-2), (-2)), [], [])
theorem w675 : vrf GG [] [] 300 2 g675
  [] = true := by decide +kernel
theorem r675 {l : Launch} {D : va_G} {tys : List (ClassId × FieldType)} {A : Nat → Prop} {ad : Nat → Nat} (hAD : ∀ i : Nat, ad (1000 + i) = D.2 1000 i) : CRok l D tys A ad GG 3 g675 := CR_of_vrf (dep := 2) hAD (fun c hc => by cases hc) T2OK_nil w675
noncomputable def g676 : CR := (339, [(2, 90, 90), (0, 4, 2147483647), (0, (-2147483648), 2147483647), (1, (-9223372036854775808), 9223372036854775807)], [], some (0, (-2), (-2)), [], [])
theorem w676 : vrf GG [] [] 300 2 g676
  [] = true := by decide +kernel
theorem r676 {l : Launch} {D : va_G} {tys : List (ClassId × FieldType)} {A : Nat → Prop} {ad : Nat → Nat} (hAD : ∀ i : Nat, ad (1000 + i) = D.2 1000 i) : CRok l D tys A ad GG 3 g676 := CR_of_vrf (dep := 2) hAD (fun c hc => by cases hc) T2OK_nil w676
noncomputable def g677 : CR := (339, [(2, 90, 90), (0, 0, 3), (0, (-2147483648), 2147483647), (1, (-9223372036854775808), 9223372036854775807)], [], some (0, (-7), 0), [], [109])
theorem w677 : vrf GG [] [] 300 2 g677
  [] = true := by decide +kernel
theorem r677 {l : Launch} {D : va_G} {tys : List (ClassId × FieldType)} {A : Nat → Prop} {ad : Nat → Nat} (hAD : ∀ i : Nat, ad (1000 + i) = D.2 1000 i) : CRok l D tys A ad GG 3 g677 := CR_of_vrf (dep := 2) hAD (fun c hc => by cases hc) T2OK_nil w677
end
