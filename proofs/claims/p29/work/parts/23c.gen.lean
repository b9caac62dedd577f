noncomputable def g240 : CR := (301, [(2, 90, 90), (0, 1, 6), (0, 0, 3), (0, 1, 1)], [((107, 1), (0, 9, 60))], some (0, (-6), (-2)), [], [])
theorem w240 : vrf GG [] [] 300 2 g240
  [] = true := by decide +kernel
theorem r240 {l : Launch} {D : va_G} {tys : List (ClassId × FieldType)} {A : Nat → Prop} {ad : Nat → Nat} (hAD : ∀ i : Nat, ad (1000 + i) = D.2 1000 i) : CRok l D tys A ad GG 3 g240 := CR_of_vrf (dep := 2) hAD (fun c hc => by cases hc) T2OK_nil w240
noncomputable def g241 : CR := (303, [(2, 90, 90), (0, 1, 6), (0, 0, 3), (0, 1, 1)], [((107, 1), (0, 9, 60))], some (0, (-6), (-2)), [], [])
theorem w241 : vrf GG [(3, g240)] [] 300 3 g241
  [] = true := by decide +kernel
theorem r241 {l : Launch} {D : va_G} {tys : List (ClassId × FieldType)} {A : Nat → Prop} {ad : Nat → Nat} (hAD : ∀ i : Nat, ad (1000 + i) = D.2 1000 i) : CRok l D tys A ad GG 4 g241 := CR_of_vrf (dep := 3) hAD (List.forall_mem_cons.mpr ⟨r240 hAD, fun c hc => by cases hc⟩) T2OK_nil w241
noncomputable def g242 : CR := (301, [(2, 90, 90), (0, 1, 6), (0, 0, 3), (0, 2, 2)], [((107, 2), (0, (-1), (-1)))], some (0, (-6), (-6)), [], [])
theorem w242 : vrf GG [] [] 300 2 g242
  [] = true := by decide +kernel
theorem r242 {l : Launch} {D : va_G} {tys : List (ClassId × FieldType)} {A : Nat → Prop} {ad : Nat → Nat} (hAD : ∀ i : Nat, ad (1000 + i) = D.2 1000 i) : CRok l D tys A ad GG 3 g242 := CR_of_vrf (dep := 2) hAD (fun c hc => by cases hc) T2OK_nil w242
noncomputable def g243 : CR := (303, [(2, 90, 90), (0, 1, 6), (0, 0, 3), (0, 2, 2)], [((107, 2), (0, (-1), (-1)))], some (0, (-6), (-6)), [], [])
theorem w243 : vrf GG [(3, g242)] [] 300 3 g243
  [] = true := by decide +kernel
theorem r243 {l : Launch} {D : va_G} {tys : List (ClassId × FieldType)} {A : Nat → Prop} {ad : Nat → Nat} (hAD : ∀ i : Nat, ad (1000 + i) = D.2 1000 i) : CRok l D tys A ad GG 4 g243 := CR_of_vrf (dep := 3) hAD (List.forall_mem_cons.mpr ⟨r242 hAD, fun c hc => by cases hc⟩) T2OK_nil w243
noncomputable def g244 : CR := (301, [(2, 90, 90), (0, 1, 6), (0, 0, 3), (0, 2, 2)], [((107, 2), (0, 0, 8))], some (0, (-6), 0), [], [])
theorem w244 : vrf GG [] [] 300 2 g244
  (uK (uC kN69 (uE kI1 kI6 (uE kI0 kI3 (uE kI0 kI60 (uE kI0 kI8 uE0)))) (uA kN0 (rA kI90) (uA kN1 (uis kN0) (uA kN2 (uis kN1) (uA kN3 (uic kI2) (uA kN4 (uis kN2) uA0))))) uS0 (uO kN107 kN2 (uis kN3) uO0) kI21160 (uL kJ300 kN2 uL0))
  (uK (uC kN109 (uE kI1 kI6 (uE kI0 kI3 (uE kI0 kI8 (uE kI0 kI8 uE0)))) (uA kN0 (rA kI90) (uA kN1 (uis kN0) (uA kN2 (uis kN1) (uA kN3 (uic kI2) (uA kN4 (uis kN2) uA0))))) uS0 (uO kN107 kN2 (uis kN3) uO0) kI2480 (uL kJ300 kN2 uL0))
  uK0)) = true := by decide +kernel
theorem r244 {l : Launch} {D : va_G} {tys : List (ClassId × FieldType)} {A : Nat → Prop} {ad : Nat → Nat} (hAD : ∀ i : Nat, ad (1000 + i) = D.2 1000 i) : CRok l D tys A ad GG 3 g244 := CR_of_vrf (dep := 2) hAD (fun c hc => by cases hc) T2OK_nil w244
noncomputable def g245 : CR := (302, [(2, 90, 90), (0, 1, 6), (0, 0, 3), (0, 2, 2)], [((107, 2), (0, 0, 8))], none, [], [102, 103, 104])
theorem w245 : vrf GG [(1, g122)] [] 300 1 g245
  (uK (uC kN3 (uE kI1 kI6 (uE kI0 kI3 (uE kI0 kI64 (uE kI0 kI8 uE0)))) (uA kN0 (rA kI90) (uA kN1 (uis kN0) (uA kN2 (uis kN1) (uA kN3 (uic kI2) (uA kN4 (uis kN2) uA0))))) uS0 (uO kN107 kN2 (uis kN3) uO0) kI96870116 (uL kJ49348 kN2 uL0))
  (uK (uC kN29 (uE kI1 kI6 (uE kI0 kI3 (uE kI0 kI63 (uE kI0 kI60 (uE kI0 kI8 uE0))))) (uA kN0 (rA kI90) (uA kN1 (uis kN0) (uA kN2 (uis kN1) (uA kN3 (uic kI2) (uA kN4 (uis kN2) (uA kN5 (uis kN3) uA0)))))) uS0 (uO kN107 kN2 (uis kN4) uO0) kI96869046 (uL kJ676 kN3 (uL kJ49348 kN2 uL0)))
  (uK (uC kN76 (uE kI1 kI6 (uE kI0 kI3 (uE kI0 kI63 (uE kI0 kI59 (uE kI0 kI63 (uE kI0 kI8 uE0)))))) (uA kN0 (rA kI90) (uA kN1 (uis kN0) (uA kN2 (uis kN1) (uA kN3 (uic kI2) (uA kN4 (uis kN2) (uA kN5 (uis kN3) uA0)))))) (uS (uis kN4) (uS (rA kI102) uS0)) (uO kN107 kN2 (uis kN5) uO0) kI96868999 (uL kJ676 kN3 (uL kJ49348 kN2 uL0)))
  (uK (uC kN77 (uE kI1 kI6 (uE kI0 kI3 (uE kI0 kI63 (uE kI0 kI59 (uE kI0 kI1 (uE kI0 kI63 (uE kI0 kI8 uE0))))))) (uA kN0 (rA kI90) (uA kN1 (uis kN0) (uA kN2 (uis kN1) (uA kN3 (uic kI2) (uA kN4 (uis kN2) (uA kN5 (uis kN3) uA0)))))) (uS (uis kN4) (uS (uis kN5) (uS (rA kI102) uS0))) (uO kN107 kN2 (uis kN6) uO0) kI96868998 (uL kJ676 kN3 (uL kJ49348 kN2 uL0)))
  (uK (uC kN87 (uE kI1 kI6 (uE kI0 kI3 (uE kI0 kI63 (uE kI0 kI8 (uE kI0 kI8 uE0))))) (uA kN0 (rA kI90) (uA kN1 (uis kN0) (uA kN2 (uis kN1) (uA kN3 (uic kI2) (uA kN4 (uis kN2) (uA kN5 (uis kN3) uA0)))))) uS0 (uO kN107 kN2 (uis kN4) uO0) kI96827018 (uL kJ676 kN3 (uL kJ49348 kN2 uL0)))
  (uK (uC kN130 (uE kI1 kI6 (uE kI0 kI3 (uE kI0 kI63 (uE kI0 kI7 (uE kI0 kI128 (uE kI0 kI255 (uE kI0 kI63 (uE kI1 kI8 uE0)))))))) (uA kN0 (rA kI90) (uA kN1 (uis kN0) (uA kN2 (uis kN1) (uA kN3 (uic kI2) (uA kN4 (uis kN2) (uA kN5 (uis kN3) uA0)))))) (uS (uis kN4) (uS (uis kN5) (uS (uis kN6) (uS (rA kI103) uS0)))) (uO kN107 kN2 (uis kN7) uO0) kI96826975 (uL kJ676 kN3 (uL kJ49348 kN2 uL0)))
  (uK (uC kN159 (uE kI1 kI6 (uE kI0 kI3 (uE kI0 kI255 (uE kI0 kI256 (uE kI0 kI8 uE0))))) (uA kN0 (rA kI90) (uA kN1 (uis kN0) (uA kN2 (uis kN1) (uA kN3 (uic kI2) (uA kN4 (uis kN2) (uA kN5 (uis kN3) uA0)))))) uS0 (uO kN107 kN2 (uis kN4) uO0) kI93661508 (uL kJ676 kN3 uL0))
  (uK (uC kN192 (uE kI1 kI6 (uE kI0 kI3 (uE kI0 kI255 (uE kI0 kI255 (uE kI0 kI1000000 (uE kI256 kI1791 (uE kI0 kI8 uE0))))))) (uA kN0 (rA kI90) (uA kN1 (uis kN0) (uA kN2 (uis kN1) (uA kN3 (uic kI2) (uA kN4 (uis kN2) (uA kN5 (uis kN3) uA0)))))) (uS (uis kN4) (uS (uis kN5) (uS (rA kI104) uS0))) (uO kN107 kN2 (uis kN6) uO0) kI93661475 (uL kJ676 kN3 uL0))
  (uK (uC kN204 (uE kI1 kI6 (uE kI0 kI3 (uE kI0 kI255 (uE kJ1 kI5 (uE kI0 kI8 uE0))))) (uA kN0 (rA kI90) (uA kN1 (uis kN0) (uA kN2 (uis kN1) (uA kN3 (uic kI2) (uA kN4 (uis kN2) (uA kN5 (uis kN3) uA0)))))) uS0 (uO kN107 kN2 (uis kN4) uO0) kI23371614 (uL kI11686012 kN3 uL0))
  (uK (uC kN212 (uE kI1 kI6 (uE kI0 kI3 (uE kI0 kI255 (uE kI0 kI5 (uE kI0 kI256 (uE kI0 kI8 uE0)))))) (uA kN0 (rA kI90) (uA kN1 (uis kN0) (uA kN2 (uis kN1) (uA kN3 (uic kI2) (uA kN4 (uis kN2) (uA kN5 (uis kN3) (uA kN6 (uis kN4) uA0))))))) uS0 (uO kN107 kN2 (uis kN5) uO0) kI23325763 (uL kJ45292 kN4 (uL kI11686012 kN3 uL0)))
  (uK (uC kN239 (uE kI1 kI6 (uE kI0 kI3 (uE kI0 kI255 (uE kI0 kI5 (uE kI0 kI255 (uE kI0 kI64 (uE kI0 kI8 uE0))))))) (uA kN0 (rA kI90) (uA kN1 (uis kN0) (uA kN2 (uis kN1) (uA kN3 (uic kI2) (uA kN4 (uis kN2) (uA kN5 (uis kN3) (uA kN6 (uis kN4) (uA kN7 (uis kN5) uA0)))))))) uS0 (uO kN107 kN2 (uis kN6) uO0) kI23324482 (uL kJ676 kN5 (uL kI11686012 kN3 (uL kJ45292 kN4 uL0))))
  (uK (uC kN317 (uE kI1 kI6 (uE kI0 kI3 (uE kI0 kI255 (uE kI0 kI5 (uE kI0 kI255 (uE kI0 kI63 (uE kI0 kI8 uE0))))))) (uA kN0 (rA kI90) (uA kN1 (uis kN0) (uA kN2 (uis kN1) (uA kN3 (uic kI2) (uA kN4 (uis kN2) (uA kN5 (uis kN3) (uA kN6 (uis kN4) (uA kN7 (uis kN5) uA0)))))))) uS0 (uO kN107 kN2 (uis kN6) uO0) kI23324404 (uL kJ676 kN5 (uL kI11686012 kN3 (uL kJ45292 kN4 uL0))))
  uK0)))))))))))) = true := by decide +kernel
theorem r245 {l : Launch} {D : va_G} {tys : List (ClassId × FieldType)} {A : Nat → Prop} {ad : Nat → Nat} (hAD : ∀ i : Nat, ad (1000 + i) = D.2 1000 i) : CRok l D tys A ad GG 2 g245 := CR_of_vrf (dep := 1) hAD (List.forall_mem_cons.mpr ⟨r122 hAD, fun c hc => by cases hc⟩) T2OK_nil w245
noncomputable def g246 : CR := (303, [(2, 90, 90), (0, 1, 6), (0, 0, 3), (0, 2, 2)], [((107, 2), (0, 0, 8))], some (0, (-2147483648), 999999), [], [102, 103, 104])
theorem w246 : vrf GG [(3, g244), (2, g245)] [] 300 3 g246
  [] = true := by decide +kernel
theorem r246 {l : Launch} {D : va_G} {tys : List (ClassId × FieldType)} {A : Nat → Prop} {ad : Nat → Nat} (hAD : ∀ i : Nat, ad (1000 + i) = D.2 1000 i) : CRok l D tys A ad GG 4 g246 := CR_of_vrf (dep := 3) hAD (List.forall_mem_cons.mpr ⟨r244 hAD, List.forall_mem_cons.mpr ⟨r245 hAD, fun c hc => by cases hc⟩⟩) T2OK_nil w246
noncomputable def g247 : CR := (301, [(2, 90, 90), (0, 1, 6), (0, 0, 3), (0, 2, 2)], [((107, 2), (0, 9, 60))], some (0, (-6), (-2)), [], [])
theorem w247 : vrf GG [] [] 300 2 g247
  [] = true := by decide +kernel
theorem r247 {l : Launch} {D : va_G} {tys : List (ClassId × FieldType)} {A : Nat → Prop} {ad : Nat → Nat} (hAD : ∀ i : Nat, ad (1000 + i) = D.2 1000 i) : CRok l D tys A ad GG 3 g247 := CR_of_vrf (dep := 2) hAD (fun c hc => by cases hc) T2OK_nil w247
noncomputable def g248 : CR := (303, [(2, 90, 90), (0, 1, 6), (0, 0, 3), (0, 2, 2)], [((107, 2), (0, 9, 60))], some (0, (-6), (-2)), [], [])
theorem w248 : vrf GG [(3, g247)] [] 300 3 g248
  [] = true := by decide +kernel
theorem r248 {l : Launch} {D : va_G} {tys : List (ClassId × FieldType)} {A : Nat → Prop} {ad : Nat → Nat} (hAD : ∀ i : Nat, ad (1000 + i) = D.2 1000 i) : CRok l D tys A ad GG 4 g248 := CR_of_vrf (dep := 3) hAD (List.forall_mem_cons.mpr ⟨r247 hAD, fun c hc => by cases hc⟩) T2OK_nil w248
noncomputable def g249 : CR := (301, [(2, 90, 90), (0, 1, 6), (0, 0, 3), (0, 3, 3)], [((107, 3), (0, (-1), (-1)))], some (0, (-6), (-6)), [], [])
theorem w249 : vrf GG [] [] 300 2 g249
  [] = true := by decide +kernel
theorem r249 {l : Launch} {D : va_G} {tys : List (ClassId × FieldType)} {A : Nat → Prop} {ad : Nat → Nat} (hAD : ∀ i : Nat, ad (1000 + i) = D.2 1000 i) : CRok l D tys A ad GG 3 g249 := CR_of_vrf (dep := 2) hAD (fun c hc => by cases hc) T2OK_nil w249
noncomputable def g250 : CR := (303, [(2, 90, 90), (0, 1, 6), (0, 0, 3), (0, 3, 3)], [((107, 3), (0, (-1), (-1)))], some (0, (-6), (-6)), [], [])
theorem w250 : vrf GG [(3, g249)] [] 300 3 g250
  [] = true := by decide +kernel
theorem r250 {l : Launch} {D : va_G} {tys : List (ClassId × FieldType)} {A : Nat → Prop} {ad : Nat → Nat} (hAD : ∀ i : Nat, ad (1000 + i) = D.2 1000 i) : CRok l D tys A ad GG 4 g250 := CR_of_vrf (dep := 3) hAD (List.forall_mem_cons.mpr ⟨r249 hAD, fun c hc => by cases hc⟩) T2OK_nil w250
noncomputable def g251 : CR := (301, [(2, 90, 90), (0, 1, 6), (0, 0, 3), (0, 3, 3)], [((107, 3), (0, 0, 8))], some (0, (-6), 0), [], [])
theorem w251 : vrf GG [] [] 300 2 g251
  (uK (uC kN69 (uE kI1 kI6 (uE kI0 kI3 (uE kI0 kI60 (uE kI0 kI8 uE0)))) (uA kN0 (rA kI90) (uA kN1 (uis kN0) (uA kN2 (uis kN1) (uA kN3 (uic kI3) (uA kN4 (uis kN2) uA0))))) uS0 (uO kN107 kN3 (uis kN3) uO0) kI21160 (uL kJ300 kN2 uL0))
  (uK (uC kN109 (uE kI1 kI6 (uE kI0 kI3 (uE kI0 kI8 (uE kI0 kI8 uE0)))) (uA kN0 (rA kI90) (uA kN1 (uis kN0) (uA kN2 (uis kN1) (uA kN3 (uic kI3) (uA kN4 (uis kN2) uA0))))) uS0 (uO kN107 kN3 (uis kN3) uO0) kI2480 (uL kJ300 kN2 uL0))
  uK0)) = true := by decide +kernel
theorem r251 {l : Launch} {D : va_G} {tys : List (ClassId × FieldType)} {A : Nat → Prop} {ad : Nat → Nat} (hAD : ∀ i : Nat, ad (1000 + i) = D.2 1000 i) : CRok l D tys A ad GG 3 g251 := CR_of_vrf (dep := 2) hAD (fun c hc => by cases hc) T2OK_nil w251
noncomputable def g252 : CR := (302, [(2, 90, 90), (0, 1, 6), (0, 0, 3), (0, 3, 3)], [((107, 3), (0, 0, 8))], none, [], [102, 103, 104])
theorem w252 : vrf GG [(1, g122)] [] 300 1 g252
  (uK (uC kN3 (uE kI1 kI6 (uE kI0 kI3 (uE kI0 kI64 (uE kI0 kI8 uE0)))) (uA kN0 (rA kI90) (uA kN1 (uis kN0) (uA kN2 (uis kN1) (uA kN3 (uic kI3) (uA kN4 (uis kN2) uA0))))) uS0 (uO kN107 kN3 (uis kN3) uO0) kI96870116 (uL kJ49348 kN2 uL0))
  (uK (uC kN29 (uE kI1 kI6 (uE kI0 kI3 (uE kI0 kI63 (uE kI0 kI60 (uE kI0 kI8 uE0))))) (uA kN0 (rA kI90) (uA kN1 (uis kN0) (uA kN2 (uis kN1) (uA kN3 (uic kI3) (uA kN4 (uis kN2) (uA kN5 (uis kN3) uA0)))))) uS0 (uO kN107 kN3 (uis kN4) uO0) kI96869046 (uL kJ676 kN3 (uL kJ49348 kN2 uL0)))
  (uK (uC kN76 (uE kI1 kI6 (uE kI0 kI3 (uE kI0 kI63 (uE kI0 kI59 (uE kI0 kI63 (uE kI0 kI8 uE0)))))) (uA kN0 (rA kI90) (uA kN1 (uis kN0) (uA kN2 (uis kN1) (uA kN3 (uic kI3) (uA kN4 (uis kN2) (uA kN5 (uis kN3) uA0)))))) (uS (uis kN4) (uS (rA kI102) uS0)) (uO kN107 kN3 (uis kN5) uO0) kI96868999 (uL kJ676 kN3 (uL kJ49348 kN2 uL0)))
  (uK (uC kN77 (uE kI1 kI6 (uE kI0 kI3 (uE kI0 kI63 (uE kI0 kI59 (uE kI0 kI1 (uE kI0 kI63 (uE kI0 kI8 uE0))))))) (uA kN0 (rA kI90) (uA kN1 (uis kN0) (uA kN2 (uis kN1) (uA kN3 (uic kI3) (uA kN4 (uis kN2) (uA kN5 (uis kN3) uA0)))))) (uS (uis kN4) (uS (uis kN5) (uS (rA kI102) uS0))) (uO kN107 kN3 (uis kN6) uO0) kI96868998 (uL kJ676 kN3 (uL kJ49348 kN2 uL0)))
  (uK (uC kN87 (uE kI1 kI6 (uE kI0 kI3 (uE kI0 kI63 (uE kI0 kI8 (uE kI0 kI8 uE0))))) (uA kN0 (rA kI90) (uA kN1 (uis kN0) (uA kN2 (uis kN1) (uA kN3 (uic kI3) (uA kN4 (uis kN2) (uA kN5 (uis kN3) uA0)))))) uS0 (uO kN107 kN3 (uis kN4) uO0) kI96827018 (uL kJ676 kN3 (uL kJ49348 kN2 uL0)))
  (uK (uC kN130 (uE kI1 kI6 (uE kI0 kI3 (uE kI0 kI63 (uE kI0 kI7 (uE kI0 kI128 (uE kI0 kI255 (uE kI0 kI63 (uE kI1 kI8 uE0)))))))) (uA kN0 (rA kI90) (uA kN1 (uis kN0) (uA kN2 (uis kN1) (uA kN3 (uic kI3) (uA kN4 (uis kN2) (uA kN5 (uis kN3) uA0)))))) (uS (uis kN4) (uS (uis kN5) (uS (uis kN6) (uS (rA kI103) uS0)))) (uO kN107 kN3 (uis kN7) uO0) kI96826975 (uL kJ676 kN3 (uL kJ49348 kN2 uL0)))
  (uK (uC kN159 (uE kI1 kI6 (uE kI0 kI3 (uE kI0 kI255 (uE kI0 kI256 (uE kI0 kI8 uE0))))) (uA kN0 (rA kI90) (uA kN1 (uis kN0) (uA kN2 (uis kN1) (uA kN3 (uic kI3) (uA kN4 (uis kN2) (uA kN5 (uis kN3) uA0)))))) uS0 (uO kN107 kN3 (uis kN4) uO0) kI93661508 (uL kJ676 kN3 uL0))
  (uK (uC kN192 (uE kI1 kI6 (uE kI0 kI3 (uE kI0 kI255 (uE kI0 kI255 (uE kI0 kI1000000 (uE kI256 kI1791 (uE kI0 kI8 uE0))))))) (uA kN0 (rA kI90) (uA kN1 (uis kN0) (uA kN2 (uis kN1) (uA kN3 (uic kI3) (uA kN4 (uis kN2) (uA kN5 (uis kN3) uA0)))))) (uS (uis kN4) (uS (uis kN5) (uS (rA kI104) uS0))) (uO kN107 kN3 (uis kN6) uO0) kI93661475 (uL kJ676 kN3 uL0))
  (uK (uC kN204 (uE kI1 kI6 (uE kI0 kI3 (uE kI0 kI255 (uE kJ1 kI5 (uE kI0 kI8 uE0))))) (uA kN0 (rA kI90) (uA kN1 (uis kN0) (uA kN2 (uis kN1) (uA kN3 (uic kI3) (uA kN4 (uis kN2) (uA kN5 (uis kN3) uA0)))))) uS0 (uO kN107 kN3 (uis kN4) uO0) kI23371614 (uL kI11686012 kN3 uL0))
  (uK (uC kN212 (uE kI1 kI6 (uE kI0 kI3 (uE kI0 kI255 (uE kI0 kI5 (uE kI0 kI256 (uE kI0 kI8 uE0)))))) (uA kN0 (rA kI90) (uA kN1 (uis kN0) (uA kN2 (uis kN1) (uA kN3 (uic kI3) (uA kN4 (uis kN2) (uA kN5 (uis kN3) (uA kN6 (uis kN4) uA0))))))) uS0 (uO kN107 kN3 (uis kN5) uO0) kI23325763 (uL kJ45292 kN4 (uL kI11686012 kN3 uL0)))
  (uK (uC kN239 (uE kI1 kI6 (uE kI0 kI3 (uE kI0 kI255 (uE kI0 kI5 (uE kI0 kI255 (uE kI0 kI64 (uE kI0 kI8 uE0))))))) (uA kN0 (rA kI90) (uA kN1 (uis kN0) (uA kN2 (uis kN1) (uA kN3 (uic kI3) (uA kN4 (uis kN2) (uA kN5 (uis kN3) (uA kN6 (uis kN4) (uA kN7 (uis kN5) uA0)))))))) uS0 (uO kN107 kN3 (uis kN6) uO0) kI23324482 (uL kJ676 kN5 (uL kI11686012 kN3 (uL kJ45292 kN4 uL0))))
  (uK (uC kN317 (uE kI1 kI6 (uE kI0 kI3 (uE kI0 kI255 (uE kI0 kI5 (uE kI0 kI255 (uE kI0 kI63 (uE kI0 kI8 uE0))))))) (uA kN0 (rA kI90) (uA kN1 (uis kN0) (uA kN2 (uis kN1) (uA kN3 (uic kI3) (uA kN4 (uis kN2) (uA kN5 (uis kN3) (uA kN6 (uis kN4) (uA kN7 (uis kN5) uA0)))))))) uS0 (uO kN107 kN3 (uis kN6) uO0) kI23324404 (uL kJ676 kN5 (uL kI11686012 kN3 (uL kJ45292 kN4 uL0))))
  uK0)))))))))))) = true := by decide +kernel
theorem r252 {l : Launch} {D : va_G} {tys : List (ClassId × FieldType)} {A : Nat → Prop} {ad : Nat → Nat} (hAD : ∀ i : Nat, ad (1000 + i) = D.2 1000 i) : CRok l D tys A ad GG 2 g252 := CR_of_vrf (dep := 1) hAD (List.forall_mem_cons.mpr ⟨r122 hAD, fun c hc => by cases hc⟩) T2OK_nil w252
noncomputable def g253 : CR := (303, [(2, 90, 90), (0, 1, 6), (0, 0, 3), (0, 3, 3)], [((107, 3), (0, 0, 8))], some (0, (-2147483648), 999999), [], [102, 103, 104])
theorem w253 : vrf GG [(3, g251), (2, g252)] [] 300 3 g253
  [] = true := by decide +kernel
theorem r253 {l : Launch} {D : va_G} {tys : List (ClassId × FieldType)} {A : Nat → Prop} {ad : Nat → Nat} (hAD : ∀ i : Nat, ad (1000 + i) = D.2 1000 i) : CRok l D tys A ad GG 4 g253 := CR_of_vrf (dep := 3) hAD (List.forall_mem_cons.mpr ⟨r251 hAD, List.forall_mem_cons.mpr ⟨r252 hAD, fun c hc => by cases hc⟩⟩) T2OK_nil w253
noncomputable def g254 : CR := (301, [(2, 90, 90), (0, 1, 6), (0, 0, 3), (0, 3, 3)], [((107, 3), (0, 9, 60))], some (0, (-6), (-2)), [], [])
theorem w254 : vrf GG [] [] 300 2 g254
  [] = true := by decide +kernel
theorem r254 {l : Launch} {D : va_G} {tys : List (ClassId × FieldType)} {A : Nat → Prop} {ad : Nat → Nat} (hAD : ∀ i : Nat, ad (1000 + i) = D.2 1000 i) : CRok l D tys A ad GG 3 g254 := CR_of_vrf (dep := 2) hAD (fun c hc => by cases hc) T2OK_nil w254
noncomputable def g255 : CR := (303, [(2, 90, 90), (0, 1, 6), (0, 0, 3), (0, 3, 3)], [((107, 3), (0, 9, 60))], some (0, (-6), (-2)), [], [])
theorem w255 : vrf GG [(3, g254)] [] 300 3 g255
  [] = true := by decide +kernel
theorem r255 {l : Launch} {D : va_G} {tys : List (ClassId × FieldType)} {A : Nat → Prop} {ad : Nat → Nat} (hAD : ∀ i : Nat, ad (1000 + i) = D.2 1000 i) : CRok l D tys A ad GG 4 g255 := CR_of_vrf (dep := 3) hAD (List.forall_mem_cons.mpr ⟨r254 hAD, fun c hc => by cases hc⟩) T2OK_nil w255
noncomputable def g256 : CR := (49, [(2, 0, 0), (0, (-2147483648), 0), (0, (-2147483648), 2147483647), (0, (-2147483648), 2147483647), (0, (-2147483648), 2147483647)], [], some (0, (-2), (-2)), [], [])
theorem w256 : vrf GG [(1, g195)] [] 300 1 g256
  [] = true := by decide +kernel
theorem r256 {l : Launch} {D : va_G} {tys : List (ClassId × FieldType)} {A : Nat → Prop} {ad : Nat → Nat} (hAD : ∀ i : Nat, ad (1000 + i) = D.2 1000 i) : CRok l D tys A ad GG 2 g256 := CR_of_vrf (dep := 1) hAD (List.forall_mem_cons.mpr ⟨r195 hAD, fun c hc => by cases hc⟩) T2OK_nil w256
noncomputable def g257 : CR := (49, [(2, 0, 0), (0, 7, 2147483647), (0, (-2147483648), 2147483647), (0, (-2147483648), 2147483647), (0, (-2147483648), 2147483647)], [], some (0, (-2), (-2)), [], [])
theorem w257 : vrf GG [(1, g197)] [] 300 1 g257
  [] = true := by decide +kernel
theorem r257 {l : Launch} {D : va_G} {tys : List (ClassId × FieldType)} {A : Nat → Prop} {ad : Nat → Nat} (hAD : ∀ i : Nat, ad (1000 + i) = D.2 1000 i) : CRok l D tys A ad GG 2 g257 := CR_of_vrf (dep := 1) hAD (List.forall_mem_cons.mpr ⟨r197 hAD, fun c hc => by cases hc⟩) T2OK_nil w257
noncomputable def g258 : CR := (49, [(2, 0, 0), (0, 1, 6), (0, (-2147483648), (-1)), (0, (-2147483648), 2147483647), (0, (-2147483648), 2147483647)], [], some (0, (-2), (-2)), [], [])
theorem w258 : vrf GG [(2, g199)] [] 300 2 g258
  [] = true := by decide +kernel
theorem r258 {l : Launch} {D : va_G} {tys : List (ClassId × FieldType)} {A : Nat → Prop} {ad : Nat → Nat} (hAD : ∀ i : Nat, ad (1000 + i) = D.2 1000 i) : CRok l D tys A ad GG 3 g258 := CR_of_vrf (dep := 2) hAD (List.forall_mem_cons.mpr ⟨r199 hAD, fun c hc => by cases hc⟩) T2OK_nil w258
noncomputable def g259 : CR := (49, [(2, 0, 0), (0, 1, 6), (0, 4, 2147483647), (0, (-2147483648), 2147483647), (0, (-2147483648), 2147483647)], [], some (0, (-2), (-2)), [], [])
theorem w259 : vrf GG [(2, g201)] [] 300 2 g259
  [] = true := by decide +kernel
theorem r259 {l : Launch} {D : va_G} {tys : List (ClassId × FieldType)} {A : Nat → Prop} {ad : Nat → Nat} (hAD : ∀ i : Nat, ad (1000 + i) = D.2 1000 i) : CRok l D tys A ad GG 3 g259 := CR_of_vrf (dep := 2) hAD (List.forall_mem_cons.mpr ⟨r201 hAD, fun c hc => by cases hc⟩) T2OK_nil w259
noncomputable def g260 : CR := (49, [(2, 0, 0), (0, 1, 6), (0, 0, 3), (0, (-2147483648), (-1)), (0, (-2147483648), 2147483647)], [], some (0, (-2), (-2)), [], [])
theorem w260 : vrf GG [(2, g203)] [] 300 2 g260
  [] = true := by decide +kernel
theorem r260 {l : Launch} {D : va_G} {tys : List (ClassId × FieldType)} {A : Nat → Prop} {ad : Nat → Nat} (hAD : ∀ i : Nat, ad (1000 + i) = D.2 1000 i) : CRok l D tys A ad GG 3 g260 := CR_of_vrf (dep := 2) hAD (List.forall_mem_cons.mpr ⟨r203 hAD, fun c hc => by cases hc⟩) T2OK_nil w260
noncomputable def g261 : CR := (49, [(2, 0, 0), (0, 1, 6), (0, 0, 3), (0, 4, 2147483647), (0, (-2147483648), 2147483647)], [], some (0, (-2), (-2)), [], [])
theorem w261 : vrf GG [(2, g205)] [] 300 2 g261
  [] = true := by decide +kernel
theorem r261 {l : Launch} {D : va_G} {tys : List (ClassId × FieldType)} {A : Nat → Prop} {ad : Nat → Nat} (hAD : ∀ i : Nat, ad (1000 + i) = D.2 1000 i) : CRok l D tys A ad GG 3 g261 := CR_of_vrf (dep := 2) hAD (List.forall_mem_cons.mpr ⟨r205 hAD, fun c hc => by cases hc⟩) T2OK_nil w261
noncomputable def g262 : CR := (49, [(2, 0, 0), (0, 1, 6), (0, 0, 3), (0, 0, 3), (0, (-2147483648), 2147483647)], [], some (0, (-2147483648), 2147483647), [], [44, 45, 46])
theorem w262 : vrf GG [(5, g214), (5, g212)] [] 300 5 g262
  [] = true := by decide +kernel
theorem r262 {l : Launch} {D : va_G} {tys : List (ClassId × FieldType)} {A : Nat → Prop} {ad : Nat → Nat} (hAD : ∀ i : Nat, ad (1000 + i) = D.2 1000 i) : CRok l D tys A ad GG 6 g262 := CR_of_vrf (dep := 5) hAD (List.forall_mem_cons.mpr ⟨r214 hAD, List.forall_mem_cons.mpr ⟨r212 hAD, fun c hc => by cases hc⟩⟩) T2OK_nil w262
noncomputable def g263 : CR := (51, [(2, 0, 0), (0, (-2147483648), (-1))], [], some (0, (-2), (-2)), [], [])
theorem w263 : vrf GG [] [] 300 2 g263
  [] = true := by decide +kernel
theorem r263 {l : Launch} {D : va_G} {tys : List (ClassId × FieldType)} {A : Nat → Prop} {ad : Nat → Nat} (hAD : ∀ i : Nat, ad (1000 + i) = D.2 1000 i) : CRok l D tys A ad GG 3 g263 := CR_of_vrf (dep := 2) hAD (fun c hc => by cases hc) T2OK_nil w263
noncomputable def g264 : CR := (51, [(2, 0, 0), (0, 4, 2147483647)], [], some (0, (-2), (-2)), [], [])
theorem w264 : vrf GG [] [] 300 2 g264
  [] = true := by decide +kernel
theorem r264 {l : Launch} {D : va_G} {tys : List (ClassId × FieldType)} {A : Nat → Prop} {ad : Nat → Nat} (hAD : ∀ i : Nat, ad (1000 + i) = D.2 1000 i) : CRok l D tys A ad GG 3 g264 := CR_of_vrf (dep := 2) hAD (fun c hc => by cases hc) T2OK_nil w264
noncomputable def g265 : CR := (117, [(2, 4, 4), (0, 0, 5), (2, 39, 39), (0, 0, 3)], [], some (0, 0, 1), [], [])
theorem w265 : vrf GG [] [] 536 3 g265
  (uK (uC kN10 (uE kI0 kI5 (uE kI0 kI3 (uE kJ1 kI60 (uE kI0 kI9 uE0)))) (uA kN0 (rA kI4) (uA kN1 (uis kN0) (uA kN2 (rA kI39) (uA kN3 (uis kN1) (uA kN4 (uis kN2) (uA kN5 (uis kN3) uA0)))))) uS0 uO0 (Int.ofNat (nat_lit 15978)) (uL kJ1600 kN3 uL0))
  (uK (uC kN26 (uE kI0 kI5 (uE kI0 kI3 (uE kJ1 kI7 (uE kI0 kI8 (uE kI0 kI7 uE0))))) (uA kN0 (rA kI4) (uA kN1 (uis kN0) (uA kN2 (rA kI39) (uA kN3 (uis kN1) (uA kN4 (uis kN2) (uA kN5 (uis kN3) (uA kN6 (uis kN4) uA0))))))) uS0 uO0 (Int.ofNat (nat_lit 15695)) (uL kJ160 kN4 (uL kJ1600 kN3 uL0)))
  (uK (uC kN61 (uE kI0 kI5 (uE kI0 kI3 (uE kJ1 kI7 (uE kI0 kI8 (uE kI0 kI7 uE0))))) (uA kN0 (rA kI4) (uA kN1 (uis kN0) (uA kN2 (rA kI39) (uA kN3 (uis kN1) (uA kN4 (uis kN2) (uA kN5 (uis kN3) (uA kN6 (uis kN4) uA0))))))) uS0 uO0 (Int.ofNat (nat_lit 14487)) (uL kJ1600 kN3 uL0))
  uK0))) = true := by decide +kernel
theorem r265 {l : Launch} {D : va_G} {tys : List (ClassId × FieldType)} {A : Nat → Prop} {ad : Nat → Nat} (hAD : ∀ i : Nat, ad (1000 + i) = D.2 1000 i) : CRok l D tys A ad GG 4 g265 := CR_of_vrf (dep := 3) hAD (fun c hc => by cases hc) T2OK_nil w265
noncomputable def g266 : CR := (116, [(2, 47, 47), (2, 4, 4), (2, 39, 39), (0, 0, 3)], [], some (0, 0, 63), [], [])
theorem w266 : vrf GG [(4, g265)] [] 300 4 g266
  (uK (uC kN6 (uE kI0 kI3 (uE kI0 kI63 (uE kI0 kI6 uE0))) (uA kN0 (rA kI47) (uA kN1 (rA kI4) (uA kN2 (rA kI39) (uA kN3 (uis kN0) (uA kN4 (uis kN1) (uA kN5 (uis kN2) uA0)))))) uS0 uO0 kI630 (uL kJ92 kN2 uL0))
  (uK (uC kN35 (uE kI0 kI3 (uE kI0 kI63 (uE kI0 kI5 (uE kI1 kI6 uE0)))) (uA kN0 (rA kI47) (uA kN1 (rA kI4) (uA kN2 (rA kI39) (uA kN3 (uis kN0) (uA kN4 (uis kN1) (uA kN5 (uis kN2) uA0)))))) uS0 (uO kN4 kN4 (uis kN3) uO0) (Int.ofNat (nat_lit 601)) (uL kJ92 kN2 uL0))
  uK0)) = true := by decide +kernel
theorem r266 {l : Launch} {D : va_G} {tys : List (ClassId × FieldType)} {A : Nat → Prop} {ad : Nat → Nat} (hAD : ∀ i : Nat, ad (1000 + i) = D.2 1000 i) : CRok l D tys A ad GG 5 g266 := CR_of_vrf (dep := 4) hAD (List.forall_mem_cons.mpr ⟨r265 hAD, fun c hc => by cases hc⟩) T2OK_nil w266
noncomputable def g267 : CR := (170, [(2, 39, 39), (0, 0, 3), (0, 0, 0), (0, (-1), 8)], [], some (0, 0, 1), [], [])
theorem w267 : vrf GG [] [] 455 3 g267
  (uK (uC kN3 (uE kI0 kI3 (uE kJ1 kI8 (uE kI0 kI60 uE0))) (uA kN0 (rA kI39) (uA kN1 (uis kN0) (uA kN2 (uic kI0) (uA kN3 (uis kN1) (uA kN4 (uis kN2) uA0))))) uS0 uO0 (Int.ofNat (nat_lit 6214)) (uL kJ102 kN2 uL0))
  (uK (uC kN39 (uE kI0 kI3 (uE kJ1 kI8 (uE kI0 kI59 uE0))) (uA kN0 (rA kI39) (uA kN1 (uis kN0) (uA kN2 (uic kI0) (uA kN3 (uis kN1) (uA kN4 (uis kN2) uA0))))) uS0 uO0 (Int.ofNat (nat_lit 6178)) (uL kJ102 kN2 uL0))
  uK0)) = true := by decide +kernel
theorem r267 {l : Launch} {D : va_G} {tys : List (ClassId × FieldType)} {A : Nat → Prop} {ad : Nat → Nat} (hAD : ∀ i : Nat, ad (1000 + i) = D.2 1000 i) : CRok l D tys A ad GG 4 g267 := CR_of_vrf (dep := 3) hAD (fun c hc => by cases hc) T2OK_nil w267
noncomputable def g268 : CR := (51, [(2, 0, 0), (0, 0, 3)], [], some (0, (-6), 63), [], [])
theorem w268 : vrf GG [(5, g266), (4, g267)] [] 300 5 g268
  [] = true := by decide +kernel
theorem r268 {l : Launch} {D : va_G} {tys : List (ClassId × FieldType)} {A : Nat → Prop} {ad : Nat → Nat} (hAD : ∀ i : Nat, ad (1000 + i) = D.2 1000 i) : CRok l D tys A ad GG 6 g268 := CR_of_vrf (dep := 5) hAD (List.forall_mem_cons.mpr ⟨r266 hAD, List.forall_mem_cons.mpr ⟨r267 hAD, fun c hc => by cases hc⟩⟩) T2OK_nil w268
noncomputable def g269 : CR := (305, [(2, 90, 90), (0, (-2147483648), (-1)), (0, 1, 1)], [], some (0, (-2), (-2)), [], [])
theorem w269 : vrf GG [] [] 300 2 g269
  [] = true := by decide +kernel
theorem r269 {l : Launch} {D : va_G} {tys : List (ClassId × FieldType)} {A : Nat → Prop} {ad : Nat → Nat} (hAD : ∀ i : Nat, ad (1000 + i) = D.2 1000 i) : CRok l D tys A ad GG 3 g269 := CR_of_vrf (dep := 2) hAD (fun c hc => by cases hc) T2OK_nil w269
noncomputable def g270 : CR := (308, [(2, 90, 90), (0, (-2147483648), (-1))], [], some (0, (-2), (-2)), [], [])
theorem w270 : vrf GG [(3, g269)] [] 300 3 g270
  [] = true := by decide +kernel
theorem r270 {l : Launch} {D : va_G} {tys : List (ClassId × FieldType)} {A : Nat → Prop} {ad : Nat → Nat} (hAD : ∀ i : Nat, ad (1000 + i) = D.2 1000 i) : CRok l D tys A ad GG 4 g270 := CR_of_vrf (dep := 3) hAD (List.forall_mem_cons.mpr ⟨r269 hAD, fun c hc => by cases hc⟩) T2OK_nil w270
noncomputable def g271 : CR := (305, [(2, 90, 90), (0, 4, 2147483647), (0, 1, 1)], [], some (0, (-2), (-2)), [], [])
theorem w271 : vrf GG [] [] 300 2 g271
  [] = true := by decide +kernel
theorem r271 {l : Launch} {D : va_G} {tys : List (ClassId × FieldType)} {A : Nat → Prop} {ad : Nat → Nat} (hAD : ∀ i : Nat, ad (1000 + i) = D.2 1000 i) : CRok l D tys A ad GG 3 g271 := CR_of_vrf (dep := 2) hAD (fun c hc => by cases hc) T2OK_nil w271
noncomputable def g272 : CR := (308, [(2, 90, 90), (0, 4, 2147483647)], [], some (0, (-2), (-2)), [], [])
theorem w272 : vrf GG [(3, g271)] [] 300 3 g272
  [] = true := by decide +kernel
theorem r272 {l : Launch} {D : va_G} {tys : List (ClassId × FieldType)} {A : Nat → Prop} {ad : Nat → Nat} (hAD : ∀ i : Nat, ad (1000 + i) = D.2 1000 i) : CRok l D tys A ad GG 4 g272 := CR_of_vrf (dep := 3) hAD (List.forall_mem_cons.mpr ⟨r271 hAD, fun c hc => by cases hc⟩) T2OK_nil w272
noncomputable def g273 : CR := (305, [(2, 90, 90), (0, 0, 3), (0, 1, 1)], [], some (0, (-6), 0), [], [])
theorem w273 : vrf GG [] [] 300 2 g273
  (uK (uC kN36 (uE kI0 kI3 (uE kI0 kI60 (uE kI1 kI2147483647 uE0))) (uA kN0 (rA kI90) (uA kN1 (uis kN0) (uA kN2 (uic kI1) (uA kN3 (uis kN1) uA0)))) uS0 (uO kN91 kN5 (uis kN2) uO0) (Int.ofNat (nat_lit 8710)) (uL kJ144 kN1 uL0))
  uK0) = true := by decide +kernel
theorem r273 {l : Launch} {D : va_G} {tys : List (ClassId × FieldType)} {A : Nat → Prop} {ad : Nat → Nat} (hAD : ∀ i : Nat, ad (1000 + i) = D.2 1000 i) : CRok l D tys A ad GG 3 g273 := CR_of_vrf (dep := 2) hAD (fun c hc => by cases hc) T2OK_nil w273
noncomputable def g274 : CR := (306, [(2, 90, 90), (0, 0, 5)], [], none, [], [90, 105])
theorem w274 : vrf GG [] [] 300 1 g274
  (uK (uC kN11 (uE kI0 kI5 (uE kI0 kI6 (uE kI0 kI6 uE0))) (uA kN0 (rA kI90) (uA kN1 (uis kN0) (uA kN2 (uis kN1) uA0))) uS0 (uO kN90 kN30 (uis kN2) uO0) kI536 (uL kJ80 kN1 uL0))
  uK0) = true := by decide +kernel
theorem r274 {l : Launch} {D : va_G} {tys : List (ClassId × FieldType)} {A : Nat → Prop} {ad : Nat → Nat} (hAD : ∀ i : Nat, ad (1000 + i) = D.2 1000 i) : CRok l D tys A ad GG 2 g274 := CR_of_vrf (dep := 1) hAD (fun c hc => by cases hc) T2OK_nil w274
noncomputable def g275 : CR := (307, [(2, 90, 90), (0, 0, 0)], [((107, 0), (0, (-1), (-1)))], some (0, 1, 1), [], [])
theorem w275 : vrf GG [] [] 300 0 g275
  (uK (uC kN2 uE0 (uA kN0 (rA kI90) (uA kN1 (uic kI0) (uA kN2 (uic kI0) uA0))) uS0 (uO kN107 kN0 (uic kJ1) uO0) kI510 uL0)
  (uK (uC kN22 (uE kI0 kI6 uE0) (uA kN0 (rA kI90) (uA kN1 (uic kI0) (uA kN2 (uic kI0) (uA kN3 (uic kI1) (uA kN4 (uic kI0) uA0))))) uS0 (uO kN90 kN30 (uis kN0) (uO kN107 kN0 (uic kJ1) uO0)) kI209 uL0)
  (uK (uC kN70 (uE kI0 kI6 uE0) (uA kN0 (rA kI90) (uA kN1 (uic kI0) (uA kN2 (uic kI0) (uA kN3 (uic kI1) (uA kN4 (uic kI0) uA0))))) uS0 (uO kN90 kN30 (uis kN0) (uO kN107 kN0 (uic kJ1) uO0)) kI98 uL0)
  uK0))) = true := by decide +kernel
theorem r275 {l : Launch} {D : va_G} {tys : List (ClassId × FieldType)} {A : Nat → Prop} {ad : Nat → Nat} (hAD : ∀ i : Nat, ad (1000 + i) = D.2 1000 i) : CRok l D tys A ad GG 1 g275 := CR_of_vrf (dep := 0) hAD (fun c hc => by cases hc) T2OK_nil w275
noncomputable def g276 : CR := (307, [(2, 90, 90), (0, 0, 0)], [((107, 0), (0, 0, 0))], some (0, 1, 1), [], [])
theorem w276 : vrf GG [] [] 300 0 g276
  (uK (uC kN2 uE0 (uA kN0 (rA kI90) (uA kN1 (uic kI0) (uA kN2 (uic kI0) uA0))) uS0 (uO kN107 kN0 (uic kI0) uO0) kI510 uL0)
  (uK (uC kN22 (uE kI0 kI6 uE0) (uA kN0 (rA kI90) (uA kN1 (uic kI0) (uA kN2 (uic kI0) (uA kN3 (uic kI1) (uA kN4 (uic kI0) uA0))))) uS0 (uO kN90 kN30 (uis kN0) (uO kN107 kN0 (uic kI0) uO0)) kI209 uL0)
  (uK (uC kN70 (uE kI0 kI6 uE0) (uA kN0 (rA kI90) (uA kN1 (uic kI0) (uA kN2 (uic kI0) (uA kN3 (uic kI1) (uA kN4 (uic kI0) uA0))))) uS0 (uO kN90 kN30 (uis kN0) (uO kN107 kN0 (uic kI0) uO0)) kI98 uL0)
  uK0))) = true := by decide +kernel
theorem r276 {l : Launch} {D : va_G} {tys : List (ClassId × FieldType)} {A : Nat → Prop} {ad : Nat → Nat} (hAD : ∀ i : Nat, ad (1000 + i) = D.2 1000 i) : CRok l D tys A ad GG 1 g276 := CR_of_vrf (dep := 0) hAD (fun c hc => by cases hc) T2OK_nil w276
noncomputable def g277 : CR := (307, [(2, 90, 90), (0, 0, 0)], [((107, 0), (0, 1, 1))], some (0, 0, 1), [], [])
theorem w277 : vrf GG [] [] 300 1 g277
  (uK (uC kN2 (uE kI0 kI6 uE0) (uA kN0 (rA kI90) (uA kN1 (uic kI0) (uA kN2 (uis kN0) uA0))) uS0 (uO kN107 kN0 (uic kI1) uO0) kI4810 (uL kJ688 kN0 uL0))
  (uK (uC kN22 (uE kI0 kI5 (uE kI0 kI1 (uE kI0 kI1 (uE kI1 kI6 uE0)))) (uA kN0 (rA kI90) (uA kN1 (uic kI0) (uA kN2 (uis kN0) (uA kN3 (uis kN1) (uA kN4 (uis kN2) uA0))))) uS0 (uO kN90 kN30 (uis kN3) (uO kN107 kN0 (uic kI1) uO0)) kI4509 (uL kJ172 kN2 (uL kJ688 kN0 uL0)))
  (uK (uC kN63 (uE kI0 kI5 (uE kI0 kI1 (uE kI1 kI6 (uE kJ9223372036854775808 kI9223372036854775807 uE0)))) (uA kN0 (rA kI90) (uA kN1 (uic kI0) (uA kN2 (uis kN0) (uA kN3 (uic kI1) (uA kN4 (uic kI0) uA0))))) (uS (uis kN1) uS0) (uO kN90 kN30 (uis kN2) (uO kN107 kN0 (uic kI1) (uO kN109 kN0 (uls kN3) uO0))) kI4468 (uL kJ688 kN0 uL0))
  (uK (uC kN70 (uE kI0 kI5 (uE kI0 kI1 (uE kI0 kI1 (uE kI1 kI6 uE0)))) (uA kN0 (rA kI90) (uA kN1 (uic kI0) (uA kN2 (uis kN0) (uA kN3 (uis kN1) (uA kN4 (uis kN2) uA0))))) uS0 (uO kN90 kN30 (uis kN3) (uO kN107 kN0 (uic kI1) uO0)) kI4226 (uL kJ688 kN0 uL0))
  uK0)))) = true := by decide +kernel
theorem r277 {l : Launch} {D : va_G} {tys : List (ClassId × FieldType)} {A : Nat → Prop} {ad : Nat → Nat} (hAD : ∀ i : Nat, ad (1000 + i) = D.2 1000 i) : CRok l D tys A ad GG 2 g277 := CR_of_vrf (dep := 1) hAD (fun c hc => by cases hc) T2OK_nil w277
noncomputable def g278 : CR := (307, [(2, 90, 90), (0, 0, 0)], [((107, 0), (0, 2, 2))], some (0, 0, 1), [], [])
theorem w278 : vrf GG [] [] 300 1 g278
  (uK (uC kN2 (uE kI0 kI5 uE0) (uA kN0 (rA kI90) (uA kN1 (uic kI0) (uA kN2 (uis kN0) uA0))) uS0 (uO kN107 kN0 (uic kI2) uO0) kI5154 (uL kJ860 kN0 uL0))
  (uK (uC kN22 (uE kI0 kI4 (uE kI0 kI1 (uE kI0 kI2 (uE kI2 kI6 uE0)))) (uA kN0 (rA kI90) (uA kN1 (uic kI0) (uA kN2 (uis kN0) (uA kN3 (uis kN1) (uA kN4 (uis kN2) uA0))))) uS0 (uO kN90 kN30 (uis kN3) (uO kN107 kN0 (uic kI2) uO0)) kI4853 (uL kJ172 kN2 (uL kJ860 kN0 uL0)))
  (uK (uC kN63 (uE kI0 kI4 (uE kI0 kI1 (uE kI0 kI1 (uE kI2 kI6 uE0)))) (uA kN0 (rA kI90) (uA kN1 (uic kI0) (uA kN2 (uis kN0) (uA kN3 (uic kI1) (uA kN4 (uis kN1) uA0))))) (uS (uis kN2) uS0) (uO kN90 kN30 (uis kN3) (uO kN107 kN0 (uic kI2) uO0)) kI4812 (uL kJ172 kN1 (uL kJ860 kN0 uL0)))
  (uK (uC kN70 (uE kI0 kI4 (uE kI0 kI1 (uE kI0 kI2 (uE kI2 kI6 uE0)))) (uA kN0 (rA kI90) (uA kN1 (uic kI0) (uA kN2 (uis kN0) (uA kN3 (uis kN1) (uA kN4 (uis kN2) uA0))))) uS0 (uO kN90 kN30 (uis kN3) (uO kN107 kN0 (uic kI2) uO0)) kI4398 (uL kJ860 kN0 uL0))
  uK0)))) = true := by decide +kernel
theorem r278 {l : Launch} {D : va_G} {tys : List (ClassId × FieldType)} {A : Nat → Prop} {ad : Nat → Nat} (hAD : ∀ i : Nat, ad (1000 + i) = D.2 1000 i) : CRok l D tys A ad GG 2 g278 := CR_of_vrf (dep := 1) hAD (fun c hc => by cases hc) T2OK_nil w278
noncomputable def g279 : CR := (307, [(2, 90, 90), (0, 0, 0)], [((107, 0), (0, 3, 3))], some (0, 0, 1), [], [])
theorem w279 : vrf GG [] [] 300 1 g279
  (uK (uC kN2 (uE kI0 kI4 uE0) (uA kN0 (rA kI90) (uA kN1 (uic kI0) (uA kN2 (uis kN0) uA0))) uS0 (uO kN107 kN0 (uic kI3) uO0) kI5154 (uL kJ1032 kN0 uL0))
  (uK (uC kN22 (uE kI0 kI3 (uE kI0 kI1 (uE kI0 kI3 (uE kI3 kI6 uE0)))) (uA kN0 (rA kI90) (uA kN1 (uic kI0) (uA kN2 (uis kN0) (uA kN3 (uis kN1) (uA kN4 (uis kN2) uA0))))) uS0 (uO kN90 kN30 (uis kN3) (uO kN107 kN0 (uic kI3) uO0)) kI4853 (uL kJ172 kN2 (uL kJ1032 kN0 uL0)))
  (uK (uC kN63 (uE kI0 kI3 (uE kI0 kI2 (uE kI0 kI1 (uE kI3 kI6 uE0)))) (uA kN0 (rA kI90) (uA kN1 (uic kI0) (uA kN2 (uis kN0) (uA kN3 (uic kI1) (uA kN4 (uis kN1) uA0))))) (uS (uis kN2) uS0) (uO kN90 kN30 (uis kN3) (uO kN107 kN0 (uic kI3) uO0)) kI4812 (uL kJ172 kN1 (uL kJ1032 kN0 uL0)))
  (uK (uC kN70 (uE kI0 kI3 (uE kI0 kI1 (uE kI0 kI3 (uE kI3 kI6 uE0)))) (uA kN0 (rA kI90) (uA kN1 (uic kI0) (uA kN2 (uis kN0) (uA kN3 (uis kN1) (uA kN4 (uis kN2) uA0))))) uS0 (uO kN90 kN30 (uis kN3) (uO kN107 kN0 (uic kI3) uO0)) kI4226 (uL kJ1032 kN0 uL0))
  uK0)))) = true := by decide +kernel
theorem r279 {l : Launch} {D : va_G} {tys : List (ClassId × FieldType)} {A : Nat → Prop} {ad : Nat → Nat} (hAD : ∀ i : Nat, ad (1000 + i) = D.2 1000 i) : CRok l D tys A ad GG 2 g279 := CR_of_vrf (dep := 1) hAD (fun c hc => by cases hc) T2OK_nil w279
noncomputable def g280 : CR := (307, [(2, 90, 90), (0, 0, 0)], [((107, 0), (0, 4, 4))], some (0, 0, 1), [], [])
theorem w280 : vrf GG [] [] 300 1 g280
  (uK (uC kN2 (uE kI0 kI3 uE0) (uA kN0 (rA kI90) (uA kN1 (uic kI0) (uA kN2 (uis kN0) uA0))) uS0 (uO kN107 kN0 (uic kI4) uO0) kI4810 (uL kJ1204 kN0 uL0))
  (uK (uC kN22 (uE kI0 kI2 (uE kI0 kI1 (uE kI0 kI4 (uE kI4 kI6 uE0)))) (uA kN0 (rA kI90) (uA kN1 (uic kI0) (uA kN2 (uis kN0) (uA kN3 (uis kN1) (uA kN4 (uis kN2) uA0))))) uS0 (uO kN90 kN30 (uis kN3) (uO kN107 kN0 (uic kI4) uO0)) kI4509 (uL kJ172 kN2 (uL kJ1204 kN0 uL0)))
  (uK (uC kN63 (uE kI0 kI2 (uE kI0 kI3 (uE kI0 kI1 (uE kI4 kI6 uE0)))) (uA kN0 (rA kI90) (uA kN1 (uic kI0) (uA kN2 (uis kN0) (uA kN3 (uic kI1) (uA kN4 (uis kN1) uA0))))) (uS (uis kN2) uS0) (uO kN90 kN30 (uis kN3) (uO kN107 kN0 (uic kI4) uO0)) kI4468 (uL kJ172 kN1 (uL kJ1204 kN0 uL0)))
  (uK (uC kN70 (uE kI0 kI2 (uE kI0 kI1 (uE kI0 kI4 (uE kI4 kI6 uE0)))) (uA kN0 (rA kI90) (uA kN1 (uic kI0) (uA kN2 (uis kN0) (uA kN3 (uis kN1) (uA kN4 (uis kN2) uA0))))) uS0 (uO kN90 kN30 (uis kN3) (uO kN107 kN0 (uic kI4) uO0)) kI3710 (uL kJ1204 kN0 uL0))
  uK0)))) = true := by decide +kernel
theorem r280 {l : Launch} {D : va_G} {tys : List (ClassId × FieldType)} {A : Nat → Prop} {ad : Nat → Nat} (hAD : ∀ i : Nat, ad (1000 + i) = D.2 1000 i) : CRok l D tys A ad GG 2 g280 := CR_of_vrf (dep := 1) hAD (fun c hc => by cases hc) T2OK_nil w280
noncomputable def g281 : CR := (307, [(2, 90, 90), (0, 0, 0)], [((107, 0), (0, 5, 5))], some (0, 0, 1), [], [])
theorem w281 : vrf GG [] [] 300 1 g281
  (uK (uC kN2 (uE kI0 kI2 uE0) (uA kN0 (rA kI90) (uA kN1 (uic kI0) (uA kN2 (uis kN0) uA0))) uS0 (uO kN107 kN0 (uic kI5) uO0) kI4122 (uL kJ1376 kN0 uL0))
  (uK (uC kN22 (uE kI0 kI1 (uE kI0 kI1 (uE kI0 kI5 (uE kI5 kI6 uE0)))) (uA kN0 (rA kI90) (uA kN1 (uic kI0) (uA kN2 (uis kN0) (uA kN3 (uis kN1) (uA kN4 (uis kN2) uA0))))) uS0 (uO kN90 kN30 (uis kN3) (uO kN107 kN0 (uic kI5) uO0)) kI3821 (uL kJ172 kN2 (uL kJ1376 kN0 uL0)))
  (uK (uC kN63 (uE kI0 kI1 (uE kI0 kI4 (uE kI0 kI1 (uE kI5 kI6 uE0)))) (uA kN0 (rA kI90) (uA kN1 (uic kI0) (uA kN2 (uis kN0) (uA kN3 (uic kI1) (uA kN4 (uis kN1) uA0))))) (uS (uis kN2) uS0) (uO kN90 kN30 (uis kN3) (uO kN107 kN0 (uic kI5) uO0)) kI3780 (uL kJ172 kN1 (uL kJ1376 kN0 uL0)))
  (uK (uC kN70 (uE kI0 kI1 (uE kI0 kI1 (uE kI0 kI5 (uE kI5 kI6 uE0)))) (uA kN0 (rA kI90) (uA kN1 (uic kI0) (uA kN2 (uis kN0) (uA kN3 (uis kN1) (uA kN4 (uis kN2) uA0))))) uS0 (uO kN90 kN30 (uis kN3) (uO kN107 kN0 (uic kI5) uO0)) kI2850 (uL kJ1376 kN0 uL0))
  uK0)))) = true := by decide +kernel
theorem r281 {l : Launch} {D : va_G} {tys : List (ClassId × FieldType)} {A : Nat → Prop} {ad : Nat → Nat} (hAD : ∀ i : Nat, ad (1000 + i) = D.2 1000 i) : CRok l D tys A ad GG 2 g281 := CR_of_vrf (dep := 1) hAD (fun c hc => by cases hc) T2OK_nil w281
noncomputable def g282 : CR := (307, [(2, 90, 90), (0, 0, 0)], [((107, 0), (0, 6, 6))], some (0, 0, 1), [], [])
theorem w282 : vrf GG [] [] 300 1 g282
  (uK (uC kN2 (uE kI0 kI1 uE0) (uA kN0 (rA kI90) (uA kN1 (uic kI0) (uA kN2 (uis kN0) uA0))) uS0 (uO kN107 kN0 (uic kI6) uO0) kI3090 (uL kJ1548 kN0 uL0))
  (uK (uC kN22 (uE kI0 kI1 (uE kI0 kI6 uE0)) (uA kN0 (rA kI90) (uA kN1 (uic kI0) (uA kN2 (uic kI0) (uA kN3 (uis kN0) (uA kN4 (uis kN1) uA0))))) uS0 (uO kN90 kN30 (uic kI6) (uO kN107 kN0 (uic kI6) uO0)) kI2789 (uL kJ172 kN1 uL0))
  (uK (uC kN63 (uE kI0 kI5 (uE kI0 kI1 uE0)) (uA kN0 (rA kI90) (uA kN1 (uic kI0) (uA kN2 (uic kI0) (uA kN3 (uic kI1) (uA kN4 (uis kN0) uA0))))) (uS (uis kN1) uS0) (uO kN90 kN30 (uic kI6) (uO kN107 kN0 (uic kI6) uO0)) kI2748 (uL kJ172 kN0 uL0))
  (uK (uC kN70 (uE kI0 kI1 (uE kI0 kI6 uE0)) (uA kN0 (rA kI90) (uA kN1 (uic kI0) (uA kN2 (uic kI0) (uA kN3 (uis kN0) (uA kN4 (uis kN1) uA0))))) uS0 (uO kN90 kN30 (uic kI6) (uO kN107 kN0 (uic kI6) uO0)) kI1646 uL0)
  uK0)))) = true := by decide +kernel
theorem r282 {l : Launch} {D : va_G} {tys : List (ClassId × FieldType)} {A : Nat → Prop} {ad : Nat → Nat} (hAD : ∀ i : Nat, ad (1000 + i) = D.2 1000 i) : CRok l D tys A ad GG 2 g282 := CR_of_vrf (dep := 1) hAD (fun c hc => by cases hc) T2OK_nil w282
noncomputable def g283 : CR := (307, [(2, 90, 90), (0, 0, 0)], [((107, 0), (0, 7, 60))], some (0, 0, 0), [], [])
theorem w283 : vrf GG [] [] 300 0 g283
  (uK (uC kN2 (uE kI7 kI60 uE0) (uA kN0 (rA kI90) (uA kN1 (uic kI0) (uA kN2 (uic kI0) uA0))) uS0 (uO kN107 kN0 (uis kN0) uO0) kI510 uL0)
  uK0) = true := by decide +kernel
theorem r283 {l : Launch} {D : va_G} {tys : List (ClassId × FieldType)} {A : Nat → Prop} {ad : Nat → Nat} (hAD : ∀ i : Nat, ad (1000 + i) = D.2 1000 i) : CRok l D tys A ad GG 1 g283 := CR_of_vrf (dep := 0) hAD (fun c hc => by cases hc) T2OK_nil w283
noncomputable def g284 : CR := (307, [(2, 90, 90), (0, 1, 1)], [((107, 1), (0, (-1), (-1)))], some (0, 1, 1), [], [])
theorem w284 : vrf GG [] [] 300 0 g284
  (uK (uC kN2 uE0 (uA kN0 (rA kI90) (uA kN1 (uic kI1) (uA kN2 (uic kI0) uA0))) uS0 (uO kN107 kN1 (uic kJ1) uO0) kI510 uL0)
  (uK (uC kN22 (uE kI0 kI6 uE0) (uA kN0 (rA kI90) (uA kN1 (uic kI1) (uA kN2 (uic kI0) (uA kN3 (uic kI1) (uA kN4 (uic kI0) uA0))))) uS0 (uO kN90 kN30 (uis kN0) (uO kN107 kN1 (uic kJ1) uO0)) kI209 uL0)
  (uK (uC kN70 (uE kI0 kI6 uE0) (uA kN0 (rA kI90) (uA kN1 (uic kI1) (uA kN2 (uic kI0) (uA kN3 (uic kI1) (uA kN4 (uic kI0) uA0))))) uS0 (uO kN90 kN30 (uis kN0) (uO kN107 kN1 (uic kJ1) uO0)) kI98 uL0)
  uK0))) = true := by decide +kernel
theorem r284 {l : Launch} {D : va_G} {tys : List (ClassId × FieldType)} {A : Nat → Prop} {ad : Nat → Nat} (hAD : ∀ i : Nat, ad (1000 + i) = D.2 1000 i) : CRok l D tys A ad GG 1 g284 := CR_of_vrf (dep := 0) hAD (fun c hc => by cases hc) T2OK_nil w284
noncomputable def g285 : CR := (307, [(2, 90, 90), (0, 1, 1)], [((107, 1), (0, 0, 0))], some (0, 1, 1), [], [])
theorem w285 : vrf GG [] [] 300 0 g285
  (uK (uC kN2 uE0 (uA kN0 (rA kI90) (uA kN1 (uic kI1) (uA kN2 (uic kI0) uA0))) uS0 (uO kN107 kN1 (uic kI0) uO0) kI510 uL0)
  (uK (uC kN22 (uE kI0 kI6 uE0) (uA kN0 (rA kI90) (uA kN1 (uic kI1) (uA kN2 (uic kI0) (uA kN3 (uic kI1) (uA kN4 (uic kI0) uA0))))) uS0 (uO kN90 kN30 (uis kN0) (uO kN107 kN1 (uic kI0) uO0)) kI209 uL0)
  (uK (uC kN70 (uE kI0 kI6 uE0) (uA kN0 (rA kI90) (uA kN1 (uic kI1) (uA kN2 (uic kI0) (uA kN3 (uic kI1) (uA kN4 (uic kI0) uA0))))) uS0 (uO kN90 kN30 (uis kN0) (uO kN107 kN1 (uic kI0) uO0)) kI98 uL0)
  uK0))) = true := by decide +kernel
theorem r285 {l : Launch} {D : va_G} {tys : List (ClassId × FieldType)} {A : Nat → Prop} {ad : Nat → Nat} (hAD : ∀ i : Nat, ad (1000 + i) = D.2 1000 i) : CRok l D tys A ad GG 1 g285 := CR_of_vrf (dep := 0) hAD (fun c hc => by cases hc) T2OK_nil w285
noncomputable def g286 : CR := (307, [(2, 90, 90), (0, 1, 1)], [((107, 1), (0, 1, 1))], some (0, 0, 1), [], [])
theorem w286 : vrf GG [] [] 300 1 g286
  (uK (uC kN2 (uE kI0 kI6 uE0) (uA kN0 (rA kI90) (uA kN1 (uic kI1) (uA kN2 (uis kN0) uA0))) uS0 (uO kN107 kN1 (uic kI1) uO0) kI4810 (uL kJ688 kN0 uL0))
  (uK (uC kN22 (uE kI0 kI5 (uE kI0 kI1 (uE kI0 kI1 (uE kI1 kI6 uE0)))) (uA kN0 (rA kI90) (uA kN1 (uic kI1) (uA kN2 (uis kN0) (uA kN3 (uis kN1) (uA kN4 (uis kN2) uA0))))) uS0 (uO kN90 kN30 (uis kN3) (uO kN107 kN1 (uic kI1) uO0)) kI4509 (uL kJ172 kN2 (uL kJ688 kN0 uL0)))
  (uK (uC kN63 (uE kI0 kI5 (uE kI0 kI1 (uE kI1 kI6 (uE kJ9223372036854775808 kI9223372036854775807 uE0)))) (uA kN0 (rA kI90) (uA kN1 (uic kI1) (uA kN2 (uis kN0) (uA kN3 (uic kI1) (uA kN4 (uic kI0) uA0))))) (uS (uis kN1) uS0) (uO kN90 kN30 (uis kN2) (uO kN107 kN1 (uic kI1) (uO kN109 kN60 (uls kN3) uO0))) kI4468 (uL kJ688 kN0 uL0))
  (uK (uC kN70 (uE kI0 kI5 (uE kI0 kI1 (uE kI0 kI1 (uE kI1 kI6 uE0)))) (uA kN0 (rA kI90) (uA kN1 (uic kI1) (uA kN2 (uis kN0) (uA kN3 (uis kN1) (uA kN4 (uis kN2) uA0))))) uS0 (uO kN90 kN30 (uis kN3) (uO kN107 kN1 (uic kI1) uO0)) kI4226 (uL kJ688 kN0 uL0))
  uK0)))) = true := by decide +kernel
theorem r286 {l : Launch} {D : va_G} {tys : List (ClassId × FieldType)} {A : Nat → Prop} {ad : Nat → Nat} (hAD : ∀ i : Nat, ad (1000 + i) = D.2 1000 i) : CRok l D tys A ad GG 2 g286 := CR_of_vrf (dep := 1) hAD (fun c hc => by cases hc) T2OK_nil w286
noncomputable def g287 : CR := (307, [(2, 90, 90), (0, 1, 1)], [((107, 1), (0, 2, 2))], some (0, 0, 1), [], [])
theorem w287 : vrf GG [] [] 300 1 g287
  (uK (uC kN2 (uE kI0 kI5 uE0) (uA kN0 (rA kI90) (uA kN1 (uic kI1) (uA kN2 (uis kN0) uA0))) uS0 (uO kN107 kN1 (uic kI2) uO0) kI5154 (uL kJ860 kN0 uL0))
  (uK (uC kN22 (uE kI0 kI4 (uE kI0 kI1 (uE kI0 kI2 (uE kI2 kI6 uE0)))) (uA kN0 (rA kI90) (uA kN1 (uic kI1) (uA kN2 (uis kN0) (uA kN3 (uis kN1) (uA kN4 (uis kN2) uA0))))) uS0 (uO kN90 kN30 (uis kN3) (uO kN107 kN1 (uic kI2) uO0)) kI4853 (uL kJ172 kN2 (uL kJ860 kN0 uL0)))
  (uK (uC kN63 (uE kI0 kI4 (uE kI0 kI1 (uE kI0 kI1 (uE kI2 kI6 uE0)))) (uA kN0 (rA kI90) (uA kN1 (uic kI1) (uA kN2 (uis kN0) (uA kN3 (uic kI1) (uA kN4 (uis kN1) uA0))))) (uS (uis kN2) uS0) (uO kN90 kN30 (uis kN3) (uO kN107 kN1 (uic kI2) uO0)) kI4812 (uL kJ172 kN1 (uL kJ860 kN0 uL0)))
  (uK (uC kN70 (uE kI0 kI4 (uE kI0 kI1 (uE kI0 kI2 (uE kI2 kI6 uE0)))) (uA kN0 (rA kI90) (uA kN1 (uic kI1) (uA kN2 (uis kN0) (uA kN3 (uis kN1) (uA kN4 (uis kN2) uA0))))) uS0 (uO kN90 kN30 (uis kN3) (uO kN107 kN1 (uic kI2) uO0)) kI4398 (uL kJ860 kN0 uL0))
  uK0)))) = true := by decide +kernel
theorem r287 {l : Launch} {D : va_G} {tys : List (ClassId × FieldType)} {A : Nat → Prop} {ad : Nat → Nat} (hAD : ∀ i : Nat, ad (1000 + i) = D.2 1000 i) : CRok l D tys A ad GG 2 g287 := CR_of_vrf (dep := 1) hAD (fun c hc => by cases hc) T2OK_nil w287
noncomputable def g288 : CR := (307, [(2, 90, 90), (0, 1, 1)], [((107, 1), (0, 3, 3))], some (0, 0, 1), [], [])
theorem w288 : vrf GG [] [] 300 1 g288
  (uK (uC kN2 (uE kI0 kI4 uE0) (uA kN0 (rA kI90) (uA kN1 (uic kI1) (uA kN2 (uis kN0) uA0))) uS0 (uO kN107 kN1 (uic kI3) uO0) kI5154 (uL kJ1032 kN0 uL0))
  (uK (uC kN22 (uE kI0 kI3 (uE kI0 kI1 (uE kI0 kI3 (uE kI3 kI6 uE0)))) (uA kN0 (rA kI90) (uA kN1 (uic kI1) (uA kN2 (uis kN0) (uA kN3 (uis kN1) (uA kN4 (uis kN2) uA0))))) uS0 (uO kN90 kN30 (uis kN3) (uO kN107 kN1 (uic kI3) uO0)) kI4853 (uL kJ172 kN2 (uL kJ1032 kN0 uL0)))
  (uK (uC kN63 (uE kI0 kI3 (uE kI0 kI2 (uE kI0 kI1 (uE kI3 kI6 uE0)))) (uA kN0 (rA kI90) (uA kN1 (uic kI1) (uA kN2 (uis kN0) (uA kN3 (uic kI1) (uA kN4 (uis kN1) uA0))))) (uS (uis kN2) uS0) (uO kN90 kN30 (uis kN3) (uO kN107 kN1 (uic kI3) uO0)) kI4812 (uL kJ172 kN1 (uL kJ1032 kN0 uL0)))
  (uK (uC kN70 (uE kI0 kI3 (uE kI0 kI1 (uE kI0 kI3 (uE kI3 kI6 uE0)))) (uA kN0 (rA kI90) (uA kN1 (uic kI1) (uA kN2 (uis kN0) (uA kN3 (uis kN1) (uA kN4 (uis kN2) uA0))))) uS0 (uO kN90 kN30 (uis kN3) (uO kN107 kN1 (uic kI3) uO0)) kI4226 (uL kJ1032 kN0 uL0))
  uK0)))) = true := by decide +kernel
theorem r288 {l : Launch} {D : va_G} {tys : List (ClassId × FieldType)} {A : Nat → Prop} {ad : Nat → Nat} (hAD : ∀ i : Nat, ad (1000 + i) = D.2 1000 i) : CRok l D tys A ad GG 2 g288 := CR_of_vrf (dep := 1) hAD (fun c hc => by cases hc) T2OK_nil w288
noncomputable def g289 : CR := (307, [(2, 90, 90), (0, 1, 1)], [((107, 1), (0, 4, 4))], some (0, 0, 1), [], [])
theorem w289 : vrf GG [] [] 300 1 g289
  (uK (uC kN2 (uE kI0 kI3 uE0) (uA kN0 (rA kI90) (uA kN1 (uic kI1) (uA kN2 (uis kN0) uA0))) uS0 (uO kN107 kN1 (uic kI4) uO0) kI4810 (uL kJ1204 kN0 uL0))
  (uK (uC kN22 (uE kI0 kI2 (uE kI0 kI1 (uE kI0 kI4 (uE kI4 kI6 uE0)))) (uA kN0 (rA kI90) (uA kN1 (uic kI1) (uA kN2 (uis kN0) (uA kN3 (uis kN1) (uA kN4 (uis kN2) uA0))))) uS0 (uO kN90 kN30 (uis kN3) (uO kN107 kN1 (uic kI4) uO0)) kI4509 (uL kJ172 kN2 (uL kJ1204 kN0 uL0)))
  (uK (uC kN63 (uE kI0 kI2 (uE kI0 kI3 (uE kI0 kI1 (uE kI4 kI6 uE0)))) (uA kN0 (rA kI90) (uA kN1 (uic kI1) (uA kN2 (uis kN0) (uA kN3 (uic kI1) (uA kN4 (uis kN1) uA0))))) (uS (uis kN2) uS0) (uO kN90 kN30 (uis kN3) (uO kN107 kN1 (uic kI4) uO0)) kI4468 (uL kJ172 kN1 (uL kJ1204 kN0 uL0)))
  (uK (uC kN70 (uE kI0 kI2 (uE kI0 kI1 (uE kI0 kI4 (uE kI4 kI6 uE0)))) (uA kN0 (rA kI90) (uA kN1 (uic kI1) (uA kN2 (uis kN0) (uA kN3 (uis kN1) (uA kN4 (uis kN2) uA0))))) uS0 (uO kN90 kN30 (uis kN3) (uO kN107 kN1 (uic kI4) uO0)) kI3710 (uL kJ1204 kN0 uL0))
  uK0)))) = true := by decide +kernel
theorem r289 {l : Launch} {D : va_G} {tys : List (ClassId × FieldType)} {A : Nat → Prop} {ad : Nat → Nat} (hAD : ∀ i : Nat, ad (1000 + i) = D.2 1000 i) : CRok l D tys A ad GG 2 g289 := CR_of_vrf (dep := 1) hAD (fun c hc => by cases hc) T2OK_nil w289
noncomputable def g290 : CR := (307, [(2, 90, 90), (0, 1, 1)], [((107, 1), (0, 5, 5))], some (0, 0, 1), [], [])
theorem w290 : vrf GG [] [] 300 1 g290
  (uK (uC kN2 (uE kI0 kI2 uE0) (uA kN0 (rA kI90) (uA kN1 (uic kI1) (uA kN2 (uis kN0) uA0))) uS0 (uO kN107 kN1 (uic kI5) uO0) kI4122 (uL kJ1376 kN0 uL0))
  (uK (uC kN22 (uE kI0 kI1 (uE kI0 kI1 (uE kI0 kI5 (uE kI5 kI6 uE0)))) (uA kN0 (rA kI90) (uA kN1 (uic kI1) (uA kN2 (uis kN0) (uA kN3 (uis kN1) (uA kN4 (uis kN2) uA0))))) uS0 (uO kN90 kN30 (uis kN3) (uO kN107 kN1 (uic kI5) uO0)) kI3821 (uL kJ172 kN2 (uL kJ1376 kN0 uL0)))
  (uK (uC kN63 (uE kI0 kI1 (uE kI0 kI4 (uE kI0 kI1 (uE kI5 kI6 uE0)))) (uA kN0 (rA kI90) (uA kN1 (uic kI1) (uA kN2 (uis kN0) (uA kN3 (uic kI1) (uA kN4 (uis kN1) uA0))))) (uS (uis kN2) uS0) (uO kN90 kN30 (uis kN3) (uO kN107 kN1 (uic kI5) uO0)) kI3780 (uL kJ172 kN1 (uL kJ1376 kN0 uL0)))
  (uK (uC kN70 (uE kI0 kI1 (uE kI0 kI1 (uE kI0 kI5 (uE kI5 kI6 uE0)))) (uA kN0 (rA kI90) (uA kN1 (uic kI1) (uA kN2 (uis kN0) (uA kN3 (uis kN1) (uA kN4 (uis kN2) uA0))))) uS0 (uO kN90 kN30 (uis kN3) (uO kN107 kN1 (uic kI5) uO0)) kI2850 (uL kJ1376 kN0 uL0))
  uK0)))) = true := by decide +kernel
theorem r290 {l : Launch} {D : va_G} {tys : List (ClassId × FieldType)} {A : Nat → Prop} {ad : Nat → Nat} (hAD : ∀ i : Nat, ad (1000 + i) = D.2 1000 i) : CRok l D tys A ad GG 2 g290 := CR_of_vrf (dep := 1) hAD (fun c hc => by cases hc) T2OK_nil w290
noncomputable def g291 : CR := (307, [(2, 90, 90), (0, 1, 1)], [((107, 1), (0, 6, 6))], some (0, 0, 1), [], [])
theorem w291 : vrf GG [] [] 300 1 g291
  (uK (uC kN2 (uE kI0 kI1 uE0) (uA kN0 (rA kI90) (uA kN1 (uic kI1) (uA kN2 (uis kN0) uA0))) uS0 (uO kN107 kN1 (uic kI6) uO0) kI3090 (uL kJ1548 kN0 uL0))
  (uK (uC kN22 (uE kI0 kI1 (uE kI0 kI6 uE0)) (uA kN0 (rA kI90) (uA kN1 (uic kI1) (uA kN2 (uic kI0) (uA kN3 (uis kN0) (uA kN4 (uis kN1) uA0))))) uS0 (uO kN90 kN30 (uic kI6) (uO kN107 kN1 (uic kI6) uO0)) kI2789 (uL kJ172 kN1 uL0))
  (uK (uC kN63 (uE kI0 kI5 (uE kI0 kI1 uE0)) (uA kN0 (rA kI90) (uA kN1 (uic kI1) (uA kN2 (uic kI0) (uA kN3 (uic kI1) (uA kN4 (uis kN0) uA0))))) (uS (uis kN1) uS0) (uO kN90 kN30 (uic kI6) (uO kN107 kN1 (uic kI6) uO0)) kI2748 (uL kJ172 kN0 uL0))
  (uK (uC kN70 (uE kI0 kI1 (uE kI0 kI6 uE0)) (uA kN0 (rA kI90) (uA kN1 (uic kI1) (uA kN2 (uic kI0) (uA kN3 (uis kN0) (uA kN4 (uis kN1) uA0))))) uS0 (uO kN90 kN30 (uic kI6) (uO kN107 kN1 (uic kI6) uO0)) kI1646 uL0)
  uK0)))) = true := by decide +kernel
theorem r291 {l : Launch} {D : va_G} {tys : List (ClassId × FieldType)} {A : Nat → Prop} {ad : Nat → Nat} (hAD : ∀ i : Nat, ad (1000 + i) = D.2 1000 i) : CRok l D tys A ad GG 2 g291 := CR_of_vrf (dep := 1) hAD (fun c hc => by cases hc) T2OK_nil w291
noncomputable def g292 : CR := (307, [(2, 90, 90), (0, 1, 1)], [((107, 1), (0, 7, 60))], some (0, 0, 0), [], [])
theorem w292 : vrf GG [] [] 300 0 g292
  (uK (uC kN2 (uE kI7 kI60 uE0) (uA kN0 (rA kI90) (uA kN1 (uic kI1) (uA kN2 (uic kI0) uA0))) uS0 (uO kN107 kN1 (uis kN0) uO0) kI510 uL0)
  uK0) = true := by decide +kernel
theorem r292 {l : Launch} {D : va_G} {tys : List (ClassId × FieldType)} {A : Nat → Prop} {ad : Nat → Nat} (hAD : ∀ i : Nat, ad (1000 + i) = D.2 1000 i) : CRok l D tys A ad GG 1 g292 := CR_of_vrf (dep := 0) hAD (fun c hc => by cases hc) T2OK_nil w292
noncomputable def g293 : CR := (307, [(2, 90, 90), (0, 2, 2)], [((107, 2), (0, (-1), (-1)))], some (0, 1, 1), [], [])
theorem w293 : vrf GG [] [] 300 0 g293
  (uK (uC kN2 uE0 (uA kN0 (rA kI90) (uA kN1 (uic kI2) (uA kN2 (uic kI0) uA0))) uS0 (uO kN107 kN2 (uic kJ1) uO0) kI510 uL0)
  (uK (uC kN22 (uE kI0 kI6 uE0) (uA kN0 (rA kI90) (uA kN1 (uic kI2) (uA kN2 (uic kI0) (uA kN3 (uic kI1) (uA kN4 (uic kI0) uA0))))) uS0 (uO kN90 kN30 (uis kN0) (uO kN107 kN2 (uic kJ1) uO0)) kI209 uL0)
  (uK (uC kN70 (uE kI0 kI6 uE0) (uA kN0 (rA kI90) (uA kN1 (uic kI2) (uA kN2 (uic kI0) (uA kN3 (uic kI1) (uA kN4 (uic kI0) uA0))))) uS0 (uO kN90 kN30 (uis kN0) (uO kN107 kN2 (uic kJ1) uO0)) kI98 uL0)
  uK0))) = true := by decide +kernel
theorem r293 {l : Launch} {D : va_G} {tys : List (ClassId × FieldType)} {A : Nat → Prop} {ad : Nat → Nat} (hAD : ∀ i : Nat, ad (1000 + i) = D.2 1000 i) : CRok l D tys A ad GG 1 g293 := CR_of_vrf (dep := 0) hAD (fun c hc => by cases hc) T2OK_nil w293
noncomputable def g294 : CR := (307, [(2, 90, 90), (0, 2, 2)], [((107, 2), (0, 0, 0))], some (0, 1, 1), [], [])
theorem w294 : vrf GG [] [] 300 0 g294
  (uK (uC kN2 uE0 (uA kN0 (rA kI90) (uA kN1 (uic kI2) (uA kN2 (uic kI0) uA0))) uS0 (uO kN107 kN2 (uic kI0) uO0) kI510 uL0)
  (uK (uC kN22 (uE kI0 kI6 uE0) (uA kN0 (rA kI90) (uA kN1 (uic kI2) (uA kN2 (uic kI0) (uA kN3 (uic kI1) (uA kN4 (uic kI0) uA0))))) uS0 (uO kN90 kN30 (uis kN0) (uO kN107 kN2 (uic kI0) uO0)) kI209 uL0)
  (uK (uC kN70 (uE kI0 kI6 uE0) (uA kN0 (rA kI90) (uA kN1 (uic kI2) (uA kN2 (uic kI0) (uA kN3 (uic kI1) (uA kN4 (uic kI0) uA0))))) uS0 (uO kN90 kN30 (uis kN0) (uO kN107 kN2 (uic kI0) uO0)) kI98 uL0)
  uK0))) = true := by decide +kernel
theorem r294 {l : Launch} {D : va_G} {tys : List (ClassId × FieldType)} {A : Nat → Prop} {ad : Nat → Nat} (hAD : ∀ i : Nat, ad (1000 + i) = D.2 1000 i) : CRok l D tys A ad GG 1 g294 := CR_of_vrf (dep := 0) hAD (fun c hc => by cases hc) T2OK_nil w294
noncomputable def g295 : CR := (307, [(2, 90, 90), (0, 2, 2)], [((107, 2), (0, 1, 1))], some (0, 0, 1), [], [])
theorem w295 : vrf GG [] [] 300 1 g295
  (uK (uC kN2 (uE kI0 kI6 uE0) (uA kN0 (rA kI90) (uA kN1 (uic kI2) (uA kN2 (uis kN0) uA0))) uS0 (uO kN107 kN2 (uic kI1) uO0) kI4810 (uL kJ688 kN0 uL0))
  (uK (uC kN22 (uE kI0 kI5 (uE kI0 kI1 (uE kI0 kI1 (uE kI1 kI6 uE0)))) (uA kN0 (rA kI90) (uA kN1 (uic kI2) (uA kN2 (uis kN0) (uA kN3 (uis kN1) (uA kN4 (uis kN2) uA0))))) uS0 (uO kN90 kN30 (uis kN3) (uO kN107 kN2 (uic kI1) uO0)) kI4509 (uL kJ172 kN2 (uL kJ688 kN0 uL0)))
  (uK (uC kN63 (uE kI0 kI5 (uE kI0 kI1 (uE kI1 kI6 (uE kJ9223372036854775808 kI9223372036854775807 uE0)))) (uA kN0 (rA kI90) (uA kN1 (uic kI2) (uA kN2 (uis kN0) (uA kN3 (uic kI1) (uA kN4 (uic kI0) uA0))))) (uS (uis kN1) uS0) (uO kN90 kN30 (uis kN2) (uO kN107 kN2 (uic kI1) (uO kN109 kN120 (uls kN3) uO0))) kI4468 (uL kJ688 kN0 uL0))
  (uK (uC kN70 (uE kI0 kI5 (uE kI0 kI1 (uE kI0 kI1 (uE kI1 kI6 uE0)))) (uA kN0 (rA kI90) (uA kN1 (uic kI2) (uA kN2 (uis kN0) (uA kN3 (uis kN1) (uA kN4 (uis kN2) uA0))))) uS0 (uO kN90 kN30 (uis kN3) (uO kN107 kN2 (uic kI1) uO0)) kI4226 (uL kJ688 kN0 uL0))
  uK0)))) = true := by decide +kernel
theorem r295 {l : Launch} {D : va_G} {tys : List (ClassId × FieldType)} {A : Nat → Prop} {ad : Nat → Nat} (hAD : ∀ i : Nat, ad (1000 + i) = D.2 1000 i) : CRok l D tys A ad GG 2 g295 := CR_of_vrf (dep := 1) hAD (fun c hc => by cases hc) T2OK_nil w295
noncomputable def g296 : CR := (307, [(2, 90, 90), (0, 2, 2)], [((107, 2), (0, 2, 2))], some (0, 0, 1), [], [])
theorem w296 : vrf GG [] [] 300 1 g296
  (uK (uC kN2 (uE kI0 kI5 uE0) (uA kN0 (rA kI90) (uA kN1 (uic kI2) (uA kN2 (uis kN0) uA0))) uS0 (uO kN107 kN2 (uic kI2) uO0) kI5154 (uL kJ860 kN0 uL0))
  (uK (uC kN22 (uE kI0 kI4 (uE kI0 kI1 (uE kI0 kI2 (uE kI2 kI6 uE0)))) (uA kN0 (rA kI90) (uA kN1 (uic kI2) (uA kN2 (uis kN0) (uA kN3 (uis kN1) (uA kN4 (uis kN2) uA0))))) uS0 (uO kN90 kN30 (uis kN3) (uO kN107 kN2 (uic kI2) uO0)) kI4853 (uL kJ172 kN2 (uL kJ860 kN0 uL0)))
  (uK (uC kN63 (uE kI0 kI4 (uE kI0 kI1 (uE kI0 kI1 (uE kI2 kI6 uE0)))) (uA kN0 (rA kI90) (uA kN1 (uic kI2) (uA kN2 (uis kN0) (uA kN3 (uic kI1) (uA kN4 (uis kN1) uA0))))) (uS (uis kN2) uS0) (uO kN90 kN30 (uis kN3) (uO kN107 kN2 (uic kI2) uO0)) kI4812 (uL kJ172 kN1 (uL kJ860 kN0 uL0)))
  (uK (uC kN70 (uE kI0 kI4 (uE kI0 kI1 (uE kI0 kI2 (uE kI2 kI6 uE0)))) (uA kN0 (rA kI90) (uA kN1 (uic kI2) (uA kN2 (uis kN0) (uA kN3 (uis kN1) (uA kN4 (uis kN2) uA0))))) uS0 (uO kN90 kN30 (uis kN3) (uO kN107 kN2 (uic kI2) uO0)) kI4398 (uL kJ860 kN0 uL0))
  uK0)))) = true := by decide +kernel
theorem r296 {l : Launch} {D : va_G} {tys : List (ClassId × FieldType)} {A : Nat → Prop} {ad : Nat → Nat} (hAD : ∀ i : Nat, ad (1000 + i) = D.2 1000 i) : CRok l D tys A ad GG 2 g296 := CR_of_vrf (dep := 1) hAD (fun c hc => by cases hc) T2OK_nil w296
noncomputable def g297 : CR := (307, [(2, 90, 90), (0, 2, 2)], [((107, 2), (0, 3, 3))], some (0, 0, 1), [], [])
theorem w297 : vrf GG [] [] 300 1 g297
  (uK (uC kN2 (uE kI0 kI4 uE0) (uA kN0 (rA kI90) (uA kN1 (uic kI2) (uA kN2 (uis kN0) uA0))) uS0 (uO kN107 kN2 (uic kI3) uO0) kI5154 (uL kJ1032 kN0 uL0))
  (uK (uC kN22 (uE kI0 kI3 (uE kI0 kI1 (uE kI0 kI3 (uE kI3 kI6 uE0)))) (uA kN0 (rA kI90) (uA kN1 (uic kI2) (uA kN2 (uis kN0) (uA kN3 (uis kN1) (uA kN4 (uis kN2) uA0))))) uS0 (uO kN90 kN30 (uis kN3) (uO kN107 kN2 (uic kI3) uO0)) kI4853 (uL kJ172 kN2 (uL kJ1032 kN0 uL0)))
  (uK (uC kN63 (uE kI0 kI3 (uE kI0 kI2 (uE kI0 kI1 (uE kI3 kI6 uE0)))) (uA kN0 (rA kI90) (uA kN1 (uic kI2) (uA kN2 (uis kN0) (uA kN3 (uic kI1) (uA kN4 (uis kN1) uA0))))) (uS (uis kN2) uS0) (uO kN90 kN30 (uis kN3) (uO kN107 kN2 (uic kI3) uO0)) kI4812 (uL kJ172 kN1 (uL kJ1032 kN0 uL0)))
  (uK (uC kN70 (uE kI0 kI3 (uE kI0 kI1 (uE kI0 kI3 (uE kI3 kI6 uE0)))) (uA kN0 (rA kI90) (uA kN1 (uic kI2) (uA kN2 (uis kN0) (uA kN3 (uis kN1) (uA kN4 (uis kN2) uA0))))) uS0 (uO kN90 kN30 (uis kN3) (uO kN107 kN2 (uic kI3) uO0)) kI4226 (uL kJ1032 kN0 uL0))
  uK0)))) = true := by decide +kernel
theorem r297 {l : Launch} {D : va_G} {tys : List (ClassId × FieldType)} {A : Nat → Prop} {ad : Nat → Nat} (hAD : ∀ i : Nat, ad (1000 + i) = D.2 1000 i) : CRok l D tys A ad GG 2 g297 := CR_of_vrf (dep := 1) hAD (fun c hc => by cases hc) T2OK_nil w297
noncomputable def g298 : CR := (307, [(2, 90, 90), (0, 2, 2)], [((107, 2), (0, 4, 4))], some (0, 0, 1), [], [])
theorem w298 : vrf GG [] [] 300 1 g298
  (uK (uC kN2 (uE kI0 kI3 uE0) (uA kN0 (rA kI90) (uA kN1 (uic kI2) (uA kN2 (uis kN0) uA0))) uS0 (uO kN107 kN2 (uic kI4) uO0) kI4810 (uL kJ1204 kN0 uL0))
  (uK (uC kN22 (uE kI0 kI2 (uE kI0 kI1 (uE kI0 kI4 (uE kI4 kI6 uE0)))) (uA kN0 (rA kI90) (uA kN1 (uic kI2) (uA kN2 (uis kN0) (uA kN3 (uis kN1) (uA kN4 (uis kN2) uA0))))) uS0 (uO kN90 kN30 (uis kN3) (uO kN107 kN2 (uic kI4) uO0)) kI4509 (uL kJ172 kN2 (uL kJ1204 kN0 uL0)))
  (uK (uC kN63 (uE kI0 kI2 (uE kI0 kI3 (uE kI0 kI1 (uE kI4 kI6 uE0)))) (uA kN0 (rA kI90) (uA kN1 (uic kI2) (uA kN2 (uis kN0) (uA kN3 (uic kI1) (uA kN4 (uis kN1) uA0))))) (uS (uis kN2) uS0) (uO kN90 kN30 (uis kN3) (uO kN107 kN2 (uic kI4) uO0)) kI4468 (uL kJ172 kN1 (uL kJ1204 kN0 uL0)))
  (uK (uC kN70 (uE kI0 kI2 (uE kI0 kI1 (uE kI0 kI4 (uE kI4 kI6 uE0)))) (uA kN0 (rA kI90) (uA kN1 (uic kI2) (uA kN2 (uis kN0) (uA kN3 (uis kN1) (uA kN4 (uis kN2) uA0))))) uS0 (uO kN90 kN30 (uis kN3) (uO kN107 kN2 (uic kI4) uO0)) kI3710 (uL kJ1204 kN0 uL0))
  uK0)))) = true := by decide +kernel
theorem r298 {l : Launch} {D : va_G} {tys : List (ClassId × FieldType)} {A : Nat → Prop} {ad : Nat → Nat} (hAD : ∀ i : Nat, ad (1000 + i) = D.2 1000 i) : CRok l D tys A ad GG 2 g298 := CR_of_vrf (dep := 1) hAD (fun c hc => by cases hc) T2OK_nil w298
noncomputable def g299 : CR := (307, [(2, 90, 90), (0, 2, 2)], [((107, 2), (0, 5, 5))], some (0, 0, 1), [], [])
theorem w299 : vrf GG [] [] 300 1 g299
  (uK (uC kN2 (uE kI0 kI2 uE0) (uA kN0 (rA kI90) (uA kN1 (uic kI2) (uA kN2 (uis kN0) uA0))) uS0 (uO kN107 kN2 (uic kI5) uO0) kI4122 (uL kJ1376 kN0 uL0))
  (uK (uC kN22 (uE kI0 kI1 (uE kI0 kI1 (uE kI0 kI5 (uE kI5 kI6 uE0)))) (uA kN0 (rA kI90) (uA kN1 (uic kI2) (uA kN2 (uis kN0) (uA kN3 (uis kN1) (uA kN4 (uis kN2) uA0))))) uS0 (uO kN90 kN30 (uis kN3) (uO kN107 kN2 (uic kI5) uO0)) kI3821 (uL kJ172 kN2 (uL kJ1376 kN0 uL0)))
  (uK (uC kN63 (uE kI0 kI1 (uE kI0 kI4 (uE kI0 kI1 (uE kI5 kI6 uE0)))) (uA kN0 (rA kI90) (uA kN1 (uic kI2) (uA kN2 (uis kN0) (uA kN3 (uic kI1) (uA kN4 (uis kN1) uA0))))) (uS (uis kN2) uS0) (uO kN90 kN30 (uis kN3) (uO kN107 kN2 (uic kI5) uO0)) kI3780 (uL kJ172 kN1 (uL kJ1376 kN0 uL0)))
  (uK (uC kN70 (uE kI0 kI1 (uE kI0 kI1 (uE kI0 kI5 (uE kI5 kI6 uE0)))) (uA kN0 (rA kI90) (uA kN1 (uic kI2) (uA kN2 (uis kN0) (uA kN3 (uis kN1) (uA kN4 (uis kN2) uA0))))) uS0 (uO kN90 kN30 (uis kN3) (uO kN107 kN2 (uic kI5) uO0)) kI2850 (uL kJ1376 kN0 uL0))
  uK0)))) = true := by decide +kernel
theorem r299 {l : Launch} {D : va_G} {tys : List (ClassId × FieldType)} {A : Nat → Prop} {ad : Nat → Nat} (hAD : ∀ i : Nat, ad (1000 + i) = D.2 1000 i) : CRok l D tys A ad GG 2 g299 := CR_of_vrf (dep := 1) hAD (fun c hc => by cases hc) T2OK_nil w299
noncomputable def g300 : CR := (307, [(2, 90, 90), (0, 2, 2)], [((107, 2), (0, 6, 6))], some (0, 0, 1), [], [])
theorem w300 : vrf GG [] [] 300 1 g300
  (uK (uC kN2 (uE kI0 kI1 uE0) (uA kN0 (rA kI90) (uA kN1 (uic kI2) (uA kN2 (uis kN0) uA0))) uS0 (uO kN107 kN2 (uic kI6) uO0) kI3090 (uL kJ1548 kN0 uL0))
  (uK (uC kN22 (uE kI0 kI1 (uE kI0 kI6 uE0)) (uA kN0 (rA kI90) (uA kN1 (uic kI2) (uA kN2 (uic kI0) (uA kN3 (uis kN0) (uA kN4 (uis kN1) uA0))))) uS0 (uO kN90 kN30 (uic kI6) (uO kN107 kN2 (uic kI6) uO0)) kI2789 (uL kJ172 kN1 uL0))
  (uK (uC kN63 (uE kI0 kI5 (uE kI0 kI1 uE0)) (uA kN0 (rA kI90) (uA kN1 (uic kI2) (uA kN2 (uic kI0) (uA kN3 (uic kI1) (uA kN4 (uis kN0) uA0))))) (uS (uis kN1) uS0) (uO kN90 kN30 (uic kI6) (uO kN107 kN2 (uic kI6) uO0)) kI2748 (uL kJ172 kN0 uL0))
  (uK (uC kN70 (uE kI0 kI1 (uE kI0 kI6 uE0)) (uA kN0 (rA kI90) (uA kN1 (uic kI2) (uA kN2 (uic kI0) (uA kN3 (uis kN0) (uA kN4 (uis kN1) uA0))))) uS0 (uO kN90 kN30 (uic kI6) (uO kN107 kN2 (uic kI6) uO0)) kI1646 uL0)
  uK0)))) = true := by decide +kernel
theorem r300 {l : Launch} {D : va_G} {tys : List (ClassId × FieldType)} {A : Nat → Prop} {ad : Nat → Nat} (hAD : ∀ i : Nat, ad (1000 + i) = D.2 1000 i) : CRok l D tys A ad GG 2 g300 := CR_of_vrf (dep := 1) hAD (fun c hc => by cases hc) T2OK_nil w300
noncomputable def g301 : CR := (307, [(2, 90, 90), (0, 2, 2)], [((107, 2), (0, 7, 60))], some (0, 0, 0), [], [])
theorem w301 : vrf GG [] [] 300 0 g301
  (uK (uC kN2 (uE kI7 kI60 uE0) (uA kN0 (rA kI90) (uA kN1 (uic kI2) (uA kN2 (uic kI0) uA0))) uS0 (uO kN107 kN2 (uis kN0) uO0) kI510 uL0)
  uK0) = true := by decide +kernel
theorem r301 {l : Launch} {D : va_G} {tys : List (ClassId × FieldType)} {A : Nat → Prop} {ad : Nat → Nat} (hAD : ∀ i : Nat, ad (1000 + i) = D.2 1000 i) : CRok l D tys A ad GG 1 g301 := CR_of_vrf (dep := 0) hAD (fun c hc => by cases hc) T2OK_nil w301
noncomputable def g302 : CR := (307, [(2, 90, 90), (0, 3, 3)], [((107, 3), (0, (-1), (-1)))], some (0, 1, 1), [], [])
theorem w302 : vrf GG [] [] 300 0 g302
  (uK (uC kN2 uE0 (uA kN0 (rA kI90) (uA kN1 (uic kI3) (uA kN2 (uic kI0) uA0))) uS0 (uO kN107 kN3 (uic kJ1) uO0) kI510 uL0)
  (uK (uC kN22 (uE kI0 kI6 uE0) (uA kN0 (rA kI90) (uA kN1 (uic kI3) (uA kN2 (uic kI0) (uA kN3 (uic kI1) (uA kN4 (uic kI0) uA0))))) uS0 (uO kN90 kN30 (uis kN0) (uO kN107 kN3 (uic kJ1) uO0)) kI209 uL0)
  (uK (uC kN70 (uE kI0 kI6 uE0) (uA kN0 (rA kI90) (uA kN1 (uic kI3) (uA kN2 (uic kI0) (uA kN3 (uic kI1) (uA kN4 (uic kI0) uA0))))) uS0 (uO kN90 kN30 (uis kN0) (uO kN107 kN3 (uic kJ1) uO0)) kI98 uL0)
  uK0))) = true := by decide +kernel
theorem r302 {l : Launch} {D : va_G} {tys : List (ClassId × FieldType)} {A : Nat → Prop} {ad : Nat → Nat} (hAD : ∀ i : Nat, ad (1000 + i) = D.2 1000 i) : CRok l D tys A ad GG 1 g302 := CR_of_vrf (dep := 0) hAD (fun c hc => by cases hc) T2OK_nil w302
noncomputable def g303 : CR := (307, [(2, 90, 90), (0, 3, 3)], [((107, 3), (0, 0, 0))], some (0, 1, 1), [], [])
theorem w303 : vrf GG [] [] 300 0 g303
  (uK (uC kN2 uE0 (uA kN0 (rA kI90) (uA kN1 (uic kI3) (uA kN2 (uic kI0) uA0))) uS0 (uO kN107 kN3 (uic kI0) uO0) kI510 uL0)
  (uK (uC kN22 (uE kI0 kI6 uE0) (uA kN0 (rA kI90) (uA kN1 (uic kI3) (uA kN2 (uic kI0) (uA kN3 (uic kI1) (uA kN4 (uic kI0) uA0))))) uS0 (uO kN90 kN30 (uis kN0) (uO kN107 kN3 (uic kI0) uO0)) kI209 uL0)
  (uK (uC kN70 (uE kI0 kI6 uE0) (uA kN0 (rA kI90) (uA kN1 (uic kI3) (uA kN2 (uic kI0) (uA kN3 (uic kI1) (uA kN4 (uic kI0) uA0))))) uS0 (uO kN90 kN30 (uis kN0) (uO kN107 kN3 (uic kI0) uO0)) kI98 uL0)
  uK0))) = true := by decide +kernel
theorem r303 {l : Launch} {D : va_G} {tys : List (ClassId × FieldType)} {A : Nat → Prop} {ad : Nat → Nat} (hAD : ∀ i : Nat, ad (1000 + i) = D.2 1000 i) : CRok l D tys A ad GG 1 g303 := CR_of_vrf (dep := 0) hAD (fun c hc => by cases hc) T2OK_nil w303
noncomputable def g304 : CR := (307, [(2, 90, 90), (0, 3, 3)], [((107, 3), (0, 1, 1))], some (0, 0, 1), [], [])
theorem w304 : vrf GG [] [] 300 1 g304
  (uK (uC kN2 (uE kI0 kI6 uE0) (uA kN0 (rA kI90) (uA kN1 (uic kI3) (uA kN2 (uis kN0) uA0))) uS0 (uO kN107 kN3 (uic kI1) uO0) kI4810 (uL kJ688 kN0 uL0))
  (uK (uC kN22 (uE kI0 kI5 (uE kI0 kI1 (uE kI0 kI1 (uE kI1 kI6 uE0)))) (uA kN0 (rA kI90) (uA kN1 (uic kI3) (uA kN2 (uis kN0) (uA kN3 (uis kN1) (uA kN4 (uis kN2) uA0))))) uS0 (uO kN90 kN30 (uis kN3) (uO kN107 kN3 (uic kI1) uO0)) kI4509 (uL kJ172 kN2 (uL kJ688 kN0 uL0)))
  (uK (uC kN63 (uE kI0 kI5 (uE kI0 kI1 (uE kI1 kI6 (uE kJ9223372036854775808 kI9223372036854775807 uE0)))) (uA kN0 (rA kI90) (uA kN1 (uic kI3) (uA kN2 (uis kN0) (uA kN3 (uic kI1) (uA kN4 (uic kI0) uA0))))) (uS (uis kN1) uS0) (uO kN90 kN30 (uis kN2) (uO kN107 kN3 (uic kI1) (uO kN109 kN180 (uls kN3) uO0))) kI4468 (uL kJ688 kN0 uL0))
  (uK (uC kN70 (uE kI0 kI5 (uE kI0 kI1 (uE kI0 kI1 (uE kI1 kI6 uE0)))) (uA kN0 (rA kI90) (uA kN1 (uic kI3) (uA kN2 (uis kN0) (uA kN3 (uis kN1) (uA kN4 (uis kN2) uA0))))) uS0 (uO kN90 kN30 (uis kN3) (uO kN107 kN3 (uic kI1) uO0)) kI4226 (uL kJ688 kN0 uL0))
  uK0)))) = true := by decide +kernel
theorem r304 {l : Launch} {D : va_G} {tys : List (ClassId × FieldType)} {A : Nat → Prop} {ad : Nat → Nat} (hAD : ∀ i : Nat, ad (1000 + i) = D.2 1000 i) : CRok l D tys A ad GG 2 g304 := CR_of_vrf (dep := 1) hAD (fun c hc => by cases hc) T2OK_nil w304
noncomputable def g305 : CR := (307, [(2, 90, 90), (0, 3, 3)], [((107, 3), (0, 2, 2))], some (0, 0, 1), [], [])
theorem w305 : vrf GG [] [] 300 1 g305
  (uK (uC kN2 (uE kI0 kI5 uE0) (uA kN0 (rA kI90) (uA kN1 (uic kI3) (uA kN2 (uis kN0) uA0))) uS0 (uO kN107 kN3 (uic kI2) uO0) kI5154 (uL kJ860 kN0 uL0))
  (uK (uC kN22 (uE kI0 kI4 (uE kI0 kI1 (uE kI0 kI2 (uE kI2 kI6 uE0)))) (uA kN0 (rA kI90) (uA kN1 (uic kI3) (uA kN2 (uis kN0) (uA kN3 (uis kN1) (uA kN4 (uis kN2) uA0))))) uS0 (uO kN90 kN30 (uis kN3) (uO kN107 kN3 (uic kI2) uO0)) kI4853 (uL kJ172 kN2 (uL kJ860 kN0 uL0)))
  (uK (uC kN63 (uE kI0 kI4 (uE kI0 kI1 (uE kI0 kI1 (uE kI2 kI6 uE0)))) (uA kN0 (rA kI90) (uA kN1 (uic kI3) (uA kN2 (uis kN0) (uA kN3 (uic kI1) (uA kN4 (uis kN1) uA0))))) (uS (uis kN2) uS0) (uO kN90 kN30 (uis kN3) (uO kN107 kN3 (uic kI2) uO0)) kI4812 (uL kJ172 kN1 (uL kJ860 kN0 uL0)))
  (uK (uC kN70 (uE kI0 kI4 (uE kI0 kI1 (uE kI0 kI2 (uE kI2 kI6 uE0)))) (uA kN0 (rA kI90) (uA kN1 (uic kI3) (uA kN2 (uis kN0) (uA kN3 (uis kN1) (uA kN4 (uis kN2) uA0))))) uS0 (uO kN90 kN30 (uis kN3) (uO kN107 kN3 (uic kI2) uO0)) kI4398 (uL kJ860 kN0 uL0))
  uK0)))) = true := by decide +kernel
theorem r305 {l : Launch} {D : va_G} {tys : List (ClassId × FieldType)} {A : Nat → Prop} {ad : Nat → Nat} (hAD : ∀ i : Nat, ad (1000 + i) = D.2 1000 i) : CRok l D tys A ad GG 2 g305 := CR_of_vrf (dep := 1) hAD (fun c hc => by cases hc) T2OK_nil w305
noncomputable def g306 : CR := (307, [(2, 90, 90), (0, 3, 3)], [((107, 3), (0, 3, 3))], some (0, 0, 1), [], [])
theorem w306 : vrf GG [] [] 300 1 g306
  (uK (uC kN2 (uE kI0 kI4 uE0) (uA kN0 (rA kI90) (uA kN1 (uic kI3) (uA kN2 (uis kN0) uA0))) uS0 (uO kN107 kN3 (uic kI3) uO0) kI5154 (uL kJ1032 kN0 uL0))
  (uK (uC kN22 (uE kI0 kI3 (uE kI0 kI1 (uE kI0 kI3 (uE kI3 kI6 uE0)))) (uA kN0 (rA kI90) (uA kN1 (uic kI3) (uA kN2 (uis kN0) (uA kN3 (uis kN1) (uA kN4 (uis kN2) uA0))))) uS0 (uO kN90 kN30 (uis kN3) (uO kN107 kN3 (uic kI3) uO0)) kI4853 (uL kJ172 kN2 (uL kJ1032 kN0 uL0)))
  (uK (uC kN63 (uE kI0 kI3 (uE kI0 kI2 (uE kI0 kI1 (uE kI3 kI6 uE0)))) (uA kN0 (rA kI90) (uA kN1 (uic kI3) (uA kN2 (uis kN0) (uA kN3 (uic kI1) (uA kN4 (uis kN1) uA0))))) (uS (uis kN2) uS0) (uO kN90 kN30 (uis kN3) (uO kN107 kN3 (uic kI3) uO0)) kI4812 (uL kJ172 kN1 (uL kJ1032 kN0 uL0)))
  (uK (uC kN70 (uE kI0 kI3 (uE kI0 kI1 (uE kI0 kI3 (uE kI3 kI6 uE0)))) (uA kN0 (rA kI90) (uA kN1 (uic kI3) (uA kN2 (uis kN0) (uA kN3 (uis kN1) (uA kN4 (uis kN2) uA0))))) uS0 (uO kN90 kN30 (uis kN3) (uO kN107 kN3 (uic kI3) uO0)) kI4226 (uL kJ1032 kN0 uL0))
  uK0)))) = true := by decide +kernel
theorem r306 {l : Launch} {D : va_G} {tys : List (ClassId × FieldType)} {A : Nat → Prop} {ad : Nat → Nat} (hAD : ∀ i : Nat, ad (1000 + i) = D.2 1000 i) : CRok l D tys A ad GG 2 g306 := CR_of_vrf (dep := 1) hAD (fun c hc => by cases hc) T2OK_nil w306
noncomputable def g307 : CR := (307, [(2, 90, 90), (0, 3, 3)], [((107, 3), (0, 4, 4))], some (0, 0, 1), [], [])
theorem w307 : vrf GG [] [] 300 1 g307
  (uK (uC kN2 (uE kI0 kI3 uE0) (uA kN0 (rA kI90) (uA kN1 (uic kI3) (uA kN2 (uis kN0) uA0))) uS0 (uO kN107 kN3 (uic kI4) uO0) kI4810 (uL kJ1204 kN0 uL0))
  (uK (uC kN22 (uE kI0 kI2 (uE kI0 kI1 (uE kI0 kI4 (uE kI4 kI6 uE0)))) (uA kN0 (rA kI90) (uA kN1 (uic kI3) (uA kN2 (uis kN0) (uA kN3 (uis kN1) (uA kN4 (uis kN2) uA0))))) uS0 (uO kN90 kN30 (uis kN3) (uO kN107 kN3 (uic kI4) uO0)) kI4509 (uL kJ172 kN2 (uL kJ1204 kN0 uL0)))
  (uK (uC kN63 (uE kI0 kI2 (uE kI0 kI3 (uE kI0 kI1 (uE kI4 kI6 uE0)))) (uA kN0 (rA kI90) (uA kN1 (uic kI3) (uA kN2 (uis kN0) (uA kN3 (uic kI1) (uA kN4 (uis kN1) uA0))))) (uS (uis kN2) uS0) (uO kN90 kN30 (uis kN3) (uO kN107 kN3 (uic kI4) uO0)) kI4468 (uL kJ172 kN1 (uL kJ1204 kN0 uL0)))
  (uK (uC kN70 (uE kI0 kI2 (uE kI0 kI1 (uE kI0 kI4 (uE kI4 kI6 uE0)))) (uA kN0 (rA kI90) (uA kN1 (uic kI3) (uA kN2 (uis kN0) (uA kN3 (uis kN1) (uA kN4 (uis kN2) uA0))))) uS0 (uO kN90 kN30 (uis kN3) (uO kN107 kN3 (uic kI4) uO0)) kI3710 (uL kJ1204 kN0 uL0))
  uK0)))) = true := by decide +kernel
theorem r307 {l : Launch} {D : va_G} {tys : List (ClassId × FieldType)} {A : Nat → Prop} {ad : Nat → Nat} (hAD : ∀ i : Nat, ad (1000 + i) = D.2 1000 i) : CRok l D tys A ad GG 2 g307 := CR_of_vrf (dep := 1) hAD (fun c hc => by cases hc) T2OK_nil w307
noncomputable def g308 : CR := (307, [(2, 90, 90), (0, 3, 3)], [((107, 3), (0, 5, 5))], some (0, 0, 1), [], [])
theorem w308 : vrf GG [] [] 300 1 g308
  (uK (uC kN2 (uE kI0 kI2 uE0) (uA kN0 (rA kI90) (uA kN1 (uic kI3) (uA kN2 (uis kN0) uA0))) uS0 (uO kN107 kN3 (uic kI5) uO0) kI4122 (uL kJ1376 kN0 uL0))
  (uK (uC kN22 (uE kI0 kI1 (uE kI0 kI1 (uE kI0 kI5 (uE kI5 kI6 uE0)))) (uA kN0 (rA kI90) (uA kN1 (uic kI3) (uA kN2 (uis kN0) (uA kN3 (uis kN1) (uA kN4 (uis kN2) uA0))))) uS0 (uO kN90 kN30 (uis kN3) (uO kN107 kN3 (uic kI5) uO0)) kI3821 (uL kJ172 kN2 (uL kJ1376 kN0 uL0)))
  (uK (uC kN63 (uE kI0 kI1 (uE kI0 kI4 (uE kI0 kI1 (uE kI5 kI6 uE0)))) (uA kN0 (rA kI90) (uA kN1 (uic kI3) (uA kN2 (uis kN0) (uA kN3 (uic kI1) (uA kN4 (uis kN1) uA0))))) (uS (uis kN2) uS0) (uO kN90 kN30 (uis kN3) (uO kN107 kN3 (uic kI5) uO0)) kI3780 (uL kJ172 kN1 (uL kJ1376 kN0 uL0)))
  (uK (uC kN70 (uE kI0 kI1 (uE kI0 kI1 (uE kI0 kI5 (uE kI5 kI6 uE0)))) (uA kN0 (rA kI90) (uA kN1 (uic kI3) (uA kN2 (uis kN0) (uA kN3 (uis kN1) (uA kN4 (uis kN2) uA0))))) uS0 (uO kN90 kN30 (uis kN3) (uO kN107 kN3 (uic kI5) uO0)) kI2850 (uL kJ1376 kN0 uL0))
  uK0)))) = true := by decide +kernel
theorem r308 {l : Launch} {D : va_G} {tys : List (ClassId × FieldType)} {A : Nat → Prop} {ad : Nat → Nat} (hAD : ∀ i : Nat, ad (1000 + i) = D.2 1000 i) : CRok l D tys A ad GG 2 g308 := CR_of_vrf (dep := 1) hAD (fun c hc => by cases hc) T2OK_nil w308
noncomputable def g309 : CR := (307, [(2, 90, 90), (0, 3, 3)], [((107, 3), (0, 6, 6))], some (0, 0, 1), [], [])
theorem w309 : vrf GG [] [] 300 1 g309
  (uK (uC kN2 (uE kI0 kI1 uE0) (uA kN0 (rA kI90) (uA kN1 (uic kI3) (uA kN2 (uis kN0) uA0))) uS0 (uO kN107 kN3 (uic kI6) uO0) kI3090 (uL kJ1548 kN0 uL0))
  (uK (uC kN22 (uE kI0 kI1 (uE kI0 kI6 uE0)) (uA kN0 (rA kI90) (uA kN1 (uic kI3) (uA kN2 (uic kI0) (uA kN3 (uis kN0) (uA kN4 (uis kN1) uA0))))) uS0 (uO kN90 kN30 (uic kI6) (uO kN107 kN3 (uic kI6) uO0)) kI2789 (uL kJ172 kN1 uL0))
  (uK (uC kN63 (uE kI0 kI5 (uE kI0 kI1 uE0)) (uA kN0 (rA kI90) (uA kN1 (uic kI3) (uA kN2 (uic kI0) (uA kN3 (uic kI1) (uA kN4 (uis kN0) uA0))))) (uS (uis kN1) uS0) (uO kN90 kN30 (uic kI6) (uO kN107 kN3 (uic kI6) uO0)) kI2748 (uL kJ172 kN0 uL0))
  (uK (uC kN70 (uE kI0 kI1 (uE kI0 kI6 uE0)) (uA kN0 (rA kI90) (uA kN1 (uic kI3) (uA kN2 (uic kI0) (uA kN3 (uis kN0) (uA kN4 (uis kN1) uA0))))) uS0 (uO kN90 kN30 (uic kI6) (uO kN107 kN3 (uic kI6) uO0)) kI1646 uL0)
  uK0)))) = true := by decide +kernel
theorem r309 {l : Launch} {D : va_G} {tys : List (ClassId × FieldType)} {A : Nat → Prop} {ad : Nat → Nat} (hAD : ∀ i : Nat, ad (1000 + i) = D.2 1000 i) : CRok l D tys A ad GG 2 g309 := CR_of_vrf (dep := 1) hAD (fun c hc => by cases hc) T2OK_nil w309
noncomputable def g310 : CR := (307, [(2, 90, 90), (0, 3, 3)], [((107, 3), (0, 7, 60))], some (0, 0, 0), [], [])
theorem w310 : vrf GG [] [] 300 0 g310
  (uK (uC kN2 (uE kI7 kI60 uE0) (uA kN0 (rA kI90) (uA kN1 (uic kI3) (uA kN2 (uic kI0) uA0))) uS0 (uO kN107 kN3 (uis kN0) uO0) kI510 uL0)
  uK0) = true := by decide +kernel
theorem r310 {l : Launch} {D : va_G} {tys : List (ClassId × FieldType)} {A : Nat → Prop} {ad : Nat → Nat} (hAD : ∀ i : Nat, ad (1000 + i) = D.2 1000 i) : CRok l D tys A ad GG 1 g310 := CR_of_vrf (dep := 0) hAD (fun c hc => by cases hc) T2OK_nil w310
noncomputable def g311 : CR := (308, [(2, 90, 90), (0, 0, 3)], [], some (0, (-6), 63), [], [90, 105])
theorem w311 : vrf GG [(3, g273), (2, g274), (1, g275), (1, g276), (2, g277), (2, g278), (2, g279), (2, g280), (2, g281), (2, g282), (1, g283), (1, g284), (1, g285), (2, g286), (2, g287), (2, g288), (2, g289), (2, g290), (2, g291), (1, g292), (1, g293), (1, g294), (2, g295), (2, g296), (2, g297), (2, g298), (2, g299), (2, g300), (1, g301), (1, g302), (1, g303), (2, g304), (2, g305), (2, g306), (2, g307), (2, g308), (2, g309), (1, g310)] [] 460 3 g311
  (uK (uC kN18 (uE kI0 kI3 (uE kI0 kI63 (uE kI0 kI6 uE0))) (uA kN0 (rA kI90) (uA kN1 (uis kN0) (uA kN2 (uic kI0) (uA kN3 (uis kN1) (uA kN4 (uis kN2) uA0))))) uS0 uO0 (Int.ofNat (nat_lit 858)) (uL kJ128 kN2 uL0))
  (uK (uC kN52 (uE kI0 kI3 (uE kI0 kI63 (uE kI0 kI5 (uE kI0 kI32 (uE kI0 kI63 (uE kI1 kI6 uE0)))))) (uA kN0 (rA kI90) (uA kN1 (uis kN0) (uA kN2 (uic kI0) (uA kN3 (uis kN1) (uA kN4 (uis kN2) uA0))))) (uS (uis kN3) (uS (uis kN4) uS0)) (uO kN91 kN3 (uis kN5) uO0) (Int.ofNat (nat_lit 824)) (uL kJ128 kN2 uL0))
  uK0)) = true := by decide +kernel
theorem r311 {l : Launch} {D : va_G} {tys : List (ClassId × FieldType)} {A : Nat → Prop} {ad : Nat → Nat} (hAD : ∀ i : Nat, ad (1000 + i) = D.2 1000 i) : CRok l D tys A ad GG 4 g311 := CR_of_vrf (dep := 3) hAD (List.forall_mem_cons.mpr ⟨r273 hAD, List.forall_mem_cons.mpr ⟨r274 hAD, List.forall_mem_cons.mpr ⟨r275 hAD, List.forall_mem_cons.mpr ⟨r276 hAD, List.forall_mem_cons.mpr ⟨r277 hAD, List.forall_mem_cons.mpr ⟨r278 hAD, List.forall_mem_cons.mpr ⟨r279 hAD, List.forall_mem_cons.mpr ⟨r280 hAD, List.forall_mem_cons.mpr ⟨r281 hAD, List.forall_mem_cons.mpr ⟨r282 hAD, List.forall_mem_cons.mpr ⟨r283 hAD, List.forall_mem_cons.mpr ⟨r284 hAD, List.forall_mem_cons.mpr ⟨r285 hAD, List.forall_mem_cons.mpr ⟨r286 hAD, List.forall_mem_cons.mpr ⟨r287 hAD, List.forall_mem_cons.mpr ⟨r288 hAD, List.forall_mem_cons.mpr ⟨r289 hAD, List.forall_mem_cons.mpr ⟨r290 hAD, List.forall_mem_cons.mpr ⟨r291 hAD, List.forall_mem_cons.mpr ⟨r292 hAD, List.forall_mem_cons.mpr ⟨r293 hAD, List.forall_mem_cons.mpr ⟨r294 hAD, List.forall_mem_cons.mpr ⟨r295 hAD, List.forall_mem_cons.mpr ⟨r296 hAD, List.forall_mem_cons.mpr ⟨r297 hAD, List.forall_mem_cons.mpr ⟨r298 hAD, List.forall_mem_cons.mpr ⟨r299 hAD, List.forall_mem_cons.mpr ⟨r300 hAD, List.forall_mem_cons.mpr ⟨r301 hAD, List.forall_mem_cons.mpr ⟨r302 hAD, List.forall_mem_cons.mpr ⟨r303 hAD, List.forall_mem_cons.mpr ⟨r304 hAD, List.forall_mem_cons.mpr ⟨r305 hAD, List.forall_mem_cons.mpr ⟨r306 hAD, List.forall_mem_cons.mpr ⟨r307 hAD, List.forall_mem_cons.mpr ⟨r308 hAD, List.forall_mem_cons.mpr ⟨r309 hAD, List.forall_mem_cons.mpr ⟨r310 hAD, fun c hc => by cases hc⟩⟩⟩⟩⟩⟩⟩⟩⟩⟩⟩⟩⟩⟩⟩⟩⟩⟩⟩⟩⟩⟩⟩⟩⟩⟩⟩⟩⟩⟩⟩⟩⟩⟩⟩⟩⟩⟩) T2OK_nil w311
noncomputable def g312 : CR := (52, [(2, 0, 0), (0, (-2147483648), (-1)), (0, (-2147483648), 2147483647)], [], some (0, (-2), (-2)), [], [])
theorem w312 : vrf GG [] [] 300 2 g312
  [] = true := by decide +kernel
theorem r312 {l : Launch} {D : va_G} {tys : List (ClassId × FieldType)} {A : Nat → Prop} {ad : Nat → Nat} (hAD : ∀ i : Nat, ad (1000 + i) = D.2 1000 i) : CRok l D tys A ad GG 3 g312 := CR_of_vrf (dep := 2) hAD (fun c hc => by cases hc) T2OK_nil w312
noncomputable def g313 : CR := (52, [(2, 0, 0), (0, 4, 2147483647), (0, (-2147483648), 2147483647)], [], some (0, (-2), (-2)), [], [])
theorem w313 : vrf GG [] [] 300 2 g313
  [] = true := by decide +kernel
theorem r313 {l : Launch} {D : va_G} {tys : List (ClassId × FieldType)} {A : Nat → Prop} {ad : Nat → Nat} (hAD : ∀ i : Nat, ad (1000 + i) = D.2 1000 i) : CRok l D tys A ad GG 3 g313 := CR_of_vrf (dep := 2) hAD (fun c hc => by cases hc) T2OK_nil w313
noncomputable def g314 : CR := (52, [(2, 0, 0), (0, 0, 3), (0, (-2147483648), 0)], [], some (0, (-2), (-2)), [], [])
theorem w314 : vrf GG [] [] 300 0 g314
  [] = true := by decide +kernel
theorem r314 {l : Launch} {D : va_G} {tys : List (ClassId × FieldType)} {A : Nat → Prop} {ad : Nat → Nat} (hAD : ∀ i : Nat, ad (1000 + i) = D.2 1000 i) : CRok l D tys A ad GG 1 g314 := CR_of_vrf (dep := 0) hAD (fun c hc => by cases hc) T2OK_nil w314
noncomputable def g315 : CR := (52, [(2, 0, 0), (0, 0, 3), (0, 7, 2147483647)], [], some (0, (-2), (-2)), [], [])
theorem w315 : vrf GG [] [] 300 0 g315
  [] = true := by decide +kernel
theorem r315 {l : Launch} {D : va_G} {tys : List (ClassId × FieldType)} {A : Nat → Prop} {ad : Nat → Nat} (hAD : ∀ i : Nat, ad (1000 + i) = D.2 1000 i) : CRok l D tys A ad GG 1 g315 := CR_of_vrf (dep := 0) hAD (fun c hc => by cases hc) T2OK_nil w315
noncomputable def g316 : CR := (119, [(2, 39, 39), (0, 0, 3), (0, 0, 6), (0, 0, 9)], [], some (0, 0, 7), [], [])
theorem w316 : vrf GG [] [] 541 3 g316
  (uK (uC kN5 (uE kI0 kI3 (uE kI0 kI6 (uE kI0 kI9 (uE kI0 kI7 uE0)))) (uA kN0 (rA kI39) (uA kN1 (uis kN0) (uA kN2 (uis kN1) (uA kN3 (uis kN2) (uA kN4 (uis kN3) uA0))))) uS0 uO0 (Int.ofNat (nat_lit 1842)) (uL kI1854 kN3 uL0))
  (uK (uC kN30 (uE kI0 kI3 (uE kI0 kI6 (uE kI0 kI9 (uE kI1 kI7 (uE kI0 kI1 uE0))))) (uA kN0 (rA kI39) (uA kN1 (uis kN0) (uA kN2 (uis kN1) (uA kN3 (uis kN2) (uA kN4 (uis kN3) uA0))))) (uS (uis kN4) uS0) uO0 (Int.ofNat (nat_lit 1817)) (uL kI1854 kN3 uL0))
  (uK (uC kN35 (uE kI0 kI3 (uE kI0 kI6 (uE kI0 kI9 (uE kI1 kI7 (uE kI0 kI1 (uE kI0 kI6 uE0)))))) (uA kN0 (rA kI39) (uA kN1 (uis kN0) (uA kN2 (uis kN1) (uA kN3 (uis kN2) (uA kN4 (uis kN3) (uA kN5 (uis kN4) (uA kN6 (uis kN5) uA0))))))) uS0 uO0 (Int.ofNat (nat_lit 1467)) (uL kJ206 kN5 (uL kI1854 kN3 uL0)))
  (uK (uC kN76 (uE kI0 kI3 (uE kI0 kI6 (uE kI0 kI9 (uE kI2 kI7 (uE kI0 kI1 (uE kI0 kI5 (uE kI0 kI1 (uE kI0 kI1 uE0)))))))) (uA kN0 (rA kI39) (uA kN1 (uis kN0) (uA kN2 (uis kN1) (uA kN3 (uis kN2) (uA kN4 (uis kN3) (uA kN5 (uis kN4) (uA kN6 (uis kN5) uA0))))))) (uS (uis kN6) (uS (uis kN7) uS0)) uO0 kI1426 (uL kJ206 kN5 (uL kI1854 kN3 uL0)))
  uK0)))) = true := by decide +kernel
theorem r316 {l : Launch} {D : va_G} {tys : List (ClassId × FieldType)} {A : Nat → Prop} {ad : Nat → Nat} (hAD : ∀ i : Nat, ad (1000 + i) = D.2 1000 i) : CRok l D tys A ad GG 4 g316 := CR_of_vrf (dep := 3) hAD (fun c hc => by cases hc) T2OK_nil w316
noncomputable def g317 : CR := (149, [(2, 48, 48), (0, 0, 0)], [], none, [], [48])
theorem w317 : vrf GG [] [] 300 0 g317
  (uK (uC kN2 (uE kI0 kI7 uE0) (uA kN0 (rA kI48) (uA kN1 (uic kI0) (uA kN2 (uis kN0) uA0))) uS0 uO0 kI330 (uL kJ42 kN0 uL0))
  uK0) = true := by decide +kernel
theorem r317 {l : Launch} {D : va_G} {tys : List (ClassId × FieldType)} {A : Nat → Prop} {ad : Nat → Nat} (hAD : ∀ i : Nat, ad (1000 + i) = D.2 1000 i) : CRok l D tys A ad GG 1 g317 := CR_of_vrf (dep := 0) hAD (fun c hc => by cases hc) T2OK_nil w317
noncomputable def g318 : CR := (149, [(2, 49, 49), (0, 0, 0)], [], none, [], [49])
theorem w318 : vrf GG [] [] 300 0 g318
  (uK (uC kN2 (uE kI0 kI7 uE0) (uA kN0 (rA kI49) (uA kN1 (uic kI0) (uA kN2 (uis kN0) uA0))) uS0 uO0 kI330 (uL kJ42 kN0 uL0))
  uK0) = true := by decide +kernel
theorem r318 {l : Launch} {D : va_G} {tys : List (ClassId × FieldType)} {A : Nat → Prop} {ad : Nat → Nat} (hAD : ∀ i : Nat, ad (1000 + i) = D.2 1000 i) : CRok l D tys A ad GG 1 g318 := CR_of_vrf (dep := 0) hAD (fun c hc => by cases hc) T2OK_nil w318
noncomputable def g319 : CR := (150, [(2, 49, 49), (2, 48, 48)], [], none, [], [48])
theorem w319 : vrf GG [] [] 300 0 g319
  (uK (uC kN2 (uE kI0 kI7 uE0) (uA kN0 (rA kI49) (uA kN1 (rA kI48) (uA kN2 (uis kN0) uA0))) uS0 uO0 (Int.ofNat (nat_lit 458)) (uL kJ58 kN0 uL0))
  uK0) = true := by decide +kernel
theorem r319 {l : Launch} {D : va_G} {tys : List (ClassId × FieldType)} {A : Nat → Prop} {ad : Nat → Nat} (hAD : ∀ i : Nat, ad (1000 + i) = D.2 1000 i) : CRok l D tys A ad GG 1 g319 := CR_of_vrf (dep := 0) hAD (fun c hc => by cases hc) T2OK_nil w319
noncomputable def g320 : CR := (118, [(2, 47, 47), (2, 4, 4), (2, 39, 39), (0, 0, 3), (0, 1, 1)], [], some (0, (-2147483648), 2147483647), [], [48, 49])
theorem w320 : vrf GG [(4, g316), (1, g317), (1, g318), (1, g319)] [] 300 4 g320
  (uK (uC kN36 (uE kI0 kI3 (uE kJ1 kI1 (uE kI0 kI1 uE0))) (uA kN0 (rA kI47) (uA kN1 (rA kI4) (uA kN2 (rA kI39) (uA kN3 (uis kN0) (uA kN4 (uic kI1) (uA kN5 (uis kN1) (uA kN6 (uis kN2) uA0))))))) uS0 uO0 (Int.ofNat (nat_lit 32266)) (uL (Int.negSucc (nat_lit 16169)) kN2 uL0))
  (uK (uC kN54 (uE kI0 kI3 (uE kJ1 kI1 (uE kI0 kI2 uE0))) (uA kN0 (rA kI47) (uA kN1 (rA kI4) (uA kN2 (rA kI39) (uA kN3 (uis kN0) (uA kN4 (uic kI1) (uA kN5 (uis kN1) (uA kN6 (uic kI0) (uA kN7 (uis kN2) uA0)))))))) uS0 uO0 (Int.ofNat (nat_lit 28068)) (uL kJ3960 kN2 uL0))
  (uK (uC kN64 (uE kI0 kI3 (uE kI0 kI1 (uE kI0 kI1 (uE kI0 kI9 uE0)))) (uA kN0 (rA kI47) (uA kN1 (rA kI4) (uA kN2 (rA kI39) (uA kN3 (uis kN0) (uA kN4 (uic kI1) (uA kN5 (uis kN1) (uA kN6 (uic kI0) (uA kN7 (uis kN2) (uA kN8 (uis kN3) uA0))))))))) uS0 uO0 (Int.ofNat (nat_lit 27498)) (uL kJ330 kN3 (uL kJ3960 kN2 uL0)))
  (uK (uC kN94 (uE kI0 kI3 (uE kI0 kI1 (uE kI0 kI1 (uE kI0 kI8 (uE kI0 kI7 (uE kI1 kI9 uE0)))))) (uA kN0 (rA kI47) (uA kN1 (rA kI4) (uA kN2 (rA kI39) (uA kN3 (uis kN0) (uA kN4 (uic kI1) (uA kN5 (uis kN1) (uA kN6 (uic kI0) (uA kN7 (uis kN2) (uA kN8 (uis kN3) uA0))))))))) (uS (uis kN4) uS0) (uO kN4 kN1 (uis kN5) uO0) (Int.ofNat (nat_lit 27468)) (uL kJ330 kN3 (uL kJ3960 kN2 uL0)))
  uK0)))) = true := by decide +kernel
theorem r320 {l : Launch} {D : va_G} {tys : List (ClassId × FieldType)} {A : Nat → Prop} {ad : Nat → Nat} (hAD : ∀ i : Nat, ad (1000 + i) = D.2 1000 i) : CRok l D tys A ad GG 5 g320 := CR_of_vrf (dep := 4) hAD (List.forall_mem_cons.mpr ⟨r316 hAD, List.forall_mem_cons.mpr ⟨r317 hAD, List.forall_mem_cons.mpr ⟨r318 hAD, List.forall_mem_cons.mpr ⟨r319 hAD, fun c hc => by cases hc⟩⟩⟩⟩) T2OK_nil w320
noncomputable def g321 : CR := (52, [(2, 0, 0), (0, 0, 3), (0, 1, 1)], [], some (0, (-2147483648), 2147483647), [], [48, 49])
theorem w321 : vrf GG [(5, g320), (4, g267)] [] 300 5 g321
  [] = true := by decide +kernel
theorem r321 {l : Launch} {D : va_G} {tys : List (ClassId × FieldType)} {A : Nat → Prop} {ad : Nat → Nat} (hAD : ∀ i : Nat, ad (1000 + i) = D.2 1000 i) : CRok l D tys A ad GG 6 g321 := CR_of_vrf (dep := 5) hAD (List.forall_mem_cons.mpr ⟨r320 hAD, List.forall_mem_cons.mpr ⟨r267 hAD, fun c hc => by cases hc⟩⟩) T2OK_nil w321
noncomputable def g322 : CR := (118, [(2, 47, 47), (2, 4, 4), (2, 39, 39), (0, 0, 3), (0, 2, 2)], [], some (0, (-2147483648), 2147483647), [], [48, 49])
theorem w322 : vrf GG [(4, g316), (1, g317), (1, g318), (1, g319)] [] 300 4 g322
  (uK (uC kN36 (uE kI0 kI3 (uE kJ1 kI2 (uE kI0 kI2 uE0))) (uA kN0 (rA kI47) (uA kN1 (rA kI4) (uA kN2 (rA kI39) (uA kN3 (uis kN0) (uA kN4 (uic kI2) (uA kN5 (uis kN1) (uA kN6 (uis kN2) uA0))))))) uS0 uO0 (Int.ofNat (nat_lit 60316)) (uL kJ20130 kN2 uL0))
  (uK (uC kN54 (uE kI0 kI3 (uE kJ1 kI2 (uE kI0 kI1 (uE kI0 kI3 uE0)))) (uA kN0 (rA kI47) (uA kN1 (rA kI4) (uA kN2 (rA kI39) (uA kN3 (uis kN0) (uA kN4 (uic kI2) (uA kN5 (uis kN1) (uA kN6 (uis kN2) (uA kN7 (uis kN3) uA0)))))))) uS0 uO0 (Int.ofNat (nat_lit 56118)) (uL kJ3960 kN3 (uL kJ20130 kN2 uL0)))
  (uK (uC kN64 (uE kI0 kI3 (uE kI0 kI2 (uE kI0 kI1 (uE kI0 kI2 (uE kI0 kI9 uE0))))) (uA kN0 (rA kI47) (uA kN1 (rA kI4) (uA kN2 (rA kI39) (uA kN3 (uis kN0) (uA kN4 (uic kI2) (uA kN5 (uis kN1) (uA kN6 (uis kN2) (uA kN7 (uis kN3) (uA kN8 (uis kN4) uA0))))))))) uS0 uO0 (Int.ofNat (nat_lit 55548)) (uL kJ330 kN4 (uL kJ20130 kN2 (uL kJ3960 kN3 uL0))))
  (uK (uC kN94 (uE kI0 kI3 (uE kI0 kI2 (uE kI0 kI1 (uE kI0 kI2 (uE kI0 kI8 (uE kI0 kI7 (uE kI1 kI9 uE0))))))) (uA kN0 (rA kI47) (uA kN1 (rA kI4) (uA kN2 (rA kI39) (uA kN3 (uis kN0) (uA kN4 (uic kI2) (uA kN5 (uis kN1) (uA kN6 (uis kN2) (uA kN7 (uis kN3) (uA kN8 (uis kN4) uA0))))))))) (uS (uis kN5) uS0) (uO kN4 kN1 (uis kN6) uO0) (Int.ofNat (nat_lit 55518)) (uL kJ330 kN4 (uL kJ20130 kN2 (uL kJ3960 kN3 uL0))))
  uK0)))) = true := by decide +kernel
theorem r322 {l : Launch} {D : va_G} {tys : List (ClassId × FieldType)} {A : Nat → Prop} {ad : Nat → Nat} (hAD : ∀ i : Nat, ad (1000 + i) = D.2 1000 i) : CRok l D tys A ad GG 5 g322 := CR_of_vrf (dep := 4) hAD (List.forall_mem_cons.mpr ⟨r316 hAD, List.forall_mem_cons.mpr ⟨r317 hAD, List.forall_mem_cons.mpr ⟨r318 hAD, List.forall_mem_cons.mpr ⟨r319 hAD, fun c hc => by cases hc⟩⟩⟩⟩) T2OK_nil w322
noncomputable def g323 : CR := (52, [(2, 0, 0), (0, 0, 3), (0, 2, 2)], [], some (0, (-2147483648), 2147483647), [], [48, 49])
theorem w323 : vrf GG [(5, g322), (4, g267)] [] 300 5 g323
  [] = true := by decide +kernel
theorem r323 {l : Launch} {D : va_G} {tys : List (ClassId × FieldType)} {A : Nat → Prop} {ad : Nat → Nat} (hAD : ∀ i : Nat, ad (1000 + i) = D.2 1000 i) : CRok l D tys A ad GG 6 g323 := CR_of_vrf (dep := 5) hAD (List.forall_mem_cons.mpr ⟨r322 hAD, List.forall_mem_cons.mpr ⟨r267 hAD, fun c hc => by cases hc⟩⟩) T2OK_nil w323
noncomputable def g324 : CR := (118, [(2, 47, 47), (2, 4, 4), (2, 39, 39), (0, 0, 3), (0, 3, 3)], [], some (0, (-2147483648), 2147483647), [], [48, 49])
theorem w324 : vrf GG [(4, g316), (1, g317), (1, g318), (1, g319)] [] 300 4 g324
  (uK (uC kN36 (uE kI0 kI3 (uE kJ1 kI3 (uE kI0 kI3 uE0))) (uA kN0 (rA kI47) (uA kN1 (rA kI4) (uA kN2 (rA kI39) (uA kN3 (uis kN0) (uA kN4 (uic kI3) (uA kN5 (uis kN1) (uA kN6 (uis kN2) uA0))))))) uS0 uO0 (Int.ofNat (nat_lit 96286)) (uL kJ24090 kN2 uL0))
  (uK (uC kN54 (uE kI0 kI3 (uE kJ1 kI3 (uE kI0 kI2 (uE kI0 kI4 uE0)))) (uA kN0 (rA kI47) (uA kN1 (rA kI4) (uA kN2 (rA kI39) (uA kN3 (uis kN0) (uA kN4 (uic kI3) (uA kN5 (uis kN1) (uA kN6 (uis kN2) (uA kN7 (uis kN3) uA0)))))))) uS0 uO0 (Int.ofNat (nat_lit 92088)) (uL kJ3960 kN3 (uL kJ24090 kN2 uL0)))
  (uK (uC kN64 (uE kI0 kI3 (uE kI0 kI3 (uE kI0 kI2 (uE kI0 kI3 (uE kI0 kI9 uE0))))) (uA kN0 (rA kI47) (uA kN1 (rA kI4) (uA kN2 (rA kI39) (uA kN3 (uis kN0) (uA kN4 (uic kI3) (uA kN5 (uis kN1) (uA kN6 (uis kN2) (uA kN7 (uis kN3) (uA kN8 (uis kN4) uA0))))))))) uS0 uO0 (Int.ofNat (nat_lit 91518)) (uL kJ330 kN4 (uL kJ24090 kN2 (uL kJ3960 kN3 uL0))))
  (uK (uC kN94 (uE kI0 kI3 (uE kI0 kI3 (uE kI0 kI2 (uE kI0 kI3 (uE kI0 kI8 (uE kI0 kI7 (uE kI1 kI9 uE0))))))) (uA kN0 (rA kI47) (uA kN1 (rA kI4) (uA kN2 (rA kI39) (uA kN3 (uis kN0) (uA kN4 (uic kI3) (uA kN5 (uis kN1) (uA kN6 (uis kN2) (uA kN7 (uis kN3) (uA kN8 (uis kN4) uA0))))))))) (uS (uis kN5) uS0) (uO kN4 kN1 (uis kN6) uO0) (Int.ofNat (nat_lit 91488)) (uL kJ330 kN4 (uL kJ24090 kN2 (uL kJ3960 kN3 uL0))))
  uK0)))) = true := by decide +kernel
theorem r324 {l : Launch} {D : va_G} {tys : List (ClassId × FieldType)} {A : Nat → Prop} {ad : Nat → Nat} (hAD : ∀ i : Nat, ad (1000 + i) = D.2 1000 i) : CRok l D tys A ad GG 5 g324 := CR_of_vrf (dep := 4) hAD (List.forall_mem_cons.mpr ⟨r316 hAD, List.forall_mem_cons.mpr ⟨r317 hAD, List.forall_mem_cons.mpr ⟨r318 hAD, List.forall_mem_cons.mpr ⟨r319 hAD, fun c hc => by cases hc⟩⟩⟩⟩) T2OK_nil w324
noncomputable def g325 : CR := (52, [(2, 0, 0), (0, 0, 3), (0, 3, 3)], [], some (0, (-2147483648), 2147483647), [], [48, 49])
theorem w325 : vrf GG [(5, g324), (4, g267)] [] 300 5 g325
  [] = true := by decide +kernel
theorem r325 {l : Launch} {D : va_G} {tys : List (ClassId × FieldType)} {A : Nat → Prop} {ad : Nat → Nat} (hAD : ∀ i : Nat, ad (1000 + i) = D.2 1000 i) : CRok l D tys A ad GG 6 g325 := CR_of_vrf (dep := 5) hAD (List.forall_mem_cons.mpr ⟨r324 hAD, List.forall_mem_cons.mpr ⟨r267 hAD, fun c hc => by cases hc⟩⟩) T2OK_nil w325
noncomputable def g326 : CR := (118, [(2, 47, 47), (2, 4, 4), (2, 39, 39), (0, 0, 3), (0, 4, 4)], [], some (0, (-2147483648), 2147483647), [], [48, 49])
theorem w326 : vrf GG [(4, g316), (1, g317), (1, g318), (1, g319)] [] 300 4 g326
  (uK (uC kN36 (uE kI0 kI3 (uE kJ1 kI4 (uE kI0 kI4 uE0))) (uA kN0 (rA kI47) (uA kN1 (rA kI4) (uA kN2 (rA kI39) (uA kN3 (uis kN0) (uA kN4 (uic kI4) (uA kN5 (uis kN1) (uA kN6 (uis kN2) uA0))))))) uS0 uO0 (Int.ofNat (nat_lit 140176)) (uL kJ28050 kN2 uL0))
  (uK (uC kN54 (uE kI0 kI3 (uE kJ1 kI4 (uE kI0 kI3 (uE kI0 kI5 uE0)))) (uA kN0 (rA kI47) (uA kN1 (rA kI4) (uA kN2 (rA kI39) (uA kN3 (uis kN0) (uA kN4 (uic kI4) (uA kN5 (uis kN1) (uA kN6 (uis kN2) (uA kN7 (uis kN3) uA0)))))))) uS0 uO0 (Int.ofNat (nat_lit 135978)) (uL kJ3960 kN3 (uL kJ28050 kN2 uL0)))
  (uK (uC kN64 (uE kI0 kI3 (uE kI0 kI4 (uE kI0 kI3 (uE kI0 kI4 (uE kI0 kI9 uE0))))) (uA kN0 (rA kI47) (uA kN1 (rA kI4) (uA kN2 (rA kI39) (uA kN3 (uis kN0) (uA kN4 (uic kI4) (uA kN5 (uis kN1) (uA kN6 (uis kN2) (uA kN7 (uis kN3) (uA kN8 (uis kN4) uA0))))))))) uS0 uO0 (Int.ofNat (nat_lit 135408)) (uL kJ330 kN4 (uL kJ28050 kN2 (uL kJ3960 kN3 uL0))))
  (uK (uC kN94 (uE kI0 kI3 (uE kI0 kI4 (uE kI0 kI3 (uE kI0 kI4 (uE kI0 kI8 (uE kI0 kI7 (uE kI1 kI9 uE0))))))) (uA kN0 (rA kI47) (uA kN1 (rA kI4) (uA kN2 (rA kI39) (uA kN3 (uis kN0) (uA kN4 (uic kI4) (uA kN5 (uis kN1) (uA kN6 (uis kN2) (uA kN7 (uis kN3) (uA kN8 (uis kN4) uA0))))))))) (uS (uis kN5) uS0) (uO kN4 kN1 (uis kN6) uO0) (Int.ofNat (nat_lit 135378)) (uL kJ330 kN4 (uL kJ28050 kN2 (uL kJ3960 kN3 uL0))))
  uK0)))) = true := by decide +kernel
theorem r326 {l : Launch} {D : va_G} {tys : List (ClassId × FieldType)} {A : Nat → Prop} {ad : Nat → Nat} (hAD : ∀ i : Nat, ad (1000 + i) = D.2 1000 i) : CRok l D tys A ad GG 5 g326 := CR_of_vrf (dep := 4) hAD (List.forall_mem_cons.mpr ⟨r316 hAD, List.forall_mem_cons.mpr ⟨r317 hAD, List.forall_mem_cons.mpr ⟨r318 hAD, List.forall_mem_cons.mpr ⟨r319 hAD, fun c hc => by cases hc⟩⟩⟩⟩) T2OK_nil w326
noncomputable def g327 : CR := (52, [(2, 0, 0), (0, 0, 3), (0, 4, 4)], [], some (0, (-2147483648), 2147483647), [], [48, 49])
theorem w327 : vrf GG [(5, g326), (4, g267)] [] 300 5 g327
  [] = true := by decide +kernel
theorem r327 {l : Launch} {D : va_G} {tys : List (ClassId × FieldType)} {A : Nat → Prop} {ad : Nat → Nat} (hAD : ∀ i : Nat, ad (1000 + i) = D.2 1000 i) : CRok l D tys A ad GG 6 g327 := CR_of_vrf (dep := 5) hAD (List.forall_mem_cons.mpr ⟨r326 hAD, List.forall_mem_cons.mpr ⟨r267 hAD, fun c hc => by cases hc⟩⟩) T2OK_nil w327
noncomputable def g328 : CR := (119, [(2, 39, 39), (0, 0, 3), (0, 0, 5), (0, 0, 8)], [], some (0, 0, 6), [], [])
theorem w328 : vrf GG [] [] 541 3 g328
  (uK (uC kN5 (uE kI0 kI3 (uE kI0 kI5 (uE kI0 kI8 (uE kI0 kI6 uE0)))) (uA kN0 (rA kI39) (uA kN1 (uis kN0) (uA kN2 (uis kN1) (uA kN3 (uis kN2) (uA kN4 (uis kN3) uA0))))) uS0 uO0 (Int.ofNat (nat_lit 1636)) (uL kI1648 kN3 uL0))
  (uK (uC kN30 (uE kI0 kI3 (uE kI0 kI5 (uE kI0 kI8 (uE kI1 kI6 (uE kI0 kI1 uE0))))) (uA kN0 (rA kI39) (uA kN1 (uis kN0) (uA kN2 (uis kN1) (uA kN3 (uis kN2) (uA kN4 (uis kN3) uA0))))) (uS (uis kN4) uS0) uO0 (Int.ofNat (nat_lit 1611)) (uL kI1648 kN3 uL0))
  (uK (uC kN35 (uE kI0 kI3 (uE kI0 kI5 (uE kI0 kI8 (uE kI1 kI6 (uE kI0 kI1 (uE kI0 kI5 uE0)))))) (uA kN0 (rA kI39) (uA kN1 (uis kN0) (uA kN2 (uis kN1) (uA kN3 (uis kN2) (uA kN4 (uis kN3) (uA kN5 (uis kN4) (uA kN6 (uis kN5) uA0))))))) uS0 uO0 (Int.ofNat (nat_lit 1261)) (uL kJ206 kN5 (uL kI1648 kN3 uL0)))
  (uK (uC kN76 (uE kI0 kI3 (uE kI0 kI5 (uE kI0 kI8 (uE kI2 kI6 (uE kI0 kI1 (uE kI0 kI4 (uE kI0 kI1 (uE kI0 kI1 uE0)))))))) (uA kN0 (rA kI39) (uA kN1 (uis kN0) (uA kN2 (uis kN1) (uA kN3 (uis kN2) (uA kN4 (uis kN3) (uA kN5 (uis kN4) (uA kN6 (uis kN5) uA0))))))) (uS (uis kN6) (uS (uis kN7) uS0)) uO0 kI1220 (uL kJ206 kN5 (uL kI1648 kN3 uL0)))
  uK0)))) = true := by decide +kernel
theorem r328 {l : Launch} {D : va_G} {tys : List (ClassId × FieldType)} {A : Nat → Prop} {ad : Nat → Nat} (hAD : ∀ i : Nat, ad (1000 + i) = D.2 1000 i) : CRok l D tys A ad GG 4 g328 := CR_of_vrf (dep := 3) hAD (fun c hc => by cases hc) T2OK_nil w328
noncomputable def g329 : CR := (118, [(2, 47, 47), (2, 4, 4), (2, 39, 39), (0, 0, 3), (0, 5, 5)], [], some (0, (-2147483648), 2147483647), [], [48, 49])
theorem w329 : vrf GG [(4, g328), (1, g317), (1, g318), (1, g319)] [] 300 4 g329
  (uK (uC kN36 (uE kI0 kI3 (uE kJ1 kI5 (uE kI0 kI5 uE0))) (uA kN0 (rA kI47) (uA kN1 (rA kI4) (uA kN2 (rA kI39) (uA kN3 (uis kN0) (uA kN4 (uic kI5) (uA kN5 (uis kN1) (uA kN6 (uis kN2) uA0))))))) uS0 uO0 (Int.ofNat (nat_lit 191986)) (uL kJ32010 kN2 uL0))
  (uK (uC kN54 (uE kI0 kI3 (uE kJ1 kI5 (uE kI0 kI4 (uE kI0 kI6 uE0)))) (uA kN0 (rA kI47) (uA kN1 (rA kI4) (uA kN2 (rA kI39) (uA kN3 (uis kN0) (uA kN4 (uic kI5) (uA kN5 (uis kN1) (uA kN6 (uis kN2) (uA kN7 (uis kN3) uA0)))))))) uS0 uO0 (Int.ofNat (nat_lit 187788)) (uL kJ3960 kN3 (uL kJ32010 kN2 uL0)))
  (uK (uC kN64 (uE kI0 kI3 (uE kI0 kI5 (uE kI0 kI4 (uE kI0 kI5 (uE kI0 kI9 uE0))))) (uA kN0 (rA kI47) (uA kN1 (rA kI4) (uA kN2 (rA kI39) (uA kN3 (uis kN0) (uA kN4 (uic kI5) (uA kN5 (uis kN1) (uA kN6 (uis kN2) (uA kN7 (uis kN3) (uA kN8 (uis kN4) uA0))))))))) uS0 uO0 (Int.ofNat (nat_lit 187218)) (uL kJ330 kN4 (uL kJ32010 kN2 (uL kJ3960 kN3 uL0))))
  (uK (uC kN94 (uE kI0 kI3 (uE kI0 kI5 (uE kI0 kI4 (uE kI0 kI5 (uE kI0 kI8 (uE kI0 kI6 (uE kI1 kI9 uE0))))))) (uA kN0 (rA kI47) (uA kN1 (rA kI4) (uA kN2 (rA kI39) (uA kN3 (uis kN0) (uA kN4 (uic kI5) (uA kN5 (uis kN1) (uA kN6 (uis kN2) (uA kN7 (uis kN3) (uA kN8 (uis kN4) uA0))))))))) (uS (uis kN5) uS0) (uO kN4 kN1 (uis kN6) uO0) (Int.ofNat (nat_lit 187188)) (uL kJ330 kN4 (uL kJ32010 kN2 (uL kJ3960 kN3 uL0))))
  uK0)))) = true := by decide +kernel
theorem r329 {l : Launch} {D : va_G} {tys : List (ClassId × FieldType)} {A : Nat → Prop} {ad : Nat → Nat} (hAD : ∀ i : Nat, ad (1000 + i) = D.2 1000 i) : CRok l D tys A ad GG 5 g329 := CR_of_vrf (dep := 4) hAD (List.forall_mem_cons.mpr ⟨r328 hAD, List.forall_mem_cons.mpr ⟨r317 hAD, List.forall_mem_cons.mpr ⟨r318 hAD, List.forall_mem_cons.mpr ⟨r319 hAD, fun c hc => by cases hc⟩⟩⟩⟩) T2OK_nil w329
noncomputable def g330 : CR := (52, [(2, 0, 0), (0, 0, 3), (0, 5, 5)], [], some (0, (-2147483648), 2147483647), [], [48, 49])
theorem w330 : vrf GG [(5, g329), (4, g267)] [] 300 5 g330
  [] = true := by decide +kernel
theorem r330 {l : Launch} {D : va_G} {tys : List (ClassId × FieldType)} {A : Nat → Prop} {ad : Nat → Nat} (hAD : ∀ i : Nat, ad (1000 + i) = D.2 1000 i) : CRok l D tys A ad GG 6 g330 := CR_of_vrf (dep := 5) hAD (List.forall_mem_cons.mpr ⟨r329 hAD, List.forall_mem_cons.mpr ⟨r267 hAD, fun c hc => by cases hc⟩⟩) T2OK_nil w330
noncomputable def g331 : CR := (118, [(2, 47, 47), (2, 4, 4), (2, 39, 39), (0, 0, 3), (0, 6, 6)], [], some (0, (-2147483648), 2147483647), [], [48, 49])
theorem w331 : vrf GG [(4, g316), (1, g317), (1, g318), (1, g319)] [] 300 4 g331
  (uK (uC kN36 (uE kI0 kI3 (uE kJ1 kI6 (uE kI0 kI6 uE0))) (uA kN0 (rA kI47) (uA kN1 (rA kI4) (uA kN2 (rA kI39) (uA kN3 (uis kN0) (uA kN4 (uic kI6) (uA kN5 (uis kN1) (uA kN6 (uis kN2) uA0))))))) uS0 uO0 (Int.ofNat (nat_lit 251716)) (uL kJ35970 kN2 uL0))
  (uK (uC kN54 (uE kI0 kI3 (uE kJ1 kI6 (uE kI0 kI5 (uE kI0 kI7 uE0)))) (uA kN0 (rA kI47) (uA kN1 (rA kI4) (uA kN2 (rA kI39) (uA kN3 (uis kN0) (uA kN4 (uic kI6) (uA kN5 (uis kN1) (uA kN6 (uis kN2) (uA kN7 (uis kN3) uA0)))))))) uS0 uO0 (Int.ofNat (nat_lit 247518)) (uL kJ3960 kN3 (uL kJ35970 kN2 uL0)))
  (uK (uC kN64 (uE kI0 kI3 (uE kI0 kI6 (uE kI0 kI5 (uE kI0 kI6 (uE kI0 kI9 uE0))))) (uA kN0 (rA kI47) (uA kN1 (rA kI4) (uA kN2 (rA kI39) (uA kN3 (uis kN0) (uA kN4 (uic kI6) (uA kN5 (uis kN1) (uA kN6 (uis kN2) (uA kN7 (uis kN3) (uA kN8 (uis kN4) uA0))))))))) uS0 uO0 (Int.ofNat (nat_lit 246948)) (uL kJ330 kN4 (uL kJ35970 kN2 (uL kJ3960 kN3 uL0))))
  (uK (uC kN94 (uE kI0 kI3 (uE kI0 kI6 (uE kI0 kI5 (uE kI0 kI6 (uE kI0 kI8 (uE kI0 kI7 (uE kI1 kI9 uE0))))))) (uA kN0 (rA kI47) (uA kN1 (rA kI4) (uA kN2 (rA kI39) (uA kN3 (uis kN0) (uA kN4 (uic kI6) (uA kN5 (uis kN1) (uA kN6 (uis kN2) (uA kN7 (uis kN3) (uA kN8 (uis kN4) uA0))))))))) (uS (uis kN5) uS0) (uO kN4 kN1 (uis kN6) uO0) (Int.ofNat (nat_lit 246918)) (uL kJ330 kN4 (uL kJ35970 kN2 (uL kJ3960 kN3 uL0))))
  uK0)))) = true := by decide +kernel
theorem r331 {l : Launch} {D : va_G} {tys : List (ClassId × FieldType)} {A : Nat → Prop} {ad : Nat → Nat} (hAD : ∀ i : Nat, ad (1000 + i) = D.2 1000 i) : CRok l D tys A ad GG 5 g331 := CR_of_vrf (dep := 4) hAD (List.forall_mem_cons.mpr ⟨r316 hAD, List.forall_mem_cons.mpr ⟨r317 hAD, List.forall_mem_cons.mpr ⟨r318 hAD, List.forall_mem_cons.mpr ⟨r319 hAD, fun c hc => by cases hc⟩⟩⟩⟩) T2OK_nil w331
noncomputable def g332 : CR := (52, [(2, 0, 0), (0, 0, 3), (0, 6, 6)], [], some (0, (-2147483648), 2147483647), [], [48, 49])
theorem w332 : vrf GG [(5, g331), (4, g267)] [] 300 5 g332
  [] = true := by decide +kernel
theorem r332 {l : Launch} {D : va_G} {tys : List (ClassId × FieldType)} {A : Nat → Prop} {ad : Nat → Nat} (hAD : ∀ i : Nat, ad (1000 + i) = D.2 1000 i) : CRok l D tys A ad GG 6 g332 := CR_of_vrf (dep := 5) hAD (List.forall_mem_cons.mpr ⟨r331 hAD, List.forall_mem_cons.mpr ⟨r267 hAD, fun c hc => by cases hc⟩⟩) T2OK_nil w332
noncomputable def g333 : CR := (305, [(2, 90, 90), (0, (-2147483648), (-1)), (0, 0, 0)], [((91, 0), (0, 0, 0))], some (0, (-2), (-2)), [], [])
theorem w333 : vrf GG [] [] 300 2 g333
  [] = true := by decide +kernel
theorem r333 {l : Launch} {D : va_G} {tys : List (ClassId × FieldType)} {A : Nat → Prop} {ad : Nat → Nat} (hAD : ∀ i : Nat, ad (1000 + i) = D.2 1000 i) : CRok l D tys A ad GG 3 g333 := CR_of_vrf (dep := 2) hAD (fun c hc => by cases hc) T2OK_nil w333
noncomputable def g334 : CR := (305, [(2, 90, 90), (0, (-2147483648), (-1)), (0, 1, 1)], [((91, 0), (0, 0, 0))], some (0, (-2), (-2)), [], [])
theorem w334 : vrf GG [] [] 300 2 g334
  [] = true := by decide +kernel
theorem r334 {l : Launch} {D : va_G} {tys : List (ClassId × FieldType)} {A : Nat → Prop} {ad : Nat → Nat} (hAD : ∀ i : Nat, ad (1000 + i) = D.2 1000 i) : CRok l D tys A ad GG 3 g334 := CR_of_vrf (dep := 2) hAD (fun c hc => by cases hc) T2OK_nil w334
noncomputable def g335 : CR := (311, [(2, 90, 90), (0, (-2147483648), (-1)), (0, (-2147483648), 2147483647)], [((91, 0), (0, 0, 0))], some (0, (-2), (-2)), [], [])
theorem w335 : vrf GG [(3, g333), (3, g334)] [] 300 3 g335
  [] = true := by decide +kernel
theorem r335 {l : Launch} {D : va_G} {tys : List (ClassId × FieldType)} {A : Nat → Prop} {ad : Nat → Nat} (hAD : ∀ i : Nat, ad (1000 + i) = D.2 1000 i) : CRok l D tys A ad GG 4 g335 := CR_of_vrf (dep := 3) hAD (List.forall_mem_cons.mpr ⟨r333 hAD, List.forall_mem_cons.mpr ⟨r334 hAD, fun c hc => by cases hc⟩⟩) T2OK_nil w335
noncomputable def g336 : CR := (305, [(2, 90, 90), (0, (-2147483648), (-1)), (0, 0, 0)], [((91, 0), (0, 1, 9))], some (0, (-2), (-2)), [], [])
theorem w336 : vrf GG [] [] 300 2 g336
  [] = true := by decide +kernel
theorem r336 {l : Launch} {D : va_G} {tys : List (ClassId × FieldType)} {A : Nat → Prop} {ad : Nat → Nat} (hAD : ∀ i : Nat, ad (1000 + i) = D.2 1000 i) : CRok l D tys A ad GG 3 g336 := CR_of_vrf (dep := 2) hAD (fun c hc => by cases hc) T2OK_nil w336
noncomputable def g337 : CR := (305, [(2, 90, 90), (0, (-2147483648), (-1)), (0, 1, 1)], [((91, 0), (0, 1, 9))], some (0, (-2), (-2)), [], [])
theorem w337 : vrf GG [] [] 300 2 g337
  [] = true := by decide +kernel
theorem r337 {l : Launch} {D : va_G} {tys : List (ClassId × FieldType)} {A : Nat → Prop} {ad : Nat → Nat} (hAD : ∀ i : Nat, ad (1000 + i) = D.2 1000 i) : CRok l D tys A ad GG 3 g337 := CR_of_vrf (dep := 2) hAD (fun c hc => by cases hc) T2OK_nil w337
noncomputable def g338 : CR := (311, [(2, 90, 90), (0, (-2147483648), (-1)), (0, (-2147483648), 2147483647)], [((91, 0), (0, 1, 9))], some (0, (-2), (-2)), [], [])
theorem w338 : vrf GG [(3, g336), (3, g337)] [] 300 3 g338
  [] = true := by decide +kernel
theorem r338 {l : Launch} {D : va_G} {tys : List (ClassId × FieldType)} {A : Nat → Prop} {ad : Nat → Nat} (hAD : ∀ i : Nat, ad (1000 + i) = D.2 1000 i) : CRok l D tys A ad GG 4 g338 := CR_of_vrf (dep := 3) hAD (List.forall_mem_cons.mpr ⟨r336 hAD, List.forall_mem_cons.mpr ⟨r337 hAD, fun c hc => by cases hc⟩⟩) T2OK_nil w338
noncomputable def g339 : CR := (305, [(2, 90, 90), (0, 4, 2147483647), (0, 0, 0)], [((91, 0), (0, 0, 0))], some (0, (-2), (-2)), [], [])
theorem w339 : vrf GG [] [] 300 2 g339
  [] = true := by decide +kernel
theorem r339 {l : Launch} {D : va_G} {tys : List (ClassId × FieldType)} {A : Nat → Prop} {ad : Nat → Nat} (hAD : ∀ i : Nat, ad (1000 + i) = D.2 1000 i) : CRok l D tys A ad GG 3 g339 := CR_of_vrf (dep := 2) hAD (fun c hc => by cases hc) T2OK_nil w339
noncomputable def g340 : CR := (305, [(2, 90, 90), (0, 4, 2147483647), (0, 1, 1)], [((91, 0), (0, 0, 0))], some (0, (-2), (-2)), [], [])
theorem w340 : vrf GG [] [] 300 2 g340
  [] = true := by decide +kernel
theorem r340 {l : Launch} {D : va_G} {tys : List (ClassId × FieldType)} {A : Nat → Prop} {ad : Nat → Nat} (hAD : ∀ i : Nat, ad (1000 + i) = D.2 1000 i) : CRok l D tys A ad GG 3 g340 := CR_of_vrf (dep := 2) hAD (fun c hc => by cases hc) T2OK_nil w340
noncomputable def g341 : CR := (311, [(2, 90, 90), (0, 4, 2147483647), (0, (-2147483648), 2147483647)], [((91, 0), (0, 0, 0))], some (0, (-2), (-2)), [], [])
theorem w341 : vrf GG [(3, g339), (3, g340)] [] 300 3 g341
  [] = true := by decide +kernel
theorem r341 {l : Launch} {D : va_G} {tys : List (ClassId × FieldType)} {A : Nat → Prop} {ad : Nat → Nat} (hAD : ∀ i : Nat, ad (1000 + i) = D.2 1000 i) : CRok l D tys A ad GG 4 g341 := CR_of_vrf (dep := 3) hAD (List.forall_mem_cons.mpr ⟨r339 hAD, List.forall_mem_cons.mpr ⟨r340 hAD, fun c hc => by cases hc⟩⟩) T2OK_nil w341
noncomputable def g342 : CR := (305, [(2, 90, 90), (0, 4, 2147483647), (0, 0, 0)], [((91, 0), (0, 1, 9))], some (0, (-2), (-2)), [], [])
theorem w342 : vrf GG [] [] 300 2 g342
  [] = true := by decide +kernel
theorem r342 {l : Launch} {D : va_G} {tys : List (ClassId × FieldType)} {A : Nat → Prop} {ad : Nat → Nat} (hAD : ∀ i : Nat, ad (1000 + i) = D.2 1000 i) : CRok l D tys A ad GG 3 g342 := CR_of_vrf (dep := 2) hAD (fun c hc => by cases hc) T2OK_nil w342
noncomputable def g343 : CR := (305, [(2, 90, 90), (0, 4, 2147483647), (0, 1, 1)], [((91, 0), (0, 1, 9))], some (0, (-2), (-2)), [], [])
theorem w343 : vrf GG [] [] 300 2 g343
  [] = true := by decide +kernel
theorem r343 {l : Launch} {D : va_G} {tys : List (ClassId × FieldType)} {A : Nat → Prop} {ad : Nat → Nat} (hAD : ∀ i : Nat, ad (1000 + i) = D.2 1000 i) : CRok l D tys A ad GG 3 g343 := CR_of_vrf (dep := 2) hAD (fun c hc => by cases hc) T2OK_nil w343
noncomputable def g344 : CR := (311, [(2, 90, 90), (0, 4, 2147483647), (0, (-2147483648), 2147483647)], [((91, 0), (0, 1, 9))], some (0, (-2), (-2)), [], [])
theorem w344 : vrf GG [(3, g342), (3, g343)] [] 300 3 g344
  [] = true := by decide +kernel
theorem r344 {l : Launch} {D : va_G} {tys : List (ClassId × FieldType)} {A : Nat → Prop} {ad : Nat → Nat} (hAD : ∀ i : Nat, ad (1000 + i) = D.2 1000 i) : CRok l D tys A ad GG 4 g344 := CR_of_vrf (dep := 3) hAD (List.forall_mem_cons.mpr ⟨r342 hAD, List.forall_mem_cons.mpr ⟨r343 hAD, fun c hc => by cases hc⟩⟩) T2OK_nil w344
noncomputable def g345 : CR := (305, [(2, 90, 90), (0, 0, 3), (0, 0, 0)], [((91, 0), (0, 0, 0))], some (0, (-2), (-2)), [], [])
theorem w345 : vrf GG [] [] 300 2 g345
  [] = true := by decide +kernel
theorem r345 {l : Launch} {D : va_G} {tys : List (ClassId × FieldType)} {A : Nat → Prop} {ad : Nat → Nat} (hAD : ∀ i : Nat, ad (1000 + i) = D.2 1000 i) : CRok l D tys A ad GG 3 g345 := CR_of_vrf (dep := 2) hAD (fun c hc => by cases hc) T2OK_nil w345
noncomputable def g346 : CR := (311, [(2, 90, 90), (0, 0, 3), (0, (-2147483648), 0)], [((91, 0), (0, 0, 0))], some (0, (-2), (-2)), [], [])
theorem w346 : vrf GG [(3, g345)] [] 300 3 g346
  [] = true := by decide +kernel
theorem r346 {l : Launch} {D : va_G} {tys : List (ClassId × FieldType)} {A : Nat → Prop} {ad : Nat → Nat} (hAD : ∀ i : Nat, ad (1000 + i) = D.2 1000 i) : CRok l D tys A ad GG 4 g346 := CR_of_vrf (dep := 3) hAD (List.forall_mem_cons.mpr ⟨r345 hAD, fun c hc => by cases hc⟩) T2OK_nil w346
noncomputable def g347 : CR := (305, [(2, 90, 90), (0, 0, 3), (0, 0, 0)], [((91, 0), (0, 1, 9))], some (0, (-2), (-2)), [], [])
theorem w347 : vrf GG [] [] 300 2 g347
  [] = true := by decide +kernel
theorem r347 {l : Launch} {D : va_G} {tys : List (ClassId × FieldType)} {A : Nat → Prop} {ad : Nat → Nat} (hAD : ∀ i : Nat, ad (1000 + i) = D.2 1000 i) : CRok l D tys A ad GG 3 g347 := CR_of_vrf (dep := 2) hAD (fun c hc => by cases hc) T2OK_nil w347
noncomputable def g348 : CR := (311, [(2, 90, 90), (0, 0, 3), (0, (-2147483648), 0)], [((91, 0), (0, 1, 9))], some (0, (-2), (-2)), [], [])
theorem w348 : vrf GG [(3, g347)] [] 300 3 g348
  [] = true := by decide +kernel
theorem r348 {l : Launch} {D : va_G} {tys : List (ClassId × FieldType)} {A : Nat → Prop} {ad : Nat → Nat} (hAD : ∀ i : Nat, ad (1000 + i) = D.2 1000 i) : CRok l D tys A ad GG 4 g348 := CR_of_vrf (dep := 3) hAD (List.forall_mem_cons.mpr ⟨r347 hAD, fun c hc => by cases hc⟩) T2OK_nil w348
noncomputable def g349 : CR := (311, [(2, 90, 90), (0, 0, 3), (0, 7, 2147483647)], [((91, 0), (0, 0, 0))], some (0, (-2), (-2)), [], [])
theorem w349 : vrf GG [(3, g345)] [] 300 3 g349
  [] = true := by decide +kernel
theorem r349 {l : Launch} {D : va_G} {tys : List (ClassId × FieldType)} {A : Nat → Prop} {ad : Nat → Nat} (hAD : ∀ i : Nat, ad (1000 + i) = D.2 1000 i) : CRok l D tys A ad GG 4 g349 := CR_of_vrf (dep := 3) hAD (List.forall_mem_cons.mpr ⟨r345 hAD, fun c hc => by cases hc⟩) T2OK_nil w349
noncomputable def g350 : CR := (311, [(2, 90, 90), (0, 0, 3), (0, 7, 2147483647)], [((91, 0), (0, 1, 9))], some (0, (-2), (-2)), [], [])
theorem w350 : vrf GG [(3, g347)] [] 300 3 g350
  [] = true := by decide +kernel
theorem r350 {l : Launch} {D : va_G} {tys : List (ClassId × FieldType)} {A : Nat → Prop} {ad : Nat → Nat} (hAD : ∀ i : Nat, ad (1000 + i) = D.2 1000 i) : CRok l D tys A ad GG 4 g350 := CR_of_vrf (dep := 3) hAD (List.forall_mem_cons.mpr ⟨r347 hAD, fun c hc => by cases hc⟩) T2OK_nil w350
noncomputable def g351 : CR := (305, [(2, 90, 90), (0, 0, 3), (0, 1, 1)], [((91, 0), (0, 0, 0))], some (0, (-6), 0), [], [])
theorem w351 : vrf GG [] [] 300 2 g351
  (uK (uC kN36 (uE kI0 kI3 (uE kI1 kI2147483647 uE0)) (uA kN0 (rA kI90) (uA kN1 (uis kN0) (uA kN2 (uic kI1) (uA kN3 (uic kI0) uA0)))) uS0 (uO kN91 kN0 (uic kI0) (uO kN91 kN5 (uis kN1) uO0)) kI70 uL0)
  uK0) = true := by decide +kernel
theorem r351 {l : Launch} {D : va_G} {tys : List (ClassId × FieldType)} {A : Nat → Prop} {ad : Nat → Nat} (hAD : ∀ i : Nat, ad (1000 + i) = D.2 1000 i) : CRok l D tys A ad GG 3 g351 := CR_of_vrf (dep := 2) hAD (fun c hc => by cases hc) T2OK_nil w351
noncomputable def g352 : CR := (309, [(2, 90, 90), (0, 1, 1)], [((91, 0), (0, 0, 0))], some (0, 0, 0), [], [])
theorem w352 : vrf GG [] [] 300 0 g352
  [] = true := by decide +kernel
theorem r352 {l : Launch} {D : va_G} {tys : List (ClassId × FieldType)} {A : Nat → Prop} {ad : Nat → Nat} (hAD : ∀ i : Nat, ad (1000 + i) = D.2 1000 i) : CRok l D tys A ad GG 1 g352 := CR_of_vrf (dep := 0) hAD (fun c hc => by cases hc) T2OK_nil w352
noncomputable def g353 : CR := (311, [(2, 90, 90), (0, 0, 3), (0, 1, 1)], [((91, 0), (0, 0, 0))], some (0, (-6), 0), [], [])
theorem w353 : vrf GG [(3, g351), (1, g352)] [] 300 3 g353
  (uK (uC kN27 (uE kI0 kI3 uE0) (uA kN0 (rA kI90) (uA kN1 (uis kN0) (uA kN2 (uic kI1) (uA kN3 (uic kI0) (uA kN4 (uic kI0) (uA kN5 (uic kI0) uA0)))))) uS0 (uO kN91 kN0 (uic kI0) uO0) kI90 uL0)
  uK0) = true := by decide +kernel
theorem r353 {l : Launch} {D : va_G} {tys : List (ClassId × FieldType)} {A : Nat → Prop} {ad : Nat → Nat} (hAD : ∀ i : Nat, ad (1000 + i) = D.2 1000 i) : CRok l D tys A ad GG 4 g353 := CR_of_vrf (dep := 3) hAD (List.forall_mem_cons.mpr ⟨r351 hAD, List.forall_mem_cons.mpr ⟨r352 hAD, fun c hc => by cases hc⟩⟩) T2OK_nil w353
noncomputable def g354 : CR := (305, [(2, 90, 90), (0, 0, 3), (0, 1, 1)], [((91, 0), (0, 1, 9))], some (0, (-6), 0), [], [])
theorem w354 : vrf GG [] [] 300 2 g354
  (uK (uC kN36 (uE kI0 kI3 (uE kI0 kI60 (uE kI1 kI9 (uE kI1 kI2147483647 uE0)))) (uA kN0 (rA kI90) (uA kN1 (uis kN0) (uA kN2 (uic kI1) (uA kN3 (uis kN1) uA0)))) uS0 (uO kN91 kN0 (uis kN2) (uO kN91 kN5 (uis kN3) uO0)) (Int.ofNat (nat_lit 8710)) (uL kJ144 kN1 uL0))
  uK0) = true := by decide +kernel
theorem r354 {l : Launch} {D : va_G} {tys : List (ClassId × FieldType)} {A : Nat → Prop} {ad : Nat → Nat} (hAD : ∀ i : Nat, ad (1000 + i) = D.2 1000 i) : CRok l D tys A ad GG 3 g354 := CR_of_vrf (dep := 2) hAD (fun c hc => by cases hc) T2OK_nil w354
noncomputable def g355 : CR := (307, [(2, 90, 90), (0, 0, 0)], [((91, 0), (0, 1, 9)), ((107, 0), (0, (-1), (-1)))], some (0, 1, 1), [], [])
theorem w355 : vrf GG [] [] 300 0 g355
  (uK (uC kN2 (uE kI1 kI9 uE0) (uA kN0 (rA kI90) (uA kN1 (uic kI0) (uA kN2 (uic kI0) uA0))) uS0 (uO kN91 kN0 (uis kN0) (uO kN107 kN0 (uic kJ1) uO0)) kI510 uL0)
  (uK (uC kN22 (uE kI0 kI6 (uE kI1 kI9 uE0)) (uA kN0 (rA kI90) (uA kN1 (uic kI0) (uA kN2 (uic kI0) (uA kN3 (uic kI1) (uA kN4 (uic kI0) uA0))))) uS0 (uO kN90 kN30 (uis kN0) (uO kN91 kN0 (uis kN1) (uO kN107 kN0 (uic kJ1) uO0))) kI209 uL0)
  (uK (uC kN70 (uE kI0 kI6 (uE kI1 kI9 uE0)) (uA kN0 (rA kI90) (uA kN1 (uic kI0) (uA kN2 (uic kI0) (uA kN3 (uic kI1) (uA kN4 (uic kI0) uA0))))) uS0 (uO kN90 kN30 (uis kN0) (uO kN91 kN0 (uis kN1) (uO kN107 kN0 (uic kJ1) uO0))) kI98 uL0)
  uK0))) = true := by decide +kernel
theorem r355 {l : Launch} {D : va_G} {tys : List (ClassId × FieldType)} {A : Nat → Prop} {ad : Nat → Nat} (hAD : ∀ i : Nat, ad (1000 + i) = D.2 1000 i) : CRok l D tys A ad GG 1 g355 := CR_of_vrf (dep := 0) hAD (fun c hc => by cases hc) T2OK_nil w355
noncomputable def g356 : CR := (307, [(2, 90, 90), (0, 0, 0)], [((91, 0), (0, 1, 9)), ((107, 0), (0, 0, 0))], some (0, 1, 1), [], [])
theorem w356 : vrf GG [] [] 300 0 g356
  (uK (uC kN2 (uE kI1 kI9 uE0) (uA kN0 (rA kI90) (uA kN1 (uic kI0) (uA kN2 (uic kI0) uA0))) uS0 (uO kN91 kN0 (uis kN0) (uO kN107 kN0 (uic kI0) uO0)) kI510 uL0)
  (uK (uC kN22 (uE kI0 kI6 (uE kI1 kI9 uE0)) (uA kN0 (rA kI90) (uA kN1 (uic kI0) (uA kN2 (uic kI0) (uA kN3 (uic kI1) (uA kN4 (uic kI0) uA0))))) uS0 (uO kN90 kN30 (uis kN0) (uO kN91 kN0 (uis kN1) (uO kN107 kN0 (uic kI0) uO0))) kI209 uL0)
  (uK (uC kN70 (uE kI0 kI6 (uE kI1 kI9 uE0)) (uA kN0 (rA kI90) (uA kN1 (uic kI0) (uA kN2 (uic kI0) (uA kN3 (uic kI1) (uA kN4 (uic kI0) uA0))))) uS0 (uO kN90 kN30 (uis kN0) (uO kN91 kN0 (uis kN1) (uO kN107 kN0 (uic kI0) uO0))) kI98 uL0)
  uK0))) = true := by decide +kernel
theorem r356 {l : Launch} {D : va_G} {tys : List (ClassId × FieldType)} {A : Nat → Prop} {ad : Nat → Nat} (hAD : ∀ i : Nat, ad (1000 + i) = D.2 1000 i) : CRok l D tys A ad GG 1 g356 := CR_of_vrf (dep := 0) hAD (fun c hc => by cases hc) T2OK_nil w356
noncomputable def g357 : CR := (307, [(2, 90, 90), (0, 0, 0)], [((91, 0), (0, 1, 9)), ((107, 0), (0, 1, 1))], some (0, 0, 1), [], [])
theorem w357 : vrf GG [] [] 300 1 g357
  (uK (uC kN2 (uE kI0 kI6 (uE kI1 kI9 uE0)) (uA kN0 (rA kI90) (uA kN1 (uic kI0) (uA kN2 (uis kN0) uA0))) uS0 (uO kN91 kN0 (uis kN1) (uO kN107 kN0 (uic kI1) uO0)) kI4810 (uL kJ688 kN0 uL0))
  (uK (uC kN22 (uE kI0 kI5 (uE kI0 kI1 (uE kI0 kI1 (uE kI1 kI6 (uE kI1 kI9 uE0))))) (uA kN0 (rA kI90) (uA kN1 (uic kI0) (uA kN2 (uis kN0) (uA kN3 (uis kN1) (uA kN4 (uis kN2) uA0))))) uS0 (uO kN90 kN30 (uis kN3) (uO kN91 kN0 (uis kN4) (uO kN107 kN0 (uic kI1) uO0))) kI4509 (uL kJ172 kN2 (uL kJ688 kN0 uL0)))
  (uK (uC kN63 (uE kI0 kI5 (uE kI0 kI1 (uE kI1 kI6 (uE kI1 kI9 (uE kJ9223372036854775808 kI9223372036854775807 uE0))))) (uA kN0 (rA kI90) (uA kN1 (uic kI0) (uA kN2 (uis kN0) (uA kN3 (uic kI1) (uA kN4 (uic kI0) uA0))))) (uS (uis kN1) uS0) (uO kN90 kN30 (uis kN2) (uO kN91 kN0 (uis kN3) (uO kN107 kN0 (uic kI1) (uO kN109 kN0 (uls kN4) uO0)))) kI4468 (uL kJ688 kN0 uL0))
  (uK (uC kN70 (uE kI0 kI5 (uE kI0 kI1 (uE kI0 kI1 (uE kI1 kI6 (uE kI1 kI9 uE0))))) (uA kN0 (rA kI90) (uA kN1 (uic kI0) (uA kN2 (uis kN0) (uA kN3 (uis kN1) (uA kN4 (uis kN2) uA0))))) uS0 (uO kN90 kN30 (uis kN3) (uO kN91 kN0 (uis kN4) (uO kN107 kN0 (uic kI1) uO0))) kI4226 (uL kJ688 kN0 uL0))
  uK0)))) = true := by decide +kernel
theorem r357 {l : Launch} {D : va_G} {tys : List (ClassId × FieldType)} {A : Nat → Prop} {ad : Nat → Nat} (hAD : ∀ i : Nat, ad (1000 + i) = D.2 1000 i) : CRok l D tys A ad GG 2 g357 := CR_of_vrf (dep := 1) hAD (fun c hc => by cases hc) T2OK_nil w357
noncomputable def g358 : CR := (307, [(2, 90, 90), (0, 0, 0)], [((91, 0), (0, 1, 9)), ((107, 0), (0, 2, 2))], some (0, 0, 1), [], [])
theorem w358 : vrf GG [] [] 300 1 g358
  (uK (uC kN2 (uE kI0 kI5 (uE kI1 kI9 uE0)) (uA kN0 (rA kI90) (uA kN1 (uic kI0) (uA kN2 (uis kN0) uA0))) uS0 (uO kN91 kN0 (uis kN1) (uO kN107 kN0 (uic kI2) uO0)) kI5154 (uL kJ860 kN0 uL0))
  (uK (uC kN22 (uE kI0 kI4 (uE kI0 kI1 (uE kI0 kI2 (uE kI2 kI6 (uE kI1 kI9 uE0))))) (uA kN0 (rA kI90) (uA kN1 (uic kI0) (uA kN2 (uis kN0) (uA kN3 (uis kN1) (uA kN4 (uis kN2) uA0))))) uS0 (uO kN90 kN30 (uis kN3) (uO kN91 kN0 (uis kN4) (uO kN107 kN0 (uic kI2) uO0))) kI4853 (uL kJ172 kN2 (uL kJ860 kN0 uL0)))
  (uK (uC kN63 (uE kI0 kI4 (uE kI0 kI1 (uE kI0 kI1 (uE kI2 kI6 (uE kI1 kI9 uE0))))) (uA kN0 (rA kI90) (uA kN1 (uic kI0) (uA kN2 (uis kN0) (uA kN3 (uic kI1) (uA kN4 (uis kN1) uA0))))) (uS (uis kN2) uS0) (uO kN90 kN30 (uis kN3) (uO kN91 kN0 (uis kN4) (uO kN107 kN0 (uic kI2) uO0))) kI4812 (uL kJ172 kN1 (uL kJ860 kN0 uL0)))
  (uK (uC kN70 (uE kI0 kI4 (uE kI0 kI1 (uE kI0 kI2 (uE kI2 kI6 (uE kI1 kI9 uE0))))) (uA kN0 (rA kI90) (uA kN1 (uic kI0) (uA kN2 (uis kN0) (uA kN3 (uis kN1) (uA kN4 (uis kN2) uA0))))) uS0 (uO kN90 kN30 (uis kN3) (uO kN91 kN0 (uis kN4) (uO kN107 kN0 (uic kI2) uO0))) kI4398 (uL kJ860 kN0 uL0))
  uK0)))) = true := by decide +kernel
theorem r358 {l : Launch} {D : va_G} {tys : List (ClassId × FieldType)} {A : Nat → Prop} {ad : Nat → Nat} (hAD : ∀ i : Nat, ad (1000 + i) = D.2 1000 i) : CRok l D tys A ad GG 2 g358 := CR_of_vrf (dep := 1) hAD (fun c hc => by cases hc) T2OK_nil w358
noncomputable def g359 : CR := (307, [(2, 90, 90), (0, 0, 0)], [((91, 0), (0, 1, 9)), ((107, 0), (0, 3, 3))], some (0, 0, 1), [], [])
theorem w359 : vrf GG [] [] 300 1 g359
  (uK (uC kN2 (uE kI0 kI4 (uE kI1 kI9 uE0)) (uA kN0 (rA kI90) (uA kN1 (uic kI0) (uA kN2 (uis kN0) uA0))) uS0 (uO kN91 kN0 (uis kN1) (uO kN107 kN0 (uic kI3) uO0)) kI5154 (uL kJ1032 kN0 uL0))
  (uK (uC kN22 (uE kI0 kI3 (uE kI0 kI1 (uE kI0 kI3 (uE kI3 kI6 (uE kI1 kI9 uE0))))) (uA kN0 (rA kI90) (uA kN1 (uic kI0) (uA kN2 (uis kN0) (uA kN3 (uis kN1) (uA kN4 (uis kN2) uA0))))) uS0 (uO kN90 kN30 (uis kN3) (uO kN91 kN0 (uis kN4) (uO kN107 kN0 (uic kI3) uO0))) kI4853 (uL kJ172 kN2 (uL kJ1032 kN0 uL0)))
  (uK (uC kN63 (uE kI0 kI3 (uE kI0 kI2 (uE kI0 kI1 (uE kI3 kI6 (uE kI1 kI9 uE0))))) (uA kN0 (rA kI90) (uA kN1 (uic kI0) (uA kN2 (uis kN0) (uA kN3 (uic kI1) (uA kN4 (uis kN1) uA0))))) (uS (uis kN2) uS0) (uO kN90 kN30 (uis kN3) (uO kN91 kN0 (uis kN4) (uO kN107 kN0 (uic kI3) uO0))) kI4812 (uL kJ172 kN1 (uL kJ1032 kN0 uL0)))
  (uK (uC kN70 (uE kI0 kI3 (uE kI0 kI1 (uE kI0 kI3 (uE kI3 kI6 (uE kI1 kI9 uE0))))) (uA kN0 (rA kI90) (uA kN1 (uic kI0) (uA kN2 (uis kN0) (uA kN3 (uis kN1) (uA kN4 (uis kN2) uA0))))) uS0 (uO kN90 kN30 (uis kN3) (uO kN91 kN0 (uis kN4) (uO kN107 kN0 (uic kI3) uO0))) kI4226 (uL kJ1032 kN0 uL0))
  uK0)))) = true := by decide +kernel
theorem r359 {l : Launch} {D : va_G} {tys : List (ClassId × FieldType)} {A : Nat → Prop} {ad : Nat → Nat} (hAD : ∀ i : Nat, ad (1000 + i) = D.2 1000 i) : CRok l D tys A ad GG 2 g359 := CR_of_vrf (dep := 1) hAD (fun c hc => by cases hc) T2OK_nil w359
