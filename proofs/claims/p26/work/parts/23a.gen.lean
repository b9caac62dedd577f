section
noncomputable def g0 : CR := (185, [(2, 2, 2), (0, (-2147483648), 2147483647)], [], none, [], [2, 3])
theorem w0 : vrf GG [] [] 300 0 g0
  (uK (uC kN3 (uE kJ2147483648 kI2147483647 (uE kJ8 kI24 uE0)) (uA kN0 (rA kI2) (uA kN1 (uis kN0) (uA kN2 (uis kN1) uA0))) uS0 uO0 (Int.ofNat (nat_lit 1036)) (uL (Int.ofNat (nat_lit 116)) kN1 uL0))
  (uK (uC kN49 (uE kJ2147483648 kI2147483647 (uE kI0 kI24 (uE kI1 kI1400 uE0))) (uA kN0 (rA kI2) (uA kN1 (uis kN0) (uA kN2 (uis kN1) uA0))) uS0 (uO kN2 kN1 (uis kN2) uO0) (Int.ofNat (nat_lit 990)) (uL (Int.ofNat (nat_lit 116)) kN1 uL0))
  uK0)) = true := by decide +kernel
theorem r0 {l : Launch} {D : va_G} {tys : List (ClassId × FieldType)} {A : Nat → Prop} {ad : Nat → Nat} (hAD : ∀ i : Nat, ad (1000 + i) = D.2 1000 i) : CRok l D tys A ad GG 1 g0 := CR_of_vrf (dep := 0) hAD (fun c hc => by cases hc) T2OK_nil w0
noncomputable def g5 : CR := (111, [(2, 16, 16)], [], none, [], [22])
theorem w5 : vrf GG [] [] 300 1 g5
  (uK (uC kN2 (uE kI0 kI6 uE0) (uA kN0 (rA kI16) (uA kN1 (uis kN0) uA0)) uS0 uO0 (Int.ofNat (nat_lit 27588)) (uL kJ3942 kN0 uL0))
  (uK (uC kN12 (uE kI0 kI5 (uE kJ2147483648 kI2147483647 (uE kI0 kI24 uE0))) (uA kN0 (rA kI16) (uA kN1 (uis kN0) (uA kN2 (uis kN1) (uA kN3 (uis kN2) uA0)))) uS0 uO0 (Int.ofNat (nat_lit 27346)) (uL kJ146 kN2 (uL kJ3942 kN0 uL0)))
  (uK (uC kN48 (uE kI0 kI5 (uE kJ2147483648 kI2147483647 (uE kI0 kI23 (uE kI0 (Int.ofNat (nat_lit 143)) uE0)))) (uA kN0 (rA kI16) (uA kN1 (uis kN0) (uA kN2 (uis kN1) (uA kN3 (uis kN2) (uA kN4 (uis kN3) uA0))))) uS0 uO0 (Int.ofNat (nat_lit 27310)) (uL kJ146 kN2 (uL kJ3942 kN0 uL0)))
  uK0))) = true := by decide +kernel
theorem r5 {l : Launch} {D : va_G} {tys : List (ClassId × FieldType)} {A : Nat → Prop} {ad : Nat → Nat} (hAD : ∀ i : Nat, ad (1000 + i) = D.2 1000 i) : CRok l D tys A ad GG 2 g5 := CR_of_vrf (dep := 1) hAD (fun c hc => by cases hc) T2OK_nil w5
noncomputable def g6 : CR := (189, [(2, 2, 2), (0, 0, 1399), (0, 48, 48), (0, 57, 57)], [], some (0, 0, 1400), [], [])
theorem w6 : vrf GG [] [] 300 0 g6
  (uK (uC kN3 (uE kI0 (Int.ofNat (nat_lit 1399)) (uE kI0 kI1400 uE0)) (uA kN0 (rA kI2) (uA kN1 (uis kN0) (uA kN2 (uic kI48) (uA kN3 (uic kI57) (uA kN4 (uis kN1) uA0))))) uS0 uO0 kI168112 (uL kJ120 kN1 uL0))
  uK0) = true := by decide +kernel
theorem r6 {l : Launch} {D : va_G} {tys : List (ClassId × FieldType)} {A : Nat → Prop} {ad : Nat → Nat} (hAD : ∀ i : Nat, ad (1000 + i) = D.2 1000 i) : CRok l D tys A ad GG 1 g6 := CR_of_vrf (dep := 0) hAD (fun c hc => by cases hc) T2OK_nil w6
noncomputable def g7 : CR := (189, [(2, 2, 2), (0, 0, 1399), (0, 97, 97), (0, 122, 122)], [], some (0, 0, 1400), [], [])
theorem w7 : vrf GG [] [] 300 0 g7
  (uK (uC kN3 (uE kI0 (Int.ofNat (nat_lit 1399)) (uE kI0 kI1400 uE0)) (uA kN0 (rA kI2) (uA kN1 (uis kN0) (uA kN2 (uic kI97) (uA kN3 (uic kI122) (uA kN4 (uis kN1) uA0))))) uS0 uO0 kI168112 (uL kJ120 kN1 uL0))
  uK0) = true := by decide +kernel
theorem r7 {l : Launch} {D : va_G} {tys : List (ClassId × FieldType)} {A : Nat → Prop} {ad : Nat → Nat} (hAD : ∀ i : Nat, ad (1000 + i) = D.2 1000 i) : CRok l D tys A ad GG 1 g7 := CR_of_vrf (dep := 0) hAD (fun c hc => by cases hc) T2OK_nil w7
noncomputable def g8 : CR := (189, [(2, 2, 2), (0, 1, 1398), (0, 48, 48), (0, 57, 57)], [], some (0, 1, 1400), [], [])
theorem w8 : vrf GG [] [] 300 0 g8
  (uK (uC kN3 (uE kI1 (Int.ofNat (nat_lit 1398)) (uE kI1 kI1400 uE0)) (uA kN0 (rA kI2) (uA kN1 (uis kN0) (uA kN2 (uic kI48) (uA kN3 (uic kI57) (uA kN4 (uis kN1) uA0))))) uS0 uO0 kI168112 (uL kJ120 kN1 uL0))
  uK0) = true := by decide +kernel
noncomputable def g9 : CR := (189, [(2, 2, 2), (0, 1, 1398), (0, 97, 97), (0, 122, 122)], [], some (0, 1, 1400), [], [])
theorem w9 : vrf GG [] [] 300 0 g9
  (uK (uC kN3 (uE kI1 (Int.ofNat (nat_lit 1398)) (uE kI1 kI1400 uE0)) (uA kN0 (rA kI2) (uA kN1 (uis kN0) (uA kN2 (uic kI97) (uA kN3 (uic kI122) (uA kN4 (uis kN1) uA0))))) uS0 uO0 kI168112 (uL kJ120 kN1 uL0))
  uK0) = true := by decide +kernel
theorem r9 {l : Launch} {D : va_G} {tys : List (ClassId × FieldType)} {A : Nat → Prop} {ad : Nat → Nat} (hAD : ∀ i : Nat, ad (1000 + i) = D.2 1000 i) : CRok l D tys A ad GG 1 g9 := CR_of_vrf (dep := 0) hAD (fun c hc => by cases hc) T2OK_nil w9
noncomputable def g11 : CR := (190, [(2, 2, 2), (0, 1, 1400)], [], some (0, (-2147483648), 2147483647), [], [])
noncomputable def g66 : CR := (149, [(2, 34, 34), (0, 0, 0)], [], none, [], [34])
theorem w66 : vrf GG [] [] 300 0 g66
  (uK (uC kN2 (uE kI0 kI12 uE0) (uA kN0 (rA kI34) (uA kN1 (uic kI0) (uA kN2 (uis kN0) uA0))) uS0 uO0 (Int.ofNat (nat_lit 540)) (uL kJ42 kN0 uL0))
  uK0) = true := by decide +kernel
theorem r66 {l : Launch} {D : va_G} {tys : List (ClassId × FieldType)} {A : Nat → Prop} {ad : Nat → Nat} (hAD : ∀ i : Nat, ad (1000 + i) = D.2 1000 i) : CRok l D tys A ad GG 1 g66 := CR_of_vrf (dep := 0) hAD (fun c hc => by cases hc) T2OK_nil w66
noncomputable def g67 : CR := (149, [(2, 35, 35), (0, 0, 0)], [], none, [], [35])
theorem w67 : vrf GG [] [] 300 0 g67
  (uK (uC kN2 (uE kI0 kI12 uE0) (uA kN0 (rA kI35) (uA kN1 (uic kI0) (uA kN2 (uis kN0) uA0))) uS0 uO0 (Int.ofNat (nat_lit 540)) (uL kJ42 kN0 uL0))
  uK0) = true := by decide +kernel
theorem r67 {l : Launch} {D : va_G} {tys : List (ClassId × FieldType)} {A : Nat → Prop} {ad : Nat → Nat} (hAD : ∀ i : Nat, ad (1000 + i) = D.2 1000 i) : CRok l D tys A ad GG 1 g67 := CR_of_vrf (dep := 0) hAD (fun c hc => by cases hc) T2OK_nil w67
noncomputable def g68 : CR := (92, [(2, 28, 28), (2, 4, 4), (0, (-2147483648), (-1)), (0, 0, 0)], [], some (0, 0, 0), [], [])
theorem w68 : vrf GG [] [] 300 1 g68
  (uK (uC kN28 (uE kJ2147483648 kJ1 (uE kI0 kI6 uE0)) (uA kN0 (rA kI28) (uA kN1 (rA kI4) (uA kN2 (uis kN0) (uA kN3 (uic kI0) (uA kN4 (uic kI0) (uA kN5 (uic kI1) (uA kN6 (uic kI0) (uA kN7 (uis kN1) uA0)))))))) uS0 uO0 kI1426 (uL kJ212 kN1 uL0))
  (uK (uC kN95 (uE kJ2147483648 kJ1 (uE kI0 kI5 (uE kI1 kI6 uE0))) (uA kN0 (rA kI28) (uA kN1 (rA kI4) (uA kN2 (uis kN0) (uA kN3 (uic kI0) (uA kN4 (uic kI0) (uA kN5 (uic kI1) (uA kN6 (uic kI0) (uA kN7 (uis kN1) uA0)))))))) uS0 (uO kN4 kN4 (uis kN2) uO0) kI1359 (uL kJ212 kN1 uL0))
  uK0)) = true := by decide +kernel
theorem r68 {l : Launch} {D : va_G} {tys : List (ClassId × FieldType)} {A : Nat → Prop} {ad : Nat → Nat} (hAD : ∀ i : Nat, ad (1000 + i) = D.2 1000 i) : CRok l D tys A ad GG 2 g68 := CR_of_vrf (dep := 1) hAD (fun c hc => by cases hc) T2OK_nil w68
noncomputable def g69 : CR := (92, [(2, 28, 28), (2, 4, 4), (0, 0, 11), (0, (-2147483648), 2147483647)], [], some (0, 0, 63), [], [31])
theorem w69 : vrf GG [] [] 708 2 g69
  (uK (uC kN28 (uE kI0 kI11 (uE kJ2147483648 kI2147483647 (uE kJ2147483648 kI2147483647 (uE kJ2147483648 kI2147483647 (uE kI0 kI63 (uE kI0 kI6 uE0)))))) (uA kN0 (rA kI28) (uA kN1 (rA kI4) (uA kN2 (uis kN0) (uA kN3 (uis kN1) (uA kN4 (uis kN2) (uA kN5 (uis kN3) (uA kN6 (uis kN4) (uA kN7 (uis kN5) uA0)))))))) uS0 uO0 kI1426 (uL kJ212 kN5 uL0))
  (uK (uC kN95 (uE kI0 kI11 (uE kJ2147483648 kI2147483647 (uE kJ2147483648 kI2147483647 (uE kJ2147483648 kI2147483647 (uE kI0 kI63 (uE kI0 kI5 (uE kI1 kI6 uE0))))))) (uA kN0 (rA kI28) (uA kN1 (rA kI4) (uA kN2 (uis kN0) (uA kN3 (uis kN1) (uA kN4 (uis kN2) (uA kN5 (uis kN3) (uA kN6 (uis kN4) (uA kN7 (uis kN5) uA0)))))))) uS0 (uO kN4 kN4 (uis kN6) uO0) kI1359 (uL kJ212 kN5 uL0))
  uK0)) = true := by decide +kernel
theorem r69 {l : Launch} {D : va_G} {tys : List (ClassId × FieldType)} {A : Nat → Prop} {ad : Nat → Nat} (hAD : ∀ i : Nat, ad (1000 + i) = D.2 1000 i) : CRok l D tys A ad GG 3 g69 := CR_of_vrf (dep := 2) hAD (fun c hc => by cases hc) T2OK_nil w69
noncomputable def g70 : CR := (92, [(2, 28, 28), (2, 4, 4), (0, 12, 2147483647), (0, 0, 0)], [], some (0, 0, 0), [], [])
theorem w70 : vrf GG [] [] 300 1 g70
  (uK (uC kN28 (uE kI12 kI2147483647 (uE kI0 kI6 uE0)) (uA kN0 (rA kI28) (uA kN1 (rA kI4) (uA kN2 (uis kN0) (uA kN3 (uic kI0) (uA kN4 (uic kI0) (uA kN5 (uic kI1) (uA kN6 (uic kI0) (uA kN7 (uis kN1) uA0)))))))) uS0 uO0 kI1426 (uL kJ212 kN1 uL0))
  (uK (uC kN95 (uE kI12 kI2147483647 (uE kI0 kI5 (uE kI1 kI6 uE0))) (uA kN0 (rA kI28) (uA kN1 (rA kI4) (uA kN2 (uis kN0) (uA kN3 (uic kI0) (uA kN4 (uic kI0) (uA kN5 (uic kI1) (uA kN6 (uic kI0) (uA kN7 (uis kN1) uA0)))))))) uS0 (uO kN4 kN4 (uis kN2) uO0) kI1359 (uL kJ212 kN1 uL0))
  uK0)) = true := by decide +kernel
theorem r70 {l : Launch} {D : va_G} {tys : List (ClassId × FieldType)} {A : Nat → Prop} {ad : Nat → Nat} (hAD : ∀ i : Nat, ad (1000 + i) = D.2 1000 i) : CRok l D tys A ad GG 2 g70 := CR_of_vrf (dep := 1) hAD (fun c hc => by cases hc) T2OK_nil w70
noncomputable def g71 : CR := (174, [(2, 32, 32), (2, 4, 4), (2, 28, 28), (0, (-2147483648), 2147483647)], [], none, [], [31, 32, 34, 35])
theorem w71 : vrf GG [(2, g70), (2, g68), (3, g69)] [] 654 3 g71
  [] = true := by decide +kernel
theorem r71 {l : Launch} {D : va_G} {tys : List (ClassId × FieldType)} {A : Nat → Prop} {ad : Nat → Nat} (hAD : ∀ i : Nat, ad (1000 + i) = D.2 1000 i) : CRok l D tys A ad GG 4 g71 := CR_of_vrf (dep := 3) hAD (List.forall_mem_cons.mpr ⟨r70 hAD, List.forall_mem_cons.mpr ⟨r68 hAD, List.forall_mem_cons.mpr ⟨r69 hAD, fun c hc => by cases hc⟩⟩⟩) T2OK_nil w71
noncomputable def g72 : CR := (175, [(2, 32, 32), (2, 28, 28), (0, 0, 0)], [], none, [], [33])
theorem w72 : vrf GG [] [] 300 2 g72
  (uK (uC kN2 (uE kI0 kI6 uE0) (uA kN0 (rA kI32) (uA kN1 (rA kI28) (uA kN2 (uic kI0) (uA kN3 (uis kN0) uA0)))) uS0 uO0 (Int.ofNat (nat_lit 7428)) (uL kJ1062 kN0 uL0))
  (uK (uC kN11 (uE kI0 kI5 (uE kI0 kI6 uE0)) (uA kN0 (rA kI32) (uA kN1 (rA kI28) (uA kN2 (uic kI0) (uA kN3 (uis kN0) (uA kN4 (uis kN1) uA0))))) uS0 uO0 (Int.ofNat (nat_lit 7230)) (uL kJ118 kN1 (uL kJ1062 kN0 uL0)))
  uK0)) = true := by decide +kernel
theorem r72 {l : Launch} {D : va_G} {tys : List (ClassId × FieldType)} {A : Nat → Prop} {ad : Nat → Nat} (hAD : ∀ i : Nat, ad (1000 + i) = D.2 1000 i) : CRok l D tys A ad GG 3 g72 := CR_of_vrf (dep := 2) hAD (fun c hc => by cases hc) T2OK_nil w72
noncomputable def g73 : CR := (175, [(2, 32, 32), (2, 28, 28), (0, 1, 24)], [], none, [], [33])
theorem w73 : vrf GG [] [] 300 2 g73
  (uK (uC kN2 (uE kI1 kI24 (uE kI0 kI6 uE0)) (uA kN0 (rA kI32) (uA kN1 (rA kI28) (uA kN2 (uis kN0) (uA kN3 (uis kN1) uA0)))) uS0 uO0 (Int.ofNat (nat_lit 7428)) (uL kJ1062 kN1 uL0))
  (uK (uC kN11 (uE kI1 kI24 (uE kI0 kI5 (uE kI0 kI6 uE0))) (uA kN0 (rA kI32) (uA kN1 (rA kI28) (uA kN2 (uis kN0) (uA kN3 (uis kN1) (uA kN4 (uis kN2) uA0))))) uS0 uO0 (Int.ofNat (nat_lit 7230)) (uL kJ118 kN2 (uL kJ1062 kN1 uL0)))
  uK0)) = true := by decide +kernel
theorem r73 {l : Launch} {D : va_G} {tys : List (ClassId × FieldType)} {A : Nat → Prop} {ad : Nat → Nat} (hAD : ∀ i : Nat, ad (1000 + i) = D.2 1000 i) : CRok l D tys A ad GG 3 g73 := CR_of_vrf (dep := 2) hAD (fun c hc => by cases hc) T2OK_nil w73
noncomputable def g74 : CR := (150, [(2, 11, 11), (2, 31, 31)], [], none, [], [31])
theorem w74 : vrf GG [] [] 300 0 g74
  (uK (uC kN2 (uE kI0 kI36 uE0) (uA kN0 (rA kI11) (uA kN1 (rA kI31) (uA kN2 (uis kN0) uA0))) uS0 uO0 kI2140 (uL kJ58 kN0 uL0))
  uK0) = true := by decide +kernel
theorem r74 {l : Launch} {D : va_G} {tys : List (ClassId × FieldType)} {A : Nat → Prop} {ad : Nat → Nat} (hAD : ∀ i : Nat, ad (1000 + i) = D.2 1000 i) : CRok l D tys A ad GG 1 g74 := CR_of_vrf (dep := 0) hAD (fun c hc => by cases hc) T2OK_nil w74
noncomputable def g75 : CR := (87, [(2, 28, 28), (2, 4, 4)], [], none, [], [31])
theorem w75 : vrf GG [(1, g74)] [] 300 2 g75
  (uK (uC kN13 (uE kI0 kI6 uE0) (uA kN0 (rA kI28) (uA kN1 (rA kI4) (uA kN2 (uis kN0) uA0))) uS0 uO0 kI644 (uL kJ96 kN0 uL0))
  uK0) = true := by decide +kernel
theorem r75 {l : Launch} {D : va_G} {tys : List (ClassId × FieldType)} {A : Nat → Prop} {ad : Nat → Nat} (hAD : ∀ i : Nat, ad (1000 + i) = D.2 1000 i) : CRok l D tys A ad GG 3 g75 := CR_of_vrf (dep := 2) hAD (List.forall_mem_cons.mpr ⟨r74 hAD, fun c hc => by cases hc⟩) T2OK_nil w75
noncomputable def g76 : CR := (173, [(2, 32, 32), (2, 4, 4), (2, 28, 28)], [], none, [], [31, 32, 33, 34, 35])
theorem w76 : vrf GG [(3, g75), (1, g66), (1, g67), (4, g71), (3, g72), (3, g73)] [] 300 4 g76
  (uK (uC kN37 (uE kI0 kI12 (uE kI0 kI24 uE0)) (uA kN0 (rA kI32) (uA kN1 (rA kI4) (uA kN2 (rA kI28) (uA kN3 (uis kN0) (uA kN4 (uis kN1) uA0))))) uS0 uO0 (Int.ofNat (nat_lit 79424)) (uL kJ3180 kN1 uL0))
  (uK (uC kN46 (uE kI0 kI12 (uE kI0 kI23 (uE kI1 kI24 uE0))) (uA kN0 (rA kI32) (uA kN1 (rA kI4) (uA kN2 (rA kI28) (uA kN3 (uis kN0) (uA kN4 (uis kN1) uA0))))) uS0 (uO kN4 kN3 (uis kN2) uO0) (Int.ofNat (nat_lit 79050)) (uL kJ212 kN0 (uL kJ3180 kN1 uL0)))
  (uK (uC kN88 (uE kI0 kI12 (uE kI0 kI23 (uE kI1 kI24 (uE kI0 kI12 uE0)))) (uA kN0 (rA kI32) (uA kN1 (rA kI4) (uA kN2 (rA kI28) (uA kN3 (uis kN0) (uA kN4 (uis kN1) uA0))))) uS0 (uO kN4 kN3 (uis kN2) (uO kN4 kN5 (uis kN3) uO0)) (Int.ofNat (nat_lit 76405)) (uL kJ3180 kN1 uL0))
  uK0))) = true := by decide +kernel
theorem r76 {l : Launch} {D : va_G} {tys : List (ClassId × FieldType)} {A : Nat → Prop} {ad : Nat → Nat} (hAD : ∀ i : Nat, ad (1000 + i) = D.2 1000 i) : CRok l D tys A ad GG 5 g76 := CR_of_vrf (dep := 4) hAD (List.forall_mem_cons.mpr ⟨r75 hAD, List.forall_mem_cons.mpr ⟨r66 hAD, List.forall_mem_cons.mpr ⟨r67 hAD, List.forall_mem_cons.mpr ⟨r71 hAD, List.forall_mem_cons.mpr ⟨r72 hAD, List.forall_mem_cons.mpr ⟨r73 hAD, fun c hc => by cases hc⟩⟩⟩⟩⟩⟩) T2OK_nil w76
noncomputable def g77 : CR := (86, [(2, 4, 4), (0, (-2147483648), 2147483647), (0, (-2147483648), 2147483647)], [], some (0, 0, 63), [], [])
theorem w77 : vrf GG [] [] 633 2 g77
  (uK (uC kN5 (uE kJ2147483648 kI2147483647 (uE kJ2147483648 kI2147483647 (uE kI0 kI63 (uE kI0 kI6 uE0)))) (uA kN0 (rA kI4) (uA kN1 (uis kN0) (uA kN2 (uis kN1) (uA kN3 (uis kN2) (uA kN4 (uis kN3) uA0))))) uS0 uO0 (Int.ofNat (nat_lit 730)) (uL kJ106 kN3 uL0))
  (uK (uC kN43 (uE kJ2147483648 kI2147483647 (uE kJ2147483648 kI2147483647 (uE kI0 kI63 (uE kI0 kI5 (uE kI1 kI6 uE0))))) (uA kN0 (rA kI4) (uA kN1 (uis kN0) (uA kN2 (uis kN1) (uA kN3 (uis kN2) (uA kN4 (uis kN3) uA0))))) uS0 (uO kN4 kN4 (uis kN4) uO0) kI692 (uL kJ106 kN3 uL0))
  uK0)) = true := by decide +kernel
theorem r77 {l : Launch} {D : va_G} {tys : List (ClassId × FieldType)} {A : Nat → Prop} {ad : Nat → Nat} (hAD : ∀ i : Nat, ad (1000 + i) = D.2 1000 i) : CRok l D tys A ad GG 3 g77 := CR_of_vrf (dep := 2) hAD (fun c hc => by cases hc) T2OK_nil w77
noncomputable def g78 : CR := (85, [(2, 28, 28), (2, 4, 4)], [], none, [], [29, 30])
theorem w78 : vrf GG [(3, g77)] [] 300 3 g78
  (uK (uC kN4 (uE kJ2147483648 kI2147483647 (uE kI0 kI24 uE0)) (uA kN0 (rA kI28) (uA kN1 (rA kI4) (uA kN2 (uis kN0) (uA kN3 (uis kN1) uA0)))) uS0 uO0 (Int.ofNat (nat_lit 84792)) (uL kJ3270 kN1 uL0))
  (uK (uC kN15 (uE kJ2147483648 kI2147483647 (uE kI0 kI23 (uE kI0 kI12 (uE kI1 kI24 uE0)))) (uA kN0 (rA kI28) (uA kN1 (rA kI4) (uA kN2 (uis kN0) (uA kN3 (uis kN1) (uA kN4 (uis kN2) uA0))))) uS0 (uO kN4 kN3 (uis kN3) uO0) (Int.ofNat (nat_lit 84438)) (uL kJ218 kN2 (uL kJ3270 kN1 uL0)))
  (uK (uC kN50 (uE kJ2147483648 kI2147483647 (uE kI0 kI23 (uE kI0 kI11 (uE kI1 kI24 (uE kI1 kI12 uE0))))) (uA kN0 (rA kI28) (uA kN1 (rA kI4) (uA kN2 (uis kN0) (uA kN3 (uis kN1) (uA kN4 (uis kN2) uA0))))) uS0 (uO kN4 kN3 (uis kN3) (uO kN4 kN5 (uis kN4) uO0)) (Int.ofNat (nat_lit 84403)) (uL kJ218 kN2 (uL kJ3270 kN1 uL0)))
  (uK (uC kN64 (uE kJ2147483648 kI2147483647 (uE kI0 kI12 (uE kI0 kI24 uE0))) (uA kN0 (rA kI28) (uA kN1 (rA kI4) (uA kN2 (uis kN0) (uA kN3 (uis kN1) uA0)))) uS0 (uO kN4 kN3 (uis kN2) uO0) (Int.ofNat (nat_lit 2704)) (uL kJ218 kN1 uL0))
  uK0)))) = true := by decide +kernel
theorem r78 {l : Launch} {D : va_G} {tys : List (ClassId × FieldType)} {A : Nat → Prop} {ad : Nat → Nat} (hAD : ∀ i : Nat, ad (1000 + i) = D.2 1000 i) : CRok l D tys A ad GG 4 g78 := CR_of_vrf (dep := 3) hAD (List.forall_mem_cons.mpr ⟨r77 hAD, fun c hc => by cases hc⟩) T2OK_nil w78
noncomputable def g92 : CR := (10, [(2, 0, 0), (0, (-2147483648), 2147483647), (0, (-2147483648), 2147483647)], [], some (0, (-2147483648), 2147483647), [], [])
theorem w92 : vrf GG [] [] 300 2 g92
  [] = true := by decide +kernel
theorem r92 {l : Launch} {D : va_G} {tys : List (ClassId × FieldType)} {A : Nat → Prop} {ad : Nat → Nat} (hAD : ∀ i : Nat, ad (1000 + i) = D.2 1000 i) : CRok l D tys A ad GG 3 g92 := CR_of_vrf (dep := 2) hAD (fun c hc => by cases hc) T2OK_nil w92
noncomputable def g93 : CR := (248, [(2, 90, 90), (0, (-2147483648), 2147483647), (0, (-2147483648), 2147483647)], [], some (0, (-2), 63), [], [])
theorem w93 : vrf GG [] [] 300 2 g93
  [] = true := by decide +kernel
theorem r93 {l : Launch} {D : va_G} {tys : List (ClassId × FieldType)} {A : Nat → Prop} {ad : Nat → Nat} (hAD : ∀ i : Nat, ad (1000 + i) = D.2 1000 i) : CRok l D tys A ad GG 3 g93 := CR_of_vrf (dep := 2) hAD (fun c hc => by cases hc) T2OK_nil w93
noncomputable def g94 : CR := (11, [(2, 0, 0), (0, (-2147483648), 2147483647), (0, (-2147483648), 2147483647), (0, (-2147483648), 2147483647)], [], some (0, (-2147483648), 2147483647), [], [])
theorem w94 : vrf GG [] [] 300 2 g94
  [] = true := by decide +kernel
theorem r94 {l : Launch} {D : va_G} {tys : List (ClassId × FieldType)} {A : Nat → Prop} {ad : Nat → Nat} (hAD : ∀ i : Nat, ad (1000 + i) = D.2 1000 i) : CRok l D tys A ad GG 3 g94 := CR_of_vrf (dep := 2) hAD (fun c hc => by cases hc) T2OK_nil w94
noncomputable def g95 : CR := (236, [(2, 90, 90), (0, 0, 11)], [], none, [], [90, 99, 100, 101])
theorem w95 : vrf GG [] [] 544 2 g95
  (uK (uC kN77 (uE kI0 kI11 (uE kI0 kI5 (uE kI0 kI5 (uE kI0 kI5 (uE kI0 kI23 (uE kI0 kI6 (uE kJ2147483648 kI2147483647 (uE kJ2147483648 kI2147483647 uE0)))))))) (uA kN0 (rA kI90) (uA kN1 (uis kN0) (uA kN2 (uis kN1) (uA kN3 (uis kN2) (uA kN4 (uis kN3) (uA kN5 (uis kN4) (uA kN6 (uis kN5) uA0))))))) uS0 (uO kN90 kN18 (uis kN6) (uO kN90 kN21 (uis kN7) uO0)) (Int.ofNat (nat_lit 2686)) (uL kJ406 kN5 uL0))
  (uK (uC kN173 (uE kI0 kI11 (uE kI0 kI5 (uE kI0 kI5 (uE kI0 kI5 (uE kI0 kI23 (uE kI0 kI5 (uE kI0 kI32 (uE kI0 kI63 (uE kI0 kI11 (uE kJ2147483648 kI2147483647 (uE kJ2147483648 kI2147483647 (uE kI0 kI1 (uE kI1 kI6 uE0))))))))))))) (uA kN0 (rA kI90) (uA kN1 (uis kN0) (uA kN2 (uis kN1) (uA kN3 (uis kN2) (uA kN4 (uis kN3) (uA kN5 (uis kN4) (uA kN6 (uis kN5) uA0))))))) (uS (uis kN6) (uS (uis kN7) (uS (uis kN8) (uS (rA kI101) uS0)))) (uO kN90 kN18 (uis kN9) (uO kN90 kN21 (uis kN10) (uO kN90 kN24 (uis kN11) (uO kN91 kN3 (uis kN12) uO0)))) (Int.ofNat (nat_lit 2590)) (uL kJ406 kN5 uL0))
  (uK (uC kN194 (uE kI0 kI11 (uE kI0 kI5 (uE kI0 kI5 (uE kI0 kI5 (uE kI0 kI23 (uE kI0 kI5 (uE kJ2147483648 kI2147483647 (uE kJ2147483648 kI2147483647 (uE kI1 kI6 uE0))))))))) (uA kN0 (rA kI90) (uA kN1 (uis kN0) (uA kN2 (uis kN1) (uA kN3 (uis kN2) (uA kN4 (uis kN3) (uA kN5 (uis kN4) (uA kN6 (uis kN5) uA0))))))) uS0 (uO kN90 kN18 (uis kN6) (uO kN90 kN21 (uis kN7) (uO kN91 kN3 (uis kN8) uO0))) (Int.ofNat (nat_lit 2569)) (uL kJ406 kN5 uL0))
  uK0))) = true := by decide +kernel
theorem r95 {l : Launch} {D : va_G} {tys : List (ClassId × FieldType)} {A : Nat → Prop} {ad : Nat → Nat} (hAD : ∀ i : Nat, ad (1000 + i) = D.2 1000 i) : CRok l D tys A ad GG 3 g95 := CR_of_vrf (dep := 2) hAD (fun c hc => by cases hc) T2OK_nil w95
noncomputable def g96 : CR := (237, [(2, 90, 90)], [], none, [], [90, 98, 99, 100, 101])
theorem w96 : vrf GG [(3, g95)] [] 300 3 g96
  (uK (uC kN7 (uE kI0 kI12 uE0) (uA kN0 (rA kI90) (uA kN1 (uis kN0) uA0)) uS0 (uO kN90 kN18 (uic kI0) uO0) (Int.ofNat (nat_lit 566968)) (uL kJ374 kN0 uL0))
  (uK (uC kN35 (uE kI0 kI6 uE0) (uA kN0 (rA kI90) (uA kN1 (uis kN0) uA0)) uS0 (uO kN90 kN18 (uic kI0) uO0) (Int.ofNat (nat_lit 558684)) (uL kJ3366 kN0 uL0))
  (uK (uC kN43 (uE kI0 kI5 (uE kI0 kI6 uE0)) (uA kN0 (rA kI90) (uA kN1 (uis kN0) (uA kN2 (uis kN1) uA0))) uS0 (uO kN90 kN18 (uic kI0) uO0) (Int.ofNat (nat_lit 558071)) (uL kJ374 kN1 (uL kJ3366 kN0 uL0)))
  (uK (uC kN86 (uE kI0 kI5 (uE kI0 kI5 (uE kI0 kI63 (uE kI0 kI35 uE0)))) (uA kN0 (rA kI90) (uA kN1 (uis kN0) (uA kN2 (uis kN1) uA0))) (uS (uis kN2) (uS (uis kN3) (uS (rA kI99) uS0))) (uO kN90 kN18 (uic kI0) uO0) (Int.ofNat (nat_lit 558028)) (uL kJ374 kN1 (uL kJ3366 kN0 uL0)))
  (uK (uC kN101 (uE kI0 kI25 uE0) (uA kN0 (rA kI90) (uA kN1 (uis kN0) uA0)) uS0 uO0 (Int.ofNat (nat_lit 515168)) (uL kJ19822 kN0 uL0))
  (uK (uC kN113 (uE kI0 kI24 (uE kI0 kI36 (uE kI0 kI24 uE0))) (uA kN0 (rA kI90) (uA kN1 (uis kN0) (uA kN2 (uis kN1) uA0))) uS0 (uO kN91 kN2 (uis kN2) uO0) (Int.ofNat (nat_lit 514481)) (uL kJ374 kN1 (uL kJ19822 kN0 uL0)))
  (uK (uC kN147 (uE kI0 kI24 (uE kI0 kI12 (uE kI0 kI24 uE0))) (uA kN0 (rA kI90) (uA kN1 (uis kN0) (uA kN2 (uis kN1) uA0))) uS0 (uO kN91 kN2 (uis kN2) uO0) (Int.ofNat (nat_lit 500201)) (uL kJ374 kN1 (uL kJ19822 kN0 uL0)))
  (uK (uC kN172 (uE kI0 kI24 (uE kI0 kI11 (uE kI0 kI24 (uE kI1 kI12 uE0)))) (uA kN0 (rA kI90) (uA kN1 (uis kN0) (uA kN2 (uis kN1) uA0))) uS0 (uO kN91 kN2 (uis kN2) (uO kN91 kN4 (uis kN3) uO0)) (Int.ofNat (nat_lit 500176)) (uL kJ374 kN1 (uL kJ19822 kN0 uL0)))
  uK0)))))))) = true := by decide +kernel
theorem r96 {l : Launch} {D : va_G} {tys : List (ClassId × FieldType)} {A : Nat → Prop} {ad : Nat → Nat} (hAD : ∀ i : Nat, ad (1000 + i) = D.2 1000 i) : CRok l D tys A ad GG 4 g96 := CR_of_vrf (dep := 3) hAD (List.forall_mem_cons.mpr ⟨r95 hAD, fun c hc => by cases hc⟩) T2OK_nil w96
noncomputable def g97 : CR := (249, [(2, 90, 90), (0, (-2147483648), 2147483647), (0, (-2147483648), 2147483647), (0, (-2147483648), 2147483647)], [], some (0, (-2), 63), [], [90, 98, 99, 100, 101])
theorem w97 : vrf GG [(4, g96)] [] 300 5 g97
  [] = true := by decide +kernel
theorem r97 {l : Launch} {D : va_G} {tys : List (ClassId × FieldType)} {A : Nat → Prop} {ad : Nat → Nat} (hAD : ∀ i : Nat, ad (1000 + i) = D.2 1000 i) : CRok l D tys A ad GG 6 g97 := CR_of_vrf (dep := 5) hAD (List.forall_mem_cons.mpr ⟨r96 hAD, fun c hc => by cases hc⟩) T2OK_nil w97
noncomputable def g98 : CR := (12, [(2, 0, 0), (0, (-2147483648), 2147483647)], [], some (0, (-2), 1), [], [])
theorem w98 : vrf GG [] [] 300 1 g98
  [] = true := by decide +kernel
theorem r98 {l : Launch} {D : va_G} {tys : List (ClassId × FieldType)} {A : Nat → Prop} {ad : Nat → Nat} (hAD : ∀ i : Nat, ad (1000 + i) = D.2 1000 i) : CRok l D tys A ad GG 2 g98 := CR_of_vrf (dep := 1) hAD (fun c hc => by cases hc) T2OK_nil w98
noncomputable def g99 : CR := (250, [(2, 90, 90), (0, (-2147483648), 2147483647)], [], some (0, (-2), 1), [], [90, 98, 99, 100, 101])
theorem w99 : vrf GG [(4, g96)] [] 300 5 g99
  [] = true := by decide +kernel
theorem r99 {l : Launch} {D : va_G} {tys : List (ClassId × FieldType)} {A : Nat → Prop} {ad : Nat → Nat} (hAD : ∀ i : Nat, ad (1000 + i) = D.2 1000 i) : CRok l D tys A ad GG 6 g99 := CR_of_vrf (dep := 5) hAD (List.forall_mem_cons.mpr ⟨r96 hAD, fun c hc => by cases hc⟩) T2OK_nil w99
noncomputable def g100 : CR := (13, [(2, 0, 0), (0, (-2147483648), 2147483647)], [], some (0, (-2147483648), 2147483647), [], [])
theorem w100 : vrf GG [] [] 300 1 g100
  [] = true := by decide +kernel
theorem r100 {l : Launch} {D : va_G} {tys : List (ClassId × FieldType)} {A : Nat → Prop} {ad : Nat → Nat} (hAD : ∀ i : Nat, ad (1000 + i) = D.2 1000 i) : CRok l D tys A ad GG 2 g100 := CR_of_vrf (dep := 1) hAD (fun c hc => by cases hc) T2OK_nil w100
noncomputable def g101 : CR := (251, [(2, 90, 90), (0, (-2147483648), 2147483647)], [], some (0, (-2), 63), [], [90, 98, 99, 100, 101])
theorem w101 : vrf GG [(4, g96)] [] 300 5 g101
  [] = true := by decide +kernel
theorem r101 {l : Launch} {D : va_G} {tys : List (ClassId × FieldType)} {A : Nat → Prop} {ad : Nat → Nat} (hAD : ∀ i : Nat, ad (1000 + i) = D.2 1000 i) : CRok l D tys A ad GG 6 g101 := CR_of_vrf (dep := 5) hAD (List.forall_mem_cons.mpr ⟨r96 hAD, fun c hc => by cases hc⟩) T2OK_nil w101
noncomputable def g102 : CR := (14, [(2, 0, 0), (0, (-2147483648), 2147483647)], [], some (0, (-2147483648), 2147483647), [], [])
theorem w102 : vrf GG [] [] 300 1 g102
  [] = true := by decide +kernel
theorem r102 {l : Launch} {D : va_G} {tys : List (ClassId × FieldType)} {A : Nat → Prop} {ad : Nat → Nat} (hAD : ∀ i : Nat, ad (1000 + i) = D.2 1000 i) : CRok l D tys A ad GG 2 g102 := CR_of_vrf (dep := 1) hAD (fun c hc => by cases hc) T2OK_nil w102
noncomputable def g103 : CR := (252, [(2, 90, 90), (0, (-2147483648), 2147483647)], [], some (0, (-2), 63), [], [90, 98, 99, 100, 101])
theorem w103 : vrf GG [(4, g96)] [] 300 5 g103
  [] = true := by decide +kernel
theorem r103 {l : Launch} {D : va_G} {tys : List (ClassId × FieldType)} {A : Nat → Prop} {ad : Nat → Nat} (hAD : ∀ i : Nat, ad (1000 + i) = D.2 1000 i) : CRok l D tys A ad GG 6 g103 := CR_of_vrf (dep := 5) hAD (List.forall_mem_cons.mpr ⟨r96 hAD, fun c hc => by cases hc⟩) T2OK_nil w103
noncomputable def g104 : CR := (178, [(2, 32, 32), (2, 4, 4), (0, 0, 5), (0, 0, 5)], [], some (0, (-1), 24), [], [])
theorem w104 : vrf GG [] [] 300 3 g104
  (uK (uC kN3 (uE kI0 kI5 (uE kI0 kI5 (uE kI0 kI25 uE0))) (uA kN0 (rA kI32) (uA kN1 (rA kI4) (uA kN2 (uis kN0) (uA kN3 (uis kN1) (uA kN4 (uis kN2) uA0))))) uS0 uO0 (Int.ofNat (nat_lit 1916)) (uL kJ74 kN2 uL0))
  uK0) = true := by decide +kernel
theorem r104 {l : Launch} {D : va_G} {tys : List (ClassId × FieldType)} {A : Nat → Prop} {ad : Nat → Nat} (hAD : ∀ i : Nat, ad (1000 + i) = D.2 1000 i) : CRok l D tys A ad GG 4 g104 := CR_of_vrf (dep := 3) hAD (fun c hc => by cases hc) T2OK_nil w104
noncomputable def g105 : CR := (15, [(2, 0, 0), (0, (-2147483648), 2147483647), (0, (-2147483648), 2147483647)], [], some (0, (-3), 23), [], [])
theorem w105 : vrf GG [(4, g104)] [] 300 4 g105
  [] = true := by decide +kernel
theorem r105 {l : Launch} {D : va_G} {tys : List (ClassId × FieldType)} {A : Nat → Prop} {ad : Nat → Nat} (hAD : ∀ i : Nat, ad (1000 + i) = D.2 1000 i) : CRok l D tys A ad GG 5 g105 := CR_of_vrf (dep := 4) hAD (List.forall_mem_cons.mpr ⟨r104 hAD, fun c hc => by cases hc⟩) T2OK_nil w105
noncomputable def g106 : CR := (253, [(2, 90, 90), (0, 0, 5), (0, 0, 5)], [], some (0, (-3), 23), [], [])
theorem w106 : vrf GG [] [] 300 3 g106
  (uK (uC kN2 (uE kI0 kI5 (uE kI0 kI5 (uE kI0 kI25 uE0))) (uA kN0 (rA kI90) (uA kN1 (uis kN0) (uA kN2 (uis kN1) (uA kN3 (uis kN2) uA0)))) uS0 uO0 (Int.ofNat (nat_lit 2334)) (uL kJ90 kN2 uL0))
  (uK (uC kN34 (uE kI0 kI5 (uE kI0 kI5 (uE kI0 kI24 (uE kJ3 kI23 (uE kI0 kI24 uE0))))) (uA kN0 (rA kI90) (uA kN1 (uis kN0) (uA kN2 (uis kN1) (uA kN3 (uis kN2) uA0)))) (uS (uis kN3) uS0) (uO kN91 kN2 (uis kN4) uO0) (Int.ofNat (nat_lit 2302)) (uL kJ90 kN2 uL0))
  uK0)) = true := by decide +kernel
theorem r106 {l : Launch} {D : va_G} {tys : List (ClassId × FieldType)} {A : Nat → Prop} {ad : Nat → Nat} (hAD : ∀ i : Nat, ad (1000 + i) = D.2 1000 i) : CRok l D tys A ad GG 4 g106 := CR_of_vrf (dep := 3) hAD (fun c hc => by cases hc) T2OK_nil w106
noncomputable def g107 : CR := (254, [(2, 90, 90), (0, (-2147483648), 2147483647), (0, (-2147483648), 2147483647)], [], some (0, (-3), 23), [], [90, 98, 99, 100, 101])
theorem w107 : vrf GG [(4, g96), (4, g106)] [] 300 5 g107
  [] = true := by decide +kernel
theorem r107 {l : Launch} {D : va_G} {tys : List (ClassId × FieldType)} {A : Nat → Prop} {ad : Nat → Nat} (hAD : ∀ i : Nat, ad (1000 + i) = D.2 1000 i) : CRok l D tys A ad GG 6 g107 := CR_of_vrf (dep := 5) hAD (List.forall_mem_cons.mpr ⟨r96 hAD, List.forall_mem_cons.mpr ⟨r106 hAD, fun c hc => by cases hc⟩⟩) T2OK_nil w107
noncomputable def g108 : CR := (179, [(2, 32, 32), (2, 4, 4), (0, 0, 5), (0, 1, 24)], [], some (0, 0, 63), [], [])
theorem w108 : vrf GG [] [] 300 3 g108
  (uK (uC kN6 (uE kI0 kI5 (uE kI1 kI24 (uE kI0 kI63 (uE kI0 kI6 uE0)))) (uA kN0 (rA kI32) (uA kN1 (rA kI4) (uA kN2 (uis kN0) (uA kN3 (uis kN1) (uA kN4 (uis kN2) (uA kN5 (uis kN3) uA0)))))) uS0 uO0 (Int.ofNat (nat_lit 728)) (uL kJ106 kN3 uL0))
  (uK (uC kN42 (uE kI0 kI5 (uE kI1 kI24 (uE kI0 kI63 (uE kI0 kI5 (uE kI1 kI6 uE0))))) (uA kN0 (rA kI32) (uA kN1 (rA kI4) (uA kN2 (uis kN0) (uA kN3 (uis kN1) (uA kN4 (uis kN2) (uA kN5 (uis kN3) uA0)))))) uS0 (uO kN4 kN4 (uis kN4) uO0) kI692 (uL kJ106 kN3 uL0))
  uK0)) = true := by decide +kernel
theorem r108 {l : Launch} {D : va_G} {tys : List (ClassId × FieldType)} {A : Nat → Prop} {ad : Nat → Nat} (hAD : ∀ i : Nat, ad (1000 + i) = D.2 1000 i) : CRok l D tys A ad GG 4 g108 := CR_of_vrf (dep := 3) hAD (fun c hc => by cases hc) T2OK_nil w108
noncomputable def g109 : CR := (16, [(2, 0, 0), (0, (-2147483648), 2147483647), (0, (-2147483648), 2147483647)], [], some (0, (-2), 63), [], [])
theorem w109 : vrf GG [(4, g108)] [] 300 4 g109
  [] = true := by decide +kernel
theorem r109 {l : Launch} {D : va_G} {tys : List (ClassId × FieldType)} {A : Nat → Prop} {ad : Nat → Nat} (hAD : ∀ i : Nat, ad (1000 + i) = D.2 1000 i) : CRok l D tys A ad GG 5 g109 := CR_of_vrf (dep := 4) hAD (List.forall_mem_cons.mpr ⟨r108 hAD, fun c hc => by cases hc⟩) T2OK_nil w109
noncomputable def g110 : CR := (255, [(2, 90, 90), (0, 0, 5), (0, 0, 23)], [], some (0, 0, 63), [], [])
theorem w110 : vrf GG [] [] 300 3 g110
  (uK (uC kN5 (uE kI0 kI5 (uE kI0 kI23 (uE kI0 kI63 (uE kI0 kI6 uE0)))) (uA kN0 (rA kI90) (uA kN1 (uis kN0) (uA kN2 (uis kN1) (uA kN3 (uis kN2) (uA kN4 (uis kN3) uA0))))) uS0 uO0 (Int.ofNat (nat_lit 772)) (uL kJ112 kN3 uL0))
  (uK (uC kN43 (uE kI0 kI5 (uE kI0 kI23 (uE kI0 kI63 (uE kI0 kI5 (uE kI0 kI63 (uE kI1 kI6 uE0)))))) (uA kN0 (rA kI90) (uA kN1 (uis kN0) (uA kN2 (uis kN1) (uA kN3 (uis kN2) (uA kN4 (uis kN3) uA0))))) (uS (uis kN4) uS0) (uO kN91 kN3 (uis kN5) uO0) (Int.ofNat (nat_lit 734)) (uL kJ112 kN3 uL0))
  (uK (uC kN44 (uE kI0 kI5 (uE kI0 kI23 (uE kI0 kI63 (uE kI0 kI5 (uE kI0 kI32 (uE kI0 kI63 (uE kI1 kI6 uE0))))))) (uA kN0 (rA kI90) (uA kN1 (uis kN0) (uA kN2 (uis kN1) (uA kN3 (uis kN2) (uA kN4 (uis kN3) uA0))))) (uS (uis kN4) (uS (uis kN5) uS0)) (uO kN91 kN3 (uis kN6) uO0) (Int.ofNat (nat_lit 733)) (uL kJ112 kN3 uL0))
  uK0))) = true := by decide +kernel
theorem r110 {l : Launch} {D : va_G} {tys : List (ClassId × FieldType)} {A : Nat → Prop} {ad : Nat → Nat} (hAD : ∀ i : Nat, ad (1000 + i) = D.2 1000 i) : CRok l D tys A ad GG 4 g110 := CR_of_vrf (dep := 3) hAD (fun c hc => by cases hc) T2OK_nil w110
noncomputable def g111 : CR := (256, [(2, 90, 90), (0, (-2147483648), 2147483647), (0, (-2147483648), 2147483647)], [], some (0, (-2), 63), [], [90, 98, 99, 100, 101])
theorem w111 : vrf GG [(4, g96), (4, g110)] [] 300 5 g111
  [] = true := by decide +kernel
theorem r111 {l : Launch} {D : va_G} {tys : List (ClassId × FieldType)} {A : Nat → Prop} {ad : Nat → Nat} (hAD : ∀ i : Nat, ad (1000 + i) = D.2 1000 i) : CRok l D tys A ad GG 6 g111 := CR_of_vrf (dep := 5) hAD (List.forall_mem_cons.mpr ⟨r96 hAD, List.forall_mem_cons.mpr ⟨r110 hAD, fun c hc => by cases hc⟩⟩) T2OK_nil w111
noncomputable def g112 : CR := (180, [(2, 32, 32), (2, 4, 4), (0, 0, 5)], [], some (0, (-1), 5), [], [])
theorem w112 : vrf GG [(4, g104)] [] 300 4 g112
  (uK (uC kN9 (uE kI0 kI5 (uE kJ1 kI5 (uE kI0 kI25 (uE kI0 kI6 uE0)))) (uA kN0 (rA kI32) (uA kN1 (rA kI4) (uA kN2 (uis kN0) (uA kN3 (uis kN1) (uA kN4 (uis kN2) (uA kN5 (uis kN3) uA0)))))) uS0 uO0 (Int.ofNat (nat_lit 1002)) (uL kJ146 kN3 uL0))
  (uK (uC kN63 (uE kI0 kI5 (uE kJ1 kI5 (uE kI0 kI25 (uE kI0 kI5 (uE kI1 kI6 uE0))))) (uA kN0 (rA kI32) (uA kN1 (rA kI4) (uA kN2 (uis kN0) (uA kN3 (uis kN1) (uA kN4 (uis kN2) (uA kN5 (uis kN3) uA0)))))) uS0 (uO kN4 kN4 (uis kN4) uO0) (Int.ofNat (nat_lit 948)) (uL kJ146 kN3 uL0))
  uK0)) = true := by decide +kernel
theorem r112 {l : Launch} {D : va_G} {tys : List (ClassId × FieldType)} {A : Nat → Prop} {ad : Nat → Nat} (hAD : ∀ i : Nat, ad (1000 + i) = D.2 1000 i) : CRok l D tys A ad GG 5 g112 := CR_of_vrf (dep := 4) hAD (List.forall_mem_cons.mpr ⟨r104 hAD, fun c hc => by cases hc⟩) T2OK_nil w112
noncomputable def g113 : CR := (17, [(2, 0, 0), (0, (-2147483648), 2147483647)], [], some (0, (-3), 23), [], [])
theorem w113 : vrf GG [(4, g104), (5, g112)] [] 300 5 g113
  [] = true := by decide +kernel
theorem r113 {l : Launch} {D : va_G} {tys : List (ClassId × FieldType)} {A : Nat → Prop} {ad : Nat → Nat} (hAD : ∀ i : Nat, ad (1000 + i) = D.2 1000 i) : CRok l D tys A ad GG 6 g113 := CR_of_vrf (dep := 5) hAD (List.forall_mem_cons.mpr ⟨r104 hAD, List.forall_mem_cons.mpr ⟨r112 hAD, fun c hc => by cases hc⟩⟩) T2OK_nil w113
noncomputable def g114 : CR := (257, [(2, 90, 90), (0, 0, 5)], [], some (0, (-1), 5), [], [])
theorem w114 : vrf GG [(4, g106)] [] 300 4 g114
  (uK (uC kN9 (uE kI0 kI5 (uE kJ1 kI5 (uE kJ2 kI1000000 (uE kI0 kI6 uE0)))) (uA kN0 (rA kI90) (uA kN1 (uis kN0) (uA kN2 (uis kN1) (uA kN3 (uis kN2) (uA kN4 (uis kN3) uA0))))) uS0 uO0 kI1394 (uL kJ202 kN3 uL0))
  (uK (uC kN74 (uE kI0 kI5 (uE kJ1 kI5 (uE kJ2 kI1000000 (uE kI0 kI5 (uE kJ3 kI23 (uE kJ2 kI1000000 (uE kI1 kI6 uE0))))))) (uA kN0 (rA kI90) (uA kN1 (uis kN0) (uA kN2 (uis kN1) (uA kN3 (uis kN2) (uA kN4 (uis kN3) (uA kN5 (uis kN4) uA0)))))) (uS (uis kN5) uS0) (uO kN91 kN3 (uis kN6) uO0) (Int.ofNat (nat_lit 1329)) (uL kJ202 kN3 uL0))
  (uK (uC kN91 (uE kI0 kI5 (uE kJ1 kI5 (uE kJ2 kI1000000 (uE kI0 kI5 (uE kI1 kI6 uE0))))) (uA kN0 (rA kI90) (uA kN1 (uis kN0) (uA kN2 (uis kN1) (uA kN3 (uis kN2) (uA kN4 (uis kN3) uA0))))) uS0 (uO kN91 kN3 (uis kN4) uO0) (Int.ofNat (nat_lit 1312)) (uL kJ202 kN3 uL0))
  uK0))) = true := by decide +kernel
theorem r114 {l : Launch} {D : va_G} {tys : List (ClassId × FieldType)} {A : Nat → Prop} {ad : Nat → Nat} (hAD : ∀ i : Nat, ad (1000 + i) = D.2 1000 i) : CRok l D tys A ad GG 5 g114 := CR_of_vrf (dep := 4) hAD (List.forall_mem_cons.mpr ⟨r106 hAD, fun c hc => by cases hc⟩) T2OK_nil w114
noncomputable def g115 : CR := (258, [(2, 90, 90), (0, (-2147483648), 2147483647)], [], some (0, (-3), 23), [], [90, 98, 99, 100, 101])
theorem w115 : vrf GG [(4, g96), (4, g106), (5, g114)] [] 300 5 g115
  [] = true := by decide +kernel
theorem r115 {l : Launch} {D : va_G} {tys : List (ClassId × FieldType)} {A : Nat → Prop} {ad : Nat → Nat} (hAD : ∀ i : Nat, ad (1000 + i) = D.2 1000 i) : CRok l D tys A ad GG 6 g115 := CR_of_vrf (dep := 5) hAD (List.forall_mem_cons.mpr ⟨r96 hAD, List.forall_mem_cons.mpr ⟨r106 hAD, List.forall_mem_cons.mpr ⟨r114 hAD, fun c hc => by cases hc⟩⟩⟩) T2OK_nil w115
noncomputable def g116 : CR := (18, [(2, 0, 0), (0, (-2147483648), 2147483647)], [], some (0, (-2), 5), [], [])
theorem w116 : vrf GG [(5, g112)] [] 300 5 g116
  [] = true := by decide +kernel
theorem r116 {l : Launch} {D : va_G} {tys : List (ClassId × FieldType)} {A : Nat → Prop} {ad : Nat → Nat} (hAD : ∀ i : Nat, ad (1000 + i) = D.2 1000 i) : CRok l D tys A ad GG 6 g116 := CR_of_vrf (dep := 5) hAD (List.forall_mem_cons.mpr ⟨r112 hAD, fun c hc => by cases hc⟩) T2OK_nil w116
noncomputable def g117 : CR := (259, [(2, 90, 90), (0, (-2147483648), 2147483647)], [], some (0, (-2), 5), [], [90, 98, 99, 100, 101])
theorem w117 : vrf GG [(4, g96), (5, g114)] [] 300 5 g117
  [] = true := by decide +kernel
theorem r117 {l : Launch} {D : va_G} {tys : List (ClassId × FieldType)} {A : Nat → Prop} {ad : Nat → Nat} (hAD : ∀ i : Nat, ad (1000 + i) = D.2 1000 i) : CRok l D tys A ad GG 6 g117 := CR_of_vrf (dep := 5) hAD (List.forall_mem_cons.mpr ⟨r96 hAD, List.forall_mem_cons.mpr ⟨r114 hAD, fun c hc => by cases hc⟩⟩) T2OK_nil w117
noncomputable def g118 : CR := (19, [(2, 0, 0), (0, (-2147483648), 2147483647)], [], some (0, (-2), 63), [], [])
theorem w118 : vrf GG [(4, g108)] [] 300 4 g118
  (uK (uC kN18 (uE kI0 kI23 (uE kI0 kI63 (uE kI0 kI6 (uE kI1 kI24 uE0)))) (uA kN0 (rA kI0) (uA kN1 (uis kN0) (uA kN2 (uis kN1) (uA kN3 (uis kN2) uA0)))) uS0 (uO kN4 kN3 (uis kN3) uO0) (Int.ofNat (nat_lit 844)) (uL (Int.negSucc (nat_lit 125)) kN2 uL0))
  (uK (uC kN53 (uE kI0 kI23 (uE kI0 kI63 (uE kI0 kI5 (uE kI1 kI24 (uE kI1 kI6 uE0))))) (uA kN0 (rA kI0) (uA kN1 (uis kN0) (uA kN2 (uis kN1) (uA kN3 (uis kN2) uA0)))) uS0 (uO kN4 kN3 (uis kN3) (uO kN4 kN4 (uis kN4) uO0)) (Int.ofNat (nat_lit 809)) (uL (Int.negSucc (nat_lit 125)) kN2 uL0))
  uK0)) = true := by decide +kernel
theorem r118 {l : Launch} {D : va_G} {tys : List (ClassId × FieldType)} {A : Nat → Prop} {ad : Nat → Nat} (hAD : ∀ i : Nat, ad (1000 + i) = D.2 1000 i) : CRok l D tys A ad GG 5 g118 := CR_of_vrf (dep := 4) hAD (List.forall_mem_cons.mpr ⟨r108 hAD, fun c hc => by cases hc⟩) T2OK_nil w118
noncomputable def g119 : CR := (260, [(2, 90, 90), (0, (-2147483648), 2147483647)], [], some (0, (-2), 63), [], [90, 98, 99, 100, 101])
theorem w119 : vrf GG [(4, g96), (4, g110)] [] 300 5 g119
  (uK (uC kN19 (uE kI0 kI23 (uE kI0 kI63 (uE kI0 kI6 (uE kI1 kI24 uE0)))) (uA kN0 (rA kI90) (uA kN1 (uis kN0) (uA kN2 (uis kN1) (uA kN3 (uis kN2) uA0)))) uS0 (uO kN91 kN2 (uis kN3) uO0) (Int.ofNat (nat_lit 772)) (uL (Int.negSucc (nat_lit 115)) kN2 uL0))
  (uK (uC kN46 (uE kI0 kI23 (uE kI0 kI63 (uE kI0 kI5 (uE kI0 kI32 (uE kI0 kI63 (uE kI1 kI24 (uE kI1 kI6 uE0))))))) (uA kN0 (rA kI90) (uA kN1 (uis kN0) (uA kN2 (uis kN1) (uA kN3 (uis kN2) uA0)))) (uS (uis kN3) (uS (uis kN4) uS0)) (uO kN91 kN2 (uis kN5) (uO kN91 kN3 (uis kN6) uO0)) (Int.ofNat (nat_lit 745)) (uL (Int.negSucc (nat_lit 115)) kN2 uL0))
  uK0)) = true := by decide +kernel
theorem r119 {l : Launch} {D : va_G} {tys : List (ClassId × FieldType)} {A : Nat → Prop} {ad : Nat → Nat} (hAD : ∀ i : Nat, ad (1000 + i) = D.2 1000 i) : CRok l D tys A ad GG 6 g119 := CR_of_vrf (dep := 5) hAD (List.forall_mem_cons.mpr ⟨r96 hAD, List.forall_mem_cons.mpr ⟨r110 hAD, fun c hc => by cases hc⟩⟩) T2OK_nil w119
end
section
noncomputable def g120 : CR := (181, [(2, 32, 32), (2, 4, 4), (0, 0, 5), (0, 1, 24)], [], some (0, (-2147483648), 2147483647), [], [])
theorem w120 : vrf GG [] [] 300 2 g120
  (uK (uC kN6 (uE kI0 kI5 (uE kI1 kI24 (uE kJ2147483648 kI2147483647 (uE kI0 kI6 uE0)))) (uA kN0 (rA kI32) (uA kN1 (rA kI4) (uA kN2 (uis kN0) (uA kN3 (uis kN1) (uA kN4 (uis kN2) (uA kN5 (uis kN3) uA0)))))) uS0 uO0 (Int.ofNat (nat_lit 658)) (uL kJ96 kN3 uL0))
  (uK (uC kN37 (uE kI0 kI5 (uE kI1 kI24 (uE kJ2147483648 kI2147483647 (uE kI0 kI5 (uE kI1 kI6 uE0))))) (uA kN0 (rA kI32) (uA kN1 (rA kI4) (uA kN2 (uis kN0) (uA kN3 (uis kN1) (uA kN4 (uis kN2) (uA kN5 (uis kN3) uA0)))))) uS0 (uO kN4 kN4 (uis kN4) uO0) (Int.ofNat (nat_lit 627)) (uL kJ96 kN3 uL0))
  uK0)) = true := by decide +kernel
theorem r120 {l : Launch} {D : va_G} {tys : List (ClassId × FieldType)} {A : Nat → Prop} {ad : Nat → Nat} (hAD : ∀ i : Nat, ad (1000 + i) = D.2 1000 i) : CRok l D tys A ad GG 3 g120 := CR_of_vrf (dep := 2) hAD (fun c hc => by cases hc) T2OK_nil w120
noncomputable def g121 : CR := (20, [(2, 0, 0), (0, (-2147483648), 2147483647), (0, (-2147483648), 2147483647)], [], some (0, (-2147483648), 2147483647), [], [])
theorem w121 : vrf GG [(3, g120)] [] 300 3 g121
  [] = true := by decide +kernel
theorem r121 {l : Launch} {D : va_G} {tys : List (ClassId × FieldType)} {A : Nat → Prop} {ad : Nat → Nat} (hAD : ∀ i : Nat, ad (1000 + i) = D.2 1000 i) : CRok l D tys A ad GG 4 g121 := CR_of_vrf (dep := 3) hAD (List.forall_mem_cons.mpr ⟨r120 hAD, fun c hc => by cases hc⟩) T2OK_nil w121
noncomputable def g122 : CR := (194, [(0, 0, 63)], [], some (0, 0, 13), [], [])
theorem w122 : vrf GG [] [] 300 0 g122
  [] = true := by decide +kernel
theorem r122 {l : Launch} {D : va_G} {tys : List (ClassId × FieldType)} {A : Nat → Prop} {ad : Nat → Nat} (hAD : ∀ i : Nat, ad (1000 + i) = D.2 1000 i) : CRok l D tys A ad GG 1 g122 := CR_of_vrf (dep := 0) hAD (fun c hc => by cases hc) T2OK_nil w122
noncomputable def g123 : CR := (261, [(2, 90, 90), (0, 0, 5), (0, 0, 23)], [], some (0, (-2147483648), 2147483647), [], [])
theorem w123 : vrf GG [(1, g122)] [] 300 1 g123
  (uK (uC kN5 (uE kI0 kI5 (uE kI0 kI23 (uE kJ2147483648 kI2147483647 (uE kI0 kI6 uE0)))) (uA kN0 (rA kI90) (uA kN1 (uis kN0) (uA kN2 (uis kN1) (uA kN3 (uis kN2) (uA kN4 (uis kN3) uA0))))) uS0 uO0 (Int.ofNat (nat_lit 716)) (uL kJ104 kN3 uL0))
  (uK (uC kN40 (uE kI0 kI5 (uE kI0 kI23 (uE kJ2147483648 kI2147483647 (uE kI0 kI5 (uE kI0 kI13 (uE kJ2147483648 kI2147483647 (uE kI1 kI6 uE0))))))) (uA kN0 (rA kI90) (uA kN1 (uis kN0) (uA kN2 (uis kN1) (uA kN3 (uis kN2) (uA kN4 (uis kN3) uA0))))) (uS (uis kN4) (uS (uis kN5) uS0)) (uO kN91 kN3 (uis kN6) uO0) (Int.ofNat (nat_lit 681)) (uL kJ104 kN3 uL0))
  uK0)) = true := by decide +kernel
theorem r123 {l : Launch} {D : va_G} {tys : List (ClassId × FieldType)} {A : Nat → Prop} {ad : Nat → Nat} (hAD : ∀ i : Nat, ad (1000 + i) = D.2 1000 i) : CRok l D tys A ad GG 2 g123 := CR_of_vrf (dep := 1) hAD (List.forall_mem_cons.mpr ⟨r122 hAD, fun c hc => by cases hc⟩) T2OK_nil w123
noncomputable def g124 : CR := (262, [(2, 90, 90), (0, (-2147483648), 2147483647), (0, (-2147483648), 2147483647)], [], some (0, (-2147483648), 2147483647), [], [90, 98, 99, 100, 101])
theorem w124 : vrf GG [(4, g96), (2, g123)] [] 300 5 g124
  [] = true := by decide +kernel
theorem r124 {l : Launch} {D : va_G} {tys : List (ClassId × FieldType)} {A : Nat → Prop} {ad : Nat → Nat} (hAD : ∀ i : Nat, ad (1000 + i) = D.2 1000 i) : CRok l D tys A ad GG 6 g124 := CR_of_vrf (dep := 5) hAD (List.forall_mem_cons.mpr ⟨r96 hAD, List.forall_mem_cons.mpr ⟨r123 hAD, fun c hc => by cases hc⟩⟩) T2OK_nil w124
noncomputable def g125 : CR := (21, [(2, 0, 0), (0, (-2147483648), 2147483647)], [], some (0, (-2), 5), [], [])
theorem w125 : vrf GG [(3, g120)] [] 300 3 g125
  (uK (uC kN21 (uE kI0 kI23 (uE kJ1 kI5 (uE kJ1 kI2147483647 (uE kI0 kI6 (uE kI1 kI24 uE0))))) (uA kN0 (rA kI0) (uA kN1 (uis kN0) (uA kN2 (uis kN1) (uA kN3 (uis kN2) (uA kN4 (uis kN3) uA0))))) uS0 (uO kN4 kN3 (uis kN4) uO0) (Int.ofNat (nat_lit 978)) (uL kJ146 kN3 uL0))
  (uK (uC kN63 (uE kI0 kI23 (uE kJ1 kI5 (uE kJ1 kI2147483647 (uE kI0 kI5 (uE kJ2147483648 kI2147483647 (uE kI1 kI24 (uE kI1 kI6 uE0))))))) (uA kN0 (rA kI0) (uA kN1 (uis kN0) (uA kN2 (uis kN1) (uA kN3 (uis kN2) (uA kN4 (uis kN3) (uA kN5 (uis kN4) uA0)))))) uS0 (uO kN4 kN3 (uis kN5) (uO kN4 kN4 (uis kN6) uO0)) (Int.ofNat (nat_lit 936)) (uL kJ146 kN3 uL0))
  uK0)) = true := by decide +kernel
theorem r125 {l : Launch} {D : va_G} {tys : List (ClassId × FieldType)} {A : Nat → Prop} {ad : Nat → Nat} (hAD : ∀ i : Nat, ad (1000 + i) = D.2 1000 i) : CRok l D tys A ad GG 4 g125 := CR_of_vrf (dep := 3) hAD (List.forall_mem_cons.mpr ⟨r120 hAD, fun c hc => by cases hc⟩) T2OK_nil w125
noncomputable def g126 : CR := (263, [(2, 90, 90), (0, (-2147483648), 2147483647)], [], some (0, (-2), 5), [], [90, 98, 99, 100, 101])
theorem w126 : vrf GG [(4, g96), (2, g123)] [] 300 5 g126
  (uK (uC kN19 (uE kI0 kI23 (uE kJ1 kI5 (uE kI0 kI6 (uE kI1 kI24 uE0)))) (uA kN0 (rA kI90) (uA kN1 (uis kN0) (uA kN2 (uis kN1) (uA kN3 (uis kN2) uA0)))) uS0 (uO kN91 kN2 (uis kN3) uO0) (Int.ofNat (nat_lit 814)) (uL kJ122 kN2 uL0))
  (uK (uC kN49 (uE kI0 kI23 (uE kJ1 kI5 (uE kI0 kI5 (uE kI1 kI24 (uE kI1 kI6 uE0))))) (uA kN0 (rA kI90) (uA kN1 (uis kN0) (uA kN2 (uis kN1) (uA kN3 (uis kN2) uA0)))) uS0 (uO kN91 kN2 (uis kN3) (uO kN91 kN3 (uis kN4) uO0)) (Int.ofNat (nat_lit 784)) (uL kJ122 kN2 uL0))
  (uK (uC kN51 (uE kI0 kI23 (uE kI0 kI5 (uE kI0 kI5 (uE kI1 kI24 (uE kI1 kI6 uE0))))) (uA kN0 (rA kI90) (uA kN1 (uis kN0) (uA kN2 (uis kN1) (uA kN3 (uis kN2) uA0)))) uS0 (uO kN91 kN2 (uis kN3) (uO kN91 kN3 (uis kN4) uO0)) (Int.ofNat (nat_lit 782)) (uL kJ122 kN2 uL0))
  uK0))) = true := by decide +kernel
theorem r126 {l : Launch} {D : va_G} {tys : List (ClassId × FieldType)} {A : Nat → Prop} {ad : Nat → Nat} (hAD : ∀ i : Nat, ad (1000 + i) = D.2 1000 i) : CRok l D tys A ad GG 6 g126 := CR_of_vrf (dep := 5) hAD (List.forall_mem_cons.mpr ⟨r96 hAD, List.forall_mem_cons.mpr ⟨r123 hAD, fun c hc => by cases hc⟩⟩) T2OK_nil w126
noncomputable def g127 : CR := (26, [(2, 0, 0), (0, 0, 5), (0, 0, 5), (0, 0, 23)], [], some (0, (-5), 23), [], [])
theorem w127 : vrf GG [] [] 626 3 g127
  (uK (uC kN63 (uE kI0 kI5 (uE kI0 kI5 (uE kI0 kI23 (uE kI0 kI23 (uE kI0 kI24 (uE kI1 kI24 uE0)))))) (uA kN0 (rA kI0) (uA kN1 (uis kN0) (uA kN2 (uis kN1) (uA kN3 (uis kN2) (uA kN4 (uis kN3) (uA kN5 (uis kN4) uA0)))))) uS0 (uO kN4 kN3 (uis kN5) uO0) (Int.ofNat (nat_lit 5172)) (uL kJ212 kN4 uL0))
  uK0) = true := by decide +kernel
theorem r127 {l : Launch} {D : va_G} {tys : List (ClassId × FieldType)} {A : Nat → Prop} {ad : Nat → Nat} (hAD : ∀ i : Nat, ad (1000 + i) = D.2 1000 i) : CRok l D tys A ad GG 4 g127 := CR_of_vrf (dep := 3) hAD (fun c hc => by cases hc) T2OK_nil w127
noncomputable def g128 : CR := (22, [(2, 0, 0), (0, (-2147483648), 2147483647), (0, (-2147483648), 2147483647), (0, (-2147483648), 2147483647)], [], some (0, (-5), 23), [], [])
theorem w128 : vrf GG [(4, g127)] [] 300 4 g128
  [] = true := by decide +kernel
theorem r128 {l : Launch} {D : va_G} {tys : List (ClassId × FieldType)} {A : Nat → Prop} {ad : Nat → Nat} (hAD : ∀ i : Nat, ad (1000 + i) = D.2 1000 i) : CRok l D tys A ad GG 5 g128 := CR_of_vrf (dep := 4) hAD (List.forall_mem_cons.mpr ⟨r127 hAD, fun c hc => by cases hc⟩) T2OK_nil w128
noncomputable def g129 : CR := (265, [(2, 90, 90), (0, 0, 5), (0, 0, 5), (0, 0, 23)], [], some (0, (-2147483648), 23), [], [])
theorem w129 : vrf GG [] [] 300 3 g129
  (uK (uC kN50 (uE kI0 kI5 (uE kI0 kI5 (uE kI0 kI23 (uE kJ2147483648 kI23 (uE kI0 kI24 (uE kI0 kI24 uE0)))))) (uA kN0 (rA kI90) (uA kN1 (uis kN0) (uA kN2 (uis kN1) (uA kN3 (uis kN2) (uA kN4 (uis kN3) (uA kN5 (uis kN4) uA0)))))) uS0 (uO kN91 kN2 (uis kN5) uO0) (Int.ofNat (nat_lit 3948)) (uL (Int.negSucc (nat_lit 161)) kN4 uL0))
  uK0) = true := by decide +kernel
theorem r129 {l : Launch} {D : va_G} {tys : List (ClassId × FieldType)} {A : Nat → Prop} {ad : Nat → Nat} (hAD : ∀ i : Nat, ad (1000 + i) = D.2 1000 i) : CRok l D tys A ad GG 4 g129 := CR_of_vrf (dep := 3) hAD (fun c hc => by cases hc) T2OK_nil w129
noncomputable def g130 : CR := (266, [(2, 90, 90), (0, (-2147483648), 2147483647), (0, (-2147483648), 2147483647), (0, (-2147483648), 2147483647)], [], some (0, (-2147483648), 23), [], [90, 98, 99, 100, 101])
theorem w130 : vrf GG [(4, g96), (4, g129)] [] 300 5 g130
  [] = true := by decide +kernel
theorem r130 {l : Launch} {D : va_G} {tys : List (ClassId × FieldType)} {A : Nat → Prop} {ad : Nat → Nat} (hAD : ∀ i : Nat, ad (1000 + i) = D.2 1000 i) : CRok l D tys A ad GG 6 g130 := CR_of_vrf (dep := 5) hAD (List.forall_mem_cons.mpr ⟨r96 hAD, List.forall_mem_cons.mpr ⟨r129 hAD, fun c hc => by cases hc⟩⟩) T2OK_nil w130
noncomputable def g131 : CR := (23, [(2, 0, 0), (0, (-2147483648), 2147483647), (0, (-2147483648), 2147483647)], [], some (0, (-2), 23), [], [])
theorem w131 : vrf GG [(4, g127)] [] 300 4 g131
  (uK (uC kN14 (uE kI0 kI5 (uE kI0 kI5 (uE kI0 kI24 (uE kI1 kI6 uE0)))) (uA kN0 (rA kI0) (uA kN1 (uis kN0) (uA kN2 (uis kN1) (uA kN3 (uis kN2) uA0)))) uS0 (uO kN4 kN4 (uis kN3) uO0) (Int.ofNat (nat_lit 2320)) (uL (Int.negSucc (nat_lit 93)) kN2 uL0))
  uK0) = true := by decide +kernel
theorem r131 {l : Launch} {D : va_G} {tys : List (ClassId × FieldType)} {A : Nat → Prop} {ad : Nat → Nat} (hAD : ∀ i : Nat, ad (1000 + i) = D.2 1000 i) : CRok l D tys A ad GG 5 g131 := CR_of_vrf (dep := 4) hAD (List.forall_mem_cons.mpr ⟨r127 hAD, fun c hc => by cases hc⟩) T2OK_nil w131
noncomputable def g132 : CR := (267, [(2, 90, 90), (0, (-2147483648), 2147483647), (0, (-2147483648), 2147483647)], [], some (0, (-2), 23), [], [90, 98, 99, 100, 101])
theorem w132 : vrf GG [(4, g96), (4, g129)] [] 300 5 g132
  (uK (uC kN18 (uE kI0 kI5 (uE kI0 kI5 (uE kI0 kI24 (uE kI1 kI6 uE0)))) (uA kN0 (rA kI90) (uA kN1 (uis kN0) (uA kN2 (uis kN1) (uA kN3 (uis kN2) uA0)))) uS0 (uO kN91 kN3 (uis kN3) uO0) (Int.ofNat (nat_lit 2462)) (uL (Int.negSucc (nat_lit 99)) kN2 uL0))
  uK0) = true := by decide +kernel
theorem r132 {l : Launch} {D : va_G} {tys : List (ClassId × FieldType)} {A : Nat → Prop} {ad : Nat → Nat} (hAD : ∀ i : Nat, ad (1000 + i) = D.2 1000 i) : CRok l D tys A ad GG 6 g132 := CR_of_vrf (dep := 5) hAD (List.forall_mem_cons.mpr ⟨r96 hAD, List.forall_mem_cons.mpr ⟨r129 hAD, fun c hc => by cases hc⟩⟩) T2OK_nil w132
noncomputable def g133 : CR := (24, [(2, 0, 0), (0, (-2147483648), 2147483647), (0, (-2147483648), 2147483647)], [], some (0, (-2), 23), [], [])
theorem w133 : vrf GG [(4, g127)] [] 300 4 g133
  (uK (uC kN22 (uE kI0 kI5 (uE kI0 kI5 (uE kJ1 kI23 (uE kI0 kI24 (uE kI1 kI6 uE0))))) (uA kN0 (rA kI0) (uA kN1 (uis kN0) (uA kN2 (uis kN1) (uA kN3 (uis kN2) uA0)))) uS0 (uO kN4 kN3 (uis kN3) (uO kN4 kN4 (uis kN4) uO0)) (Int.ofNat (nat_lit 146)) (uL kI96 kN2 uL0))
  uK0) = true := by decide +kernel
theorem r133 {l : Launch} {D : va_G} {tys : List (ClassId × FieldType)} {A : Nat → Prop} {ad : Nat → Nat} (hAD : ∀ i : Nat, ad (1000 + i) = D.2 1000 i) : CRok l D tys A ad GG 5 g133 := CR_of_vrf (dep := 4) hAD (List.forall_mem_cons.mpr ⟨r127 hAD, fun c hc => by cases hc⟩) T2OK_nil w133
noncomputable def g134 : CR := (268, [(2, 90, 90), (0, (-2147483648), 2147483647), (0, (-2147483648), 2147483647)], [], some (0, (-2), 23), [], [90, 98, 99, 100, 101])
theorem w134 : vrf GG [(4, g96), (4, g129)] [] 300 5 g134
  (uK (uC kN25 (uE kI0 kI5 (uE kI0 kI5 (uE kJ1 kI23 (uE kI0 kI24 (uE kI1 kI6 uE0))))) (uA kN0 (rA kI90) (uA kN1 (uis kN0) (uA kN2 (uis kN1) (uA kN3 (uis kN2) uA0)))) uS0 (uO kN91 kN2 (uis kN3) (uO kN91 kN3 (uis kN4) uO0)) (Int.ofNat (nat_lit 152)) (uL kI102 kN2 uL0))
  uK0) = true := by decide +kernel
theorem r134 {l : Launch} {D : va_G} {tys : List (ClassId × FieldType)} {A : Nat → Prop} {ad : Nat → Nat} (hAD : ∀ i : Nat, ad (1000 + i) = D.2 1000 i) : CRok l D tys A ad GG 6 g134 := CR_of_vrf (dep := 5) hAD (List.forall_mem_cons.mpr ⟨r96 hAD, List.forall_mem_cons.mpr ⟨r129 hAD, fun c hc => by cases hc⟩⟩) T2OK_nil w134
noncomputable def g137 : CR := (27, [(2, 0, 0), (0, (-2147483648), 2147483647), (0, (-2147483648), 2147483647)], [], some (0, (-2), 2147483647), [], [])
theorem w137 : vrf GG [] [] 600 2 g137
  (uK (uC kN17 (uE kI0 kI5 (uE kI0 kI5 (uE kI0 kI2147483647 (uE kI0 kI24 (uE kI1 kI6 uE0))))) (uA kN0 (rA kI0) (uA kN1 (uis kN0) (uA kN2 (uis kN1) (uA kN3 (uis kN2) (uA kN4 (uis kN3) uA0))))) uS0 (uO kN4 kN4 (uis kN4) uO0) (Int.ofNat (nat_lit 3414)) (uL (Int.negSucc (nat_lit 137)) kN3 uL0))
  (uK (uC kN59 (uE kI0 kI5 (uE kI0 kI5 (uE kI0 kI2147483647 (uE kI0 kI23 (uE kI1 kI24 (uE kI1 kI6 uE0)))))) (uA kN0 (rA kI0) (uA kN1 (uis kN0) (uA kN2 (uis kN1) (uA kN3 (uis kN2) (uA kN4 (uis kN3) uA0))))) uS0 (uO kN4 kN3 (uis kN4) (uO kN4 kN4 (uis kN5) uO0)) (Int.ofNat (nat_lit 3372)) (uL (Int.negSucc (nat_lit 137)) kN3 uL0))
  uK0)) = true := by decide +kernel
theorem r137 {l : Launch} {D : va_G} {tys : List (ClassId × FieldType)} {A : Nat → Prop} {ad : Nat → Nat} (hAD : ∀ i : Nat, ad (1000 + i) = D.2 1000 i) : CRok l D tys A ad GG 3 g137 := CR_of_vrf (dep := 2) hAD (fun c hc => by cases hc) T2OK_nil w137
noncomputable def g138 : CR := (270, [(2, 90, 90), (0, (-2147483648), 2147483647), (0, (-2147483648), 2147483647)], [], some (0, (-2), 2147483647), [], [])
theorem w138 : vrf GG [] [] 300 3 g138
  (uK (uC kN17 (uE kI0 kI5 (uE kI0 kI5 (uE kI0 kI2147483647 (uE kI0 kI24 (uE kI1 kI6 uE0))))) (uA kN0 (rA kI90) (uA kN1 (uis kN0) (uA kN2 (uis kN1) (uA kN3 (uis kN2) (uA kN4 (uis kN3) uA0))))) uS0 (uO kN91 kN3 (uis kN4) uO0) (Int.ofNat (nat_lit 2964)) (uL kJ120 kN3 uL0))
  (uK (uC kN48 (uE kI0 kI5 (uE kI0 kI5 (uE kI0 kI2147483647 (uE kI0 kI23 (uE kI0 (Int.ofNat (nat_lit 8388608)) (uE kI0 kI2147483647 (uE kI1 kI24 (uE kI1 kI6 uE0)))))))) (uA kN0 (rA kI90) (uA kN1 (uis kN0) (uA kN2 (uis kN1) (uA kN3 (uis kN2) (uA kN4 (uis kN3) uA0))))) (uS (uis kN4) (uS (uis kN5) uS0)) (uO kN91 kN2 (uis kN6) (uO kN91 kN3 (uis kN7) uO0)) (Int.ofNat (nat_lit 2933)) (uL kJ120 kN3 uL0))
  uK0)) = true := by decide +kernel
theorem r138 {l : Launch} {D : va_G} {tys : List (ClassId × FieldType)} {A : Nat → Prop} {ad : Nat → Nat} (hAD : ∀ i : Nat, ad (1000 + i) = D.2 1000 i) : CRok l D tys A ad GG 4 g138 := CR_of_vrf (dep := 3) hAD (fun c hc => by cases hc) T2OK_nil w138
noncomputable def g139 : CR := (28, [(2, 0, 0), (0, (-2147483648), 2147483647)], [], some (0, (-2147483648), 2147483647), [], [])
theorem w139 : vrf GG [] [] 300 1 g139
  (uK (uC kN18 (uE kI0 kI5 (uE kJ2147483648 kI2147483647 (uE kI0 kI12 (uE kI1 kI6 uE0)))) (uA kN0 (rA kI0) (uA kN1 (uis kN0) (uA kN2 (uis kN1) (uA kN3 (uis kN2) uA0)))) uS0 (uO kN4 kN4 (uis kN3) uO0) (Int.ofNat (nat_lit 1808)) (uL (Int.negSucc (nat_lit 141)) kN2 uL0))
  (uK (uC kN61 (uE kI0 kI5 (uE kJ2147483648 kI2147483647 (uE kI0 kI11 (uE kI1 kI6 (uE kI1 kI12 uE0))))) (uA kN0 (rA kI0) (uA kN1 (uis kN0) (uA kN2 (uis kN1) (uA kN3 (uis kN2) uA0)))) uS0 (uO kN4 kN4 (uis kN3) (uO kN4 kN5 (uis kN4) uO0)) (Int.ofNat (nat_lit 1765)) (uL (Int.negSucc (nat_lit 141)) kN2 uL0))
  uK0)) = true := by decide +kernel
theorem r139 {l : Launch} {D : va_G} {tys : List (ClassId × FieldType)} {A : Nat → Prop} {ad : Nat → Nat} (hAD : ∀ i : Nat, ad (1000 + i) = D.2 1000 i) : CRok l D tys A ad GG 2 g139 := CR_of_vrf (dep := 1) hAD (fun c hc => by cases hc) T2OK_nil w139
noncomputable def g140 : CR := (271, [(2, 90, 90), (0, (-2147483648), 2147483647)], [], some (0, (-2147483648), 2147483647), [], [90, 98, 99, 100, 101])
theorem w140 : vrf GG [(1, g122), (4, g96)] [] 300 5 g140
  (uK (uC kN19 (uE kI0 kI5 (uE kJ2147483648 kI2147483647 (uE kI0 kI12 (uE kI1 kI6 uE0)))) (uA kN0 (rA kI90) (uA kN1 (uis kN0) (uA kN2 (uis kN1) (uA kN3 (uis kN2) uA0)))) uS0 (uO kN91 kN3 (uis kN3) uO0) (Int.ofNat (nat_lit 1650)) (uL (Int.negSucc (nat_lit 129)) kN2 uL0))
  (uK (uC kN53 (uE kI0 kI5 (uE kJ2147483648 kI2147483647 (uE kI0 kI11 (uE kI0 kI13 (uE kJ2147483648 kI2147483647 (uE kI1 kI6 (uE kI1 kI12 uE0))))))) (uA kN0 (rA kI90) (uA kN1 (uis kN0) (uA kN2 (uis kN1) (uA kN3 (uis kN2) uA0)))) (uS (uis kN3) (uS (uis kN4) uS0)) (uO kN91 kN3 (uis kN5) (uO kN91 kN4 (uis kN6) uO0)) (Int.ofNat (nat_lit 1616)) (uL (Int.negSucc (nat_lit 129)) kN2 uL0))
  uK0)) = true := by decide +kernel
theorem r140 {l : Launch} {D : va_G} {tys : List (ClassId × FieldType)} {A : Nat → Prop} {ad : Nat → Nat} (hAD : ∀ i : Nat, ad (1000 + i) = D.2 1000 i) : CRok l D tys A ad GG 6 g140 := CR_of_vrf (dep := 5) hAD (List.forall_mem_cons.mpr ⟨r122 hAD, List.forall_mem_cons.mpr ⟨r96 hAD, fun c hc => by cases hc⟩⟩) T2OK_nil w140
noncomputable def g141 : CR := (114, [(2, 4, 4), (0, 0, 5), (0, 0, 5)], [], some (0, 0, 1), [], [])
theorem w141 : vrf GG [] [] 498 2 g141
  (uK (uC kN17 (uE kI0 kI5 (uE kI0 kI5 (uE kI0 kI7 uE0))) (uA kN0 (rA kI4) (uA kN1 (uis kN0) (uA kN2 (uis kN1) (uA kN3 (uis kN2) uA0)))) uS0 uO0 (Int.ofNat (nat_lit 812)) (uL kJ106 kN2 uL0))
  uK0) = true := by decide +kernel
theorem r141 {l : Launch} {D : va_G} {tys : List (ClassId × FieldType)} {A : Nat → Prop} {ad : Nat → Nat} (hAD : ∀ i : Nat, ad (1000 + i) = D.2 1000 i) : CRok l D tys A ad GG 3 g141 := CR_of_vrf (dep := 2) hAD (fun c hc => by cases hc) T2OK_nil w141
noncomputable def g142 : CR := (29, [(2, 0, 0), (0, (-2147483648), 2147483647)], [], some (0, (-2), 63), [], [])
theorem w142 : vrf GG [(3, g141)] [] 300 3 g142
  (uK (uC kN18 (uE kI0 kI5 (uE kI0 kI63 (uE kI0 kI6 (uE kI1 kI6 uE0)))) (uA kN0 (rA kI0) (uA kN1 (uis kN0) (uA kN2 (uis kN1) (uA kN3 (uis kN2) uA0)))) uS0 (uO kN4 kN4 (uis kN3) uO0) (Int.ofNat (nat_lit 760)) (uL (Int.negSucc (nat_lit 113)) kN2 uL0))
  (uK (uC kN47 (uE kI0 kI5 (uE kI0 kI63 (uE kI0 kI5 (uE kI1 kI6 uE0)))) (uA kN0 (rA kI0) (uA kN1 (uis kN0) (uA kN2 (uis kN1) (uA kN3 (uis kN2) uA0)))) uS0 (uO kN4 kN4 (uis kN3) uO0) (Int.ofNat (nat_lit 731)) (uL (Int.negSucc (nat_lit 113)) kN2 uL0))
  uK0)) = true := by decide +kernel
theorem r142 {l : Launch} {D : va_G} {tys : List (ClassId × FieldType)} {A : Nat → Prop} {ad : Nat → Nat} (hAD : ∀ i : Nat, ad (1000 + i) = D.2 1000 i) : CRok l D tys A ad GG 4 g142 := CR_of_vrf (dep := 3) hAD (List.forall_mem_cons.mpr ⟨r141 hAD, fun c hc => by cases hc⟩) T2OK_nil w142
noncomputable def g143 : CR := (272, [(2, 90, 90), (0, 0, 5), (0, 0, 5)], [], some (0, 0, 1), [], [])
theorem w143 : vrf GG [] [] 300 1 g143
  (uK (uC kN17 (uE kI0 kI5 (uE kI0 kI5 (uE kI0 kI6 uE0))) (uA kN0 (rA kI90) (uA kN1 (uis kN0) (uA kN2 (uis kN1) (uA kN3 (uis kN2) uA0)))) uS0 uO0 (Int.ofNat (nat_lit 706)) (uL kJ106 kN2 uL0))
  uK0) = true := by decide +kernel
theorem r143 {l : Launch} {D : va_G} {tys : List (ClassId × FieldType)} {A : Nat → Prop} {ad : Nat → Nat} (hAD : ∀ i : Nat, ad (1000 + i) = D.2 1000 i) : CRok l D tys A ad GG 2 g143 := CR_of_vrf (dep := 1) hAD (fun c hc => by cases hc) T2OK_nil w143
noncomputable def g144 : CR := (273, [(2, 90, 90), (0, (-2147483648), 2147483647)], [], some (0, (-2), 63), [], [])
theorem w144 : vrf GG [(2, g143)] [] 300 2 g144
  (uK (uC kN15 (uE kI0 kI5 (uE kI0 kI63 (uE kI0 kI6 (uE kI1 kI6 uE0)))) (uA kN0 (rA kI90) (uA kN1 (uis kN0) (uA kN2 (uis kN1) (uA kN3 (uis kN2) uA0)))) uS0 (uO kN91 kN3 (uis kN3) uO0) (Int.ofNat (nat_lit 724)) (uL (Int.negSucc (nat_lit 107)) kN2 uL0))
  (uK (uC kN42 (uE kI0 kI5 (uE kI0 kI63 (uE kI0 kI5 (uE kI0 kI32 (uE kI0 kI63 (uE kI1 kI6 uE0)))))) (uA kN0 (rA kI90) (uA kN1 (uis kN0) (uA kN2 (uis kN1) (uA kN3 (uis kN2) uA0)))) (uS (uis kN3) (uS (uis kN4) uS0)) (uO kN91 kN3 (uis kN5) uO0) (Int.ofNat (nat_lit 697)) (uL (Int.negSucc (nat_lit 107)) kN2 uL0))
  uK0)) = true := by decide +kernel
theorem r144 {l : Launch} {D : va_G} {tys : List (ClassId × FieldType)} {A : Nat → Prop} {ad : Nat → Nat} (hAD : ∀ i : Nat, ad (1000 + i) = D.2 1000 i) : CRok l D tys A ad GG 3 g144 := CR_of_vrf (dep := 2) hAD (List.forall_mem_cons.mpr ⟨r143 hAD, fun c hc => by cases hc⟩) T2OK_nil w144
noncomputable def g145 : CR := (30, [(2, 0, 0), (0, (-2147483648), 2147483647)], [], some (0, (-2), 63), [], [])
theorem w145 : vrf GG [(3, g141)] [] 300 3 g145
  (uK (uC kN18 (uE kI0 kI5 (uE kI0 kI63 (uE kI0 kI6 (uE kI1 kI6 uE0)))) (uA kN0 (rA kI0) (uA kN1 (uis kN0) (uA kN2 (uis kN1) (uA kN3 (uis kN2) uA0)))) uS0 (uO kN4 kN4 (uis kN3) uO0) (Int.ofNat (nat_lit 998)) (uL kJ148 kN2 uL0))
  (uK (uC kN64 (uE kI0 kI5 (uE kI0 kI63 (uE kI0 kI5 (uE kI1 kI6 uE0)))) (uA kN0 (rA kI0) (uA kN1 (uis kN0) (uA kN2 (uis kN1) (uA kN3 (uis kN2) uA0)))) uS0 (uO kN4 kN4 (uis kN3) uO0) (Int.ofNat (nat_lit 952)) (uL kJ148 kN2 uL0))
  uK0)) = true := by decide +kernel
theorem r145 {l : Launch} {D : va_G} {tys : List (ClassId × FieldType)} {A : Nat → Prop} {ad : Nat → Nat} (hAD : ∀ i : Nat, ad (1000 + i) = D.2 1000 i) : CRok l D tys A ad GG 4 g145 := CR_of_vrf (dep := 3) hAD (List.forall_mem_cons.mpr ⟨r141 hAD, fun c hc => by cases hc⟩) T2OK_nil w145
noncomputable def g146 : CR := (274, [(2, 90, 90), (0, (-2147483648), 2147483647)], [], some (0, (-2), 63), [], [])
theorem w146 : vrf GG [(2, g143)] [] 300 2 g146
  (uK (uC kN15 (uE kI0 kI5 (uE kI0 kI63 (uE kI0 kI6 (uE kI1 kI6 uE0)))) (uA kN0 (rA kI90) (uA kN1 (uis kN0) (uA kN2 (uis kN1) (uA kN3 (uis kN2) uA0)))) uS0 (uO kN91 kN3 (uis kN3) uO0) (Int.ofNat (nat_lit 976)) (uL kJ144 kN2 uL0))
  (uK (uC kN59 (uE kI0 kI5 (uE kI0 kI63 (uE kI0 kI5 (uE kI0 kI63 (uE kI1 kI6 uE0))))) (uA kN0 (rA kI90) (uA kN1 (uis kN0) (uA kN2 (uis kN1) (uA kN3 (uis kN2) uA0)))) (uS (uis kN3) uS0) (uO kN91 kN3 (uis kN4) uO0) (Int.ofNat (nat_lit 932)) (uL kJ144 kN2 uL0))
  (uK (uC kN60 (uE kI0 kI5 (uE kI0 kI63 (uE kI0 kI5 (uE kI0 kI32 (uE kI0 kI63 (uE kI1 kI6 uE0)))))) (uA kN0 (rA kI90) (uA kN1 (uis kN0) (uA kN2 (uis kN1) (uA kN3 (uis kN2) uA0)))) (uS (uis kN3) (uS (uis kN4) uS0)) (uO kN91 kN3 (uis kN5) uO0) (Int.ofNat (nat_lit 931)) (uL kJ144 kN2 uL0))
  uK0))) = true := by decide +kernel
theorem r146 {l : Launch} {D : va_G} {tys : List (ClassId × FieldType)} {A : Nat → Prop} {ad : Nat → Nat} (hAD : ∀ i : Nat, ad (1000 + i) = D.2 1000 i) : CRok l D tys A ad GG 3 g146 := CR_of_vrf (dep := 2) hAD (List.forall_mem_cons.mpr ⟨r143 hAD, fun c hc => by cases hc⟩) T2OK_nil w146
noncomputable def g147 : CR := (79, [(2, 36, 36), (2, 4, 4), (2, 32, 32), (0, 0, 5)], [], none, [], [37])
theorem w147 : vrf GG [] [] 300 2 g147
  (uK (uC kN3 (uE kI0 kI5 (uE kI0 kI6 uE0)) (uA kN0 (rA kI36) (uA kN1 (rA kI4) (uA kN2 (rA kI32) (uA kN3 (uis kN0) (uA kN4 (uis kN1) uA0))))) uS0 uO0 (Int.ofNat (nat_lit 706)) (uL kJ102 kN1 uL0))
  uK0) = true := by decide +kernel
theorem r147 {l : Launch} {D : va_G} {tys : List (ClassId × FieldType)} {A : Nat → Prop} {ad : Nat → Nat} (hAD : ∀ i : Nat, ad (1000 + i) = D.2 1000 i) : CRok l D tys A ad GG 3 g147 := CR_of_vrf (dep := 2) hAD (fun c hc => by cases hc) T2OK_nil w147
noncomputable def g148 : CR := (78, [(2, 36, 36), (2, 4, 4), (2, 32, 32), (0, 0, 5), (0, 1, 63)], [], some (0, 0, 63), [], [37])
theorem w148 : vrf GG [(3, g147)] [] 300 3 g148
  (uK (uC kN3 (uE kI0 kI5 (uE kI1 kI63 (uE kI0 kI6 uE0))) (uA kN0 (rA kI36) (uA kN1 (rA kI4) (uA kN2 (rA kI32) (uA kN3 (uis kN0) (uA kN4 (uis kN1) (uA kN5 (uis kN2) uA0)))))) uS0 uO0 (Int.ofNat (nat_lit 23376)) (uL kJ296 kN2 uL0))
  (uK (uC kN44 (uE kI0 kI5 (uE kI1 kI63 (uE kI0 kI63 (uE kI0 kI6 (uE kI0 kI6 uE0))))) (uA kN0 (rA kI36) (uA kN1 (rA kI4) (uA kN2 (rA kI32) (uA kN3 (uis kN0) (uA kN4 (uis kN1) (uA kN5 (uis kN2) (uA kN6 (uis kN3) uA0))))))) uS0 (uO kN4 kN4 (uis kN4) uO0) (Int.ofNat (nat_lit 18558)) (uL kJ2664 kN3 uL0))
  (uK (uC kN54 (uE kI0 kI5 (uE kI1 kI63 (uE kI0 kI63 (uE kI0 kI5 (uE kI0 kI6 (uE kI0 kI6 uE0)))))) (uA kN0 (rA kI36) (uA kN1 (rA kI4) (uA kN2 (rA kI32) (uA kN3 (uis kN0) (uA kN4 (uis kN1) (uA kN5 (uis kN2) (uA kN6 (uis kN3) (uA kN7 (uis kN4) uA0)))))))) uS0 (uO kN4 kN4 (uis kN5) uO0) (Int.ofNat (nat_lit 18049)) (uL kJ296 kN4 (uL kJ2664 kN3 uL0)))
  (uK (uC kN88 (uE kI0 kI5 (uE kI1 kI63 (uE kI0 kI63 (uE kI0 kI5 (uE kI0 kI5 (uE kI1 kI6 uE0)))))) (uA kN0 (rA kI36) (uA kN1 (rA kI4) (uA kN2 (rA kI32) (uA kN3 (uis kN0) (uA kN4 (uis kN1) (uA kN5 (uis kN2) (uA kN6 (uis kN3) (uA kN7 (uis kN4) uA0)))))))) uS0 (uO kN4 kN4 (uis kN5) uO0) (Int.ofNat (nat_lit 18015)) (uL kJ296 kN4 (uL kJ2664 kN3 uL0)))
  (uK (uC kN89 (uE kI0 kI5 (uE kI1 kI63 (uE kI0 kI63 (uE kI0 kI5 (uE kI0 kI5 (uE kI0 kI1 (uE kI1 kI6 uE0))))))) (uA kN0 (rA kI36) (uA kN1 (rA kI4) (uA kN2 (rA kI32) (uA kN3 (uis kN0) (uA kN4 (uis kN1) (uA kN5 (uis kN2) (uA kN6 (uis kN3) (uA kN7 (uis kN4) uA0)))))))) (uS (uis kN5) uS0) (uO kN4 kN4 (uis kN6) uO0) (Int.ofNat (nat_lit 18014)) (uL kJ296 kN4 (uL kJ2664 kN3 uL0)))
  (uK (uC kN131 (uE kI0 kI5 (uE kI1 kI63 (uE kI0 kI63 (uE kI0 kI5 (uE kI0 kI5 (uE kI0 kI1 (uE kI1 kI6 uE0))))))) (uA kN0 (rA kI36) (uA kN1 (rA kI4) (uA kN2 (rA kI32) (uA kN3 (uis kN0) (uA kN4 (uis kN1) (uA kN5 (uis kN2) (uA kN6 (uis kN3) (uA kN7 (uis kN4) (uA kN8 (uis kN5) uA0))))))))) uS0 (uO kN4 kN4 (uis kN6) uO0) (Int.ofNat (nat_lit 17972)) (uL kJ296 kN4 (uL kJ2664 kN3 uL0)))
  uK0)))))) = true := by decide +kernel
theorem r148 {l : Launch} {D : va_G} {tys : List (ClassId × FieldType)} {A : Nat → Prop} {ad : Nat → Nat} (hAD : ∀ i : Nat, ad (1000 + i) = D.2 1000 i) : CRok l D tys A ad GG 4 g148 := CR_of_vrf (dep := 3) hAD (List.forall_mem_cons.mpr ⟨r147 hAD, fun c hc => by cases hc⟩) T2OK_nil w148
noncomputable def g149 : CR := (32, [(2, 0, 0), (0, (-2147483648), 2147483647)], [], some (0, (-2), 63), [], [37])
theorem w149 : vrf GG [(4, g148)] [] 300 4 g149
  [] = true := by decide +kernel
theorem r149 {l : Launch} {D : va_G} {tys : List (ClassId × FieldType)} {A : Nat → Prop} {ad : Nat → Nat} (hAD : ∀ i : Nat, ad (1000 + i) = D.2 1000 i) : CRok l D tys A ad GG 5 g149 := CR_of_vrf (dep := 4) hAD (List.forall_mem_cons.mpr ⟨r148 hAD, fun c hc => by cases hc⟩) T2OK_nil w149
noncomputable def g150 : CR := (278, [(2, 90, 90), (0, (-2147483648), 2147483647)], [], some (0, (-2), 63), [], [90, 98, 99, 100, 101])
theorem w150 : vrf GG [(4, g96), (4, hBru)] [] 300 5 g150
  [] = true := by decide +kernel
theorem r150 {l : Launch} {D : va_G} {tys : List (ClassId × FieldType)} {A : Nat → Prop} {ad : Nat → Nat} (hAD : ∀ i : Nat, ad (1000 + i) = D.2 1000 i) : CRok l D tys A ad GG 6 g150 := CR_of_vrf (dep := 5) hAD (List.forall_mem_cons.mpr ⟨r96 hAD, List.forall_mem_cons.mpr ⟨HBru_ok hAD, fun c hc => by cases hc⟩⟩) T2OK_nil w150
noncomputable def g151 : CR := (78, [(2, 36, 36), (2, 4, 4), (2, 32, 32), (0, 0, 5), (0, 0, 63)], [], some (0, 0, 63), [], [37])
theorem w151 : vrf GG [(3, g147)] [] 300 3 g151
  (uK (uC kN3 (uE kI0 kI5 (uE kI0 kI63 (uE kI0 kI6 uE0))) (uA kN0 (rA kI36) (uA kN1 (rA kI4) (uA kN2 (rA kI32) (uA kN3 (uis kN0) (uA kN4 (uis kN1) (uA kN5 (uis kN2) uA0)))))) uS0 uO0 (Int.ofNat (nat_lit 23376)) (uL kJ296 kN2 uL0))
  (uK (uC kN44 (uE kI0 kI5 (uE kI0 kI63 (uE kI0 kI63 (uE kI0 kI6 (uE kI0 kI6 uE0))))) (uA kN0 (rA kI36) (uA kN1 (rA kI4) (uA kN2 (rA kI32) (uA kN3 (uis kN0) (uA kN4 (uis kN1) (uA kN5 (uis kN2) (uA kN6 (uis kN3) uA0))))))) uS0 (uO kN4 kN4 (uis kN4) uO0) (Int.ofNat (nat_lit 18558)) (uL kJ2664 kN3 uL0))
  (uK (uC kN54 (uE kI0 kI5 (uE kI0 kI63 (uE kI0 kI63 (uE kI0 kI5 (uE kI0 kI6 (uE kI0 kI6 uE0)))))) (uA kN0 (rA kI36) (uA kN1 (rA kI4) (uA kN2 (rA kI32) (uA kN3 (uis kN0) (uA kN4 (uis kN1) (uA kN5 (uis kN2) (uA kN6 (uis kN3) (uA kN7 (uis kN4) uA0)))))))) uS0 (uO kN4 kN4 (uis kN5) uO0) (Int.ofNat (nat_lit 18049)) (uL kJ296 kN4 (uL kJ2664 kN3 uL0)))
  (uK (uC kN88 (uE kI0 kI5 (uE kI0 kI63 (uE kI0 kI63 (uE kI0 kI5 (uE kI0 kI5 (uE kI1 kI6 uE0)))))) (uA kN0 (rA kI36) (uA kN1 (rA kI4) (uA kN2 (rA kI32) (uA kN3 (uis kN0) (uA kN4 (uis kN1) (uA kN5 (uis kN2) (uA kN6 (uis kN3) (uA kN7 (uis kN4) uA0)))))))) uS0 (uO kN4 kN4 (uis kN5) uO0) (Int.ofNat (nat_lit 18015)) (uL kJ296 kN4 (uL kJ2664 kN3 uL0)))
  (uK (uC kN89 (uE kI0 kI5 (uE kI0 kI63 (uE kI0 kI63 (uE kI0 kI5 (uE kI0 kI5 (uE kI0 kI1 (uE kI1 kI6 uE0))))))) (uA kN0 (rA kI36) (uA kN1 (rA kI4) (uA kN2 (rA kI32) (uA kN3 (uis kN0) (uA kN4 (uis kN1) (uA kN5 (uis kN2) (uA kN6 (uis kN3) (uA kN7 (uis kN4) uA0)))))))) (uS (uis kN5) uS0) (uO kN4 kN4 (uis kN6) uO0) (Int.ofNat (nat_lit 18014)) (uL kJ296 kN4 (uL kJ2664 kN3 uL0)))
  (uK (uC kN131 (uE kI0 kI5 (uE kI0 kI63 (uE kI0 kI63 (uE kI0 kI5 (uE kI0 kI5 (uE kI0 kI1 (uE kI1 kI6 uE0))))))) (uA kN0 (rA kI36) (uA kN1 (rA kI4) (uA kN2 (rA kI32) (uA kN3 (uis kN0) (uA kN4 (uis kN1) (uA kN5 (uis kN2) (uA kN6 (uis kN3) (uA kN7 (uis kN4) (uA kN8 (uis kN5) uA0))))))))) uS0 (uO kN4 kN4 (uis kN6) uO0) (Int.ofNat (nat_lit 17972)) (uL kJ296 kN4 (uL kJ2664 kN3 uL0)))
  uK0)))))) = true := by decide +kernel
theorem r151 {l : Launch} {D : va_G} {tys : List (ClassId × FieldType)} {A : Nat → Prop} {ad : Nat → Nat} (hAD : ∀ i : Nat, ad (1000 + i) = D.2 1000 i) : CRok l D tys A ad GG 4 g151 := CR_of_vrf (dep := 3) hAD (List.forall_mem_cons.mpr ⟨r147 hAD, fun c hc => by cases hc⟩) T2OK_nil w151
noncomputable def g152 : CR := (80, [(2, 36, 36), (2, 4, 4), (2, 32, 32), (0, 0, 5), (0, 0, 5)], [], some (0, (-1), 63), [], [37])
theorem w152 : vrf GG [(4, g151)] [] 300 4 g152
  (uK (uC kN10 (uE kI0 kI5 (uE kI0 kI5 (uE kJ1 kI63 (uE kI0 kI63 (uE kI0 kI64 uE0))))) (uA kN0 (rA kI36) (uA kN1 (rA kI4) (uA kN2 (rA kI32) (uA kN3 (uis kN0) (uA kN4 (uis kN1) (uA kN5 (uis kN2) (uA kN6 (uis kN3) (uA kN7 (uis kN4) uA0)))))))) uS0 uO0 (Int.ofNat (nat_lit 12458)) (uL kJ192 kN4 uL0))
  (uK (uC kN42 (uE kI0 kI5 (uE kI0 kI5 (uE kJ1 kI63 (uE kI0 kI63 (uE kI0 kI63 (uE kI0 kI6 uE0)))))) (uA kN0 (rA kI36) (uA kN1 (rA kI4) (uA kN2 (rA kI32) (uA kN3 (uis kN0) (uA kN4 (uis kN1) (uA kN5 (uis kN2) (uA kN6 (uis kN3) (uA kN7 (uis kN4) uA0)))))))) uS0 (uO kN4 kN4 (uis kN5) uO0) (Int.ofNat (nat_lit 12426)) (uL kJ192 kN4 uL0))
  (uK (uC kN43 (uE kI0 kI5 (uE kI0 kI5 (uE kJ1 kI63 (uE kI0 kI63 (uE kI0 kI63 (uE kI0 kI1 (uE kI0 kI6 uE0))))))) (uA kN0 (rA kI36) (uA kN1 (rA kI4) (uA kN2 (rA kI32) (uA kN3 (uis kN0) (uA kN4 (uis kN1) (uA kN5 (uis kN2) (uA kN6 (uis kN3) (uA kN7 (uis kN4) uA0)))))))) (uS (uis kN5) uS0) (uO kN4 kN4 (uis kN6) uO0) (Int.ofNat (nat_lit 12425)) (uL kJ192 kN4 uL0))
  (uK (uC kN85 (uE kI0 kI5 (uE kI0 kI5 (uE kJ1 kI63 (uE kI0 kI63 (uE kI0 kI63 (uE kI0 kI1 (uE kI0 kI6 uE0))))))) (uA kN0 (rA kI36) (uA kN1 (rA kI4) (uA kN2 (rA kI32) (uA kN3 (uis kN0) (uA kN4 (uis kN1) (uA kN5 (uis kN2) (uA kN6 (uis kN3) (uA kN7 (uis kN4) (uA kN8 (uis kN5) uA0))))))))) uS0 (uO kN4 kN4 (uis kN6) uO0) (Int.ofNat (nat_lit 12383)) (uL kJ192 kN4 uL0))
  uK0)))) = true := by decide +kernel
theorem r152 {l : Launch} {D : va_G} {tys : List (ClassId × FieldType)} {A : Nat → Prop} {ad : Nat → Nat} (hAD : ∀ i : Nat, ad (1000 + i) = D.2 1000 i) : CRok l D tys A ad GG 5 g152 := CR_of_vrf (dep := 4) hAD (List.forall_mem_cons.mpr ⟨r151 hAD, fun c hc => by cases hc⟩) T2OK_nil w152
noncomputable def g153 : CR := (33, [(2, 0, 0), (0, (-2147483648), 2147483647), (0, (-2147483648), 2147483647)], [], some (0, (-2), 63), [], [37])
theorem w153 : vrf GG [(5, g152)] [] 300 5 g153
  [] = true := by decide +kernel
theorem r153 {l : Launch} {D : va_G} {tys : List (ClassId × FieldType)} {A : Nat → Prop} {ad : Nat → Nat} (hAD : ∀ i : Nat, ad (1000 + i) = D.2 1000 i) : CRok l D tys A ad GG 6 g153 := CR_of_vrf (dep := 5) hAD (List.forall_mem_cons.mpr ⟨r152 hAD, fun c hc => by cases hc⟩) T2OK_nil w153
noncomputable def g154 : CR := (279, [(2, 90, 90), (0, 0, 5), (0, 0, 5)], [], some (0, (-1), 63), [], [])
theorem w154 : vrf GG [(1, g122), (4, hBru)] [] 300 4 g154
  (uK (uC kN5 (uE kI0 kI5 (uE kI0 kI5 (uE kJ1 kI63 (uE kI0 kI64 uE0)))) (uA kN0 (rA kI90) (uA kN1 (uis kN0) (uA kN2 (uis kN1) (uA kN3 (uis kN2) (uA kN4 (uis kN3) uA0))))) uS0 uO0 (Int.ofNat (nat_lit 11168)) (uL kJ172 kN3 uL0))
  (uK (uC kN53 (uE kI0 kI5 (uE kI0 kI5 (uE kJ1 kI63 (uE kI0 kI63 (uE kI0 kI6 uE0))))) (uA kN0 (rA kI90) (uA kN1 (uis kN0) (uA kN2 (uis kN1) (uA kN3 (uis kN2) (uA kN4 (uis kN3) uA0))))) uS0 (uO kN91 kN3 (uis kN4) uO0) (Int.ofNat (nat_lit 11120)) (uL kJ172 kN3 uL0))
  (uK (uC kN75 (uE kI0 kI5 (uE kI0 kI5 (uE kJ1 kI63 (uE kI0 kI63 (uE kJ1 kI63 (uE kI0 kI6 uE0)))))) (uA kN0 (rA kI90) (uA kN1 (uis kN0) (uA kN2 (uis kN1) (uA kN3 (uis kN2) (uA kN4 (uis kN3) uA0))))) (uS (uis kN4) uS0) (uO kN91 kN3 (uis kN5) uO0) (Int.ofNat (nat_lit 11098)) (uL kJ172 kN3 uL0))
  (uK (uC kN76 (uE kI0 kI5 (uE kI0 kI5 (uE kJ1 kI63 (uE kI0 kI63 (uE kI0 kI6 uE0))))) (uA kN0 (rA kI90) (uA kN1 (uis kN0) (uA kN2 (uis kN1) (uA kN3 (uis kN2) (uA kN4 (uis kN3) uA0))))) uS0 (uO kN91 kN3 (uis kN4) uO0) (Int.ofNat (nat_lit 11097)) (uL kJ172 kN3 uL0))
  uK0)))) = true := by decide +kernel
theorem r154 {l : Launch} {D : va_G} {tys : List (ClassId × FieldType)} {A : Nat → Prop} {ad : Nat → Nat} (hAD : ∀ i : Nat, ad (1000 + i) = D.2 1000 i) : CRok l D tys A ad GG 5 g154 := CR_of_vrf (dep := 4) hAD (List.forall_mem_cons.mpr ⟨r122 hAD, List.forall_mem_cons.mpr ⟨HBru_ok hAD, fun c hc => by cases hc⟩⟩) T2OK_nil w154
noncomputable def g155 : CR := (280, [(2, 90, 90), (0, (-2147483648), 2147483647), (0, (-2147483648), 2147483647)], [], some (0, (-2), 13), [], [90, 98, 99, 100, 101])
theorem w155 : vrf GG [(1, g122), (4, g96), (5, g154)] [] 300 5 g155
  [] = true := by decide +kernel
theorem r155 {l : Launch} {D : va_G} {tys : List (ClassId × FieldType)} {A : Nat → Prop} {ad : Nat → Nat} (hAD : ∀ i : Nat, ad (1000 + i) = D.2 1000 i) : CRok l D tys A ad GG 6 g155 := CR_of_vrf (dep := 5) hAD (List.forall_mem_cons.mpr ⟨r122 hAD, List.forall_mem_cons.mpr ⟨r96 hAD, List.forall_mem_cons.mpr ⟨r154 hAD, fun c hc => by cases hc⟩⟩⟩) T2OK_nil w155
noncomputable def g156 : CR := (34, [(2, 0, 0), (0, (-2147483648), 2147483647), (0, (-2147483648), 2147483647)], [], some (0, (-2), 63), [], [37])
theorem w156 : vrf GG [(5, g152)] [] 300 5 g156
  [] = true := by decide +kernel
theorem r156 {l : Launch} {D : va_G} {tys : List (ClassId × FieldType)} {A : Nat → Prop} {ad : Nat → Nat} (hAD : ∀ i : Nat, ad (1000 + i) = D.2 1000 i) : CRok l D tys A ad GG 6 g156 := CR_of_vrf (dep := 5) hAD (List.forall_mem_cons.mpr ⟨r152 hAD, fun c hc => by cases hc⟩) T2OK_nil w156
noncomputable def g157 : CR := (281, [(2, 90, 90), (0, (-2147483648), 2147483647), (0, (-2147483648), 2147483647)], [], some (0, (-2), 63), [], [90, 98, 99, 100, 101])
theorem w157 : vrf GG [(4, g96), (5, g154)] [] 300 5 g157
  [] = true := by decide +kernel
theorem r157 {l : Launch} {D : va_G} {tys : List (ClassId × FieldType)} {A : Nat → Prop} {ad : Nat → Nat} (hAD : ∀ i : Nat, ad (1000 + i) = D.2 1000 i) : CRok l D tys A ad GG 6 g157 := CR_of_vrf (dep := 5) hAD (List.forall_mem_cons.mpr ⟨r96 hAD, List.forall_mem_cons.mpr ⟨r154 hAD, fun c hc => by cases hc⟩⟩) T2OK_nil w157
noncomputable def g158 : CR := (82, [(2, 4, 4), (2, 32, 32), (0, 0, 5)], [], some (0, 0, 63), [], [])
theorem w158 : vrf GG [] [] 300 3 g158
  (uK (uC kN5 (uE kI0 kI5 (uE kI0 kI63 (uE kI0 kI6 uE0))) (uA kN0 (rA kI4) (uA kN1 (rA kI32) (uA kN2 (uis kN0) (uA kN3 (uis kN1) (uA kN4 (uis kN2) uA0))))) uS0 uO0 (Int.ofNat (nat_lit 716)) (uL kJ104 kN2 uL0))
  (uK (uC kN42 (uE kI0 kI5 (uE kI0 kI63 (uE kI0 kI5 (uE kI1 kI6 uE0)))) (uA kN0 (rA kI4) (uA kN1 (rA kI32) (uA kN2 (uis kN0) (uA kN3 (uis kN1) (uA kN4 (uis kN2) uA0))))) uS0 (uO kN4 kN4 (uis kN3) uO0) (Int.ofNat (nat_lit 679)) (uL kJ104 kN2 uL0))
  uK0)) = true := by decide +kernel
theorem r158 {l : Launch} {D : va_G} {tys : List (ClassId × FieldType)} {A : Nat → Prop} {ad : Nat → Nat} (hAD : ∀ i : Nat, ad (1000 + i) = D.2 1000 i) : CRok l D tys A ad GG 4 g158 := CR_of_vrf (dep := 3) hAD (fun c hc => by cases hc) T2OK_nil w158
noncomputable def g159 : CR := (83, [(2, 36, 36), (2, 4, 4), (0, (-2147483648), 2147483647)], [], some (0, (-2147483648), 2147483647), [], [])
theorem w159 : vrf GG [] [] 300 1 g159
  (uK (uC kN5 (uE kJ2147483648 kI2147483647 (uE kJ2147483648 kI2147483647 (uE kI0 kI6 uE0))) (uA kN0 (rA kI36) (uA kN1 (rA kI4) (uA kN2 (uis kN0) (uA kN3 (uis kN1) (uA kN4 (uis kN2) uA0))))) uS0 uO0 (Int.ofNat (nat_lit 618)) (uL kJ90 kN2 uL0))
  (uK (uC kN35 (uE kJ2147483648 kI2147483647 (uE kJ2147483648 kI2147483647 (uE kI0 kI5 (uE kI1 kI6 uE0)))) (uA kN0 (rA kI36) (uA kN1 (rA kI4) (uA kN2 (uis kN0) (uA kN3 (uis kN1) (uA kN4 (uis kN2) uA0))))) uS0 (uO kN4 kN4 (uis kN3) uO0) (Int.ofNat (nat_lit 588)) (uL kJ90 kN2 uL0))
  uK0)) = true := by decide +kernel
theorem r159 {l : Launch} {D : va_G} {tys : List (ClassId × FieldType)} {A : Nat → Prop} {ad : Nat → Nat} (hAD : ∀ i : Nat, ad (1000 + i) = D.2 1000 i) : CRok l D tys A ad GG 2 g159 := CR_of_vrf (dep := 1) hAD (fun c hc => by cases hc) T2OK_nil w159
noncomputable def g160 : CR := (81, [(2, 36, 36), (2, 4, 4), (2, 32, 32)], [], some (0, 0, 63), [], [38])
theorem w160 : vrf GG [(4, g158), (2, g159)] [] 300 4 g160
  (uK (uC kN2 (uE kI0 kI6 uE0) (uA kN0 (rA kI36) (uA kN1 (rA kI4) (uA kN2 (rA kI32) (uA kN3 (uis kN0) uA0)))) uS0 uO0 (Int.ofNat (nat_lit 21918)) (uL kJ252 kN0 uL0))
  (uK (uC kN32 (uE kI0 kI6 (uE kI0 kI6 uE0)) (uA kN0 (rA kI36) (uA kN1 (rA kI4) (uA kN2 (rA kI32) (uA kN3 (uis kN0) uA0)))) uS0 (uO kN4 kN4 (uis kN1) uO0) (Int.ofNat (nat_lit 17826)) (uL (Int.negSucc (nat_lit 2267)) kN0 uL0))
  (uK (uC kN41 (uE kI0 kI5 (uE kI0 kI6 (uE kI0 kI6 uE0))) (uA kN0 (rA kI36) (uA kN1 (rA kI4) (uA kN2 (rA kI32) (uA kN3 (uis kN0) (uA kN4 (uis kN1) uA0))))) uS0 (uO kN4 kN4 (uis kN2) uO0) (Int.ofNat (nat_lit 17397)) (uL kJ252 kN1 (uL (Int.negSucc (nat_lit 2267)) kN0 uL0)))
  (uK (uC kN90 (uE kI0 kI63 (uE kI0 kI6 (uE kI0 kI6 uE0))) (uA kN0 (rA kI36) (uA kN1 (rA kI4) (uA kN2 (rA kI32) (uA kN3 (uis kN0) (uA kN4 (uis kN1) uA0))))) uS0 (uO kN4 kN4 (uis kN2) uO0) (Int.ofNat (nat_lit 1582)) (uL kJ252 kN1 uL0))
  uK0)))) = true := by decide +kernel
theorem r160 {l : Launch} {D : va_G} {tys : List (ClassId × FieldType)} {A : Nat → Prop} {ad : Nat → Nat} (hAD : ∀ i : Nat, ad (1000 + i) = D.2 1000 i) : CRok l D tys A ad GG 5 g160 := CR_of_vrf (dep := 4) hAD (List.forall_mem_cons.mpr ⟨r158 hAD, List.forall_mem_cons.mpr ⟨r159 hAD, fun c hc => by cases hc⟩⟩) T2OK_nil w160
noncomputable def g161 : CR := (35, [(2, 0, 0)], [], some (0, (-2), 63), [], [38])
theorem w161 : vrf GG [(5, g160)] [] 300 5 g161
  [] = true := by decide +kernel
theorem r161 {l : Launch} {D : va_G} {tys : List (ClassId × FieldType)} {A : Nat → Prop} {ad : Nat → Nat} (hAD : ∀ i : Nat, ad (1000 + i) = D.2 1000 i) : CRok l D tys A ad GG 6 g161 := CR_of_vrf (dep := 5) hAD (List.forall_mem_cons.mpr ⟨r160 hAD, fun c hc => by cases hc⟩) T2OK_nil w161
noncomputable def g162 : CR := (282, [(2, 90, 90), (0, 0, 5)], [], some (0, 0, 63), [], [])
theorem w162 : vrf GG [] [] 300 4 g162
  (uK (uC kN4 (uE kI0 kI5 (uE kI0 kI63 (uE kI0 kI6 uE0))) (uA kN0 (rA kI90) (uA kN1 (uis kN0) (uA kN2 (uis kN1) (uA kN3 (uis kN2) uA0)))) uS0 uO0 (Int.ofNat (nat_lit 662)) (uL kJ96 kN2 uL0))
  (uK (uC kN35 (uE kI0 kI5 (uE kI0 kI63 (uE kI0 kI5 (uE kI0 kI63 (uE kI1 kI6 uE0))))) (uA kN0 (rA kI90) (uA kN1 (uis kN0) (uA kN2 (uis kN1) (uA kN3 (uis kN2) uA0)))) (uS (uis kN3) uS0) (uO kN91 kN3 (uis kN4) uO0) kI631 (uL kJ96 kN2 uL0))
  (uK (uC kN36 (uE kI0 kI5 (uE kI0 kI63 (uE kI0 kI5 (uE kI0 kI32 (uE kI0 kI63 (uE kI1 kI6 uE0)))))) (uA kN0 (rA kI90) (uA kN1 (uis kN0) (uA kN2 (uis kN1) (uA kN3 (uis kN2) uA0)))) (uS (uis kN3) (uS (uis kN4) uS0)) (uO kN91 kN3 (uis kN5) uO0) kI630 (uL kJ96 kN2 uL0))
  uK0))) = true := by decide +kernel
theorem r162 {l : Launch} {D : va_G} {tys : List (ClassId × FieldType)} {A : Nat → Prop} {ad : Nat → Nat} (hAD : ∀ i : Nat, ad (1000 + i) = D.2 1000 i) : CRok l D tys A ad GG 5 g162 := CR_of_vrf (dep := 4) hAD (fun c hc => by cases hc) T2OK_nil w162
noncomputable def g163 : CR := (283, [(2, 90, 90)], [], some (0, (-2), 63), [], [90, 98, 99, 100, 101])
theorem w163 : vrf GG [(4, g96), (5, g162)] [] 300 5 g163
  (uK (uC kN18 (uE kI0 kI63 (uE kI0 kI6 (uE kI1 kI2147483647 uE0))) (uA kN0 (rA kI90) (uA kN1 (uis kN0) (uA kN2 (uis kN1) uA0))) uS0 (uO kN91 kN5 (uis kN2) uO0) (Int.ofNat (nat_lit 115448)) (uL kJ16498 kN1 uL0))
  (uK (uC kN37 (uE kI0 kI63 (uE kI0 kI5 (uE kI0 kI63 (uE kI0 kI6 (uE kI1 kI6 (uE kI1 kI2147483647 uE0)))))) (uA kN0 (rA kI90) (uA kN1 (uis kN0) (uA kN2 (uis kN1) (uA kN3 (uis kN2) (uA kN4 (uis kN3) uA0))))) uS0 (uO kN91 kN3 (uis kN4) (uO kN91 kN5 (uis kN5) uO0)) (Int.ofNat (nat_lit 113244)) (uL kJ2034 kN3 (uL kJ16498 kN1 uL0)))
  (uK (uC kN47 (uE kI0 kI63 (uE kI0 kI5 (uE kI0 kI63 (uE kI0 kI5 (uE kI0 kI6 (uE kI1 kI6 (uE kI1 kI2147483647 uE0))))))) (uA kN0 (rA kI90) (uA kN1 (uis kN0) (uA kN2 (uis kN1) (uA kN3 (uis kN2) (uA kN4 (uis kN3) (uA kN5 (uis kN4) uA0)))))) uS0 (uO kN91 kN3 (uis kN5) (uO kN91 kN5 (uis kN6) uO0)) (Int.ofNat (nat_lit 112847)) (uL (Int.negSucc (nat_lit 225)) kN4 (uL kJ16498 kN1 (uL kJ2034 kN3 uL0))))
  (uK (uC kN79 (uE kI0 kI63 (uE kI0 kI5 (uE kI0 kI63 (uE kI0 kI5 (uE kI0 kI5 (uE kI0 kI63 (uE kI0 kI63 (uE kI1 kI6 (uE kI1 kI2147483647 uE0))))))))) (uA kN0 (rA kI90) (uA kN1 (uis kN0) (uA kN2 (uis kN1) (uA kN3 (uis kN2) (uA kN4 (uis kN3) (uA kN5 (uis kN4) uA0)))))) (uS (uis kN5) (uS (uis kN6) uS0)) (uO kN91 kN3 (uis kN7) (uO kN91 kN5 (uis kN8) uO0)) (Int.ofNat (nat_lit 112815)) (uL (Int.negSucc (nat_lit 225)) kN4 (uL kJ16498 kN1 (uL kJ2034 kN3 uL0))))
  uK0)))) = true := by decide +kernel
theorem r163 {l : Launch} {D : va_G} {tys : List (ClassId × FieldType)} {A : Nat → Prop} {ad : Nat → Nat} (hAD : ∀ i : Nat, ad (1000 + i) = D.2 1000 i) : CRok l D tys A ad GG 6 g163 := CR_of_vrf (dep := 5) hAD (List.forall_mem_cons.mpr ⟨r96 hAD, List.forall_mem_cons.mpr ⟨r162 hAD, fun c hc => by cases hc⟩⟩) T2OK_nil w163
noncomputable def g164 : CR := (113, [(2, 4, 4), (0, 0, 5)], [], some (0, 0, 4095), [], [])
theorem w164 : vrf GG [] [] 300 1 g164
  (uK (uC kN4 (uE kI0 kI5 (uE kI0 kI4095 (uE kI0 kI12 uE0))) (uA kN0 (rA kI4) (uA kN1 (uis kN0) (uA kN2 (uis kN1) (uA kN3 (uis kN2) uA0)))) uS0 uO0 (Int.ofNat (nat_lit 1030)) (uL kJ80 kN2 uL0))
  (uK (uC kN30 (uE kI0 kI5 (uE kI0 kI4095 (uE kI0 kI11 (uE kI1 kI12 uE0)))) (uA kN0 (rA kI4) (uA kN1 (uis kN0) (uA kN2 (uis kN1) (uA kN3 (uis kN2) uA0)))) uS0 (uO kN4 kN5 (uis kN3) uO0) (Int.ofNat (nat_lit 1004)) (uL kJ80 kN2 uL0))
  uK0)) = true := by decide +kernel
theorem r164 {l : Launch} {D : va_G} {tys : List (ClassId × FieldType)} {A : Nat → Prop} {ad : Nat → Nat} (hAD : ∀ i : Nat, ad (1000 + i) = D.2 1000 i) : CRok l D tys A ad GG 2 g164 := CR_of_vrf (dep := 1) hAD (fun c hc => by cases hc) T2OK_nil w164
noncomputable def g165 : CR := (93, [(2, 28, 28), (2, 4, 4), (0, 0, 5), (0, 0, 5), (0, 0, 4095)], [], some (0, 0, 1), [], [31])
theorem w165 : vrf GG [(3, g75), (2, g70), (2, g68), (3, g69)] [] 603 3 g165
  (uK (uC kN8 (uE kI0 kI5 (uE kI0 kI5 (uE kI0 kI4095 (uE kI0 kI12 uE0)))) (uA kN0 (rA kI28) (uA kN1 (rA kI4) (uA kN2 (uis kN0) (uA kN3 (uis kN1) (uA kN4 (uis kN2) (uA kN5 (uis kN3) uA0)))))) uS0 uO0 (Int.ofNat (nat_lit 2244)) (uL kJ174 kN3 uL0))
  (uK (uC kN59 (uE kI0 kI5 (uE kI0 kI5 (uE kI0 kI4095 (uE kI0 kI11 (uE kJ2147483648 kI2147483647 (uE kI1 kI12 uE0)))))) (uA kN0 (rA kI28) (uA kN1 (rA kI4) (uA kN2 (uis kN0) (uA kN3 (uis kN1) (uA kN4 (uis kN2) (uA kN5 (uis kN3) (uA kN6 (uis kN4) uA0))))))) uS0 (uO kN4 kN5 (uis kN5) uO0) (Int.ofNat (nat_lit 2193)) (uL kJ174 kN3 uL0))
  uK0)) = true := by decide +kernel
theorem r165 {l : Launch} {D : va_G} {tys : List (ClassId × FieldType)} {A : Nat → Prop} {ad : Nat → Nat} (hAD : ∀ i : Nat, ad (1000 + i) = D.2 1000 i) : CRok l D tys A ad GG 4 g165 := CR_of_vrf (dep := 3) hAD (List.forall_mem_cons.mpr ⟨r75 hAD, List.forall_mem_cons.mpr ⟨r70 hAD, List.forall_mem_cons.mpr ⟨r68 hAD, List.forall_mem_cons.mpr ⟨r69 hAD, fun c hc => by cases hc⟩⟩⟩⟩) T2OK_nil w165
noncomputable def g166 : CR := (36, [(2, 0, 0), (0, (-2147483648), 2147483647), (0, (-2147483648), 2147483647)], [], some (0, (-2), 63), [], [31])
theorem w166 : vrf GG [(4, g165), (2, g164)] [] 300 4 g166
  (uK (uC kN42 (uE kI0 kI5 (uE kI0 kI5 (uE kI0 kI63 (uE kI0 kI6 (uE kI0 kI24 (uE kI1 kI6 uE0)))))) (uA kN0 (rA kI0) (uA kN1 (uis kN0) (uA kN2 (uis kN1) (uA kN3 (uis kN2) (uA kN4 (uis kN3) uA0))))) uS0 (uO kN4 kN3 (uis kN4) (uO kN4 kN4 (uis kN5) uO0)) kI1594 (uL kJ240 kN3 uL0))
  (uK (uC kN70 (uE kI0 kI5 (uE kI0 kI5 (uE kI0 kI63 (uE kI0 kI5 (uE kI0 kI24 (uE kI1 kI6 uE0)))))) (uA kN0 (rA kI0) (uA kN1 (uis kN0) (uA kN2 (uis kN1) (uA kN3 (uis kN2) (uA kN4 (uis kN3) uA0))))) uS0 (uO kN4 kN3 (uis kN4) (uO kN4 kN4 (uis kN5) uO0)) (Int.ofNat (nat_lit 1566)) (uL kJ240 kN3 uL0))
  (uK (uC kN71 (uE kI0 kI5 (uE kI0 kI5 (uE kI0 kI63 (uE kI0 kI5 (uE kI0 kI1 (uE kI0 kI24 (uE kI1 kI6 uE0))))))) (uA kN0 (rA kI0) (uA kN1 (uis kN0) (uA kN2 (uis kN1) (uA kN3 (uis kN2) (uA kN4 (uis kN3) uA0))))) (uS (uis kN4) uS0) (uO kN4 kN3 (uis kN5) (uO kN4 kN4 (uis kN6) uO0)) (Int.ofNat (nat_lit 1565)) (uL kJ240 kN3 uL0))
  (uK (uC kN110 (uE kI0 kI5 (uE kI0 kI5 (uE kI0 kI63 (uE kI0 kI5 (uE kI0 kI1 (uE kI0 kI24 (uE kI1 kI6 uE0))))))) (uA kN0 (rA kI0) (uA kN1 (uis kN0) (uA kN2 (uis kN1) (uA kN3 (uis kN2) (uA kN4 (uis kN3) (uA kN5 (uis kN4) uA0)))))) uS0 (uO kN4 kN3 (uis kN5) (uO kN4 kN4 (uis kN6) uO0)) (Int.ofNat (nat_lit 1526)) (uL kJ240 kN3 uL0))
  uK0)))) = true := by decide +kernel
theorem r166 {l : Launch} {D : va_G} {tys : List (ClassId × FieldType)} {A : Nat → Prop} {ad : Nat → Nat} (hAD : ∀ i : Nat, ad (1000 + i) = D.2 1000 i) : CRok l D tys A ad GG 5 g166 := CR_of_vrf (dep := 4) hAD (List.forall_mem_cons.mpr ⟨r165 hAD, List.forall_mem_cons.mpr ⟨r164 hAD, fun c hc => by cases hc⟩⟩) T2OK_nil w166
noncomputable def g167 : CR := (285, [(2, 90, 90), (0, 0, 5)], [], some (0, 0, 4095), [], [])
theorem w167 : vrf GG [] [] 300 1 g167
  (uK (uC kN4 (uE kI0 kI5 (uE kI0 kI4095 (uE kI0 kI12 uE0))) (uA kN0 (rA kI90) (uA kN1 (uis kN0) (uA kN2 (uis kN1) (uA kN3 (uis kN2) uA0)))) uS0 uO0 (Int.ofNat (nat_lit 1134)) (uL kJ88 kN2 uL0))
  (uK (uC kN32 (uE kI0 kI5 (uE kI0 kI4095 (uE kI0 kI11 (uE kI0 kI2048 (uE kI0 kI4095 (uE kI1 kI12 uE0)))))) (uA kN0 (rA kI90) (uA kN1 (uis kN0) (uA kN2 (uis kN1) (uA kN3 (uis kN2) uA0)))) (uS (uis kN3) (uS (uis kN4) uS0)) (uO kN91 kN4 (uis kN5) uO0) (Int.ofNat (nat_lit 1106)) (uL kJ88 kN2 uL0))
  uK0)) = true := by decide +kernel
theorem r167 {l : Launch} {D : va_G} {tys : List (ClassId × FieldType)} {A : Nat → Prop} {ad : Nat → Nat} (hAD : ∀ i : Nat, ad (1000 + i) = D.2 1000 i) : CRok l D tys A ad GG 2 g167 := CR_of_vrf (dep := 1) hAD (fun c hc => by cases hc) T2OK_nil w167
noncomputable def g168 : CR := (286, [(2, 90, 90), (0, (-2147483648), 2147483647), (0, (-2147483648), 2147483647)], [], some (0, (-2), 63), [], [90, 98, 99, 100, 101])
theorem w168 : vrf GG [(4, g96), (2, g167)] [] 488 5 g168
  (uK (uC kN29 (uE kI0 kI5 (uE kI0 kI5 (uE kI0 kI63 (uE kI0 kI6 (uE kI0 kI24 (uE kI1 kI6 uE0)))))) (uA kN0 (rA kI90) (uA kN1 (uis kN0) (uA kN2 (uis kN1) (uA kN3 (uis kN2) (uA kN4 (uis kN3) uA0))))) uS0 (uO kN90 kN21 (uic kI0) (uO kN91 kN2 (uis kN4) (uO kN91 kN3 (uis kN5) uO0))) (Int.ofNat (nat_lit 1172)) (uL kJ176 kN3 uL0))
  (uK (uC kN75 (uE kI0 kI5 (uE kI0 kI5 (uE kI0 kI63 (uE kI0 kI5 (uE kI0 kI63 (uE kI0 kI24 (uE kI1 kI6 uE0))))))) (uA kN0 (rA kI90) (uA kN1 (uis kN0) (uA kN2 (uis kN1) (uA kN3 (uis kN2) (uA kN4 (uis kN3) uA0))))) (uS (uis kN4) uS0) (uO kN90 kN21 (uic kI0) (uO kN91 kN2 (uis kN5) (uO kN91 kN3 (uis kN6) uO0))) (Int.ofNat (nat_lit 1126)) (uL kJ176 kN3 uL0))
  (uK (uC kN76 (uE kI0 kI5 (uE kI0 kI5 (uE kI0 kI63 (uE kI0 kI5 (uE kI0 kI32 (uE kI0 kI63 (uE kI0 kI24 (uE kI1 kI6 uE0)))))))) (uA kN0 (rA kI90) (uA kN1 (uis kN0) (uA kN2 (uis kN1) (uA kN3 (uis kN2) (uA kN4 (uis kN3) uA0))))) (uS (uis kN4) (uS (uis kN5) uS0)) (uO kN90 kN21 (uic kI0) (uO kN91 kN2 (uis kN6) (uO kN91 kN3 (uis kN7) uO0))) (Int.ofNat (nat_lit 1125)) (uL kJ176 kN3 uL0))
  uK0))) = true := by decide +kernel
theorem r168 {l : Launch} {D : va_G} {tys : List (ClassId × FieldType)} {A : Nat → Prop} {ad : Nat → Nat} (hAD : ∀ i : Nat, ad (1000 + i) = D.2 1000 i) : CRok l D tys A ad GG 6 g168 := CR_of_vrf (dep := 5) hAD (List.forall_mem_cons.mpr ⟨r96 hAD, List.forall_mem_cons.mpr ⟨r167 hAD, fun c hc => by cases hc⟩⟩) T2OK_nil w168
noncomputable def g169 : CR := (93, [(2, 28, 28), (2, 4, 4), (0, 0, 5), (0, 0, 5), (0, 0, 2147483647)], [], some (0, 0, 1), [], [31])
theorem w169 : vrf GG [(3, g75), (2, g70), (2, g68), (3, g69)] [] 603 3 g169
  (uK (uC kN8 (uE kI0 kI5 (uE kI0 kI5 (uE kI0 kI2147483647 (uE kI0 kI12 uE0)))) (uA kN0 (rA kI28) (uA kN1 (rA kI4) (uA kN2 (uis kN0) (uA kN3 (uis kN1) (uA kN4 (uis kN2) (uA kN5 (uis kN3) uA0)))))) uS0 uO0 (Int.ofNat (nat_lit 2244)) (uL kJ174 kN3 uL0))
  (uK (uC kN59 (uE kI0 kI5 (uE kI0 kI5 (uE kI0 kI2147483647 (uE kI0 kI11 (uE kJ2147483648 kI2147483647 (uE kI1 kI12 uE0)))))) (uA kN0 (rA kI28) (uA kN1 (rA kI4) (uA kN2 (uis kN0) (uA kN3 (uis kN1) (uA kN4 (uis kN2) (uA kN5 (uis kN3) (uA kN6 (uis kN4) uA0))))))) uS0 (uO kN4 kN5 (uis kN5) uO0) (Int.ofNat (nat_lit 2193)) (uL kJ174 kN3 uL0))
  uK0)) = true := by decide +kernel
theorem r169 {l : Launch} {D : va_G} {tys : List (ClassId × FieldType)} {A : Nat → Prop} {ad : Nat → Nat} (hAD : ∀ i : Nat, ad (1000 + i) = D.2 1000 i) : CRok l D tys A ad GG 4 g169 := CR_of_vrf (dep := 3) hAD (List.forall_mem_cons.mpr ⟨r75 hAD, List.forall_mem_cons.mpr ⟨r70 hAD, List.forall_mem_cons.mpr ⟨r68 hAD, List.forall_mem_cons.mpr ⟨r69 hAD, fun c hc => by cases hc⟩⟩⟩⟩) T2OK_nil w169
noncomputable def g170 : CR := (37, [(2, 0, 0), (0, (-2147483648), 2147483647), (0, (-2147483648), 2147483647)], [], some (0, (-2), 4095), [], [31])
theorem w170 : vrf GG [(4, g169)] [] 300 4 g170
  (uK (uC kN42 (uE kI0 kI5 (uE kI0 kI5 (uE kI0 kI4095 (uE kI0 kI12 (uE kI0 kI24 (uE kI1 kI6 uE0)))))) (uA kN0 (rA kI0) (uA kN1 (uis kN0) (uA kN2 (uis kN1) (uA kN3 (uis kN2) (uA kN4 (uis kN3) uA0))))) uS0 (uO kN4 kN3 (uis kN4) (uO kN4 kN4 (uis kN5) uO0)) (Int.ofNat (nat_lit 2280)) (uL (Int.negSucc (nat_lit 181)) kN3 uL0))
  (uK (uC kN81 (uE kI0 kI5 (uE kI0 kI5 (uE kI0 kI4095 (uE kI0 kI11 (uE kI0 kI24 (uE kI1 kI6 (uE kI1 kI12 uE0))))))) (uA kN0 (rA kI0) (uA kN1 (uis kN0) (uA kN2 (uis kN1) (uA kN3 (uis kN2) (uA kN4 (uis kN3) uA0))))) uS0 (uO kN4 kN3 (uis kN4) (uO kN4 kN4 (uis kN5) (uO kN4 kN5 (uis kN6) uO0))) (Int.ofNat (nat_lit 2241)) (uL (Int.negSucc (nat_lit 181)) kN3 uL0))
  uK0)) = true := by decide +kernel
theorem r170 {l : Launch} {D : va_G} {tys : List (ClassId × FieldType)} {A : Nat → Prop} {ad : Nat → Nat} (hAD : ∀ i : Nat, ad (1000 + i) = D.2 1000 i) : CRok l D tys A ad GG 5 g170 := CR_of_vrf (dep := 4) hAD (List.forall_mem_cons.mpr ⟨r169 hAD, fun c hc => by cases hc⟩) T2OK_nil w170
noncomputable def g171 : CR := (287, [(2, 90, 90), (0, (-2147483648), 2147483647), (0, (-2147483648), 2147483647)], [], some (0, (-2), 4095), [], [90, 98, 99, 100, 101])
theorem w171 : vrf GG [(4, g96)] [] 482 5 g171
  (uK (uC kN29 (uE kI0 kI5 (uE kI0 kI5 (uE kI0 kI4095 (uE kI0 kI12 (uE kI0 kI24 (uE kI1 kI6 uE0)))))) (uA kN0 (rA kI90) (uA kN1 (uis kN0) (uA kN2 (uis kN1) (uA kN3 (uis kN2) (uA kN4 (uis kN3) uA0))))) uS0 (uO kN90 kN21 (uic kI0) (uO kN91 kN2 (uis kN4) (uO kN91 kN3 (uis kN5) uO0))) (Int.ofNat (nat_lit 1864)) (uL kJ148 kN3 uL0))
  (uK (uC kN62 (uE kI0 kI5 (uE kI0 kI5 (uE kI0 kI4095 (uE kI0 kI11 (uE kI0 kI2048 (uE kI0 kI4095 (uE kI0 kI24 (uE kI1 kI6 (uE kI1 kI12 uE0))))))))) (uA kN0 (rA kI90) (uA kN1 (uis kN0) (uA kN2 (uis kN1) (uA kN3 (uis kN2) (uA kN4 (uis kN3) uA0))))) (uS (uis kN4) (uS (uis kN5) uS0)) (uO kN90 kN21 (uic kI0) (uO kN91 kN2 (uis kN6) (uO kN91 kN3 (uis kN7) (uO kN91 kN4 (uis kN8) uO0)))) kI1831 (uL kJ148 kN3 uL0))
  uK0)) = true := by decide +kernel
theorem r171 {l : Launch} {D : va_G} {tys : List (ClassId × FieldType)} {A : Nat → Prop} {ad : Nat → Nat} (hAD : ∀ i : Nat, ad (1000 + i) = D.2 1000 i) : CRok l D tys A ad GG 6 g171 := CR_of_vrf (dep := 5) hAD (List.forall_mem_cons.mpr ⟨r96 hAD, fun c hc => by cases hc⟩) T2OK_nil w171
noncomputable def g172 : CR := (40, [(2, 0, 0), (0, 0, 5), (0, 0, 5)], [], some (0, (-1), 4095), [], [31])
theorem w172 : vrf GG [(4, g165)] [] 300 4 g172
  (uK (uC kN34 (uE kI0 kI5 (uE kI0 kI5 (uE kI1 kI4096 (uE kI0 kI13 (uE kI0 kI12 uE0))))) (uA kN0 (rA kI0) (uA kN1 (uis kN0) (uA kN2 (uis kN1) (uA kN3 (uis kN2) (uA kN4 (uis kN3) uA0))))) uS0 (uO kN4 kN5 (uis kN4) uO0) (Int.ofNat (nat_lit 13083938)) (uL kJ934572 kN3 uL0))
  (uK (uC kN49 (uE kI0 kI5 (uE kI0 kI5 (uE kI1 kI4096 (uE kI0 kI12 (uE kI0 kI4096 (uE kI0 kI12 uE0)))))) (uA kN0 (rA kI0) (uA kN1 (uis kN0) (uA kN2 (uis kN1) (uA kN3 (uis kN2) (uA kN4 (uis kN3) (uA kN5 (uis kN4) uA0)))))) uS0 (uO kN4 kN5 (uis kN5) uO0) (Int.ofNat (nat_lit 13083531)) (uL kJ228 kN4 (uL kJ934572 kN3 uL0)))
  (uK (uC kN70 (uE kI0 kI5 (uE kI0 kI5 (uE kI1 kI4096 (uE kI0 kI12 (uE kI0 kI4095 (uE kI0 kI1 (uE kI0 kI12 uE0))))))) (uA kN0 (rA kI0) (uA kN1 (uis kN0) (uA kN2 (uis kN1) (uA kN3 (uis kN2) (uA kN4 (uis kN3) (uA kN5 (uis kN4) uA0)))))) (uS (uis kN5) uS0) (uO kN4 kN5 (uis kN6) uO0) (Int.ofNat (nat_lit 13083510)) (uL kJ228 kN4 (uL kJ934572 kN3 uL0)))
  (uK (uC kN98 (uE kI0 kI5 (uE kI0 kI5 (uE kI1 kI4096 (uE kI0 kI12 (uE kI0 kI4095 (uE kI0 kI1 (uE kI0 kI12 uE0))))))) (uA kN0 (rA kI0) (uA kN1 (uis kN0) (uA kN2 (uis kN1) (uA kN3 (uis kN2) (uA kN4 (uis kN3) (uA kN5 (uis kN4) (uA kN6 (uis kN5) uA0))))))) uS0 (uO kN4 kN5 (uis kN6) uO0) (Int.ofNat (nat_lit 13083482)) (uL kJ228 kN4 (uL kJ934572 kN3 uL0)))
  uK0)))) = true := by decide +kernel
theorem r172 {l : Launch} {D : va_G} {tys : List (ClassId × FieldType)} {A : Nat → Prop} {ad : Nat → Nat} (hAD : ∀ i : Nat, ad (1000 + i) = D.2 1000 i) : CRok l D tys A ad GG 5 g172 := CR_of_vrf (dep := 4) hAD (List.forall_mem_cons.mpr ⟨r165 hAD, fun c hc => by cases hc⟩) T2OK_nil w172
noncomputable def g173 : CR := (38, [(2, 0, 0), (0, (-2147483648), 2147483647), (0, (-2147483648), 2147483647)], [], some (0, (-2), 63), [], [31])
theorem w173 : vrf GG [(5, g172)] [] 300 5 g173
  [] = true := by decide +kernel
theorem r173 {l : Launch} {D : va_G} {tys : List (ClassId × FieldType)} {A : Nat → Prop} {ad : Nat → Nat} (hAD : ∀ i : Nat, ad (1000 + i) = D.2 1000 i) : CRok l D tys A ad GG 6 g173 := CR_of_vrf (dep := 5) hAD (List.forall_mem_cons.mpr ⟨r172 hAD, fun c hc => by cases hc⟩) T2OK_nil w173
noncomputable def g174 : CR := (194, [(0, 0, 2147483647)], [], some (0, 0, 13), [], [])
theorem w174 : vrf GG [] [] 300 0 g174
  [] = true := by decide +kernel
theorem r174 {l : Launch} {D : va_G} {tys : List (ClassId × FieldType)} {A : Nat → Prop} {ad : Nat → Nat} (hAD : ∀ i : Nat, ad (1000 + i) = D.2 1000 i) : CRok l D tys A ad GG 1 g174 := CR_of_vrf (dep := 0) hAD (fun c hc => by cases hc) T2OK_nil w174
noncomputable def g175 : CR := (288, [(2, 90, 90), (0, 0, 5), (0, 0, 5)], [], some (0, (-1), 4095), [], [90, 98, 99, 100, 101])
theorem w175 : vrf GG [(1, g174), (4, g96)] [] 300 5 g175
  (uK (uC kN5 (uE kI0 kI5 (uE kI0 kI5 (uE kJ1 kI4095 (uE kI0 kI4096 uE0)))) (uA kN0 (rA kI90) (uA kN1 (uis kN0) (uA kN2 (uis kN1) (uA kN3 (uis kN2) (uA kN4 (uis kN3) uA0))))) uS0 uO0 (Int.ofNat (nat_lit 483434)) (uL kJ118 kN3 uL0))
  (uK (uC kN35 (uE kI0 kI5 (uE kI0 kI5 (uE kJ1 kI4095 (uE kI0 kI4095 (uE kI0 kI12 uE0))))) (uA kN0 (rA kI90) (uA kN1 (uis kN0) (uA kN2 (uis kN1) (uA kN3 (uis kN2) (uA kN4 (uis kN3) uA0))))) uS0 (uO kN91 kN4 (uis kN4) uO0) (Int.ofNat (nat_lit 483404)) (uL kJ118 kN3 uL0))
  (uK (uC kN49 (uE kI0 kI5 (uE kI0 kI5 (uE kJ1 kI4095 (uE kI0 kI4095 (uE kI0 kI12 uE0))))) (uA kN0 (rA kI90) (uA kN1 (uis kN0) (uA kN2 (uis kN1) (uA kN3 (uis kN2) (uA kN4 (uis kN3) uA0))))) uS0 (uO kN91 kN4 (uis kN4) uO0) (Int.ofNat (nat_lit 483390)) (uL kJ118 kN3 uL0))
  uK0))) = true := by decide +kernel
theorem r175 {l : Launch} {D : va_G} {tys : List (ClassId × FieldType)} {A : Nat → Prop} {ad : Nat → Nat} (hAD : ∀ i : Nat, ad (1000 + i) = D.2 1000 i) : CRok l D tys A ad GG 6 g175 := CR_of_vrf (dep := 5) hAD (List.forall_mem_cons.mpr ⟨r174 hAD, List.forall_mem_cons.mpr ⟨r96 hAD, fun c hc => by cases hc⟩⟩) T2OK_nil w175
noncomputable def g176 : CR := (289, [(2, 90, 90), (0, (-2147483648), 2147483647), (0, (-2147483648), 2147483647)], [], some (0, (-2), 13), [], [90, 98, 99, 100, 101])
theorem w176 : vrf GG [(1, g174), (6, g175)] [] 300 6 g176
  [] = true := by decide +kernel
theorem r176 {l : Launch} {D : va_G} {tys : List (ClassId × FieldType)} {A : Nat → Prop} {ad : Nat → Nat} (hAD : ∀ i : Nat, ad (1000 + i) = D.2 1000 i) : CRok l D tys A ad GG 7 g176 := CR_of_vrf (dep := 6) hAD (List.forall_mem_cons.mpr ⟨r174 hAD, List.forall_mem_cons.mpr ⟨r175 hAD, fun c hc => by cases hc⟩⟩) T2OK_nil w176
noncomputable def g177 : CR := (39, [(2, 0, 0), (0, (-2147483648), 2147483647), (0, (-2147483648), 2147483647)], [], some (0, (-2), 4095), [], [31])
theorem w177 : vrf GG [(5, g172)] [] 300 5 g177
  [] = true := by decide +kernel
theorem r177 {l : Launch} {D : va_G} {tys : List (ClassId × FieldType)} {A : Nat → Prop} {ad : Nat → Nat} (hAD : ∀ i : Nat, ad (1000 + i) = D.2 1000 i) : CRok l D tys A ad GG 6 g177 := CR_of_vrf (dep := 5) hAD (List.forall_mem_cons.mpr ⟨r172 hAD, fun c hc => by cases hc⟩) T2OK_nil w177
noncomputable def g178 : CR := (290, [(2, 90, 90), (0, (-2147483648), 2147483647), (0, (-2147483648), 2147483647)], [], some (0, (-2), 4095), [], [90, 98, 99, 100, 101])
theorem w178 : vrf GG [(6, g175)] [] 300 6 g178
  [] = true := by decide +kernel
theorem r178 {l : Launch} {D : va_G} {tys : List (ClassId × FieldType)} {A : Nat → Prop} {ad : Nat → Nat} (hAD : ∀ i : Nat, ad (1000 + i) = D.2 1000 i) : CRok l D tys A ad GG 7 g178 := CR_of_vrf (dep := 6) hAD (List.forall_mem_cons.mpr ⟨r175 hAD, fun c hc => by cases hc⟩) T2OK_nil w178
noncomputable def g185 : CR := (182, [(2, 32, 32), (2, 4, 4), (0, 0, 63), (0, 0, 5), (0, 1, 24)], [], some (0, 0, 1), [], [])
theorem w185 : vrf GG [] [] 300 2 g185
  (uK (uC kN6 (uE kI0 kI63 (uE kI0 kI5 (uE kI1 kI24 (uE kJ2147483648 kI2147483647 (uE kI0 kI6 uE0))))) (uA kN0 (rA kI32) (uA kN1 (rA kI4) (uA kN2 (uis kN0) (uA kN3 (uis kN1) (uA kN4 (uis kN2) (uA kN5 (uis kN3) (uA kN6 (uis kN4) uA0))))))) uS0 uO0 (Int.ofNat (nat_lit 854)) (uL (Int.negSucc (nat_lit 123)) kN4 uL0))
  (uK (uC kN38 (uE kI0 kI63 (uE kI0 kI5 (uE kI1 kI24 (uE kJ2147483648 kI2147483647 (uE kI0 kI5 (uE kI1 kI6 uE0)))))) (uA kN0 (rA kI32) (uA kN1 (rA kI4) (uA kN2 (uis kN0) (uA kN3 (uis kN1) (uA kN4 (uis kN2) (uA kN5 (uis kN3) (uA kN6 (uis kN4) uA0))))))) uS0 (uO kN4 kN4 (uis kN5) uO0) (Int.ofNat (nat_lit 822)) (uL (Int.negSucc (nat_lit 123)) kN4 uL0))
  uK0)) = true := by decide +kernel
theorem r185 {l : Launch} {D : va_G} {tys : List (ClassId × FieldType)} {A : Nat → Prop} {ad : Nat → Nat} (hAD : ∀ i : Nat, ad (1000 + i) = D.2 1000 i) : CRok l D tys A ad GG 3 g185 := CR_of_vrf (dep := 2) hAD (fun c hc => by cases hc) T2OK_nil w185
noncomputable def g186 : CR := (45, [(2, 0, 0), (0, (-2147483648), 2147483647), (0, (-2147483648), 2147483647), (0, (-2147483648), 2147483647)], [], some (0, (-2), 1), [], [])
theorem w186 : vrf GG [(3, g185)] [] 300 3 g186
  [] = true := by decide +kernel
theorem r186 {l : Launch} {D : va_G} {tys : List (ClassId × FieldType)} {A : Nat → Prop} {ad : Nat → Nat} (hAD : ∀ i : Nat, ad (1000 + i) = D.2 1000 i) : CRok l D tys A ad GG 4 g186 := CR_of_vrf (dep := 3) hAD (List.forall_mem_cons.mpr ⟨r185 hAD, fun c hc => by cases hc⟩) T2OK_nil w186
noncomputable def g187 : CR := (295, [(2, 90, 90), (0, 0, 63), (0, 0, 5), (0, 0, 23)], [], some (0, 0, 1), [], [])
theorem w187 : vrf GG [] [] 300 2 g187
  (uK (uC kN6 (uE kI0 kI63 (uE kI0 kI5 (uE kI0 kI23 (uE kI0 kI63 (uE kI0 kI6 uE0))))) (uA kN0 (rA kI90) (uA kN1 (uis kN0) (uA kN2 (uis kN1) (uA kN3 (uis kN2) (uA kN4 (uis kN3) (uA kN5 (uis kN4) uA0)))))) uS0 uO0 (Int.ofNat (nat_lit 966)) (uL (Int.negSucc (nat_lit 139)) kN4 uL0))
  (uK (uC kN43 (uE kI0 kI63 (uE kI0 kI5 (uE kI0 kI23 (uE kI0 kI63 (uE kI0 kI5 (uE kI0 kI63 (uE kI0 kI63 (uE kI1 kI6 uE0)))))))) (uA kN0 (rA kI90) (uA kN1 (uis kN0) (uA kN2 (uis kN1) (uA kN3 (uis kN2) (uA kN4 (uis kN3) (uA kN5 (uis kN4) uA0)))))) (uS (uis kN5) (uS (uis kN6) uS0)) (uO kN91 kN3 (uis kN7) uO0) kI929 (uL (Int.negSucc (nat_lit 139)) kN4 uL0))
  uK0)) = true := by decide +kernel
theorem r187 {l : Launch} {D : va_G} {tys : List (ClassId × FieldType)} {A : Nat → Prop} {ad : Nat → Nat} (hAD : ∀ i : Nat, ad (1000 + i) = D.2 1000 i) : CRok l D tys A ad GG 3 g187 := CR_of_vrf (dep := 2) hAD (fun c hc => by cases hc) T2OK_nil w187
noncomputable def g188 : CR := (296, [(2, 90, 90), (0, (-2147483648), 2147483647), (0, (-2147483648), 2147483647), (0, (-2147483648), 2147483647)], [], some (0, (-2), 1), [], [90, 98, 99, 100, 101])
theorem w188 : vrf GG [(4, g96), (3, g187)] [] 300 5 g188
  [] = true := by decide +kernel
theorem r188 {l : Launch} {D : va_G} {tys : List (ClassId × FieldType)} {A : Nat → Prop} {ad : Nat → Nat} (hAD : ∀ i : Nat, ad (1000 + i) = D.2 1000 i) : CRok l D tys A ad GG 6 g188 := CR_of_vrf (dep := 5) hAD (List.forall_mem_cons.mpr ⟨r96 hAD, List.forall_mem_cons.mpr ⟨r187 hAD, fun c hc => by cases hc⟩⟩) T2OK_nil w188
noncomputable def g189 : CR := (183, [(2, 32, 32), (2, 4, 4), (0, 0, 5), (0, 1, 24)], [], some (0, (-1), 63), [], [])
theorem w189 : vrf GG [(3, g185)] [] 300 3 g189
  (uK (uC kN10 (uE kI0 kI5 (uE kI1 kI24 (uE kJ1 kI63 (uE kI0 kI63 (uE kI0 kI64 uE0))))) (uA kN0 (rA kI32) (uA kN1 (rA kI4) (uA kN2 (uis kN0) (uA kN3 (uis kN1) (uA kN4 (uis kN2) (uA kN5 (uis kN3) (uA kN6 (uis kN4) uA0))))))) uS0 uO0 (Int.ofNat (nat_lit 10898)) (uL kJ168 kN4 uL0))
  (uK (uC kN33 (uE kI0 kI5 (uE kI1 kI24 (uE kJ1 kI63 (uE kI0 kI63 (uE kI0 kI63 (uE kI0 kI1 (uE kI0 kI6 uE0))))))) (uA kN0 (rA kI32) (uA kN1 (rA kI4) (uA kN2 (uis kN0) (uA kN3 (uis kN1) (uA kN4 (uis kN2) (uA kN5 (uis kN3) (uA kN6 (uis kN4) uA0))))))) (uS (uis kN5) uS0) (uO kN4 kN4 (uis kN6) uO0) (Int.ofNat (nat_lit 10875)) (uL kJ168 kN4 uL0))
  (uK (uC kN73 (uE kI0 kI5 (uE kI1 kI24 (uE kJ1 kI63 (uE kI0 kI63 (uE kI0 kI63 (uE kI0 kI1 (uE kI0 kI6 uE0))))))) (uA kN0 (rA kI32) (uA kN1 (rA kI4) (uA kN2 (uis kN0) (uA kN3 (uis kN1) (uA kN4 (uis kN2) (uA kN5 (uis kN3) (uA kN6 (uis kN4) (uA kN7 (uis kN5) uA0)))))))) uS0 (uO kN4 kN4 (uis kN6) uO0) (Int.ofNat (nat_lit 10835)) (uL kJ168 kN4 uL0))
  uK0))) = true := by decide +kernel
theorem r189 {l : Launch} {D : va_G} {tys : List (ClassId × FieldType)} {A : Nat → Prop} {ad : Nat → Nat} (hAD : ∀ i : Nat, ad (1000 + i) = D.2 1000 i) : CRok l D tys A ad GG 4 g189 := CR_of_vrf (dep := 3) hAD (List.forall_mem_cons.mpr ⟨r185 hAD, fun c hc => by cases hc⟩) T2OK_nil w189
noncomputable def g190 : CR := (46, [(2, 0, 0), (0, (-2147483648), 2147483647), (0, (-2147483648), 2147483647)], [], some (0, (-2), 63), [], [])
theorem w190 : vrf GG [(4, g189)] [] 300 4 g190
  [] = true := by decide +kernel
theorem r190 {l : Launch} {D : va_G} {tys : List (ClassId × FieldType)} {A : Nat → Prop} {ad : Nat → Nat} (hAD : ∀ i : Nat, ad (1000 + i) = D.2 1000 i) : CRok l D tys A ad GG 5 g190 := CR_of_vrf (dep := 4) hAD (List.forall_mem_cons.mpr ⟨r189 hAD, fun c hc => by cases hc⟩) T2OK_nil w190
noncomputable def g191 : CR := (297, [(2, 90, 90), (0, 0, 5), (0, 0, 23)], [], some (0, (-1), 63), [], [])
theorem w191 : vrf GG [(1, g122), (3, g187)] [] 300 3 g191
  (uK (uC kN5 (uE kI0 kI5 (uE kI0 kI23 (uE kJ1 kI63 (uE kI0 kI64 uE0)))) (uA kN0 (rA kI90) (uA kN1 (uis kN0) (uA kN2 (uis kN1) (uA kN3 (uis kN2) (uA kN4 (uis kN3) uA0))))) uS0 uO0 (Int.ofNat (nat_lit 8308)) (uL kJ128 kN3 uL0))
  (uK (uC kN40 (uE kI0 kI5 (uE kI0 kI23 (uE kJ1 kI63 (uE kI0 kI63 (uE kI0 kI6 uE0))))) (uA kN0 (rA kI90) (uA kN1 (uis kN0) (uA kN2 (uis kN1) (uA kN3 (uis kN2) (uA kN4 (uis kN3) uA0))))) uS0 (uO kN91 kN3 (uis kN4) uO0) (Int.ofNat (nat_lit 8273)) (uL kJ128 kN3 uL0))
  (uK (uC kN54 (uE kI0 kI5 (uE kI0 kI23 (uE kJ1 kI63 (uE kI0 kI63 (uE kI0 kI6 uE0))))) (uA kN0 (rA kI90) (uA kN1 (uis kN0) (uA kN2 (uis kN1) (uA kN3 (uis kN2) (uA kN4 (uis kN3) uA0))))) uS0 (uO kN91 kN3 (uis kN4) uO0) (Int.ofNat (nat_lit 8259)) (uL kJ128 kN3 uL0))
  uK0))) = true := by decide +kernel
theorem r191 {l : Launch} {D : va_G} {tys : List (ClassId × FieldType)} {A : Nat → Prop} {ad : Nat → Nat} (hAD : ∀ i : Nat, ad (1000 + i) = D.2 1000 i) : CRok l D tys A ad GG 4 g191 := CR_of_vrf (dep := 3) hAD (List.forall_mem_cons.mpr ⟨r122 hAD, List.forall_mem_cons.mpr ⟨r187 hAD, fun c hc => by cases hc⟩⟩) T2OK_nil w191
noncomputable def g192 : CR := (298, [(2, 90, 90), (0, (-2147483648), 2147483647), (0, (-2147483648), 2147483647)], [], some (0, (-2), 13), [], [90, 98, 99, 100, 101])
theorem w192 : vrf GG [(1, g122), (4, g96), (4, g191)] [] 300 5 g192
  [] = true := by decide +kernel
theorem r192 {l : Launch} {D : va_G} {tys : List (ClassId × FieldType)} {A : Nat → Prop} {ad : Nat → Nat} (hAD : ∀ i : Nat, ad (1000 + i) = D.2 1000 i) : CRok l D tys A ad GG 6 g192 := CR_of_vrf (dep := 5) hAD (List.forall_mem_cons.mpr ⟨r122 hAD, List.forall_mem_cons.mpr ⟨r96 hAD, List.forall_mem_cons.mpr ⟨r191 hAD, fun c hc => by cases hc⟩⟩⟩) T2OK_nil w192
noncomputable def g193 : CR := (47, [(2, 0, 0), (0, (-2147483648), 2147483647), (0, (-2147483648), 2147483647)], [], some (0, (-2), 63), [], [])
theorem w193 : vrf GG [(4, g189)] [] 300 4 g193
  [] = true := by decide +kernel
theorem r193 {l : Launch} {D : va_G} {tys : List (ClassId × FieldType)} {A : Nat → Prop} {ad : Nat → Nat} (hAD : ∀ i : Nat, ad (1000 + i) = D.2 1000 i) : CRok l D tys A ad GG 5 g193 := CR_of_vrf (dep := 4) hAD (List.forall_mem_cons.mpr ⟨r189 hAD, fun c hc => by cases hc⟩) T2OK_nil w193
noncomputable def g194 : CR := (299, [(2, 90, 90), (0, (-2147483648), 2147483647), (0, (-2147483648), 2147483647)], [], some (0, (-2), 63), [], [90, 98, 99, 100, 101])
theorem w194 : vrf GG [(4, g96), (4, g191)] [] 300 5 g194
  [] = true := by decide +kernel
theorem r194 {l : Launch} {D : va_G} {tys : List (ClassId × FieldType)} {A : Nat → Prop} {ad : Nat → Nat} (hAD : ∀ i : Nat, ad (1000 + i) = D.2 1000 i) : CRok l D tys A ad GG 6 g194 := CR_of_vrf (dep := 5) hAD (List.forall_mem_cons.mpr ⟨r96 hAD, List.forall_mem_cons.mpr ⟨r191 hAD, fun c hc => by cases hc⟩⟩) T2OK_nil w194
noncomputable def g195 : CR := (50, [(2, 0, 0), (0, (-2147483648), 0), (0, (-2147483648), 2147483647), (0, (-2147483648), 2147483647)], [], some (0, (-2), (-2)), [], [])
theorem w195 : vrf GG [] [] 300 0 g195
  [] = true := by decide +kernel
theorem r195 {l : Launch} {D : va_G} {tys : List (ClassId × FieldType)} {A : Nat → Prop} {ad : Nat → Nat} (hAD : ∀ i : Nat, ad (1000 + i) = D.2 1000 i) : CRok l D tys A ad GG 1 g195 := CR_of_vrf (dep := 0) hAD (fun c hc => by cases hc) T2OK_nil w195
noncomputable def g196 : CR := (48, [(2, 0, 0), (0, (-2147483648), 0), (0, (-2147483648), 2147483647), (0, (-2147483648), 2147483647)], [], some (0, (-2), (-2)), [], [])
theorem w196 : vrf GG [(1, g195)] [] 300 1 g196
  [] = true := by decide +kernel
theorem r196 {l : Launch} {D : va_G} {tys : List (ClassId × FieldType)} {A : Nat → Prop} {ad : Nat → Nat} (hAD : ∀ i : Nat, ad (1000 + i) = D.2 1000 i) : CRok l D tys A ad GG 2 g196 := CR_of_vrf (dep := 1) hAD (List.forall_mem_cons.mpr ⟨r195 hAD, fun c hc => by cases hc⟩) T2OK_nil w196
noncomputable def g197 : CR := (50, [(2, 0, 0), (0, 7, 2147483647), (0, (-2147483648), 2147483647), (0, (-2147483648), 2147483647)], [], some (0, (-2), (-2)), [], [])
theorem w197 : vrf GG [] [] 300 0 g197
  [] = true := by decide +kernel
theorem r197 {l : Launch} {D : va_G} {tys : List (ClassId × FieldType)} {A : Nat → Prop} {ad : Nat → Nat} (hAD : ∀ i : Nat, ad (1000 + i) = D.2 1000 i) : CRok l D tys A ad GG 1 g197 := CR_of_vrf (dep := 0) hAD (fun c hc => by cases hc) T2OK_nil w197
noncomputable def g198 : CR := (48, [(2, 0, 0), (0, 7, 2147483647), (0, (-2147483648), 2147483647), (0, (-2147483648), 2147483647)], [], some (0, (-2), (-2)), [], [])
theorem w198 : vrf GG [(1, g197)] [] 300 1 g198
  [] = true := by decide +kernel
theorem r198 {l : Launch} {D : va_G} {tys : List (ClassId × FieldType)} {A : Nat → Prop} {ad : Nat → Nat} (hAD : ∀ i : Nat, ad (1000 + i) = D.2 1000 i) : CRok l D tys A ad GG 2 g198 := CR_of_vrf (dep := 1) hAD (List.forall_mem_cons.mpr ⟨r197 hAD, fun c hc => by cases hc⟩) T2OK_nil w198
noncomputable def g199 : CR := (50, [(2, 0, 0), (0, 1, 6), (0, (-2147483648), (-1)), (0, (-2147483648), 2147483647)], [], some (0, (-2), (-2)), [], [])
theorem w199 : vrf GG [] [] 300 1 g199
  [] = true := by decide +kernel
theorem r199 {l : Launch} {D : va_G} {tys : List (ClassId × FieldType)} {A : Nat → Prop} {ad : Nat → Nat} (hAD : ∀ i : Nat, ad (1000 + i) = D.2 1000 i) : CRok l D tys A ad GG 2 g199 := CR_of_vrf (dep := 1) hAD (fun c hc => by cases hc) T2OK_nil w199
noncomputable def g200 : CR := (48, [(2, 0, 0), (0, 1, 6), (0, (-2147483648), (-1)), (0, (-2147483648), 2147483647)], [], some (0, (-2), (-2)), [], [])
theorem w200 : vrf GG [(2, g199)] [] 300 2 g200
  [] = true := by decide +kernel
theorem r200 {l : Launch} {D : va_G} {tys : List (ClassId × FieldType)} {A : Nat → Prop} {ad : Nat → Nat} (hAD : ∀ i : Nat, ad (1000 + i) = D.2 1000 i) : CRok l D tys A ad GG 3 g200 := CR_of_vrf (dep := 2) hAD (List.forall_mem_cons.mpr ⟨r199 hAD, fun c hc => by cases hc⟩) T2OK_nil w200
noncomputable def g201 : CR := (50, [(2, 0, 0), (0, 1, 6), (0, 4, 2147483647), (0, (-2147483648), 2147483647)], [], some (0, (-2), (-2)), [], [])
theorem w201 : vrf GG [] [] 300 1 g201
  [] = true := by decide +kernel
theorem r201 {l : Launch} {D : va_G} {tys : List (ClassId × FieldType)} {A : Nat → Prop} {ad : Nat → Nat} (hAD : ∀ i : Nat, ad (1000 + i) = D.2 1000 i) : CRok l D tys A ad GG 2 g201 := CR_of_vrf (dep := 1) hAD (fun c hc => by cases hc) T2OK_nil w201
noncomputable def g202 : CR := (48, [(2, 0, 0), (0, 1, 6), (0, 4, 2147483647), (0, (-2147483648), 2147483647)], [], some (0, (-2), (-2)), [], [])
theorem w202 : vrf GG [(2, g201)] [] 300 2 g202
  [] = true := by decide +kernel
theorem r202 {l : Launch} {D : va_G} {tys : List (ClassId × FieldType)} {A : Nat → Prop} {ad : Nat → Nat} (hAD : ∀ i : Nat, ad (1000 + i) = D.2 1000 i) : CRok l D tys A ad GG 3 g202 := CR_of_vrf (dep := 2) hAD (List.forall_mem_cons.mpr ⟨r201 hAD, fun c hc => by cases hc⟩) T2OK_nil w202
noncomputable def g203 : CR := (50, [(2, 0, 0), (0, 1, 6), (0, 0, 3), (0, (-2147483648), (-1))], [], some (0, (-2), (-2)), [], [])
theorem w203 : vrf GG [] [] 300 1 g203
  [] = true := by decide +kernel
theorem r203 {l : Launch} {D : va_G} {tys : List (ClassId × FieldType)} {A : Nat → Prop} {ad : Nat → Nat} (hAD : ∀ i : Nat, ad (1000 + i) = D.2 1000 i) : CRok l D tys A ad GG 2 g203 := CR_of_vrf (dep := 1) hAD (fun c hc => by cases hc) T2OK_nil w203
noncomputable def g204 : CR := (48, [(2, 0, 0), (0, 1, 6), (0, 0, 3), (0, (-2147483648), (-1))], [], some (0, (-2), (-2)), [], [])
theorem w204 : vrf GG [(2, g203)] [] 300 2 g204
  [] = true := by decide +kernel
theorem r204 {l : Launch} {D : va_G} {tys : List (ClassId × FieldType)} {A : Nat → Prop} {ad : Nat → Nat} (hAD : ∀ i : Nat, ad (1000 + i) = D.2 1000 i) : CRok l D tys A ad GG 3 g204 := CR_of_vrf (dep := 2) hAD (List.forall_mem_cons.mpr ⟨r203 hAD, fun c hc => by cases hc⟩) T2OK_nil w204
noncomputable def g205 : CR := (50, [(2, 0, 0), (0, 1, 6), (0, 0, 3), (0, 4, 2147483647)], [], some (0, (-2), (-2)), [], [])
theorem w205 : vrf GG [] [] 300 1 g205
  [] = true := by decide +kernel
theorem r205 {l : Launch} {D : va_G} {tys : List (ClassId × FieldType)} {A : Nat → Prop} {ad : Nat → Nat} (hAD : ∀ i : Nat, ad (1000 + i) = D.2 1000 i) : CRok l D tys A ad GG 2 g205 := CR_of_vrf (dep := 1) hAD (fun c hc => by cases hc) T2OK_nil w205
noncomputable def g206 : CR := (48, [(2, 0, 0), (0, 1, 6), (0, 0, 3), (0, 4, 2147483647)], [], some (0, (-2), (-2)), [], [])
theorem w206 : vrf GG [(2, g205)] [] 300 2 g206
  [] = true := by decide +kernel
theorem r206 {l : Launch} {D : va_G} {tys : List (ClassId × FieldType)} {A : Nat → Prop} {ad : Nat → Nat} (hAD : ∀ i : Nat, ad (1000 + i) = D.2 1000 i) : CRok l D tys A ad GG 3 g206 := CR_of_vrf (dep := 2) hAD (List.forall_mem_cons.mpr ⟨r205 hAD, fun c hc => by cases hc⟩) T2OK_nil w206
noncomputable def g207 : CR := (155, [(2, 39, 39), (0, 1, 63), (0, 0, 3), (0, 0, 3)], [], some (0, (-2147483648), 2147483647), [], [])
theorem w207 : vrf GG [] [] 460 3 g207
  (uK (uC kN3 (uE kI1 kI63 (uE kI0 kI3 (uE kI0 kI3 (uE kI0 kI60 uE0)))) (uA kN0 (rA kI39) (uA kN1 (uis kN0) (uA kN2 (uis kN1) (uA kN3 (uis kN2) (uA kN4 (uis kN3) uA0))))) uS0 uO0 (Int.ofNat (nat_lit 21394)) (uL kJ174 kN3 uL0))
  (uK (uC kN42 (uE kI1 kI63 (uE kI0 kI3 (uE kI0 kI3 (uE kJ2147483648 kI2147483647 (uE kI0 kI60 uE0))))) (uA kN0 (rA kI39) (uA kN1 (uis kN0) (uA kN2 (uis kN1) (uA kN3 (uis kN2) (uA kN4 (uis kN3) (uA kN5 (uis kN4) uA0)))))) uS0 uO0 (Int.ofNat (nat_lit 10528)) (uL kJ174 kN4 uL0))
  (uK (uC kN76 (uE kI1 kI63 (uE kI0 kI3 (uE kI0 kI3 (uE kJ2147483648 kI2147483647 (uE kI0 kI59 uE0))))) (uA kN0 (rA kI39) (uA kN1 (uis kN0) (uA kN2 (uis kN1) (uA kN3 (uis kN2) (uA kN4 (uis kN3) (uA kN5 (uis kN4) uA0)))))) uS0 uO0 (Int.ofNat (nat_lit 10494)) (uL kJ174 kN4 uL0))
  uK0))) = true := by decide +kernel
theorem r207 {l : Launch} {D : va_G} {tys : List (ClassId × FieldType)} {A : Nat → Prop} {ad : Nat → Nat} (hAD : ∀ i : Nat, ad (1000 + i) = D.2 1000 i) : CRok l D tys A ad GG 4 g207 := CR_of_vrf (dep := 3) hAD (fun c hc => by cases hc) T2OK_nil w207
noncomputable def g208 : CR := (157, [(2, 43, 43), (0, 1, 63), (0, 1, 6), (0, 0, 255)], [], some (0, (-2147483648), 2147483647), [], [])
theorem w208 : vrf GG [] [] 300 1 g208
  [] = true := by decide +kernel
theorem r208 {l : Launch} {D : va_G} {tys : List (ClassId × FieldType)} {A : Nat → Prop} {ad : Nat → Nat} (hAD : ∀ i : Nat, ad (1000 + i) = D.2 1000 i) : CRok l D tys A ad GG 2 g208 := CR_of_vrf (dep := 1) hAD (fun c hc => by cases hc) T2OK_nil w208
noncomputable def g209 : CR := (156, [(2, 43, 43), (0, 1, 6), (0, 0, 255)], [], some (0, (-2147483648), 1000), [], [])
theorem w209 : vrf GG [(2, g208)] [] 300 2 g209
  (uK (uC kN7 (uE kI1 kI6 (uE kI0 kI255 (uE kJ2147483648 kI1000 (uE kI1 kI64 uE0)))) (uA kN0 (rA kI43) (uA kN1 (uis kN0) (uA kN2 (uis kN1) (uA kN3 (uis kN2) (uA kN4 (uis kN3) uA0))))) uS0 uO0 (Int.ofNat (nat_lit 4794)) (uL kJ74 kN3 uL0))
  uK0) = true := by decide +kernel
theorem r209 {l : Launch} {D : va_G} {tys : List (ClassId × FieldType)} {A : Nat → Prop} {ad : Nat → Nat} (hAD : ∀ i : Nat, ad (1000 + i) = D.2 1000 i) : CRok l D tys A ad GG 3 g209 := CR_of_vrf (dep := 2) hAD (List.forall_mem_cons.mpr ⟨r208 hAD, fun c hc => by cases hc⟩) T2OK_nil w209
noncomputable def g210 : CR := (157, [(2, 43, 43), (0, 1, 63), (0, (-2147483648), 6), (0, 0, 255)], [], some (0, (-2147483648), 2147483647), [], [])
theorem w210 : vrf GG [] [] 300 1 g210
  [] = true := by decide +kernel
theorem r210 {l : Launch} {D : va_G} {tys : List (ClassId × FieldType)} {A : Nat → Prop} {ad : Nat → Nat} (hAD : ∀ i : Nat, ad (1000 + i) = D.2 1000 i) : CRok l D tys A ad GG 2 g210 := CR_of_vrf (dep := 1) hAD (fun c hc => by cases hc) T2OK_nil w210
noncomputable def g211 : CR := (158, [(2, 43, 43), (0, 1, 6), (0, 0, 255)], [], none, [], [46])
theorem w211 : vrf GG [(2, g210)] [] 300 2 g211
  (uK (uC kN5 (uE kI1 kI6 (uE kI0 kI255 (uE kI0 kI255 (uE kI0 kI6 uE0)))) (uA kN0 (rA kI43) (uA kN1 (uis kN0) (uA kN2 (uis kN1) (uA kN3 (uis kN2) (uA kN4 (uis kN3) uA0))))) uS0 uO0 (Int.ofNat (nat_lit 93312)) (uL kJ13332 kN3 uL0))
  (uK (uC kN37 (uE kI1 kI6 (uE kI0 kI255 (uE kI0 kI255 (uE kI0 kI5 (uE kJ128 kI6 (uE kJ2147483648 kI2147483647 (uE kI1 kI64 uE0))))))) (uA kN0 (rA kI43) (uA kN1 (uis kN0) (uA kN2 (uis kN1) (uA kN3 (uis kN2) (uA kN4 (uis kN3) (uA kN5 (uis kN4) (uA kN6 (uis kN5) (uA kN7 (uis kN6) uA0)))))))) uS0 uO0 (Int.ofNat (nat_lit 93141)) (uL kJ202 kN6 (uL kJ13332 kN3 uL0)))
  (uK (uC kN92 (uE kI1 kI6 (uE kI0 kI255 (uE kI0 kI255 (uE kI0 kI5 (uE kJ128 kI6 (uE kJ2147483648 kI2147483647 (uE kI1 kI64 uE0))))))) (uA kN0 (rA kI43) (uA kN1 (uis kN0) (uA kN2 (uis kN1) (uA kN3 (uis kN2) (uA kN4 (uis kN3) (uA kN5 (uis kN4) (uA kN6 (uis kN5) (uA kN7 (uis kN6) uA0)))))))) uS0 uO0 (Int.ofNat (nat_lit 80095)) (uL kJ13332 kN3 uL0))
  uK0))) = true := by decide +kernel
theorem r211 {l : Launch} {D : va_G} {tys : List (ClassId × FieldType)} {A : Nat → Prop} {ad : Nat → Nat} (hAD : ∀ i : Nat, ad (1000 + i) = D.2 1000 i) : CRok l D tys A ad GG 3 g211 := CR_of_vrf (dep := 2) hAD (List.forall_mem_cons.mpr ⟨r210 hAD, fun c hc => by cases hc⟩) T2OK_nil w211
noncomputable def g212 : CR := (154, [(2, 43, 43), (2, 39, 39), (0, 1, 6), (0, 0, 3), (0, 0, 3)], [], some (0, (-2147483648), 999), [], [44, 45, 46])
theorem w212 : vrf GG [(4, g207), (3, g209), (3, g211)] [] 300 4 g212
  (uK (uC kN3 (uE kI1 kI6 (uE kI0 kI3 (uE kI0 kI3 (uE kI1 kI64 uE0)))) (uA kN0 (rA kI43) (uA kN1 (rA kI39) (uA kN2 (uis kN0) (uA kN3 (uis kN1) (uA kN4 (uis kN2) (uA kN5 (uis kN3) uA0)))))) uS0 uO0 (Int.ofNat (nat_lit 895722)) (uL kJ374 kN3 uL0))
  (uK (uC kN37 (uE kI1 kI6 (uE kI0 kI3 (uE kI0 kI3 (uE kI0 kI256 uE0)))) (uA kN0 (rA kI43) (uA kN1 (rA kI39) (uA kN2 (uis kN0) (uA kN3 (uis kN1) (uA kN4 (uis kN2) (uA kN5 (uis kN3) uA0)))))) uS0 uO0 (Int.ofNat (nat_lit 870970)) (uL kJ374 kN3 uL0))
  (uK (uC kN63 (uE kI1 kI6 (uE kI0 kI3 (uE kI0 kI3 (uE kI0 kI255 (uE kI0 kI1000 (uE kI0 kI255 uE0)))))) (uA kN0 (rA kI43) (uA kN1 (rA kI39) (uA kN2 (uis kN0) (uA kN3 (uis kN1) (uA kN4 (uis kN2) (uA kN5 (uis kN3) uA0)))))) (uS (uis kN4) (uS (uis kN5) (uS (rA kI45) uS0))) uO0 (Int.ofNat (nat_lit 870944)) (uL kJ374 kN3 uL0))
  (uK (uC kN96 (uE kI1 kI6 (uE kI0 kI3 (uE kI0 kI3 (uE kI0 kI255 (uE kI1 kI7 uE0))))) (uA kN0 (rA kI43) (uA kN1 (rA kI39) (uA kN2 (uis kN0) (uA kN3 (uis kN1) (uA kN4 (uis kN2) (uA kN5 (uis kN3) (uA kN6 (uis kN4) uA0))))))) uS0 uO0 (Int.ofNat (nat_lit 774734)) (uL (Int.negSucc (nat_lit 96865)) kN4 uL0))
  (uK (uC kN105 (uE kI1 kI6 (uE kI0 kI3 (uE kI0 kI3 (uE kI0 kI255 (uE kI1 kI6 (uE kI0 kI256 uE0)))))) (uA kN0 (rA kI43) (uA kN1 (rA kI39) (uA kN2 (uis kN0) (uA kN3 (uis kN1) (uA kN4 (uis kN2) (uA kN5 (uis kN3) (uA kN6 (uis kN4) (uA kN7 (uis kN5) uA0)))))))) uS0 uO0 (Int.ofNat (nat_lit 774058)) (uL kJ374 kN5 (uL (Int.negSucc (nat_lit 96865)) kN4 uL0)))
  uK0))))) = true := by decide +kernel
theorem r212 {l : Launch} {D : va_G} {tys : List (ClassId × FieldType)} {A : Nat → Prop} {ad : Nat → Nat} (hAD : ∀ i : Nat, ad (1000 + i) = D.2 1000 i) : CRok l D tys A ad GG 5 g212 := CR_of_vrf (dep := 4) hAD (List.forall_mem_cons.mpr ⟨r207 hAD, List.forall_mem_cons.mpr ⟨r209 hAD, List.forall_mem_cons.mpr ⟨r211 hAD, fun c hc => by cases hc⟩⟩⟩) T2OK_nil w212
noncomputable def g213 : CR := (170, [(2, 39, 39), (0, 0, 3), (0, 1, 1), (0, 63, 63)], [], some (0, 0, 1), [], [])
theorem w213 : vrf GG [] [] 300 3 g213
  (uK (uC kN3 (uE kI0 kI3 (uE kI0 kI60 uE0)) (uA kN0 (rA kI39) (uA kN1 (uis kN0) (uA kN2 (uic kI1) (uA kN3 (uic kI63) (uA kN4 (uis kN1) uA0))))) uS0 uO0 (Int.ofNat (nat_lit 6214)) (uL kJ102 kN1 uL0))
  (uK (uC kN39 (uE kI0 kI3 (uE kI0 kI59 uE0)) (uA kN0 (rA kI39) (uA kN1 (uis kN0) (uA kN2 (uic kI1) (uA kN3 (uic kI63) (uA kN4 (uis kN1) uA0))))) uS0 uO0 (Int.ofNat (nat_lit 6178)) (uL kJ102 kN1 uL0))
  uK0)) = true := by decide +kernel
theorem r213 {l : Launch} {D : va_G} {tys : List (ClassId × FieldType)} {A : Nat → Prop} {ad : Nat → Nat} (hAD : ∀ i : Nat, ad (1000 + i) = D.2 1000 i) : CRok l D tys A ad GG 4 g213 := CR_of_vrf (dep := 3) hAD (fun c hc => by cases hc) T2OK_nil w213
noncomputable def g214 : CR := (50, [(2, 0, 0), (0, 1, 6), (0, 0, 3), (0, 0, 3)], [], some (0, (-6), 0), [], [])
theorem w214 : vrf GG [(4, g213)] [] 300 4 g214
  [] = true := by decide +kernel
theorem r214 {l : Launch} {D : va_G} {tys : List (ClassId × FieldType)} {A : Nat → Prop} {ad : Nat → Nat} (hAD : ∀ i : Nat, ad (1000 + i) = D.2 1000 i) : CRok l D tys A ad GG 5 g214 := CR_of_vrf (dep := 4) hAD (List.forall_mem_cons.mpr ⟨r213 hAD, fun c hc => by cases hc⟩) T2OK_nil w214
noncomputable def g215 : CR := (48, [(2, 0, 0), (0, 1, 6), (0, 0, 3), (0, 0, 3)], [], some (0, (-2147483648), 999), [], [44, 45, 46])
theorem w215 : vrf GG [(5, g214), (5, g212)] [] 300 5 g215
  [] = true := by decide +kernel
theorem r215 {l : Launch} {D : va_G} {tys : List (ClassId × FieldType)} {A : Nat → Prop} {ad : Nat → Nat} (hAD : ∀ i : Nat, ad (1000 + i) = D.2 1000 i) : CRok l D tys A ad GG 6 g215 := CR_of_vrf (dep := 5) hAD (List.forall_mem_cons.mpr ⟨r214 hAD, List.forall_mem_cons.mpr ⟨r212 hAD, fun c hc => by cases hc⟩⟩) T2OK_nil w215
noncomputable def g216 : CR := (301, [(2, 90, 90), (0, (-2147483648), 0), (0, (-2147483648), 2147483647), (0, (-2147483648), 2147483647)], [], some (0, (-2), (-2)), [], [])
theorem w216 : vrf GG [] [] 300 2 g216
  [] = true := by decide +kernel
theorem r216 {l : Launch} {D : va_G} {tys : List (ClassId × FieldType)} {A : Nat → Prop} {ad : Nat → Nat} (hAD : ∀ i : Nat, ad (1000 + i) = D.2 1000 i) : CRok l D tys A ad GG 3 g216 := CR_of_vrf (dep := 2) hAD (fun c hc => by cases hc) T2OK_nil w216
noncomputable def g217 : CR := (303, [(2, 90, 90), (0, (-2147483648), 0), (0, (-2147483648), 2147483647), (0, (-2147483648), 2147483647)], [], some (0, (-2), (-2)), [], [])
theorem w217 : vrf GG [(3, g216)] [] 300 3 g217
  [] = true := by decide +kernel
theorem r217 {l : Launch} {D : va_G} {tys : List (ClassId × FieldType)} {A : Nat → Prop} {ad : Nat → Nat} (hAD : ∀ i : Nat, ad (1000 + i) = D.2 1000 i) : CRok l D tys A ad GG 4 g217 := CR_of_vrf (dep := 3) hAD (List.forall_mem_cons.mpr ⟨r216 hAD, fun c hc => by cases hc⟩) T2OK_nil w217
noncomputable def g218 : CR := (301, [(2, 90, 90), (0, 7, 2147483647), (0, (-2147483648), 2147483647), (0, (-2147483648), 2147483647)], [], some (0, (-2), (-2)), [], [])
theorem w218 : vrf GG [] [] 300 2 g218
  [] = true := by decide +kernel
theorem r218 {l : Launch} {D : va_G} {tys : List (ClassId × FieldType)} {A : Nat → Prop} {ad : Nat → Nat} (hAD : ∀ i : Nat, ad (1000 + i) = D.2 1000 i) : CRok l D tys A ad GG 3 g218 := CR_of_vrf (dep := 2) hAD (fun c hc => by cases hc) T2OK_nil w218
noncomputable def g219 : CR := (303, [(2, 90, 90), (0, 7, 2147483647), (0, (-2147483648), 2147483647), (0, (-2147483648), 2147483647)], [], some (0, (-2), (-2)), [], [])
theorem w219 : vrf GG [(3, g218)] [] 300 3 g219
  [] = true := by decide +kernel
theorem r219 {l : Launch} {D : va_G} {tys : List (ClassId × FieldType)} {A : Nat → Prop} {ad : Nat → Nat} (hAD : ∀ i : Nat, ad (1000 + i) = D.2 1000 i) : CRok l D tys A ad GG 4 g219 := CR_of_vrf (dep := 3) hAD (List.forall_mem_cons.mpr ⟨r218 hAD, fun c hc => by cases hc⟩) T2OK_nil w219
noncomputable def g220 : CR := (301, [(2, 90, 90), (0, 1, 6), (0, (-2147483648), (-1)), (0, (-2147483648), 2147483647)], [], some (0, (-2), (-2)), [], [])
theorem w220 : vrf GG [] [] 300 2 g220
  [] = true := by decide +kernel
theorem r220 {l : Launch} {D : va_G} {tys : List (ClassId × FieldType)} {A : Nat → Prop} {ad : Nat → Nat} (hAD : ∀ i : Nat, ad (1000 + i) = D.2 1000 i) : CRok l D tys A ad GG 3 g220 := CR_of_vrf (dep := 2) hAD (fun c hc => by cases hc) T2OK_nil w220
noncomputable def g221 : CR := (303, [(2, 90, 90), (0, 1, 6), (0, (-2147483648), (-1)), (0, (-2147483648), 2147483647)], [], some (0, (-2), (-2)), [], [])
theorem w221 : vrf GG [(3, g220)] [] 300 3 g221
  [] = true := by decide +kernel
theorem r221 {l : Launch} {D : va_G} {tys : List (ClassId × FieldType)} {A : Nat → Prop} {ad : Nat → Nat} (hAD : ∀ i : Nat, ad (1000 + i) = D.2 1000 i) : CRok l D tys A ad GG 4 g221 := CR_of_vrf (dep := 3) hAD (List.forall_mem_cons.mpr ⟨r220 hAD, fun c hc => by cases hc⟩) T2OK_nil w221
noncomputable def g222 : CR := (301, [(2, 90, 90), (0, 1, 6), (0, 4, 2147483647), (0, (-2147483648), 2147483647)], [], some (0, (-2), (-2)), [], [])
theorem w222 : vrf GG [] [] 300 2 g222
  [] = true := by decide +kernel
theorem r222 {l : Launch} {D : va_G} {tys : List (ClassId × FieldType)} {A : Nat → Prop} {ad : Nat → Nat} (hAD : ∀ i : Nat, ad (1000 + i) = D.2 1000 i) : CRok l D tys A ad GG 3 g222 := CR_of_vrf (dep := 2) hAD (fun c hc => by cases hc) T2OK_nil w222
noncomputable def g223 : CR := (303, [(2, 90, 90), (0, 1, 6), (0, 4, 2147483647), (0, (-2147483648), 2147483647)], [], some (0, (-2), (-2)), [], [])
theorem w223 : vrf GG [(3, g222)] [] 300 3 g223
  [] = true := by decide +kernel
theorem r223 {l : Launch} {D : va_G} {tys : List (ClassId × FieldType)} {A : Nat → Prop} {ad : Nat → Nat} (hAD : ∀ i : Nat, ad (1000 + i) = D.2 1000 i) : CRok l D tys A ad GG 4 g223 := CR_of_vrf (dep := 3) hAD (List.forall_mem_cons.mpr ⟨r222 hAD, fun c hc => by cases hc⟩) T2OK_nil w223
noncomputable def g224 : CR := (301, [(2, 90, 90), (0, 1, 6), (0, 0, 3), (0, (-2147483648), (-1))], [], some (0, (-2), (-2)), [], [])
theorem w224 : vrf GG [] [] 300 2 g224
  [] = true := by decide +kernel
theorem r224 {l : Launch} {D : va_G} {tys : List (ClassId × FieldType)} {A : Nat → Prop} {ad : Nat → Nat} (hAD : ∀ i : Nat, ad (1000 + i) = D.2 1000 i) : CRok l D tys A ad GG 3 g224 := CR_of_vrf (dep := 2) hAD (fun c hc => by cases hc) T2OK_nil w224
noncomputable def g225 : CR := (303, [(2, 90, 90), (0, 1, 6), (0, 0, 3), (0, (-2147483648), (-1))], [], some (0, (-2), (-2)), [], [])
theorem w225 : vrf GG [(3, g224)] [] 300 3 g225
  [] = true := by decide +kernel
theorem r225 {l : Launch} {D : va_G} {tys : List (ClassId × FieldType)} {A : Nat → Prop} {ad : Nat → Nat} (hAD : ∀ i : Nat, ad (1000 + i) = D.2 1000 i) : CRok l D tys A ad GG 4 g225 := CR_of_vrf (dep := 3) hAD (List.forall_mem_cons.mpr ⟨r224 hAD, fun c hc => by cases hc⟩) T2OK_nil w225
noncomputable def g226 : CR := (301, [(2, 90, 90), (0, 1, 6), (0, 0, 3), (0, 4, 2147483647)], [], some (0, (-2), (-2)), [], [])
theorem w226 : vrf GG [] [] 300 2 g226
  [] = true := by decide +kernel
theorem r226 {l : Launch} {D : va_G} {tys : List (ClassId × FieldType)} {A : Nat → Prop} {ad : Nat → Nat} (hAD : ∀ i : Nat, ad (1000 + i) = D.2 1000 i) : CRok l D tys A ad GG 3 g226 := CR_of_vrf (dep := 2) hAD (fun c hc => by cases hc) T2OK_nil w226
noncomputable def g227 : CR := (303, [(2, 90, 90), (0, 1, 6), (0, 0, 3), (0, 4, 2147483647)], [], some (0, (-2), (-2)), [], [])
theorem w227 : vrf GG [(3, g226)] [] 300 3 g227
  [] = true := by decide +kernel
theorem r227 {l : Launch} {D : va_G} {tys : List (ClassId × FieldType)} {A : Nat → Prop} {ad : Nat → Nat} (hAD : ∀ i : Nat, ad (1000 + i) = D.2 1000 i) : CRok l D tys A ad GG 4 g227 := CR_of_vrf (dep := 3) hAD (List.forall_mem_cons.mpr ⟨r226 hAD, fun c hc => by cases hc⟩) T2OK_nil w227
noncomputable def g228 : CR := (301, [(2, 90, 90), (0, 1, 6), (0, 0, 3), (0, 0, 0)], [((107, 0), (0, (-1), (-1)))], some (0, (-6), (-6)), [], [])
theorem w228 : vrf GG [] [] 300 2 g228
  [] = true := by decide +kernel
theorem r228 {l : Launch} {D : va_G} {tys : List (ClassId × FieldType)} {A : Nat → Prop} {ad : Nat → Nat} (hAD : ∀ i : Nat, ad (1000 + i) = D.2 1000 i) : CRok l D tys A ad GG 3 g228 := CR_of_vrf (dep := 2) hAD (fun c hc => by cases hc) T2OK_nil w228
noncomputable def g229 : CR := (303, [(2, 90, 90), (0, 1, 6), (0, 0, 3), (0, 0, 0)], [((107, 0), (0, (-1), (-1)))], some (0, (-6), (-6)), [], [])
theorem w229 : vrf GG [(3, g228)] [] 300 3 g229
  [] = true := by decide +kernel
theorem r229 {l : Launch} {D : va_G} {tys : List (ClassId × FieldType)} {A : Nat → Prop} {ad : Nat → Nat} (hAD : ∀ i : Nat, ad (1000 + i) = D.2 1000 i) : CRok l D tys A ad GG 4 g229 := CR_of_vrf (dep := 3) hAD (List.forall_mem_cons.mpr ⟨r228 hAD, fun c hc => by cases hc⟩) T2OK_nil w229
noncomputable def g230 : CR := (301, [(2, 90, 90), (0, 1, 6), (0, 0, 3), (0, 0, 0)], [((107, 0), (0, 0, 8))], some (0, (-6), 0), [], [])
theorem w230 : vrf GG [] [] 300 2 g230
  (uK (uC kN69 (uE kI1 kI6 (uE kI0 kI3 (uE kI0 kI60 (uE kI0 kI8 uE0)))) (uA kN0 (rA kI90) (uA kN1 (uis kN0) (uA kN2 (uis kN1) (uA kN3 (uic kI0) (uA kN4 (uis kN2) uA0))))) uS0 (uO kN107 kN0 (uis kN3) uO0) kI21160 (uL kJ300 kN2 uL0))
  (uK (uC kN109 (uE kI1 kI6 (uE kI0 kI3 (uE kI0 kI8 (uE kI0 kI8 uE0)))) (uA kN0 (rA kI90) (uA kN1 (uis kN0) (uA kN2 (uis kN1) (uA kN3 (uic kI0) (uA kN4 (uis kN2) uA0))))) uS0 (uO kN107 kN0 (uis kN3) uO0) kI2480 (uL kJ300 kN2 uL0))
  uK0)) = true := by decide +kernel
theorem r230 {l : Launch} {D : va_G} {tys : List (ClassId × FieldType)} {A : Nat → Prop} {ad : Nat → Nat} (hAD : ∀ i : Nat, ad (1000 + i) = D.2 1000 i) : CRok l D tys A ad GG 3 g230 := CR_of_vrf (dep := 2) hAD (fun c hc => by cases hc) T2OK_nil w230
noncomputable def g231 : CR := (302, [(2, 90, 90), (0, 1, 6), (0, 0, 3), (0, 0, 0)], [((107, 0), (0, 0, 8))], none, [], [102, 103, 104])
theorem w231 : vrf GG [(1, g122)] [] 300 1 g231
  (uK (uC kN3 (uE kI1 kI6 (uE kI0 kI3 (uE kI0 kI64 (uE kI0 kI8 uE0)))) (uA kN0 (rA kI90) (uA kN1 (uis kN0) (uA kN2 (uis kN1) (uA kN3 (uic kI0) (uA kN4 (uis kN2) uA0))))) uS0 (uO kN107 kN0 (uis kN3) uO0) kI96870116 (uL kJ49348 kN2 uL0))
  (uK (uC kN29 (uE kI1 kI6 (uE kI0 kI3 (uE kI0 kI63 (uE kI0 kI60 (uE kI0 kI8 uE0))))) (uA kN0 (rA kI90) (uA kN1 (uis kN0) (uA kN2 (uis kN1) (uA kN3 (uic kI0) (uA kN4 (uis kN2) (uA kN5 (uis kN3) uA0)))))) uS0 (uO kN107 kN0 (uis kN4) uO0) kI96869046 (uL kJ676 kN3 (uL kJ49348 kN2 uL0)))
  (uK (uC kN76 (uE kI1 kI6 (uE kI0 kI3 (uE kI0 kI63 (uE kI0 kI59 (uE kI0 kI63 (uE kI0 kI8 uE0)))))) (uA kN0 (rA kI90) (uA kN1 (uis kN0) (uA kN2 (uis kN1) (uA kN3 (uic kI0) (uA kN4 (uis kN2) (uA kN5 (uis kN3) uA0)))))) (uS (uis kN4) (uS (rA kI102) uS0)) (uO kN107 kN0 (uis kN5) uO0) kI96868999 (uL kJ676 kN3 (uL kJ49348 kN2 uL0)))
  (uK (uC kN77 (uE kI1 kI6 (uE kI0 kI3 (uE kI0 kI63 (uE kI0 kI59 (uE kI0 kI1 (uE kI0 kI63 (uE kI0 kI8 uE0))))))) (uA kN0 (rA kI90) (uA kN1 (uis kN0) (uA kN2 (uis kN1) (uA kN3 (uic kI0) (uA kN4 (uis kN2) (uA kN5 (uis kN3) uA0)))))) (uS (uis kN4) (uS (uis kN5) (uS (rA kI102) uS0))) (uO kN107 kN0 (uis kN6) uO0) kI96868998 (uL kJ676 kN3 (uL kJ49348 kN2 uL0)))
  (uK (uC kN87 (uE kI1 kI6 (uE kI0 kI3 (uE kI0 kI63 (uE kI0 kI8 (uE kI0 kI8 uE0))))) (uA kN0 (rA kI90) (uA kN1 (uis kN0) (uA kN2 (uis kN1) (uA kN3 (uic kI0) (uA kN4 (uis kN2) (uA kN5 (uis kN3) uA0)))))) uS0 (uO kN107 kN0 (uis kN4) uO0) kI96827018 (uL kJ676 kN3 (uL kJ49348 kN2 uL0)))
  (uK (uC kN130 (uE kI1 kI6 (uE kI0 kI3 (uE kI0 kI63 (uE kI0 kI7 (uE kI0 kI128 (uE kI0 kI255 (uE kI0 kI63 (uE kI1 kI8 uE0)))))))) (uA kN0 (rA kI90) (uA kN1 (uis kN0) (uA kN2 (uis kN1) (uA kN3 (uic kI0) (uA kN4 (uis kN2) (uA kN5 (uis kN3) uA0)))))) (uS (uis kN4) (uS (uis kN5) (uS (uis kN6) (uS (rA kI103) uS0)))) (uO kN107 kN0 (uis kN7) uO0) kI96826975 (uL kJ676 kN3 (uL kJ49348 kN2 uL0)))
  (uK (uC kN159 (uE kI1 kI6 (uE kI0 kI3 (uE kI0 kI255 (uE kI0 kI256 (uE kI0 kI8 uE0))))) (uA kN0 (rA kI90) (uA kN1 (uis kN0) (uA kN2 (uis kN1) (uA kN3 (uic kI0) (uA kN4 (uis kN2) (uA kN5 (uis kN3) uA0)))))) uS0 (uO kN107 kN0 (uis kN4) uO0) kI93661508 (uL kJ676 kN3 uL0))
  (uK (uC kN192 (uE kI1 kI6 (uE kI0 kI3 (uE kI0 kI255 (uE kI0 kI255 (uE kI0 kI1000000 (uE kI256 kI1791 (uE kI0 kI8 uE0))))))) (uA kN0 (rA kI90) (uA kN1 (uis kN0) (uA kN2 (uis kN1) (uA kN3 (uic kI0) (uA kN4 (uis kN2) (uA kN5 (uis kN3) uA0)))))) (uS (uis kN4) (uS (uis kN5) (uS (rA kI104) uS0))) (uO kN107 kN0 (uis kN6) uO0) kI93661475 (uL kJ676 kN3 uL0))
  (uK (uC kN204 (uE kI1 kI6 (uE kI0 kI3 (uE kI0 kI255 (uE kJ1 kI5 (uE kI0 kI8 uE0))))) (uA kN0 (rA kI90) (uA kN1 (uis kN0) (uA kN2 (uis kN1) (uA kN3 (uic kI0) (uA kN4 (uis kN2) (uA kN5 (uis kN3) uA0)))))) uS0 (uO kN107 kN0 (uis kN4) uO0) kI23371614 (uL kI11686012 kN3 uL0))
  (uK (uC kN212 (uE kI1 kI6 (uE kI0 kI3 (uE kI0 kI255 (uE kI0 kI5 (uE kI0 kI256 (uE kI0 kI8 uE0)))))) (uA kN0 (rA kI90) (uA kN1 (uis kN0) (uA kN2 (uis kN1) (uA kN3 (uic kI0) (uA kN4 (uis kN2) (uA kN5 (uis kN3) (uA kN6 (uis kN4) uA0))))))) uS0 (uO kN107 kN0 (uis kN5) uO0) kI23325763 (uL kJ45292 kN4 (uL kI11686012 kN3 uL0)))
  (uK (uC kN239 (uE kI1 kI6 (uE kI0 kI3 (uE kI0 kI255 (uE kI0 kI5 (uE kI0 kI255 (uE kI0 kI64 (uE kI0 kI8 uE0))))))) (uA kN0 (rA kI90) (uA kN1 (uis kN0) (uA kN2 (uis kN1) (uA kN3 (uic kI0) (uA kN4 (uis kN2) (uA kN5 (uis kN3) (uA kN6 (uis kN4) (uA kN7 (uis kN5) uA0)))))))) uS0 (uO kN107 kN0 (uis kN6) uO0) kI23324482 (uL kJ676 kN5 (uL kI11686012 kN3 (uL kJ45292 kN4 uL0))))
  (uK (uC kN317 (uE kI1 kI6 (uE kI0 kI3 (uE kI0 kI255 (uE kI0 kI5 (uE kI0 kI255 (uE kI0 kI63 (uE kI0 kI8 uE0))))))) (uA kN0 (rA kI90) (uA kN1 (uis kN0) (uA kN2 (uis kN1) (uA kN3 (uic kI0) (uA kN4 (uis kN2) (uA kN5 (uis kN3) (uA kN6 (uis kN4) (uA kN7 (uis kN5) uA0)))))))) uS0 (uO kN107 kN0 (uis kN6) uO0) kI23324404 (uL kJ676 kN5 (uL kI11686012 kN3 (uL kJ45292 kN4 uL0))))
  uK0)))))))))))) = true := by decide +kernel
theorem r231 {l : Launch} {D : va_G} {tys : List (ClassId × FieldType)} {A : Nat → Prop} {ad : Nat → Nat} (hAD : ∀ i : Nat, ad (1000 + i) = D.2 1000 i) : CRok l D tys A ad GG 2 g231 := CR_of_vrf (dep := 1) hAD (List.forall_mem_cons.mpr ⟨r122 hAD, fun c hc => by cases hc⟩) T2OK_nil w231
noncomputable def g232 : CR := (303, [(2, 90, 90), (0, 1, 6), (0, 0, 3), (0, 0, 0)], [((107, 0), (0, 0, 8))], some (0, (-2147483648), 999999), [], [102, 103, 104])
theorem w232 : vrf GG [(3, g230), (2, g231)] [] 300 3 g232
  [] = true := by decide +kernel
theorem r232 {l : Launch} {D : va_G} {tys : List (ClassId × FieldType)} {A : Nat → Prop} {ad : Nat → Nat} (hAD : ∀ i : Nat, ad (1000 + i) = D.2 1000 i) : CRok l D tys A ad GG 4 g232 := CR_of_vrf (dep := 3) hAD (List.forall_mem_cons.mpr ⟨r230 hAD, List.forall_mem_cons.mpr ⟨r231 hAD, fun c hc => by cases hc⟩⟩) T2OK_nil w232
noncomputable def g233 : CR := (301, [(2, 90, 90), (0, 1, 6), (0, 0, 3), (0, 0, 0)], [((107, 0), (0, 9, 60))], some (0, (-6), (-2)), [], [])
theorem w233 : vrf GG [] [] 300 2 g233
  [] = true := by decide +kernel
theorem r233 {l : Launch} {D : va_G} {tys : List (ClassId × FieldType)} {A : Nat → Prop} {ad : Nat → Nat} (hAD : ∀ i : Nat, ad (1000 + i) = D.2 1000 i) : CRok l D tys A ad GG 3 g233 := CR_of_vrf (dep := 2) hAD (fun c hc => by cases hc) T2OK_nil w233
noncomputable def g234 : CR := (303, [(2, 90, 90), (0, 1, 6), (0, 0, 3), (0, 0, 0)], [((107, 0), (0, 9, 60))], some (0, (-6), (-2)), [], [])
theorem w234 : vrf GG [(3, g233)] [] 300 3 g234
  [] = true := by decide +kernel
theorem r234 {l : Launch} {D : va_G} {tys : List (ClassId × FieldType)} {A : Nat → Prop} {ad : Nat → Nat} (hAD : ∀ i : Nat, ad (1000 + i) = D.2 1000 i) : CRok l D tys A ad GG 4 g234 := CR_of_vrf (dep := 3) hAD (List.forall_mem_cons.mpr ⟨r233 hAD, fun c hc => by cases hc⟩) T2OK_nil w234
noncomputable def g235 : CR := (301, [(2, 90, 90), (0, 1, 6), (0, 0, 3), (0, 1, 1)], [((107, 1), (0, (-1), (-1)))], some (0, (-6), (-6)), [], [])
theorem w235 : vrf GG [] [] 300 2 g235
  [] = true := by decide +kernel
theorem r235 {l : Launch} {D : va_G} {tys : List (ClassId × FieldType)} {A : Nat → Prop} {ad : Nat → Nat} (hAD : ∀ i : Nat, ad (1000 + i) = D.2 1000 i) : CRok l D tys A ad GG 3 g235 := CR_of_vrf (dep := 2) hAD (fun c hc => by cases hc) T2OK_nil w235
noncomputable def g236 : CR := (303, [(2, 90, 90), (0, 1, 6), (0, 0, 3), (0, 1, 1)], [((107, 1), (0, (-1), (-1)))], some (0, (-6), (-6)), [], [])
theorem w236 : vrf GG [(3, g235)] [] 300 3 g236
  [] = true := by decide +kernel
theorem r236 {l : Launch} {D : va_G} {tys : List (ClassId × FieldType)} {A : Nat → Prop} {ad : Nat → Nat} (hAD : ∀ i : Nat, ad (1000 + i) = D.2 1000 i) : CRok l D tys A ad GG 4 g236 := CR_of_vrf (dep := 3) hAD (List.forall_mem_cons.mpr ⟨r235 hAD, fun c hc => by cases hc⟩) T2OK_nil w236
noncomputable def g237 : CR := (301, [(2, 90, 90), (0, 1, 6), (0, 0, 3), (0, 1, 1)], [((107, 1), (0, 0, 8))], some (0, (-6), 0), [], [])
theorem w237 : vrf GG [] [] 300 2 g237
  (uK (uC kN69 (uE kI1 kI6 (uE kI0 kI3 (uE kI0 kI60 (uE kI0 kI8 uE0)))) (uA kN0 (rA kI90) (uA kN1 (uis kN0) (uA kN2 (uis kN1) (uA kN3 (uic kI1) (uA kN4 (uis kN2) uA0))))) uS0 (uO kN107 kN1 (uis kN3) uO0) kI21160 (uL kJ300 kN2 uL0))
  (uK (uC kN109 (uE kI1 kI6 (uE kI0 kI3 (uE kI0 kI8 (uE kI0 kI8 uE0)))) (uA kN0 (rA kI90) (uA kN1 (uis kN0) (uA kN2 (uis kN1) (uA kN3 (uic kI1) (uA kN4 (uis kN2) uA0))))) uS0 (uO kN107 kN1 (uis kN3) uO0) kI2480 (uL kJ300 kN2 uL0))
  uK0)) = true := by decide +kernel
theorem r237 {l : Launch} {D : va_G} {tys : List (ClassId × FieldType)} {A : Nat → Prop} {ad : Nat → Nat} (hAD : ∀ i : Nat, ad (1000 + i) = D.2 1000 i) : CRok l D tys A ad GG 3 g237 := CR_of_vrf (dep := 2) hAD (fun c hc => by cases hc) T2OK_nil w237
noncomputable def g238 : CR := (302, [(2, 90, 90), (0, 1, 6), (0, 0, 3), (0, 1, 1)], [((107, 1), (0, 0, 8))], none, [], [102, 103, 104])
theorem w238 : vrf GG [(1, g122)] [] 300 1 g238
  (uK (uC kN3 (uE kI1 kI6 (uE kI0 kI3 (uE kI0 kI64 (uE kI0 kI8 uE0)))) (uA kN0 (rA kI90) (uA kN1 (uis kN0) (uA kN2 (uis kN1) (uA kN3 (uic kI1) (uA kN4 (uis kN2) uA0))))) uS0 (uO kN107 kN1 (uis kN3) uO0) kI96870116 (uL kJ49348 kN2 uL0))
  (uK (uC kN29 (uE kI1 kI6 (uE kI0 kI3 (uE kI0 kI63 (uE kI0 kI60 (uE kI0 kI8 uE0))))) (uA kN0 (rA kI90) (uA kN1 (uis kN0) (uA kN2 (uis kN1) (uA kN3 (uic kI1) (uA kN4 (uis kN2) (uA kN5 (uis kN3) uA0)))))) uS0 (uO kN107 kN1 (uis kN4) uO0) kI96869046 (uL kJ676 kN3 (uL kJ49348 kN2 uL0)))
  (uK (uC kN76 (uE kI1 kI6 (uE kI0 kI3 (uE kI0 kI63 (uE kI0 kI59 (uE kI0 kI63 (uE kI0 kI8 uE0)))))) (uA kN0 (rA kI90) (uA kN1 (uis kN0) (uA kN2 (uis kN1) (uA kN3 (uic kI1) (uA kN4 (uis kN2) (uA kN5 (uis kN3) uA0)))))) (uS (uis kN4) (uS (rA kI102) uS0)) (uO kN107 kN1 (uis kN5) uO0) kI96868999 (uL kJ676 kN3 (uL kJ49348 kN2 uL0)))
  (uK (uC kN77 (uE kI1 kI6 (uE kI0 kI3 (uE kI0 kI63 (uE kI0 kI59 (uE kI0 kI1 (uE kI0 kI63 (uE kI0 kI8 uE0))))))) (uA kN0 (rA kI90) (uA kN1 (uis kN0) (uA kN2 (uis kN1) (uA kN3 (uic kI1) (uA kN4 (uis kN2) (uA kN5 (uis kN3) uA0)))))) (uS (uis kN4) (uS (uis kN5) (uS (rA kI102) uS0))) (uO kN107 kN1 (uis kN6) uO0) kI96868998 (uL kJ676 kN3 (uL kJ49348 kN2 uL0)))
  (uK (uC kN87 (uE kI1 kI6 (uE kI0 kI3 (uE kI0 kI63 (uE kI0 kI8 (uE kI0 kI8 uE0))))) (uA kN0 (rA kI90) (uA kN1 (uis kN0) (uA kN2 (uis kN1) (uA kN3 (uic kI1) (uA kN4 (uis kN2) (uA kN5 (uis kN3) uA0)))))) uS0 (uO kN107 kN1 (uis kN4) uO0) kI96827018 (uL kJ676 kN3 (uL kJ49348 kN2 uL0)))
  (uK (uC kN130 (uE kI1 kI6 (uE kI0 kI3 (uE kI0 kI63 (uE kI0 kI7 (uE kI0 kI128 (uE kI0 kI255 (uE kI0 kI63 (uE kI1 kI8 uE0)))))))) (uA kN0 (rA kI90) (uA kN1 (uis kN0) (uA kN2 (uis kN1) (uA kN3 (uic kI1) (uA kN4 (uis kN2) (uA kN5 (uis kN3) uA0)))))) (uS (uis kN4) (uS (uis kN5) (uS (uis kN6) (uS (rA kI103) uS0)))) (uO kN107 kN1 (uis kN7) uO0) kI96826975 (uL kJ676 kN3 (uL kJ49348 kN2 uL0)))
  (uK (uC kN159 (uE kI1 kI6 (uE kI0 kI3 (uE kI0 kI255 (uE kI0 kI256 (uE kI0 kI8 uE0))))) (uA kN0 (rA kI90) (uA kN1 (uis kN0) (uA kN2 (uis kN1) (uA kN3 (uic kI1) (uA kN4 (uis kN2) (uA kN5 (uis kN3) uA0)))))) uS0 (uO kN107 kN1 (uis kN4) uO0) kI93661508 (uL kJ676 kN3 uL0))
  (uK (uC kN192 (uE kI1 kI6 (uE kI0 kI3 (uE kI0 kI255 (uE kI0 kI255 (uE kI0 kI1000000 (uE kI256 kI1791 (uE kI0 kI8 uE0))))))) (uA kN0 (rA kI90) (uA kN1 (uis kN0) (uA kN2 (uis kN1) (uA kN3 (uic kI1) (uA kN4 (uis kN2) (uA kN5 (uis kN3) uA0)))))) (uS (uis kN4) (uS (uis kN5) (uS (rA kI104) uS0))) (uO kN107 kN1 (uis kN6) uO0) kI93661475 (uL kJ676 kN3 uL0))
  (uK (uC kN204 (uE kI1 kI6 (uE kI0 kI3 (uE kI0 kI255 (uE kJ1 kI5 (uE kI0 kI8 uE0))))) (uA kN0 (rA kI90) (uA kN1 (uis kN0) (uA kN2 (uis kN1) (uA kN3 (uic kI1) (uA kN4 (uis kN2) (uA kN5 (uis kN3) uA0)))))) uS0 (uO kN107 kN1 (uis kN4) uO0) kI23371614 (uL kI11686012 kN3 uL0))
  (uK (uC kN212 (uE kI1 kI6 (uE kI0 kI3 (uE kI0 kI255 (uE kI0 kI5 (uE kI0 kI256 (uE kI0 kI8 uE0)))))) (uA kN0 (rA kI90) (uA kN1 (uis kN0) (uA kN2 (uis kN1) (uA kN3 (uic kI1) (uA kN4 (uis kN2) (uA kN5 (uis kN3) (uA kN6 (uis kN4) uA0))))))) uS0 (uO kN107 kN1 (uis kN5) uO0) kI23325763 (uL kJ45292 kN4 (uL kI11686012 kN3 uL0)))
  (uK (uC kN239 (uE kI1 kI6 (uE kI0 kI3 (uE kI0 kI255 (uE kI0 kI5 (uE kI0 kI255 (uE kI0 kI64 (uE kI0 kI8 uE0))))))) (uA kN0 (rA kI90) (uA kN1 (uis kN0) (uA kN2 (uis kN1) (uA kN3 (uic kI1) (uA kN4 (uis kN2) (uA kN5 (uis kN3) (uA kN6 (uis kN4) (uA kN7 (uis kN5) uA0)))))))) uS0 (uO kN107 kN1 (uis kN6) uO0) kI23324482 (uL kJ676 kN5 (uL kI11686012 kN3 (uL kJ45292 kN4 uL0))))
  (uK (uC kN317 (uE kI1 kI6 (uE kI0 kI3 (uE kI0 kI255 (uE kI0 kI5 (uE kI0 kI255 (uE kI0 kI63 (uE kI0 kI8 uE0))))))) (uA kN0 (rA kI90) (uA kN1 (uis kN0) (uA kN2 (uis kN1) (uA kN3 (uic kI1) (uA kN4 (uis kN2) (uA kN5 (uis kN3) (uA kN6 (uis kN4) (uA kN7 (uis kN5) uA0)))))))) uS0 (uO kN107 kN1 (uis kN6) uO0) kI23324404 (uL kJ676 kN5 (uL kI11686012 kN3 (uL kJ45292 kN4 uL0))))
  uK0)))))))))))) = true := by decide +kernel
theorem r238 {l : Launch} {D : va_G} {tys : List (ClassId × FieldType)} {A : Nat → Prop} {ad : Nat → Nat} (hAD : ∀ i : Nat, ad (1000 + i) = D.2 1000 i) : CRok l D tys A ad GG 2 g238 := CR_of_vrf (dep := 1) hAD (List.forall_mem_cons.mpr ⟨r122 hAD, fun c hc => by cases hc⟩) T2OK_nil w238
noncomputable def g239 : CR := (303, [(2, 90, 90), (0, 1, 6), (0, 0, 3), (0, 1, 1)], [((107, 1), (0, 0, 8))], some (0, (-2147483648), 999999), [], [102, 103, 104])
theorem w239 : vrf GG [(3, g237), (2, g238)] [] 300 3 g239
  [] = true := by decide +kernel
theorem r239 {l : Launch} {D : va_G} {tys : List (ClassId × FieldType)} {A : Nat → Prop} {ad : Nat → Nat} (hAD : ∀ i : Nat, ad (1000 + i) = D.2 1000 i) : CRok l D tys A ad GG 4 g239 := CR_of_vrf (dep := 3) hAD (List.forall_mem_cons.mpr ⟨r237 hAD, List.forall_mem_cons.mpr ⟨r238 hAD, fun c hc => by cases hc⟩⟩) T2OK_nil w239
end
section
noncomputable def g240 : CR := (301, [(2, 90, 90), (0, 1, 6), (0, 0, 3), (0, 1, 1)], [((107, 1), (0, 9, 60))], some (0, (-6), (-2)), [], [])
theorem w240 : vrf GG [] [] 300 2 g240
  [] = true := by decide +kernel
theorem r240 {l : Launch} {D : va_G} {tys : List (ClassId × FieldType)} {A : Nat → Prop} {ad : Nat → Nat} (hAD : ∀ i : Nat, ad (1000 + i) = D.2 1000 i) : CRok l D tys A ad GG 3 g240 := CR_of_vrf (dep := 2) hAD (fun c hc => by cases hc) T2OK_nil w240
noncomputable def g241 : CR := (303, [(2, 90, 90), (0, 1, 6), (0, 0, 3), (0, 1, 1)], [((107, 1), (0, 9, 60))], some (0, (-6), (-2)), [], [])
theorem w241 : vrf GG [(3, g240)] [] 300 3 g241
  [] = true := by decide +kernel
theorem r241 {l : Launch} {D : va_G} {tys : List (ClassId × FieldType)} {A : Nat → Prop} {ad : Nat → Nat} (hAD : ∀ i : Nat, ad (1000 + i) = D.2 1000 i) : CRok l D tys A ad GG 4 g241 := CR_of_vrf (dep := 3) hAD (List.forall_mem_cons.mpr ⟨r240 hAD, fun c hc => by cases hc⟩) T2OK_nil w241
noncomputable def g242 : CR := (301, [(2, 90, 90), (0, 1, 6), (0, 0, 3), (0, 2, 2)], [((107, 2), (0, (-1), (-1)))], some (0, (-6), (-6)), [], [])
theorem w242 : vrf GG [] [] 300 2 g242
  [] = true := by decide +kernel
theorem r242 {l : Launch} {D : va_G} {tys : List (ClassId × FieldType)} {A : Nat → Prop} {ad : Nat → Nat} (hAD : ∀ i : Nat, ad (1000 + i) = D.2 1000 i) : CRok l D tys A ad GG 3 g242 := CR_of_vrf (dep := 2) hAD (fun c hc => by cases hc) T2OK_nil w242
noncomputable def g243 : CR := (303, [(2, 90, 90), (0, 1, 6), (0, 0, 3), (0, 2, 2)], [((107, 2), (0, (-1), (-1)))], some (0, (-6), (-6)), [], [])
theorem w243 : vrf GG [(3, g242)] [] 300 3 g243
  [] = true := by decide +kernel
theorem r243 {l : Launch} {D : va_G} {tys : List (ClassId × FieldType)} {A : Nat → Prop} {ad : Nat → Nat} (hAD : ∀ i : Nat, ad (1000 + i) = D.2 1000 i) : CRok l D tys A ad GG 4 g243 := CR_of_vrf (dep := 3) hAD (List.forall_mem_cons.mpr ⟨r242 hAD, fun c hc => by cases hc⟩) T2OK_nil w243
noncomputable def g244 : CR := (301, [(2, 90, 90), (0, 1, 6), (0, 0, 3), (0, 2, 2)], [((107, 2), (0, 0, 8))], some (0, (-6), 0), [], [])
theorem w244 : vrf GG [] [] 300 2 g244
  (uK (uC kN69 (uE kI1 kI6 (uE kI0 kI3 (uE kI0 kI60 (uE kI0 kI8 uE0)))) (uA kN0 (rA kI90) (uA kN1 (uis kN0) (uA kN2 (uis kN1) (uA kN3 (uic kI2) (uA kN4 (uis kN2) uA0))))) uS0 (uO kN107 kN2 (uis kN3) uO0) kI21160 (uL kJ300 kN2 uL0))
  (uK (uC kN109 (uE kI1 kI6 (uE kI0 kI3 (uE kI0 kI8 (uE kI0 kI8 uE0)))) (uA kN0 (rA kI90) (uA kN1 (uis kN0) (uA kN2 (uis kN1) (uA kN3 (uic kI2) (uA kN4 (uis kN2) uA0))))) uS0 (uO kN107 kN2 (uis kN3) uO0) kI2480 (uL kJ300 kN2 uL0))
  uK0)) = true := by decide +kernel
theorem r244 {l : Launch} {D : va_G} {tys : List (ClassId × FieldType)} {A : Nat → Prop} {ad : Nat → Nat} (hAD : ∀ i : Nat, ad (1000 + i) = D.2 1000 i) : CRok l D tys A ad GG 3 g244 := CR_of_vrf (dep := 2) hAD (fun c hc => by cases hc) T2OK_nil w244
noncomputable def g245 : CR := (302, [(2, 90, 90), (0, 1, 6), (0, 0, 3), (0, 2, 2)], [((107, 2), (0, 0, 8))], none, [], [102, 103, 104])
theorem w245 : vrf GG [(1, g122)] [] 300 1 g245
  (uK (uC kN3 (uE kI1 kI6 (uE kI0 kI3 (uE kI0 kI64 (uE kI0 kI8 uE0)))) (uA kN0 (rA kI90) (uA kN1 (uis kN0) (uA kN2 (uis kN1) (uA kN3 (uic kI2) (uA kN4 (uis kN2) uA0))))) uS0 (uO kN107 kN2 (uis kN3) uO0) kI96870116 (uL kJ49348 kN2 uL0))
  (uK (uC kN29 (uE kI1 kI6 (uE kI0 kI3 (uE kI0 kI63 (uE kI0 kI60 (uE kI0 kI8 uE0))))) (uA kN0 (rA kI90) (uA kN1 (uis kN0) (uA kN2 (uis kN1) (uA kN3 (uic kI2) (uA kN4 (uis kN2) (uA kN5 (uis kN3) uA0)))))) uS0 (uO kN107 kN2 (uis kN4) uO0) kI96869046 (uL kJ676 kN3 (uL kJ49348 kN2 uL0)))
  (uK (uC kN76 (uE kI1 kI6 (uE kI0 kI3 (uE kI0 kI63 (uE kI0 kI59 (uE kI0 kI63 (uE kI0 kI8 uE0)))))) (uA kN0 (rA kI90) (uA kN1 (uis kN0) (uA kN2 (uis kN1) (uA kN3 (uic kI2) (uA kN4 (uis kN2) (uA kN5 (uis kN3) uA0)))))) (uS (uis kN4) (uS (rA kI102) uS0)) (uO kN107 kN2 (uis kN5) uO0) kI96868999 (uL kJ676 kN3 (uL kJ49348 kN2 uL0)))
  (uK (uC kN77 (uE kI1 kI6 (uE kI0 kI3 (uE kI0 kI63 (uE kI0 kI59 (uE kI0 kI1 (uE kI0 kI63 (uE kI0 kI8 uE0))))))) (uA kN0 (rA kI90) (uA kN1 (uis kN0) (uA kN2 (uis kN1) (uA kN3 (uic kI2) (uA kN4 (uis kN2) (uA kN5 (uis kN3) uA0)))))) (uS (uis kN4) (uS (uis kN5) (uS (rA kI102) uS0))) (uO kN107 kN2 (uis kN6) uO0) kI96868998 (uL kJ676 kN3 (uL kJ49348 kN2 uL0)))
  (uK (uC kN87 (uE kI1 kI6 (uE kI0 kI3 (uE kI0 kI63 (uE kI0 kI8 (uE kI0 kI8 uE0))))) (uA kN0 (rA kI90) (uA kN1 (uis kN0) (uA kN2 (uis kN1) (uA kN3 (uic kI2) (uA kN4 (uis kN2) (uA kN5 (uis kN3) uA0)))))) uS0 (uO kN107 kN2 (uis kN4) uO0) kI96827018 (uL kJ676 kN3 (uL kJ49348 kN2 uL0)))
  (uK (uC kN130 (uE kI1 kI6 (uE kI0 kI3 (uE kI0 kI63 (uE kI0 kI7 (uE kI0 kI128 (uE kI0 kI255 (uE kI0 kI63 (uE kI1 kI8 uE0)))))))) (uA kN0 (rA kI90) (uA kN1 (uis kN0) (uA kN2 (uis kN1) (uA kN3 (uic kI2) (uA kN4 (uis kN2) (uA kN5 (uis kN3) uA0)))))) (uS (uis kN4) (uS (uis kN5) (uS (uis kN6) (uS (rA kI103) uS0)))) (uO kN107 kN2 (uis kN7) uO0) kI96826975 (uL kJ676 kN3 (uL kJ49348 kN2 uL0)))
  (uK (uC kN159 (uE kI1 kI6 (uE kI0 kI3 (uE kI0 kI255 (uE kI0 kI256 (uE kI0 kI8 uE0))))) (uA kN0 (rA kI90) (uA kN1 (uis kN0) (uA kN2 (uis kN1) (uA kN3 (uic kI2) (uA kN4 (uis kN2) (uA kN5 (uis kN3) uA0)))))) uS0 (uO kN107 kN2 (uis kN4) uO0) kI93661508 (uL kJ676 kN3 uL0))
  (uK (uC kN192 (uE kI1 kI6 (uE kI0 kI3 (uE kI0 kI255 (uE kI0 kI255 (uE kI0 kI1000000 (uE kI256 kI1791 (uE kI0 kI8 uE0))))))) (uA kN0 (rA kI90) (uA kN1 (uis kN0) (uA kN2 (uis kN1) (uA kN3 (uic kI2) (uA kN4 (uis kN2) (uA kN5 (uis kN3) uA0)))))) (uS (uis kN4) (uS (uis kN5) (uS (rA kI104) uS0))) (uO kN107 kN2 (uis kN6) uO0) kI93661475 (uL kJ676 kN3 uL0))
  (uK (uC kN204 (uE kI1 kI6 (uE kI0 kI3 (uE kI0 kI255 (uE kJ1 kI5 (uE kI0 kI8 uE0))))) (uA kN0 (rA kI90) (uA kN1 (uis kN0) (uA kN2 (uis kN1) (uA kN3 (uic kI2) (uA kN4 (uis kN2) (uA kN5 (uis kN3) uA0)))))) uS0 (uO kN107 kN2 (uis kN4) uO0) kI23371614 (uL kI11686012 kN3 uL0))
  (uK (uC kN212 (uE kI1 kI6 (uE kI0 kI3 (uE kI0 kI255 (uE kI0 kI5 (uE kI0 kI256 (uE kI0 kI8 uE0)))))) (uA kN0 (rA kI90) (uA kN1 (uis kN0) (uA kN2 (uis kN1) (uA kN3 (uic kI2) (uA kN4 (uis kN2) (uA kN5 (uis kN3) (uA kN6 (uis kN4) uA0))))))) uS0 (uO kN107 kN2 (uis kN5) uO0) kI23325763 (uL kJ45292 kN4 (uL kI11686012 kN3 uL0)))
  (uK (uC kN239 (uE kI1 kI6 (uE kI0 kI3 (uE kI0 kI255 (uE kI0 kI5 (uE kI0 kI255 (uE kI0 kI64 (uE kI0 kI8 uE0))))))) (uA kN0 (rA kI90) (uA kN1 (uis kN0) (uA kN2 (uis kN1) (uA kN3 (uic kI2) (uA kN4 (uis kN2) (uA kN5 (uis kN3) (uA kN6 (uis kN4) (uA kN7 (uis kN5) uA0)))))))) uS0 (uO kN107 kN2 (uis kN6) uO0) kI23324482 (uL kJ676 kN5 (uL kI11686012 kN3 (uL kJ45292 kN4 uL0))))
  (uK (uC kN317 (uE kI1 kI6 (uE kI0 kI3 (uE kI0 kI255 (uE kI0 kI5 (uE kI0 kI255 (uE kI0 kI63 (uE kI0 kI8 uE0))))))) (uA kN0 (rA kI90) (uA kN1 (uis kN0) (uA kN2 (uis kN1) (uA kN3 (uic kI2) (uA kN4 (uis kN2) (uA kN5 (uis kN3) (uA kN6 (uis kN4) (uA kN7 (uis kN5) uA0)))))))) uS0 (uO kN107 kN2 (uis kN6) uO0) kI23324404 (uL kJ676 kN5 (uL kI11686012 kN3 (uL kJ45292 kN4 uL0))))
  uK0)))))))))))) = true := by decide +kernel
theorem r245 {l : Launch} {D : va_G} {tys : List (ClassId × FieldType)} {A : Nat → Prop} {ad : Nat → Nat} (hAD : ∀ i : Nat, ad (1000 + i) = D.2 1000 i) : CRok l D tys A ad GG 2 g245 := CR_of_vrf (dep := 1) hAD (List.forall_mem_cons.mpr ⟨r122 hAD, fun c hc => by cases hc⟩) T2OK_nil w245
noncomputable def g246 : CR := (303, [(2, 90, 90), (0, 1, 6), (0, 0, 3), (0, 2, 2)], [((107, 2), (0, 0, 8))], some (0, (-2147483648), 999999), [], [102, 103, 104])
theorem w246 : vrf GG [(3, g244), (2, g245)] [] 300 3 g246
  [] = true := by decide +kernel
theorem r246 {l : Launch} {D : va_G} {tys : List (ClassId × FieldType)} {A : Nat → Prop} {ad : Nat → Nat} (hAD : ∀ i : Nat, ad (1000 + i) = D.2 1000 i) : CRok l D tys A ad GG 4 g246 := CR_of_vrf (dep := 3) hAD (List.forall_mem_cons.mpr ⟨r244 hAD, List.forall_mem_cons.mpr ⟨r245 hAD, fun c hc => by cases hc⟩⟩) T2OK_nil w246
noncomputable def g247 : CR := (301, [(2, 90, 90), (0, 1, 6), (0, 0, 3), (0, 2, 2)], [((107, 2), (0, 9, 60))], some (0, (-6), (-2)), [], [])
theorem w247 : vrf GG [] [] 300 2 g247
  [] = true := by decide +kernel
theorem r247 {l : Launch} {D : va_G} {tys : List (ClassId × FieldType)} {A : Nat → Prop} {ad : Nat → Nat} (hAD : ∀ i : Nat, ad (1000 + i) = D.2 1000 i) : CRok l D tys A ad GG 3 g247 := CR_of_vrf (dep := 2) hAD (fun c hc => by cases hc) T2OK_nil w247
noncomputable def g248 : CR := (303, [(2, 90, 90), (0, 1, 6), (0, 0, 3), (0, 2, 2)], [((107, 2), (0, 9, 60))], some (0, (-6), (-2)), [], [])
theorem w248 : vrf GG [(3, g247)] [] 300 3 g248
  [] = true := by decide +kernel
theorem r248 {l : Launch} {D : va_G} {tys : List (ClassId × FieldType)} {A : Nat → Prop} {ad : Nat → Nat} (hAD : ∀ i : Nat, ad (1000 + i) = D.2 1000 i) : CRok l D tys A ad GG 4 g248 := CR_of_vrf (dep := 3) hAD (List.forall_mem_cons.mpr ⟨r247 hAD, fun c hc => by cases hc⟩) T2OK_nil w248
noncomputable def g249 : CR := (301, [(2, 90, 90), (0, 1, 6), (0, 0, 3), (0, 3, 3)], [((107, 3), (0, (-1), (-1)))], some (0, (-6), (-6)), [], [])
theorem w249 : vrf GG [] [] 300 2 g249
  [] = true := by decide +kernel
theorem r249 {l : Launch} {D : va_G} {tys : List (ClassId × FieldType)} {A : Nat → Prop} {ad : Nat → Nat} (hAD : ∀ i : Nat, ad (1000 + i) = D.2 1000 i) : CRok l D tys A ad GG 3 g249 := CR_of_vrf (dep := 2) hAD (fun c hc => by cases hc) T2OK_nil w249
noncomputable def g250 : CR := (303, [(2, 90, 90), (0, 1, 6), (0, 0, 3), (0, 3, 3)], [((107, 3), (0, (-1), (-1)))], some (0, (-6), (-6)), [], [])
theorem w250 : vrf GG [(3, g249)] [] 300 3 g250
  [] = true := by decide +kernel
theorem r250 {l : Launch} {D : va_G} {tys : List (ClassId × FieldType)} {A : Nat → Prop} {ad : Nat → Nat} (hAD : ∀ i : Nat, ad (1000 + i) = D.2 1000 i) : CRok l D tys A ad GG 4 g250 := CR_of_vrf (dep := 3) hAD (List.forall_mem_cons.mpr ⟨r249 hAD, fun c hc => by cases hc⟩) T2OK_nil w250
noncomputable def g251 : CR := (301, [(2, 90, 90), (0, 1, 6), (0, 0, 3), (0, 3, 3)], [((107, 3), (0, 0, 8))], some (0, (-6), 0), [], [])
theorem w251 : vrf GG [] [] 300 2 g251
  (uK (uC kN69 (uE kI1 kI6 (uE kI0 kI3 (uE kI0 kI60 (uE kI0 kI8 uE0)))) (uA kN0 (rA kI90) (uA kN1 (uis kN0) (uA kN2 (uis kN1) (uA kN3 (uic kI3) (uA kN4 (uis kN2) uA0))))) uS0 (uO kN107 kN3 (uis kN3) uO0) kI21160 (uL kJ300 kN2 uL0))
  (uK (uC kN109 (uE kI1 kI6 (uE kI0 kI3 (uE kI0 kI8 (uE kI0 kI8 uE0)))) (uA kN0 (rA kI90) (uA kN1 (uis kN0) (uA kN2 (uis kN1) (uA kN3 (uic kI3) (uA kN4 (uis kN2) uA0))))) uS0 (uO kN107 kN3 (uis kN3) uO0) kI2480 (uL kJ300 kN2 uL0))
  uK0)) = true := by decide +kernel
theorem r251 {l : Launch} {D : va_G} {tys : List (ClassId × FieldType)} {A : Nat → Prop} {ad : Nat → Nat} (hAD : ∀ i : Nat, ad (1000 + i) = D.2 1000 i) : CRok l D tys A ad GG 3 g251 := CR_of_vrf (dep := 2) hAD (fun c hc => by cases hc) T2OK_nil w251
noncomputable def g252 : CR := (302, [(2, 90, 90), (0, 1, 6), (0, 0, 3), (0, 3, 3)], [((107, 3), (0, 0, 8))], none, [], [102, 103, 104])
theorem w252 : vrf GG [(1, g122)] [] 300 1 g252
  (uK (uC kN3 (uE kI1 kI6 (uE kI0 kI3 (uE kI0 kI64 (uE kI0 kI8 uE0)))) (uA kN0 (rA kI90) (uA kN1 (uis kN0) (uA kN2 (uis kN1) (uA kN3 (uic kI3) (uA kN4 (uis kN2) uA0))))) uS0 (uO kN107 kN3 (uis kN3) uO0) kI96870116 (uL kJ49348 kN2 uL0))
  (uK (uC kN29 (uE kI1 kI6 (uE kI0 kI3 (uE kI0 kI63 (uE kI0 kI60 (uE kI0 kI8 uE0))))) (uA kN0 (rA kI90) (uA kN1 (uis kN0) (uA kN2 (uis kN1) (uA kN3 (uic kI3) (uA kN4 (uis kN2) (uA kN5 (uis kN3) uA0)))))) uS0 (uO kN107 kN3 (uis kN4) uO0) kI96869046 (uL kJ676 kN3 (uL kJ49348 kN2 uL0)))
  (uK (uC kN76 (uE kI1 kI6 (uE kI0 kI3 (uE kI0 kI63 (uE kI0 kI59 (uE kI0 kI63 (uE kI0 kI8 uE0)))))) (uA kN0 (rA kI90) (uA kN1 (uis kN0) (uA kN2 (uis kN1) (uA kN3 (uic kI3) (uA kN4 (uis kN2) (uA kN5 (uis kN3) uA0)))))) (uS (uis kN4) (uS (rA kI102) uS0)) (uO kN107 kN3 (uis kN5) uO0) kI96868999 (uL kJ676 kN3 (uL kJ49348 kN2 uL0)))
  (uK (uC kN77 (uE kI1 kI6 (uE kI0 kI3 (uE kI0 kI63 (uE kI0 kI59 (uE kI0 kI1 (uE kI0 kI63 (uE kI0 kI8 uE0))))))) (uA kN0 (rA kI90) (uA kN1 (uis kN0) (uA kN2 (uis kN1) (uA kN3 (uic kI3) (uA kN4 (uis kN2) (uA kN5 (uis kN3) uA0)))))) (uS (uis kN4) (uS (uis kN5) (uS (rA kI102) uS0))) (uO kN107 kN3 (uis kN6) uO0) kI96868998 (uL kJ676 kN3 (uL kJ49348 kN2 uL0)))
  (uK (uC kN87 (uE kI1 kI6 (uE kI0 kI3 (uE kI0 kI63 (uE kI0 kI8 (uE kI0 kI8 uE0))))) (uA kN0 (rA kI90) (uA kN1 (uis kN0) (uA kN2 (uis kN1) (uA kN3 (uic kI3) (uA kN4 (uis kN2) (uA kN5 (uis kN3) uA0)))))) uS0 (uO kN107 kN3 (uis kN4) uO0) kI96827018 (uL kJ676 kN3 (uL kJ49348 kN2 uL0)))
  (uK (uC kN130 (uE kI1 kI6 (uE kI0 kI3 (uE kI0 kI63 (uE kI0 kI7 (uE kI0 kI128 (uE kI0 kI255 (uE kI0 kI63 (uE kI1 kI8 uE0)))))))) (uA kN0 (rA kI90) (uA kN1 (uis kN0) (uA kN2 (uis kN1) (uA kN3 (uic kI3) (uA kN4 (uis kN2) (uA kN5 (uis kN3) uA0)))))) (uS (uis kN4) (uS (uis kN5) (uS (uis kN6) (uS (rA kI103) uS0)))) (uO kN107 kN3 (uis kN7) uO0) kI96826975 (uL kJ676 kN3 (uL kJ49348 kN2 uL0)))
  (uK (uC kN159 (uE kI1 kI6 (uE kI0 kI3 (uE kI0 kI255 (uE kI0 kI256 (uE kI0 kI8 uE0))))) (uA kN0 (rA kI90) (uA kN1 (uis kN0) (uA kN2 (uis kN1) (uA kN3 (uic kI3) (uA kN4 (uis kN2) (uA kN5 (uis kN3) uA0)))))) uS0 (uO kN107 kN3 (uis kN4) uO0) kI93661508 (uL kJ676 kN3 uL0))
  (uK (uC kN192 (uE kI1 kI6 (uE kI0 kI3 (uE kI0 kI255 (uE kI0 kI255 (uE kI0 kI1000000 (uE kI256 kI1791 (uE kI0 kI8 uE0))))))) (uA kN0 (rA kI90) (uA kN1 (uis kN0) (uA kN2 (uis kN1) (uA kN3 (uic kI3) (uA kN4 (uis kN2) (uA kN5 (uis kN3) uA0)))))) (uS (uis kN4) (uS (uis kN5) (uS (rA kI104) uS0))) (uO kN107 kN3 (uis kN6) uO0) kI93661475 (uL kJ676 kN3 uL0))
  (uK (uC kN204 (uE kI1 kI6 (uE kI0 kI3 (uE kI0 kI255 (uE kJ1 kI5 (uE kI0 kI8 uE0))))) (uA kN0 (rA kI90) (uA kN1 (uis kN0) (uA kN2 (uis kN1) (uA kN3 (uic kI3) (uA kN4 (uis kN2) (uA kN5 (uis kN3) uA0)))))) uS0 (uO kN107 kN3 (uis kN4) uO0) kI23371614 (uL kI11686012 kN3 uL0))
  (uK (uC kN212 (uE kI1 kI6 (uE kI0 kI3 (uE kI0 kI255 (uE kI0 kI5 (uE kI0 kI256 (uE kI0 kI8 uE0)))))) (uA kN0 (rA kI90) (uA kN1 (uis kN0) (uA kN2 (uis kN1) (uA kN3 (uic kI3) (uA kN4 (uis kN2) (uA kN5 (uis kN3) (uA kN6 (uis kN4) uA0))))))) uS0 (uO kN107 kN3 (uis kN5) uO0) kI23325763 (uL kJ45292 kN4 (uL kI11686012 kN3 uL0)))
  (uK (uC kN239 (uE kI1 kI6 (uE kI0 kI3 (uE kI0 kI255 (uE kI0 kI5 (uE kI0 kI255 (uE kI0 kI64 (uE kI0 kI8 uE0))))))) (uA kN0 (rA kI90) (uA kN1 (uis kN0) (uA kN2 (uis kN1) (uA kN3 (uic kI3) (uA kN4 (uis kN2) (uA kN5 (uis kN3) (uA kN6 (uis kN4) (uA kN7 (uis kN5) uA0)))))))) uS0 (uO kN107 kN3 (uis kN6) uO0) kI23324482 (uL kJ676 kN5 (uL kI11686012 kN3 (uL kJ45292 kN4 uL0))))
  (uK (uC kN317 (uE kI1 kI6 (uE kI0 kI3 (uE kI0 kI255 (uE kI0 kI5 (uE kI0 kI255 (uE kI0 kI63 (uE kI0 kI8 uE0))))))) (uA kN0 (rA kI90) (uA kN1 (uis kN0) (uA kN2 (uis kN1) (uA kN3 (uic kI3) (uA kN4 (uis kN2) (uA kN5 (uis kN3) (uA kN6 (uis kN4) (uA kN7 (uis kN5) uA0)))))))) uS0 (uO kN107 kN3 (uis kN6) uO0) kI23324404 (uL kJ676 kN5 (uL kI11686012 kN3 (uL kJ45292 kN4 uL0))))
  uK0)))))))))))) = true := by decide +kernel
theorem r252 {l : Launch} {D : va_G} {tys : List (ClassId × FieldType)} {A : Nat → Prop} {ad : Nat → Nat} (hAD : ∀ i : Nat, ad (1000 + i) = D.2 1000 i) : CRok l D tys A ad GG 2 g252 := CR_of_vrf (dep := 1) hAD (List.forall_mem_cons.mpr ⟨r122 hAD, fun c hc => by cases hc⟩) T2OK_nil w252
noncomputable def g253 : CR := (303, [(2, 90, 90), (0, 1, 6), (0, 0, 3), (0, 3, 3)], [((107, 3), (0, 0, 8))], some (0, (-2147483648), 999999), [], [102, 103, 104])
theorem w253 : vrf GG [(3, g251), (2, g252)] [] 300 3 g253
  [] = true := by decide +kernel
theorem r253 {l : Launch} {D : va_G} {tys : List (ClassId × FieldType)} {A : Nat → Prop} {ad : Nat → Nat} (hAD : ∀ i : Nat, ad (1000 + i) = D.2 1000 i) : CRok l D tys A ad GG 4 g253 := CR_of_vrf (dep := 3) hAD (List.forall_mem_cons.mpr ⟨r251 hAD, List.forall_mem_cons.mpr ⟨r252 hAD, fun c hc => by cases hc⟩⟩) T2OK_nil w253
noncomputable def g254 : CR := (301, [(2, 90, 90), (0, 1, 6), (0, 0, 3), (0, 3, 3)], [((107, 3), (0, 9, 60))], some (0, (-6), (-2)), [], [])
theorem w254 : vrf GG [] [] 300 2 g254
  [] = true := by decide +kernel
theorem r254 {l : Launch} {D : va_G} {tys : List (ClassId × FieldType)} {A : Nat → Prop} {ad : Nat → Nat} (hAD : ∀ i : Nat, ad (1000 + i) = D.2 1000 i) : CRok l D tys A ad GG 3 g254 := CR_of_vrf (dep := 2) hAD (fun c hc => by cases hc) T2OK_nil w254
noncomputable def g255 : CR := (303, [(2, 90, 90), (0, 1, 6), (0, 0, 3), (0, 3, 3)], [((107, 3), (0, 9, 60))], some (0, (-6), (-2)), [], [])
theorem w255 : vrf GG [(3, g254)] [] 300 3 g255
  [] = true := by decide +kernel
theorem r255 {l : Launch} {D : va_G} {tys : List (ClassId × FieldType)} {A : Nat → Prop} {ad : Nat → Nat} (hAD : ∀ i : Nat, ad (1000 + i) = D.2 1000 i) : CRok l D tys A ad GG 4 g255 := CR_of_vrf (dep := 3) hAD (List.forall_mem_cons.mpr ⟨r254 hAD, fun c hc => by cases hc⟩) T2OK_nil w255
noncomputable def g256 : CR := (49, [(2, 0, 0), (0, (-2147483648), 0), (0, (-2147483648), 2147483647), (0, (-2147483648), 2147483647), (0, (-2147483648), 2147483647)], [], some (0, (-2), (-2)), [], [])
theorem w256 : vrf GG [(1, g195)] [] 300 1 g256
  [] = true := by decide +kernel
theorem r256 {l : Launch} {D : va_G} {tys : List (ClassId × FieldType)} {A : Nat → Prop} {ad : Nat → Nat} (hAD : ∀ i : Nat, ad (1000 + i) = D.2 1000 i) : CRok l D tys A ad GG 2 g256 := CR_of_vrf (dep := 1) hAD (List.forall_mem_cons.mpr ⟨r195 hAD, fun c hc => by cases hc⟩) T2OK_nil w256
noncomputable def g257 : CR := (49, [(2, 0, 0), (0, 7, 2147483647), (0, (-2147483648), 2147483647), (0, (-2147483648), 2147483647), (0, (-2147483648), 2147483647)], [], some (0, (-2), (-2)), [], [])
theorem w257 : vrf GG [(1, g197)] [] 300 1 g257
  [] = true := by decide +kernel
theorem r257 {l : Launch} {D : va_G} {tys : List (ClassId × FieldType)} {A : Nat → Prop} {ad : Nat → Nat} (hAD : ∀ i : Nat, ad (1000 + i) = D.2 1000 i) : CRok l D tys A ad GG 2 g257 := CR_of_vrf (dep := 1) hAD (List.forall_mem_cons.mpr ⟨r197 hAD, fun c hc => by cases hc⟩) T2OK_nil w257
noncomputable def g258 : CR := (49, [(2, 0, 0), (0, 1, 6), (0, (-2147483648), (-1)), (0, (-2147483648), 2147483647), (0, (-2147483648), 2147483647)], [], some (0, (-2), (-2)), [], [])
theorem w258 : vrf GG [(2, g199)] [] 300 2 g258
  [] = true := by decide +kernel
theorem r258 {l : Launch} {D : va_G} {tys : List (ClassId × FieldType)} {A : Nat → Prop} {ad : Nat → Nat} (hAD : ∀ i : Nat, ad (1000 + i) = D.2 1000 i) : CRok l D tys A ad GG 3 g258 := CR_of_vrf (dep := 2) hAD (List.forall_mem_cons.mpr ⟨r199 hAD, fun c hc => by cases hc⟩) T2OK_nil w258
noncomputable def g259 : CR := (49, [(2, 0, 0), (0, 1, 6), (0, 4, 2147483647), (0, (-2147483648), 2147483647), (0, (-2147483648), 2147483647)], [], some (0, (-2), (-2)), [], [])
theorem w259 : vrf GG [(2, g201)] [] 300 2 g259
  [] = true := by decide +kernel
theorem r259 {l : Launch} {D : va_G} {tys : List (ClassId × FieldType)} {A : Nat → Prop} {ad : Nat → Nat} (hAD : ∀ i : Nat, ad (1000 + i) = D.2 1000 i) : CRok l D tys A ad GG 3 g259 := CR_of_vrf (dep := 2) hAD (List.forall_mem_cons.mpr ⟨r201 hAD, fun c hc => by cases hc⟩) T2OK_nil w259
noncomputable def g260 : CR := (49, [(2, 0, 0), (0, 1, 6), (0, 0, 3), (0, (-2147483648), (-1)), (0, (-2147483648), 2147483647)], [], some (0, (-2), (-2)), [], [])
theorem w260 : vrf GG [(2, g203)] [] 300 2 g260
  [] = true := by decide +kernel
theorem r260 {l : Launch} {D : va_G} {tys : List (ClassId × FieldType)} {A : Nat → Prop} {ad : Nat → Nat} (hAD : ∀ i : Nat, ad (1000 + i) = D.2 1000 i) : CRok l D tys A ad GG 3 g260 := CR_of_vrf (dep := 2) hAD (List.forall_mem_cons.mpr ⟨r203 hAD, fun c hc => by cases hc⟩) T2OK_nil w260
noncomputable def g261 : CR := (49, [(2, 0, 0), (0, 1, 6), (0, 0, 3), (0, 4, 2147483647), (0, (-2147483648), 2147483647)], [], some (0, (-2), (-2)), [], [])
theorem w261 : vrf GG [(2, g205)] [] 300 2 g261
  [] = true := by decide +kernel
theorem r261 {l : Launch} {D : va_G} {tys : List (ClassId × FieldType)} {A : Nat → Prop} {ad : Nat → Nat} (hAD : ∀ i : Nat, ad (1000 + i) = D.2 1000 i) : CRok l D tys A ad GG 3 g261 := CR_of_vrf (dep := 2) hAD (List.forall_mem_cons.mpr ⟨r205 hAD, fun c hc => by cases hc⟩) T2OK_nil w261
noncomputable def g262 : CR := (49, [(2, 0, 0), (0, 1, 6), (0, 0, 3), (0, 0, 3), (0, (-2147483648), 2147483647)], [], some (0, (-2147483648), 2147483647), [], [44, 45, 46])
theorem w262 : vrf GG [(5, g214), (5, g212)] [] 300 5 g262
  [] = true := by decide +kernel
theorem r262 {l : Launch} {D : va_G} {tys : List (ClassId × FieldType)} {A : Nat → Prop} {ad : Nat → Nat} (hAD : ∀ i : Nat, ad (1000 + i) = D.2 1000 i) : CRok l D tys A ad GG 6 g262 := CR_of_vrf (dep := 5) hAD (List.forall_mem_cons.mpr ⟨r214 hAD, List.forall_mem_cons.mpr ⟨r212 hAD, fun c hc => by cases hc⟩⟩) T2OK_nil w262
noncomputable def g263 : CR := (51, [(2, 0, 0), (0, (-2147483648), (-1))], [], some (0, (-2), (-2)), [], [])
theorem w263 : vrf GG [] [] 300 2 g263
  [] = true := by decide +kernel
theorem r263 {l : Launch} {D : va_G} {tys : List (ClassId × FieldType)} {A : Nat → Prop} {ad : Nat → Nat} (hAD : ∀ i : Nat, ad (1000 + i) = D.2 1000 i) : CRok l D tys A ad GG 3 g263 := CR_of_vrf (dep := 2) hAD (fun c hc => by cases hc) T2OK_nil w263
noncomputable def g264 : CR := (51, [(2, 0, 0), (0, 4, 2147483647)], [], some (0, (-2), (-2)), [], [])
theorem w264 : vrf GG [] [] 300 2 g264
  [] = true := by decide +kernel
theorem r264 {l : Launch} {D : va_G} {tys : List (ClassId × FieldType)} {A : Nat → Prop} {ad : Nat → Nat} (hAD : ∀ i : Nat, ad (1000 + i) = D.2 1000 i) : CRok l D tys A ad GG 3 g264 := CR_of_vrf (dep := 2) hAD (fun c hc => by cases hc) T2OK_nil w264
noncomputable def g265 : CR := (117, [(2, 4, 4), (0, 0, 5), (2, 39, 39), (0, 0, 3)], [], some (0, 0, 1), [], [])
theorem w265 : vrf GG [] [] 536 3 g265
  (uK (uC kN10 (uE kI0 kI5 (uE kI0 kI3 (uE kJ1 kI60 (uE kI0 kI9 uE0)))) (uA kN0 (rA kI4) (uA kN1 (uis kN0) (uA kN2 (rA kI39) (uA kN3 (uis kN1) (uA kN4 (uis kN2) (uA kN5 (uis kN3) uA0)))))) uS0 uO0 (Int.ofNat (nat_lit 15978)) (uL kJ1600 kN3 uL0))
  (uK (uC kN26 (uE kI0 kI5 (uE kI0 kI3 (uE kJ1 kI7 (uE kI0 kI8 (uE kI0 kI7 uE0))))) (uA kN0 (rA kI4) (uA kN1 (uis kN0) (uA kN2 (rA kI39) (uA kN3 (uis kN1) (uA kN4 (uis kN2) (uA kN5 (uis kN3) (uA kN6 (uis kN4) uA0))))))) uS0 uO0 (Int.ofNat (nat_lit 15695)) (uL kJ160 kN4 (uL kJ1600 kN3 uL0)))
  (uK (uC kN61 (uE kI0 kI5 (uE kI0 kI3 (uE kJ1 kI7 (uE kI0 kI8 (uE kI0 kI7 uE0))))) (uA kN0 (rA kI4) (uA kN1 (uis kN0) (uA kN2 (rA kI39) (uA kN3 (uis kN1) (uA kN4 (uis kN2) (uA kN5 (uis kN3) (uA kN6 (uis kN4) uA0))))))) uS0 uO0 (Int.ofNat (nat_lit 14487)) (uL kJ1600 kN3 uL0))
  uK0))) = true := by decide +kernel
theorem r265 {l : Launch} {D : va_G} {tys : List (ClassId × FieldType)} {A : Nat → Prop} {ad : Nat → Nat} (hAD : ∀ i : Nat, ad (1000 + i) = D.2 1000 i) : CRok l D tys A ad GG 4 g265 := CR_of_vrf (dep := 3) hAD (fun c hc => by cases hc) T2OK_nil w265
noncomputable def g266 : CR := (116, [(2, 47, 47), (2, 4, 4), (2, 39, 39), (0, 0, 3)], [], some (0, 0, 63), [], [])
theorem w266 : vrf GG [(4, g265)] [] 300 4 g266
  (uK (uC kN6 (uE kI0 kI3 (uE kI0 kI63 (uE kI0 kI6 uE0))) (uA kN0 (rA kI47) (uA kN1 (rA kI4) (uA kN2 (rA kI39) (uA kN3 (uis kN0) (uA kN4 (uis kN1) (uA kN5 (uis kN2) uA0)))))) uS0 uO0 kI630 (uL kJ92 kN2 uL0))
  (uK (uC kN35 (uE kI0 kI3 (uE kI0 kI63 (uE kI0 kI5 (uE kI1 kI6 uE0)))) (uA kN0 (rA kI47) (uA kN1 (rA kI4) (uA kN2 (rA kI39) (uA kN3 (uis kN0) (uA kN4 (uis kN1) (uA kN5 (uis kN2) uA0)))))) uS0 (uO kN4 kN4 (uis kN3) uO0) (Int.ofNat (nat_lit 601)) (uL kJ92 kN2 uL0))
  uK0)) = true := by decide +kernel
theorem r266 {l : Launch} {D : va_G} {tys : List (ClassId × FieldType)} {A : Nat → Prop} {ad : Nat → Nat} (hAD : ∀ i : Nat, ad (1000 + i) = D.2 1000 i) : CRok l D tys A ad GG 5 g266 := CR_of_vrf (dep := 4) hAD (List.forall_mem_cons.mpr ⟨r265 hAD, fun c hc => by cases hc⟩) T2OK_nil w266
noncomputable def g267 : CR := (170, [(2, 39, 39), (0, 0, 3), (0, 0, 0), (0, (-1), 8)], [], some (0, 0, 1), [], [])
theorem w267 : vrf GG [] [] 455 3 g267
  (uK (uC kN3 (uE kI0 kI3 (uE kJ1 kI8 (uE kI0 kI60 uE0))) (uA kN0 (rA kI39) (uA kN1 (uis kN0) (uA kN2 (uic kI0) (uA kN3 (uis kN1) (uA kN4 (uis kN2) uA0))))) uS0 uO0 (Int.ofNat (nat_lit 6214)) (uL kJ102 kN2 uL0))
  (uK (uC kN39 (uE kI0 kI3 (uE kJ1 kI8 (uE kI0 kI59 uE0))) (uA kN0 (rA kI39) (uA kN1 (uis kN0) (uA kN2 (uic kI0) (uA kN3 (uis kN1) (uA kN4 (uis kN2) uA0))))) uS0 uO0 (Int.ofNat (nat_lit 6178)) (uL kJ102 kN2 uL0))
  uK0)) = true := by decide +kernel
theorem r267 {l : Launch} {D : va_G} {tys : List (ClassId × FieldType)} {A : Nat → Prop} {ad : Nat → Nat} (hAD : ∀ i : Nat, ad (1000 + i) = D.2 1000 i) : CRok l D tys A ad GG 4 g267 := CR_of_vrf (dep := 3) hAD (fun c hc => by cases hc) T2OK_nil w267
noncomputable def g268 : CR := (51, [(2, 0, 0), (0, 0, 3)], [], some (0, (-6), 63), [], [])
theorem w268 : vrf GG [(5, g266), (4, g267)] [] 300 5 g268
  [] = true := by decide +kernel
theorem r268 {l : Launch} {D : va_G} {tys : List (ClassId × FieldType)} {A : Nat → Prop} {ad : Nat → Nat} (hAD : ∀ i : Nat, ad (1000 + i) = D.2 1000 i) : CRok l D tys A ad GG 6 g268 := CR_of_vrf (dep := 5) hAD (List.forall_mem_cons.mpr ⟨r266 hAD, List.forall_mem_cons.mpr ⟨r267 hAD, fun c hc => by cases hc⟩⟩) T2OK_nil w268
noncomputable def g269 : CR := (305, [(2, 90, 90), (0, (-2147483648), (-1)), (0, 1, 1)], [], some (0, (-2), (-2)), [], [])
theorem w269 : vrf GG [] [] 300 2 g269
  [] = true := by decide +kernel
theorem r269 {l : Launch} {D : va_G} {tys : List (ClassId × FieldType)} {A : Nat → Prop} {ad : Nat → Nat} (hAD : ∀ i : Nat, ad (1000 + i) = D.2 1000 i) : CRok l D tys A ad GG 3 g269 := CR_of_vrf (dep := 2) hAD (fun c hc => by cases hc) T2OK_nil w269
noncomputable def g270 : CR := (308, [(2, 90, 90), (0, (-2147483648), (-1))], [], some (0, (-2), (-2)), [], [])
theorem w270 : vrf GG [(3, g269)] [] 300 3 g270
  [] = true := by decide +kernel
theorem r270 {l : Launch} {D : va_G} {tys : List (ClassId × FieldType)} {A : Nat → Prop} {ad : Nat → Nat} (hAD : ∀ i : Nat, ad (1000 + i) = D.2 1000 i) : CRok l D tys A ad GG 4 g270 := CR_of_vrf (dep := 3) hAD (List.forall_mem_cons.mpr ⟨r269 hAD, fun c hc => by cases hc⟩) T2OK_nil w270
noncomputable def g271 : CR := (305, [(2, 90, 90), (0, 4, 2147483647), (0, 1, 1)], [], some (0, (-2), (-2)), [], [])
theorem w271 : vrf GG [] [] 300 2 g271
  [] = true := by decide +kernel
theorem r271 {l : Launch} {D : va_G} {tys : List (ClassId × FieldType)} {A : Nat → Prop} {ad : Nat → Nat} (hAD : ∀ i : Nat, ad (1000 + i) = D.2 1000 i) : CRok l D tys A ad GG 3 g271 := CR_of_vrf (dep := 2) hAD (fun c hc => by cases hc) T2OK_nil w271
noncomputable def g272 : CR := (308, [(2, 90, 90), (0, 4, 2147483647)], [], some (0, (-2), (-2)), [], [])
theorem w272 : vrf GG [(3, g271)] [] 300 3 g272
  [] = true := by decide +kernel
theorem r272 {l : Launch} {D : va_G} {tys : List (ClassId × FieldType)} {A : Nat → Prop} {ad : Nat → Nat} (hAD : ∀ i : Nat, ad (1000 + i) = D.2 1000 i) : CRok l D tys A ad GG 4 g272 := CR_of_vrf (dep := 3) hAD (List.forall_mem_cons.mpr ⟨r271 hAD, fun c hc => by cases hc⟩) T2OK_nil w272
noncomputable def g273 : CR := (305, [(2, 90, 90), (0, 0, 3), (0, 1, 1)], [], some (0, (-6), 0), [], [])
theorem w273 : vrf GG [] [] 300 2 g273
  (uK (uC kN36 (uE kI0 kI3 (uE kI0 kI60 (uE kI1 kI2147483647 uE0))) (uA kN0 (rA kI90) (uA kN1 (uis kN0) (uA kN2 (uic kI1) (uA kN3 (uis kN1) uA0)))) uS0 (uO kN91 kN5 (uis kN2) uO0) (Int.ofNat (nat_lit 8710)) (uL kJ144 kN1 uL0))
  uK0) = true := by decide +kernel
theorem r273 {l : Launch} {D : va_G} {tys : List (ClassId × FieldType)} {A : Nat → Prop} {ad : Nat → Nat} (hAD : ∀ i : Nat, ad (1000 + i) = D.2 1000 i) : CRok l D tys A ad GG 3 g273 := CR_of_vrf (dep := 2) hAD (fun c hc => by cases hc) T2OK_nil w273
noncomputable def g274 : CR := (306, [(2, 90, 90), (0, 0, 5)], [], none, [], [90, 105])
theorem w274 : vrf GG [] [] 300 1 g274
  (uK (uC kN11 (uE kI0 kI5 (uE kI0 kI6 (uE kI0 kI6 uE0))) (uA kN0 (rA kI90) (uA kN1 (uis kN0) (uA kN2 (uis kN1) uA0))) uS0 (uO kN90 kN30 (uis kN2) uO0) kI536 (uL kJ80 kN1 uL0))
  uK0) = true := by decide +kernel
theorem r274 {l : Launch} {D : va_G} {tys : List (ClassId × FieldType)} {A : Nat → Prop} {ad : Nat → Nat} (hAD : ∀ i : Nat, ad (1000 + i) = D.2 1000 i) : CRok l D tys A ad GG 2 g274 := CR_of_vrf (dep := 1) hAD (fun c hc => by cases hc) T2OK_nil w274
noncomputable def g275 : CR := (307, [(2, 90, 90), (0, 0, 0)], [((107, 0), (0, (-1), (-1)))], some (0, 1, 1), [], [])
theorem w275 : vrf GG [] [] 300 0 g275
  (uK (uC kN2 uE0 (uA kN0 (rA kI90) (uA kN1 (uic kI0) (uA kN2 (uic kI0) uA0))) uS0 (uO kN107 kN0 (uic kJ1) uO0) kI510 uL0)
  (uK (uC kN22 (uE kI0 kI6 uE0) (uA kN0 (rA kI90) (uA kN1 (uic kI0) (uA kN2 (uic kI0) (uA kN3 (uic kI1) (uA kN4 (uic kI0) uA0))))) uS0 (uO kN90 kN30 (uis kN0) (uO kN107 kN0 (uic kJ1) uO0)) kI209 uL0)
  (uK (uC kN70 (uE kI0 kI6 uE0) (uA kN0 (rA kI90) (uA kN1 (uic kI0) (uA kN2 (uic kI0) (uA kN3 (uic kI1) (uA kN4 (uic kI0) uA0))))) uS0 (uO kN90 kN30 (uis kN0) (uO kN107 kN0 (uic kJ1) uO0)) kI98 uL0)
  uK0))) = true := by decide +kernel
theorem r275 {l : Launch} {D : va_G} {tys : List (ClassId × FieldType)} {A : Nat → Prop} {ad : Nat → Nat} (hAD : ∀ i : Nat, ad (1000 + i) = D.2 1000 i) : CRok l D tys A ad GG 1 g275 := CR_of_vrf (dep := 0) hAD (fun c hc => by cases hc) T2OK_nil w275
noncomputable def g276 : CR := (307, [(2, 90, 90), (0, 0, 0)], [((107, 0), (0, 0, 0))], some (0, 1, 1), [], [])
theorem w276 : vrf GG [] [] 300 0 g276
  (uK (uC kN2 uE0 (uA kN0 (rA kI90) (uA kN1 (uic kI0) (uA kN2 (uic kI0) uA0))) uS0 (uO kN107 kN0 (uic kI0) uO0) kI510 uL0)
  (uK (uC kN22 (uE kI0 kI6 uE0) (uA kN0 (rA kI90) (uA kN1 (uic kI0) (uA kN2 (uic kI0) (uA kN3 (uic kI1) (uA kN4 (uic kI0) uA0))))) uS0 (uO kN90 kN30 (uis kN0) (uO kN107 kN0 (uic kI0) uO0)) kI209 uL0)
  (uK (uC kN70 (uE kI0 kI6 uE0) (uA kN0 (rA kI90) (uA kN1 (uic kI0) (uA kN2 (uic kI0) (uA kN3 (uic kI1) (uA kN4 (uic kI0) uA0))))) uS0 (uO kN90 kN30 (uis kN0) (uO kN107 kN0 (uic kI0) uO0)) kI98 uL0)
  uK0))) = true := by decide +kernel
theorem r276 {l : Launch} {D : va_G} {tys : List (ClassId × FieldType)} {A : Nat → Prop} {ad : Nat → Nat} (hAD : ∀ i : Nat, ad (1000 + i) = D.2 1000 i) : CRok l D tys A ad GG 1 g276 := CR_of_vrf (dep := 0) hAD (fun c hc => by cases hc) T2OK_nil w276
noncomputable def g277 : CR := (307, [(2, 90, 90), (0, 0, 0)], [((107, 0), (0, 1, 1))], some (0, 0, 1), [], [])
theorem w277 : vrf GG [] [] 300 1 g277
  (uK (uC kN2 (uE kI0 kI6 uE0) (uA kN0 (rA kI90) (uA kN1 (uic kI0) (uA kN2 (uis kN0) uA0))) uS0 (uO kN107 kN0 (uic kI1) uO0) kI4810 (uL kJ688 kN0 uL0))
  (uK (uC kN22 (uE kI0 kI5 (uE kI0 kI1 (uE kI0 kI1 (uE kI1 kI6 uE0)))) (uA kN0 (rA kI90) (uA kN1 (uic kI0) (uA kN2 (uis kN0) (uA kN3 (uis kN1) (uA kN4 (uis kN2) uA0))))) uS0 (uO kN90 kN30 (uis kN3) (uO kN107 kN0 (uic kI1) uO0)) kI4509 (uL kJ172 kN2 (uL kJ688 kN0 uL0)))
  (uK (uC kN63 (uE kI0 kI5 (uE kI0 kI1 (uE kI1 kI6 (uE kJ9223372036854775808 kI9223372036854775807 uE0)))) (uA kN0 (rA kI90) (uA kN1 (uic kI0) (uA kN2 (uis kN0) (uA kN3 (uic kI1) (uA kN4 (uic kI0) uA0))))) (uS (uis kN1) uS0) (uO kN90 kN30 (uis kN2) (uO kN107 kN0 (uic kI1) (uO kN109 kN0 (uls kN3) uO0))) kI4468 (uL kJ688 kN0 uL0))
  (uK (uC kN70 (uE kI0 kI5 (uE kI0 kI1 (uE kI0 kI1 (uE kI1 kI6 uE0)))) (uA kN0 (rA kI90) (uA kN1 (uic kI0) (uA kN2 (uis kN0) (uA kN3 (uis kN1) (uA kN4 (uis kN2) uA0))))) uS0 (uO kN90 kN30 (uis kN3) (uO kN107 kN0 (uic kI1) uO0)) kI4226 (uL kJ688 kN0 uL0))
  uK0)))) = true := by decide +kernel
theorem r277 {l : Launch} {D : va_G} {tys : List (ClassId × FieldType)} {A : Nat → Prop} {ad : Nat → Nat} (hAD : ∀ i : Nat, ad (1000 + i) = D.2 1000 i) : CRok l D tys A ad GG 2 g277 := CR_of_vrf (dep := 1) hAD (fun c hc => by cases hc) T2OK_nil w277
noncomputable def g278 : CR := (307, [(2, 90, 90), (0, 0, 0)], [((107, 0), (0, 2, 2))], some (0, 0, 1), [], [])
theorem w278 : vrf GG [] [] 300 1 g278
  (uK (uC kN2 (uE kI0 kI5 uE0) (uA kN0 (rA kI90) (uA kN1 (uic kI0) (uA kN2 (uis kN0) uA0))) uS0 (uO kN107 kN0 (uic kI2) uO0) kI5154 (uL kJ860 kN0 uL0))
  (uK (uC kN22 (uE kI0 kI4 (uE kI0 kI1 (uE kI0 kI2 (uE kI2 kI6 uE0)))) (uA kN0 (rA kI90) (uA kN1 (uic kI0) (uA kN2 (uis kN0) (uA kN3 (uis kN1) (uA kN4 (uis kN2) uA0))))) uS0 (uO kN90 kN30 (uis kN3) (uO kN107 kN0 (uic kI2) uO0)) kI4853 (uL kJ172 kN2 (uL kJ860 kN0 uL0)))
  (uK (uC kN63 (uE kI0 kI4 (uE kI0 kI1 (uE kI0 kI1 (uE kI2 kI6 uE0)))) (uA kN0 (rA kI90) (uA kN1 (uic kI0) (uA kN2 (uis kN0) (uA kN3 (uic kI1) (uA kN4 (uis kN1) uA0))))) (uS (uis kN2) uS0) (uO kN90 kN30 (uis kN3) (uO kN107 kN0 (uic kI2) uO0)) kI4812 (uL kJ172 kN1 (uL kJ860 kN0 uL0)))
  (uK (uC kN70 (uE kI0 kI4 (uE kI0 kI1 (uE kI0 kI2 (uE kI2 kI6 uE0)))) (uA kN0 (rA kI90) (uA kN1 (uic kI0) (uA kN2 (uis kN0) (uA kN3 (uis kN1) (uA kN4 (uis kN2) uA0))))) uS0 (uO kN90 kN30 (uis kN3) (uO kN107 kN0 (uic kI2) uO0)) kI4398 (uL kJ860 kN0 uL0))
  uK0)))) = true := by decide +kernel
theorem r278 {l : Launch} {D : va_G} {tys : List (ClassId × FieldType)} {A : Nat → Prop} {ad : Nat → Nat} (hAD : ∀ i : Nat, ad (1000 + i) = D.2 1000 i) : CRok l D tys A ad GG 2 g278 := CR_of_vrf (dep := 1) hAD (fun c hc => by cases hc) T2OK_nil w278
noncomputable def g279 : CR := (307, [(2, 90, 90), (0, 0, 0)], [((107, 0), (0, 3, 3))], some (0, 0, 1), [], [])
theorem w279 : vrf GG [] [] 300 1 g279
  (uK (uC kN2 (uE kI0 kI4 uE0) (uA kN0 (rA kI90) (uA kN1 (uic kI0) (uA kN2 (uis kN0) uA0))) uS0 (uO kN107 kN0 (uic kI3) uO0) kI5154 (uL kJ1032 kN0 uL0))
  (uK (uC kN22 (uE kI0 kI3 (uE kI0 kI1 (uE kI0 kI3 (uE kI3 kI6 uE0)))) (uA kN0 (rA kI90) (uA kN1 (uic kI0) (uA kN2 (uis kN0) (uA kN3 (uis kN1) (uA kN4 (uis kN2) uA0))))) uS0 (uO kN90 kN30 (uis kN3) (uO kN107 kN0 (uic kI3) uO0)) kI4853 (uL kJ172 kN2 (uL kJ1032 kN0 uL0)))
  (uK (uC kN63 (uE kI0 kI3 (uE kI0 kI2 (uE kI0 kI1 (uE kI3 kI6 uE0)))) (uA kN0 (rA kI90) (uA kN1 (uic kI0) (uA kN2 (uis kN0) (uA kN3 (uic kI1) (uA kN4 (uis kN1) uA0))))) (uS (uis kN2) uS0) (uO kN90 kN30 (uis kN3) (uO kN107 kN0 (uic kI3) uO0)) kI4812 (uL kJ172 kN1 (uL kJ1032 kN0 uL0)))
  (uK (uC kN70 (uE kI0 kI3 (uE kI0 kI1 (uE kI0 kI3 (uE kI3 kI6 uE0)))) (uA kN0 (rA kI90) (uA kN1 (uic kI0) (uA kN2 (uis kN0) (uA kN3 (uis kN1) (uA kN4 (uis kN2) uA0))))) uS0 (uO kN90 kN30 (uis kN3) (uO kN107 kN0 (uic kI3) uO0)) kI4226 (uL kJ1032 kN0 uL0))
  uK0)))) = true := by decide +kernel
theorem r279 {l : Launch} {D : va_G} {tys : List (ClassId × FieldType)} {A : Nat → Prop} {ad : Nat → Nat} (hAD : ∀ i : Nat, ad (1000 + i) = D.2 1000 i) : CRok l D tys A ad GG 2 g279 := CR_of_vrf (dep := 1) hAD (fun c hc => by cases hc) T2OK_nil w279
noncomputable def g280 : CR := (307, [(2, 90, 90), (0, 0, 0)], [((107, 0), (0, 4, 4))], some (0, 0, 1), [], [])
theorem w280 : vrf GG [] [] 300 1 g280
  (uK (uC kN2 (uE kI0 kI3 uE0) (uA kN0 (rA kI90) (uA kN1 (uic kI0) (uA kN2 (uis kN0) uA0))) uS0 (uO kN107 kN0 (uic kI4) uO0) kI4810 (uL kJ1204 kN0 uL0))
  (uK (uC kN22 (uE kI0 kI2 (uE kI0 kI1 (uE kI0 kI4 (uE kI4 kI6 uE0)))) (uA kN0 (rA kI90) (uA kN1 (uic kI0) (uA kN2 (uis kN0) (uA kN3 (uis kN1) (uA kN4 (uis kN2) uA0))))) uS0 (uO kN90 kN30 (uis kN3) (uO kN107 kN0 (uic kI4) uO0)) kI4509 (uL kJ172 kN2 (uL kJ1204 kN0 uL0)))
  (uK (uC kN63 (uE kI0 kI2 (uE kI0 kI3 (uE kI0 kI1 (uE kI4 kI6 uE0)))) (uA kN0 (rA kI90) (uA kN1 (uic kI0) (uA kN2 (uis kN0) (uA kN3 (uic kI1) (uA kN4 (uis kN1) uA0))))) (uS (uis kN2) uS0) (uO kN90 kN30 (uis kN3) (uO kN107 kN0 (uic kI4) uO0)) kI4468 (uL kJ172 kN1 (uL kJ1204 kN0 uL0)))
  (uK (uC kN70 (uE kI0 kI2 (uE kI0 kI1 (uE kI0 kI4 (uE kI4 kI6 uE0)))) (uA kN0 (rA kI90) (uA kN1 (uic kI0) (uA kN2 (uis kN0) (uA kN3 (uis kN1) (uA kN4 (uis kN2) uA0))))) uS0 (uO kN90 kN30 (uis kN3) (uO kN107 kN0 (uic kI4) uO0)) kI3710 (uL kJ1204 kN0 uL0))
  uK0)))) = true := by decide +kernel
theorem r280 {l : Launch} {D : va_G} {tys : List (ClassId × FieldType)} {A : Nat → Prop} {ad : Nat → Nat} (hAD : ∀ i : Nat, ad (1000 + i) = D.2 1000 i) : CRok l D tys A ad GG 2 g280 := CR_of_vrf (dep := 1) hAD (fun c hc => by cases hc) T2OK_nil w280
noncomputable def g281 : CR := (307, [(2, 90, 90), (0, 0, 0)], [((107, 0), (0, 5, 5))], some (0, 0, 1), [], [])
theorem w281 : vrf GG [] [] 300 1 g281
  (uK (uC kN2 (uE kI0 kI2 uE0) (uA kN0 (rA kI90) (uA kN1 (uic kI0) (uA kN2 (uis kN0) uA0))) uS0 (uO kN107 kN0 (uic kI5) uO0) kI4122 (uL kJ1376 kN0 uL0))
  (uK (uC kN22 (uE kI0 kI1 (uE kI0 kI1 (uE kI0 kI5 (uE kI5 kI6 uE0)))) (uA kN0 (rA kI90) (uA kN1 (uic kI0) (uA kN2 (uis kN0) (uA kN3 (uis kN1) (uA kN4 (uis kN2) uA0))))) uS0 (uO kN90 kN30 (uis kN3) (uO kN107 kN0 (uic kI5) uO0)) kI3821 (uL kJ172 kN2 (uL kJ1376 kN0 uL0)))
  (uK (uC kN63 (uE kI0 kI1 (uE kI0 kI4 (uE kI0 kI1 (uE kI5 kI6 uE0)))) (uA kN0 (rA kI90) (uA kN1 (uic kI0) (uA kN2 (uis kN0) (uA kN3 (uic kI1) (uA kN4 (uis kN1) uA0))))) (uS (uis kN2) uS0) (uO kN90 kN30 (uis kN3) (uO kN107 kN0 (uic kI5) uO0)) kI3780 (uL kJ172 kN1 (uL kJ1376 kN0 uL0)))
  (uK (uC kN70 (uE kI0 kI1 (uE kI0 kI1 (uE kI0 kI5 (uE kI5 kI6 uE0)))) (uA kN0 (rA kI90) (uA kN1 (uic kI0) (uA kN2 (uis kN0) (uA kN3 (uis kN1) (uA kN4 (uis kN2) uA0))))) uS0 (uO kN90 kN30 (uis kN3) (uO kN107 kN0 (uic kI5) uO0)) kI2850 (uL kJ1376 kN0 uL0))
  uK0)))) = true := by decide +kernel
theorem r281 {l : Launch} {D : va_G} {tys : List (ClassId × FieldType)} {A : Nat → Prop} {ad : Nat → Nat} (hAD : ∀ i : Nat, ad (1000 + i) = D.2 1000 i) : CRok l D tys A ad GG 2 g281 := CR_of_vrf (dep := 1) hAD (fun c hc => by cases hc) T2OK_nil w281
noncomputable def g282 : CR := (307, [(2, 90, 90), (0, 0, 0)], [((107, 0), (0, 6, 6))], some (0, 0, 1), [], [])
theorem w282 : vrf GG [] [] 300 1 g282
  (uK (uC kN2 (uE kI0 kI1 uE0) (uA kN0 (rA kI90) (uA kN1 (uic kI0) (uA kN2 (uis kN0) uA0))) uS0 (uO kN107 kN0 (uic kI6) uO0) kI3090 (uL kJ1548 kN0 uL0))
  (uK (uC kN22 (uE kI0 kI1 (uE kI0 kI6 uE0)) (uA kN0 (rA kI90) (uA kN1 (uic kI0) (uA kN2 (uic kI0) (uA kN3 (uis kN0) (uA kN4 (uis kN1) uA0))))) uS0 (uO kN90 kN30 (uic kI6) (uO kN107 kN0 (uic kI6) uO0)) kI2789 (uL kJ172 kN1 uL0))
  (uK (uC kN63 (uE kI0 kI5 (uE kI0 kI1 uE0)) (uA kN0 (rA kI90) (uA kN1 (uic kI0) (uA kN2 (uic kI0) (uA kN3 (uic kI1) (uA kN4 (uis kN0) uA0))))) (uS (uis kN1) uS0) (uO kN90 kN30 (uic kI6) (uO kN107 kN0 (uic kI6) uO0)) kI2748 (uL kJ172 kN0 uL0))
  (uK (uC kN70 (uE kI0 kI1 (uE kI0 kI6 uE0)) (uA kN0 (rA kI90) (uA kN1 (uic kI0) (uA kN2 (uic kI0) (uA kN3 (uis kN0) (uA kN4 (uis kN1) uA0))))) uS0 (uO kN90 kN30 (uic kI6) (uO kN107 kN0 (uic kI6) uO0)) kI1646 uL0)
  uK0)))) = true := by decide +kernel
theorem r282 {l : Launch} {D : va_G} {tys : List (ClassId × FieldType)} {A : Nat → Prop} {ad : Nat → Nat} (hAD : ∀ i : Nat, ad (1000 + i) = D.2 1000 i) : CRok l D tys A ad GG 2 g282 := CR_of_vrf (dep := 1) hAD (fun c hc => by cases hc) T2OK_nil w282
noncomputable def g283 : CR := (307, [(2, 90, 90), (0, 0, 0)], [((107, 0), (0, 7, 60))], some (0, 0, 0), [], [])
theorem w283 : vrf GG [] [] 300 0 g283
  (uK (uC kN2 (uE kI7 kI60 uE0) (uA kN0 (rA kI90) (uA kN1 (uic kI0) (uA kN2 (uic kI0) uA0))) uS0 (uO kN107 kN0 (uis kN0) uO0) kI510 uL0)
  uK0) = true := by decide +kernel
theorem r283 {l : Launch} {D : va_G} {tys : List (ClassId × FieldType)} {A : Nat → Prop} {ad : Nat → Nat} (hAD : ∀ i : Nat, ad (1000 + i) = D.2 1000 i) : CRok l D tys A ad GG 1 g283 := CR_of_vrf (dep := 0) hAD (fun c hc => by cases hc) T2OK_nil w283
noncomputable def g284 : CR := (307, [(2, 90, 90), (0, 1, 1)], [((107, 1), (0, (-1), (-1)))], some (0, 1, 1), [], [])
theorem w284 : vrf GG [] [] 300 0 g284
  (uK (uC kN2 uE0 (uA kN0 (rA kI90) (uA kN1 (uic kI1) (uA kN2 (uic kI0) uA0))) uS0 (uO kN107 kN1 (uic kJ1) uO0) kI510 uL0)
  (uK (uC kN22 (uE kI0 kI6 uE0) (uA kN0 (rA kI90) (uA kN1 (uic kI1) (uA kN2 (uic kI0) (uA kN3 (uic kI1) (uA kN4 (uic kI0) uA0))))) uS0 (uO kN90 kN30 (uis kN0) (uO kN107 kN1 (uic kJ1) uO0)) kI209 uL0)
  (uK (uC kN70 (uE kI0 kI6 uE0) (uA kN0 (rA kI90) (uA kN1 (uic kI1) (uA kN2 (uic kI0) (uA kN3 (uic kI1) (uA kN4 (uic kI0) uA0))))) uS0 (uO kN90 kN30 (uis kN0) (uO kN107 kN1 (uic kJ1) uO0)) kI98 uL0)
  uK0))) = true := by decide +kernel
theorem r284 {l : Launch} {D : va_G} {tys : List (ClassId × FieldType)} {A : Nat → Prop} {ad : Nat → Nat} (hAD : ∀ i : Nat, ad (1000 + i) = D.2 1000 i) : CRok l D tys A ad GG 1 g284 := CR_of_vrf (dep := 0) hAD (fun c hc => by cases hc) T2OK_nil w284
noncomputable def g285 : CR := (307, [(2, 90, 90), (0, 1, 1)], [((107, 1), (0, 0, 0))], some (0, 1, 1), [], [])
theorem w285 : vrf GG [] [] 300 0 g285
  (uK (uC kN2 uE0 (uA kN0 (rA kI90) (uA kN1 (uic kI1) (uA kN2 (uic kI0) uA0))) uS0 (uO kN107 kN1 (uic kI0) uO0) kI510 uL0)
  (uK (uC kN22 (uE kI0 kI6 uE0) (uA kN0 (rA kI90) (uA kN1 (uic kI1) (uA kN2 (uic kI0) (uA kN3 (uic kI1) (uA kN4 (uic kI0) uA0))))) uS0 (uO kN90 kN30 (uis kN0) (uO kN107 kN1 (uic kI0) uO0)) kI209 uL0)
  (uK (uC kN70 (uE kI0 kI6 uE0) (uA kN0 (rA kI90) (uA kN1 (uic kI1) (uA kN2 (uic kI0) (uA kN3 (uic kI1) (uA kN4 (uic kI0) uA0))))) uS0 (uO kN90 kN30 (uis kN0) (uO kN107 kN1 (uic kI0) uO0)) kI98 uL0)
  uK0))) = true := by decide +kernel
theorem r285 {l : Launch} {D : va_G} {tys : List (ClassId × FieldType)} {A : Nat → Prop} {ad : Nat → Nat} (hAD : ∀ i : Nat, ad (1000 + i) = D.2 1000 i) : CRok l D tys A ad GG 1 g285 := CR_of_vrf (dep := 0) hAD (fun c hc => by cases hc) T2OK_nil w285
noncomputable def g286 : CR := (307, [(2, 90, 90), (0, 1, 1)], [((107, 1), (0, 1, 1))], some (0, 0, 1), [], [])
theorem w286 : vrf GG [] [] 300 1 g286
  (uK (uC kN2 (uE kI0 kI6 uE0) (uA kN0 (rA kI90) (uA kN1 (uic kI1) (uA kN2 (uis kN0) uA0))) uS0 (uO kN107 kN1 (uic kI1) uO0) kI4810 (uL kJ688 kN0 uL0))
  (uK (uC kN22 (uE kI0 kI5 (uE kI0 kI1 (uE kI0 kI1 (uE kI1 kI6 uE0)))) (uA kN0 (rA kI90) (uA kN1 (uic kI1) (uA kN2 (uis kN0) (uA kN3 (uis kN1) (uA kN4 (uis kN2) uA0))))) uS0 (uO kN90 kN30 (uis kN3) (uO kN107 kN1 (uic kI1) uO0)) kI4509 (uL kJ172 kN2 (uL kJ688 kN0 uL0)))
  (uK (uC kN63 (uE kI0 kI5 (uE kI0 kI1 (uE kI1 kI6 (uE kJ9223372036854775808 kI9223372036854775807 uE0)))) (uA kN0 (rA kI90) (uA kN1 (uic kI1) (uA kN2 (uis kN0) (uA kN3 (uic kI1) (uA kN4 (uic kI0) uA0))))) (uS (uis kN1) uS0) (uO kN90 kN30 (uis kN2) (uO kN107 kN1 (uic kI1) (uO kN109 kN60 (uls kN3) uO0))) kI4468 (uL kJ688 kN0 uL0))
  (uK (uC kN70 (uE kI0 kI5 (uE kI0 kI1 (uE kI0 kI1 (uE kI1 kI6 uE0)))) (uA kN0 (rA kI90) (uA kN1 (uic kI1) (uA kN2 (uis kN0) (uA kN3 (uis kN1) (uA kN4 (uis kN2) uA0))))) uS0 (uO kN90 kN30 (uis kN3) (uO kN107 kN1 (uic kI1) uO0)) kI4226 (uL kJ688 kN0 uL0))
  uK0)))) = true := by decide +kernel
theorem r286 {l : Launch} {D : va_G} {tys : List (ClassId × FieldType)} {A : Nat → Prop} {ad : Nat → Nat} (hAD : ∀ i : Nat, ad (1000 + i) = D.2 1000 i) : CRok l D tys A ad GG 2 g286 := CR_of_vrf (dep := 1) hAD (fun c hc => by cases hc) T2OK_nil w286
noncomputable def g287 : CR := (307, [(2, 90, 90), (0, 1, 1)], [((107, 1), (0, 2, 2))], some (0, 0, 1), [], [])
theorem w287 : vrf GG [] [] 300 1 g287
  (uK (uC kN2 (uE kI0 kI5 uE0) (uA kN0 (rA kI90) (uA kN1 (uic kI1) (uA kN2 (uis kN0) uA0))) uS0 (uO kN107 kN1 (uic kI2) uO0) kI5154 (uL kJ860 kN0 uL0))
  (uK (uC kN22 (uE kI0 kI4 (uE kI0 kI1 (uE kI0 kI2 (uE kI2 kI6 uE0)))) (uA kN0 (rA kI90) (uA kN1 (uic kI1) (uA kN2 (uis kN0) (uA kN3 (uis kN1) (uA kN4 (uis kN2) uA0))))) uS0 (uO kN90 kN30 (uis kN3) (uO kN107 kN1 (uic kI2) uO0)) kI4853 (uL kJ172 kN2 (uL kJ860 kN0 uL0)))
  (uK (uC kN63 (uE kI0 kI4 (uE kI0 kI1 (uE kI0 kI1 (uE kI2 kI6 uE0)))) (uA kN0 (rA kI90) (uA kN1 (uic kI1) (uA kN2 (uis kN0) (uA kN3 (uic kI1) (uA kN4 (uis kN1) uA0))))) (uS (uis kN2) uS0) (uO kN90 kN30 (uis kN3) (uO kN107 kN1 (uic kI2) uO0)) kI4812 (uL kJ172 kN1 (uL kJ860 kN0 uL0)))
  (uK (uC kN70 (uE kI0 kI4 (uE kI0 kI1 (uE kI0 kI2 (uE kI2 kI6 uE0)))) (uA kN0 (rA kI90) (uA kN1 (uic kI1) (uA kN2 (uis kN0) (uA kN3 (uis kN1) (uA kN4 (uis kN2) uA0))))) uS0 (uO kN90 kN30 (uis kN3) (uO kN107 kN1 (uic kI2) uO0)) kI4398 (uL kJ860 kN0 uL0))
  uK0)))) = true := by decide +kernel
theorem r287 {l : Launch} {D : va_G} {tys : List (ClassId × FieldType)} {A : Nat → Prop} {ad : Nat → Nat} (hAD : ∀ i : Nat, ad (1000 + i) = D.2 1000 i) : CRok l D tys A ad GG 2 g287 := CR_of_vrf (dep := 1) hAD (fun c hc => by cases hc) T2OK_nil w287
noncomputable def g288 : CR := (307, [(2, 90, 90), (0, 1, 1)], [((107, 1), (0, 3, 3))], some (0, 0, 1), [], [])
theorem w288 : vrf GG [] [] 300 1 g288
  (uK (uC kN2 (uE kI0 kI4 uE0) (uA kN0 (rA kI90) (uA kN1 (uic kI1) (uA kN2 (uis kN0) uA0))) uS0 (uO kN107 kN1 (uic kI3) uO0) kI5154 (uL kJ1032 kN0 uL0))
  (uK (uC kN22 (uE kI0 kI3 (uE kI0 kI1 (uE kI0 kI3 (uE kI3 kI6 uE0)))) (uA kN0 (rA kI90) (uA kN1 (uic kI1) (uA kN2 (uis kN0) (uA kN3 (uis kN1) (uA kN4 (uis kN2) uA0))))) uS0 (uO kN90 kN30 (uis kN3) (uO kN107 kN1 (uic kI3) uO0)) kI4853 (uL kJ172 kN2 (uL kJ1032 kN0 uL0)))
  (uK (uC kN63 (uE kI0 kI3 (uE kI0 kI2 (uE kI0 kI1 (uE kI3 kI6 uE0)))) (uA kN0 (rA kI90) (uA kN1 (uic kI1) (uA kN2 (uis kN0) (uA kN3 (uic kI1) (uA kN4 (uis kN1) uA0))))) (uS (uis kN2) uS0) (uO kN90 kN30 (uis kN3) (uO kN107 kN1 (uic kI3) uO0)) kI4812 (uL kJ172 kN1 (uL kJ1032 kN0 uL0)))
  (uK (uC kN70 (uE kI0 kI3 (uE kI0 kI1 (uE kI0 kI3 (uE kI3 kI6 uE0)))) (uA kN0 (rA kI90) (uA kN1 (uic kI1) (uA kN2 (uis kN0) (uA kN3 (uis kN1) (uA kN4 (uis kN2) uA0))))) uS0 (uO kN90 kN30 (uis kN3) (uO kN107 kN1 (uic kI3) uO0)) kI4226 (uL kJ1032 kN0 uL0))
  uK0)))) = true := by decide +kernel
theorem r288 {l : Launch} {D : va_G} {tys : List (ClassId × FieldType)} {A : Nat → Prop} {ad : Nat → Nat} (hAD : ∀ i : Nat, ad (1000 + i) = D.2 1000 i) : CRok l D tys A ad GG 2 g288 := CR_of_vrf (dep := 1) hAD (fun c hc => by cases hc) T2OK_nil w288
noncomputable def g289 : CR := (307, [(2, 90, 90), (0, 1, 1)], [((107, 1), (0, 4, 4))], some (0, 0, 1), [], [])
theorem w289 : vrf GG [] [] 300 1 g289
  (uK (uC kN2 (uE kI0 kI3 uE0) (uA kN0 (rA kI90) (uA kN1 (uic kI1) (uA kN2 (uis kN0) uA0))) uS0 (uO kN107 kN1 (uic kI4) uO0) kI4810 (uL kJ1204 kN0 uL0))
  (uK (uC kN22 (uE kI0 kI2 (uE kI0 kI1 (uE kI0 kI4 (uE kI4 kI6 uE0)))) (uA kN0 (rA kI90) (uA kN1 (uic kI1) (uA kN2 (uis kN0) (uA kN3 (uis kN1) (uA kN4 (uis kN2) uA0))))) uS0 (uO kN90 kN30 (uis kN3) (uO kN107 kN1 (uic kI4) uO0)) kI4509 (uL kJ172 kN2 (uL kJ1204 kN0 uL0)))
  (uK (uC kN63 (uE kI0 kI2 (uE kI0 kI3 (uE kI0 kI1 (uE kI4 kI6 uE0)))) (uA kN0 (rA kI90) (uA kN1 (uic kI1) (uA kN2 (uis kN0) (uA kN3 (uic kI1) (uA kN4 (uis kN1) uA0))))) (uS (uis kN2) uS0) (uO kN90 kN30 (uis kN3) (uO kN107 kN1 (uic kI4) uO0)) kI4468 (uL kJ172 kN1 (uL kJ1204 kN0 uL0)))
  (uK (uC kN70 (uE kI0 kI2 (uE kI0 kI1 (uE kI0 kI4 (uE kI4 kI6 uE0)))) (uA kN0 (rA kI90) (uA kN1 (uic kI1) (uA kN2 (uis kN0) (uA kN3 (uis kN1) (uA kN4 (uis kN2) uA0))))) uS0 (uO kN90 kN30 (uis kN3) (uO kN107 kN1 (uic kI4) uO0)) kI3710 (uL kJ1204 kN0 uL0))
  uK0)))) = true := by decide +kernel
theorem r289 {l : Launch} {D : va_G} {tys : List (ClassId × FieldType)} {A : Nat → Prop} {ad : Nat → Nat} (hAD : ∀ i : Nat, ad (1000 + i) = D.2 1000 i) : CRok l D tys A ad GG 2 g289 := CR_of_vrf (dep := 1) hAD (fun c hc => by cases hc) T2OK_nil w289
noncomputable def g290 : CR := (307, [(2, 90, 90), (0, 1, 1)], [((107, 1), (0, 5, 5))], some (0, 0, 1), [], [])
theorem w290 : vrf GG [] [] 300 1 g290
  (uK (uC kN2 (uE kI0 kI2 uE0) (uA kN0 (rA kI90) (uA kN1 (uic kI1) (uA kN2 (uis kN0) uA0))) uS0 (uO kN107 kN1 (uic kI5) uO0) kI4122 (uL kJ1376 kN0 uL0))
  (uK (uC kN22 (uE kI0 kI1 (uE kI0 kI1 (uE kI0 kI5 (uE kI5 kI6 uE0)))) (uA kN0 (rA kI90) (uA kN1 (uic kI1) (uA kN2 (uis kN0) (uA kN3 (uis kN1) (uA kN4 (uis kN2) uA0))))) uS0 (uO kN90 kN30 (uis kN3) (uO kN107 kN1 (uic kI5) uO0)) kI3821 (uL kJ172 kN2 (uL kJ1376 kN0 uL0)))
  (uK (uC kN63 (uE kI0 kI1 (uE kI0 kI4 (uE kI0 kI1 (uE kI5 kI6 uE0)))) (uA kN0 (rA kI90) (uA kN1 (uic kI1) (uA kN2 (uis kN0) (uA kN3 (uic kI1) (uA kN4 (uis kN1) uA0))))) (uS (uis kN2) uS0) (uO kN90 kN30 (uis kN3) (uO kN107 kN1 (uic kI5) uO0)) kI3780 (uL kJ172 kN1 (uL kJ1376 kN0 uL0)))
  (uK (uC kN70 (uE kI0 kI1 (uE kI0 kI1 (uE kI0 kI5 (uE kI5 kI6 uE0)))) (uA kN0 (rA kI90) (uA kN1 (uic kI1) (uA kN2 (uis kN0) (uA kN3 (uis kN1) (uA kN4 (uis kN2) uA0))))) uS0 (uO kN90 kN30 (uis kN3) (uO kN107 kN1 (uic kI5) uO0)) kI2850 (uL kJ1376 kN0 uL0))
  uK0)))) = true := by decide +kernel
theorem r290 {l : Launch} {D : va_G} {tys : List (ClassId × FieldType)} {A : Nat → Prop} {ad : Nat → Nat} (hAD : ∀ i : Nat, ad (1000 + i) = D.2 1000 i) : CRok l D tys A ad GG 2 g290 := CR_of_vrf (dep := 1) hAD (fun c hc => by cases hc) T2OK_nil w290
noncomputable def g291 : CR := (307, [(2, 90, 90), (0, 1, 1)], [((107, 1), (0, 6, 6))], some (0, 0, 1), [], [])
theorem w291 : vrf GG [] [] 300 1 g291
  (uK (uC kN2 (uE kI0 kI1 uE0) (uA kN0 (rA kI90) (uA kN1 (uic kI1) (uA kN2 (uis kN0) uA0))) uS0 (uO kN107 kN1 (uic kI6) uO0) kI3090 (uL kJ1548 kN0 uL0))
  (uK (uC kN22 (uE kI0 kI1 (uE kI0 kI6 uE0)) (uA kN0 (rA kI90) (uA kN1 (uic kI1) (uA kN2 (uic kI0) (uA kN3 (uis kN0) (uA kN4 (uis kN1) uA0))))) uS0 (uO kN90 kN30 (uic kI6) (uO kN107 kN1 (uic kI6) uO0)) kI2789 (uL kJ172 kN1 uL0))
  (uK (uC kN63 (uE kI0 kI5 (uE kI0 kI1 uE0)) (uA kN0 (rA kI90) (uA kN1 (uic kI1) (uA kN2 (uic kI0) (uA kN3 (uic kI1) (uA kN4 (uis kN0) uA0))))) (uS (uis kN1) uS0) (uO kN90 kN30 (uic kI6) (uO kN107 kN1 (uic kI6) uO0)) kI2748 (uL kJ172 kN0 uL0))
  (uK (uC kN70 (uE kI0 kI1 (uE kI0 kI6 uE0)) (uA kN0 (rA kI90) (uA kN1 (uic kI1) (uA kN2 (uic kI0) (uA kN3 (uis kN0) (uA kN4 (uis kN1) uA0))))) uS0 (uO kN90 kN30 (uic kI6) (uO kN107 kN1 (uic kI6) uO0)) kI1646 uL0)
  uK0)))) = true := by decide +kernel
theorem r291 {l : Launch} {D : va_G} {tys : List (ClassId × FieldType)} {A : Nat → Prop} {ad : Nat → Nat} (hAD : ∀ i : Nat, ad (1000 + i) = D.2 1000 i) : CRok l D tys A ad GG 2 g291 := CR_of_vrf (dep := 1) hAD (fun c hc => by cases hc) T2OK_nil w291
noncomputable def g292 : CR := (307, [(2, 90, 90), (0, 1, 1)], [((107, 1), (0, 7, 60))], some (0, 0, 0), [], [])
theorem w292 : vrf GG [] [] 300 0 g292
  (uK (uC kN2 (uE kI7 kI60 uE0) (uA kN0 (rA kI90) (uA kN1 (uic kI1) (uA kN2 (uic kI0) uA0))) uS0 (uO kN107 kN1 (uis kN0) uO0) kI510 uL0)
  uK0) = true := by decide +kernel
theorem r292 {l : Launch} {D : va_G} {tys : List (ClassId × FieldType)} {A : Nat → Prop} {ad : Nat → Nat} (hAD : ∀ i : Nat, ad (1000 + i) = D.2 1000 i) : CRok l D tys A ad GG 1 g292 := CR_of_vrf (dep := 0) hAD (fun c hc => by cases hc) T2OK_nil w292
noncomputable def g293 : CR := (307, [(2, 90, 90), (0, 2, 2)], [((107, 2), (0, (-1), (-1)))], some (0, 1, 1), [], [])
theorem w293 : vrf GG [] [] 300 0 g293
  (uK (uC kN2 uE0 (uA kN0 (rA kI90) (uA kN1 (uic kI2) (uA kN2 (uic kI0) uA0))) uS0 (uO kN107 kN2 (uic kJ1) uO0) kI510 uL0)
  (uK (uC kN22 (uE kI0 kI6 uE0) (uA kN0 (rA kI90) (uA kN1 (uic kI2) (uA kN2 (uic kI0) (uA kN3 (uic kI1) (uA kN4 (uic kI0) uA0))))) uS0 (uO kN90 kN30 (uis kN0) (uO kN107 kN2 (uic kJ1) uO0)) kI209 uL0)
  (uK (uC kN70 (uE kI0 kI6 uE0) (uA kN0 (rA kI90) (uA kN1 (uic kI2) (uA kN2 (uic kI0) (uA kN3 (uic kI1) (uA kN4 (uic kI0) uA0))))) uS0 (uO kN90 kN30 (uis kN0) (uO kN107 kN2 (uic kJ1) uO0)) kI98 uL0)
  uK0))) = true := by decide +kernel
theorem r293 {l : Launch} {D : va_G} {tys : List (ClassId × FieldType)} {A : Nat → Prop} {ad : Nat → Nat} (hAD : ∀ i : Nat, ad (1000 + i) = D.2 1000 i) : CRok l D tys A ad GG 1 g293 := CR_of_vrf (dep := 0) hAD (fun c hc => by cases hc) T2OK_nil w293
noncomputable def g294 : CR := (307, [(2, 90, 90), (0, 2, 2)], [((107, 2), (0, 0, 0))], some (0, 1, 1), [], [])
theorem w294 : vrf GG [] [] 300 0 g294
  (uK (uC kN2 uE0 (uA kN0 (rA kI90) (uA kN1 (uic kI2) (uA kN2 (uic kI0) uA0))) uS0 (uO kN107 kN2 (uic kI0) uO0) kI510 uL0)
  (uK (uC kN22 (uE kI0 kI6 uE0) (uA kN0 (rA kI90) (uA kN1 (uic kI2) (uA kN2 (uic kI0) (uA kN3 (uic kI1) (uA kN4 (uic kI0) uA0))))) uS0 (uO kN90 kN30 (uis kN0) (uO kN107 kN2 (uic kI0) uO0)) kI209 uL0)
  (uK (uC kN70 (uE kI0 kI6 uE0) (uA kN0 (rA kI90) (uA kN1 (uic kI2) (uA kN2 (uic kI0) (uA kN3 (uic kI1) (uA kN4 (uic kI0) uA0))))) uS0 (uO kN90 kN30 (uis kN0) (uO kN107 kN2 (uic kI0) uO0)) kI98 uL0)
  uK0))) = true := by decide +kernel
theorem r294 {l : Launch} {D : va_G} {tys : List (ClassId × FieldType)} {A : Nat → Prop} {ad : Nat → Nat} (hAD : ∀ i : Nat, ad (1000 + i) = D.2 1000 i) : CRok l D tys A ad GG 1 g294 := CR_of_vrf (dep := 0) hAD (fun c hc => by cases hc) T2OK_nil w294
noncomputable def g295 : CR := (307, [(2, 90, 90), (0, 2, 2)], [((107, 2), (0, 1, 1))], some (0, 0, 1), [], [])
theorem w295 : vrf GG [] [] 300 1 g295
  (uK (uC kN2 (uE kI0 kI6 uE0) (uA kN0 (rA kI90) (uA kN1 (uic kI2) (uA kN2 (uis kN0) uA0))) uS0 (uO kN107 kN2 (uic kI1) uO0) kI4810 (uL kJ688 kN0 uL0))
  (uK (uC kN22 (uE kI0 kI5 (uE kI0 kI1 (uE kI0 kI1 (uE kI1 kI6 uE0)))) (uA kN0 (rA kI90) (uA kN1 (uic kI2) (uA kN2 (uis kN0) (uA kN3 (uis kN1) (uA kN4 (uis kN2) uA0))))) uS0 (uO kN90 kN30 (uis kN3) (uO kN107 kN2 (uic kI1) uO0)) kI4509 (uL kJ172 kN2 (uL kJ688 kN0 uL0)))
  (uK (uC kN63 (uE kI0 kI5 (uE kI0 kI1 (uE kI1 kI6 (uE kJ9223372036854775808 kI9223372036854775807 uE0)))) (uA kN0 (rA kI90) (uA kN1 (uic kI2) (uA kN2 (uis kN0) (uA kN3 (uic kI1) (uA kN4 (uic kI0) uA0))))) (uS (uis kN1) uS0) (uO kN90 kN30 (uis kN2) (uO kN107 kN2 (uic kI1) (uO kN109 kN120 (uls kN3) uO0))) kI4468 (uL kJ688 kN0 uL0))
  (uK (uC kN70 (uE kI0 kI5 (uE kI0 kI1 (uE kI0 kI1 (uE kI1 kI6 uE0)))) (uA kN0 (rA kI90) (uA kN1 (uic kI2) (uA kN2 (uis kN0) (uA kN3 (uis kN1) (uA kN4 (uis kN2) uA0))))) uS0 (uO kN90 kN30 (uis kN3) (uO kN107 kN2 (uic kI1) uO0)) kI4226 (uL kJ688 kN0 uL0))
  uK0)))) = true := by decide +kernel
theorem r295 {l : Launch} {D : va_G} {tys : List (ClassId × FieldType)} {A : Nat → Prop} {ad : Nat → Nat} (hAD : ∀ i : Nat, ad (1000 + i) = D.2 1000 i) : CRok l D tys A ad GG 2 g295 := CR_of_vrf (dep := 1) hAD (fun c hc => by cases hc) T2OK_nil w295
noncomputable def g296 : CR := (307, [(2, 90, 90), (0, 2, 2)], [((107, 2), (0, 2, 2))], some (0, 0, 1), [], [])
theorem w296 : vrf GG [] [] 300 1 g296
  (uK (uC kN2 (uE kI0 kI5 uE0) (uA kN0 (rA kI90) (uA kN1 (uic kI2) (uA kN2 (uis kN0) uA0))) uS0 (uO kN107 kN2 (uic kI2) uO0) kI5154 (uL kJ860 kN0 uL0))
  (uK (uC kN22 (uE kI0 kI4 (uE kI0 kI1 (uE kI0 kI2 (uE kI2 kI6 uE0)))) (uA kN0 (rA kI90) (uA kN1 (uic kI2) (uA kN2 (uis kN0) (uA kN3 (uis kN1) (uA kN4 (uis kN2) uA0))))) uS0 (uO kN90 kN30 (uis kN3) (uO kN107 kN2 (uic kI2) uO0)) kI4853 (uL kJ172 kN2 (uL kJ860 kN0 uL0)))
  (uK (uC kN63 (uE kI0 kI4 (uE kI0 kI1 (uE kI0 kI1 (uE kI2 kI6 uE0)))) (uA kN0 (rA kI90) (uA kN1 (uic kI2) (uA kN2 (uis kN0) (uA kN3 (uic kI1) (uA kN4 (uis kN1) uA0))))) (uS (uis kN2) uS0) (uO kN90 kN30 (uis kN3) (uO kN107 kN2 (uic kI2) uO0)) kI4812 (uL kJ172 kN1 (uL kJ860 kN0 uL0)))
  (uK (uC kN70 (uE kI0 kI4 (uE kI0 kI1 (uE kI0 kI2 (uE kI2 kI6 uE0)))) (uA kN0 (rA kI90) (uA kN1 (uic kI2) (uA kN2 (uis kN0) (uA kN3 (uis kN1) (uA kN4 (uis kN2) uA0))))) uS0 (uO kN90 kN30 (uis kN3) (uO kN107 kN2 (uic kI2) uO0)) kI4398 (uL kJ860 kN0 uL0))
  uK0)))) = true := by decide +kernel
theorem r296 {l : Launch} {D : va_G} {tys : List (ClassId × FieldType)} {A : Nat → Prop} {ad : Nat → Nat} (hAD : ∀ i : Nat, ad (1000 + i) = D.2 1000 i) : CRok l D tys A ad GG 2 g296 := CR_of_vrf (dep := 1) hAD (fun c hc => by cases hc) T2OK_nil w296
noncomputable def g297 : CR := (307, [(2, 90, 90), (0, 2, 2)], [((107, 2), (0, 3, 3))], some (0, 0, 1), [], [])
theorem w297 : vrf GG [] [] 300 1 g297
  (uK (uC kN2 (uE kI0 kI4 uE0) (uA kN0 (rA kI90) (uA kN1 (uic kI2) (uA kN2 (uis kN0) uA0))) uS0 (uO kN107 kN2 (uic kI3) uO0) kI5154 (uL kJ1032 kN0 uL0))
  (uK (uC kN22 (uE kI0 kI3 (uE kI0 kI1 (uE kI0 kI3 (uE kI3 kI6 uE0)))) (uA kN0 (rA kI90) (uA kN1 (uic kI2) (uA kN2 (uis kN0) (uA kN3 (uis kN1) (uA kN4 (uis kN2) uA0))))) uS0 (uO kN90 kN30 (uis kN3) (uO kN107 kN2 (uic kI3) uO0)) kI4853 (uL kJ172 kN2 (uL kJ1032 kN0 uL0)))
  (uK (uC kN63 (uE kI0 kI3 (uE kI0 kI2 (uE kI0 kI1 (uE kI3 kI6 uE0)))) (uA kN0 (rA kI90) (uA kN1 (uic kI2) (uA kN2 (uis kN0) (uA kN3 (uic kI1) (uA kN4 (uis kN1) uA0))))) (uS (uis kN2) uS0) (uO kN90 kN30 (uis kN3) (uO kN107 kN2 (uic kI3) uO0)) kI4812 (uL kJ172 kN1 (uL kJ1032 kN0 uL0)))
  (uK (uC kN70 (uE kI0 kI3 (uE kI0 kI1 (uE kI0 kI3 (uE kI3 kI6 uE0)))) (uA kN0 (rA kI90) (uA kN1 (uic kI2) (uA kN2 (uis kN0) (uA kN3 (uis kN1) (uA kN4 (uis kN2) uA0))))) uS0 (uO kN90 kN30 (uis kN3) (uO kN107 kN2 (uic kI3) uO0)) kI4226 (uL kJ1032 kN0 uL0))
  uK0)))) = true := by decide +kernel
theorem r297 {l : Launch} {D : va_G} {tys : List (ClassId × FieldType)} {A : Nat → Prop} {ad : Nat → Nat} (hAD : ∀ i : Nat, ad (1000 + i) = D.2 1000 i) : CRok l D tys A ad GG 2 g297 := CR_of_vrf (dep := 1) hAD (fun c hc => by cases hc) T2OK_nil w297
noncomputable def g298 : CR := (307, [(2, 90, 90), (0, 2, 2)], [((107, 2), (0, 4, 4))], some (0, 0, 1), [], [])
theorem w298 : vrf GG [] [] 300 1 g298
  (uK (uC kN2 (uE kI0 kI3 uE0) (uA kN0 (rA kI90) (uA kN1 (uic kI2) (uA kN2 (uis kN0) uA0))) uS0 (uO kN107 kN2 (uic kI4) uO0) kI4810 (uL kJ1204 kN0 uL0))
  (uK (uC kN22 (uE kI0 kI2 (uE kI0 kI1 (uE kI0 kI4 (uE kI4 kI6 uE0)))) (uA kN0 (rA kI90) (uA kN1 (uic kI2) (uA kN2 (uis kN0) (uA kN3 (uis kN1) (uA kN4 (uis kN2) uA0))))) uS0 (uO kN90 kN30 (uis kN3) (uO kN107 kN2 (uic kI4) uO0)) kI4509 (uL kJ172 kN2 (uL kJ1204 kN0 uL0)))
  (uK (uC kN63 (uE kI0 kI2 (uE kI0 kI3 (uE kI0 kI1 (uE kI4 kI6 uE0)))) (uA kN0 (rA kI90) (uA kN1 (uic kI2) (uA kN2 (uis kN0) (uA kN3 (uic kI1) (uA kN4 (uis kN1) uA0))))) (uS (uis kN2) uS0) (uO kN90 kN30 (uis kN3) (uO kN107 kN2 (uic kI4) uO0)) kI4468 (uL kJ172 kN1 (uL kJ1204 kN0 uL0)))
  (uK (uC kN70 (uE kI0 kI2 (uE kI0 kI1 (uE kI0 kI4 (uE kI4 kI6 uE0)))) (uA kN0 (rA kI90) (uA kN1 (uic kI2) (uA kN2 (uis kN0) (uA kN3 (uis kN1) (uA kN4 (uis kN2) uA0))))) uS0 (uO kN90 kN30 (uis kN3) (uO kN107 kN2 (uic kI4) uO0)) kI3710 (uL kJ1204 kN0 uL0))
  uK0)))) = true := by decide +kernel
theorem r298 {l : Launch} {D : va_G} {tys : List (ClassId × FieldType)} {A : Nat → Prop} {ad : Nat → Nat} (hAD : ∀ i : Nat, ad (1000 + i) = D.2 1000 i) : CRok l D tys A ad GG 2 g298 := CR_of_vrf (dep := 1) hAD (fun c hc => by cases hc) T2OK_nil w298
noncomputable def g299 : CR := (307, [(2, 90, 90), (0, 2, 2)], [((107, 2), (0, 5, 5))], some (0, 0, 1), [], [])
theorem w299 : vrf GG [] [] 300 1 g299
  (uK (uC kN2 (uE kI0 kI2 uE0) (uA kN0 (rA kI90) (uA kN1 (uic kI2) (uA kN2 (uis kN0) uA0))) uS0 (uO kN107 kN2 (uic kI5) uO0) kI4122 (uL kJ1376 kN0 uL0))
  (uK (uC kN22 (uE kI0 kI1 (uE kI0 kI1 (uE kI0 kI5 (uE kI5 kI6 uE0)))) (uA kN0 (rA kI90) (uA kN1 (uic kI2) (uA kN2 (uis kN0) (uA kN3 (uis kN1) (uA kN4 (uis kN2) uA0))))) uS0 (uO kN90 kN30 (uis kN3) (uO kN107 kN2 (uic kI5) uO0)) kI3821 (uL kJ172 kN2 (uL kJ1376 kN0 uL0)))
  (uK (uC kN63 (uE kI0 kI1 (uE kI0 kI4 (uE kI0 kI1 (uE kI5 kI6 uE0)))) (uA kN0 (rA kI90) (uA kN1 (uic kI2) (uA kN2 (uis kN0) (uA kN3 (uic kI1) (uA kN4 (uis kN1) uA0))))) (uS (uis kN2) uS0) (uO kN90 kN30 (uis kN3) (uO kN107 kN2 (uic kI5) uO0)) kI3780 (uL kJ172 kN1 (uL kJ1376 kN0 uL0)))
  (uK (uC kN70 (uE kI0 kI1 (uE kI0 kI1 (uE kI0 kI5 (uE kI5 kI6 uE0)))) (uA kN0 (rA kI90) (uA kN1 (uic kI2) (uA kN2 (uis kN0) (uA kN3 (uis kN1) (uA kN4 (uis kN2) uA0))))) uS0 (uO kN90 kN30 (uis kN3) (uO kN107 kN2 (uic kI5) uO0)) kI2850 (uL kJ1376 kN0 uL0))
  uK0)))) = true := by decide +kernel
theorem r299 {l : Launch} {D : va_G} {tys : List (ClassId × FieldType)} {A : Nat → Prop} {ad : Nat → Nat} (hAD : ∀ i : Nat, ad (1000 + i) = D.2 1000 i) : CRok l D tys A ad GG 2 g299 := CR_of_vrf (dep := 1) hAD (fun c hc => by cases hc) T2OK_nil w299
noncomputable def g300 : CR := (307, [(2, 90, 90), (0, 2, 2)], [((107, 2), (0, 6, 6))], some (0, 0, 1), [], [])
theorem w300 : vrf GG [] [] 300 1 g300
  (uK (uC kN2 (uE kI0 kI1 uE0) (uA kN0 (rA kI90) (uA kN1 (uic kI2) (uA kN2 (uis kN0) uA0))) uS0 (uO kN107 kN2 (uic kI6) uO0) kI3090 (uL kJ1548 kN0 uL0))
  (uK (uC kN22 (uE kI0 kI1 (uE kI0 kI6 uE0)) (uA kN0 (rA kI90) (uA kN1 (uic kI2) (uA kN2 (uic kI0) (uA kN3 (uis kN0) (uA kN4 (uis kN1) uA0))))) uS0 (uO kN90 kN30 (uic kI6) (uO kN107 kN2 (uic kI6) uO0)) kI2789 (uL kJ172 kN1 uL0))
  (uK (uC kN63 (uE kI0 kI5 (uE kI0 kI1 uE0)) (uA kN0 (rA kI90) (uA kN1 (uic kI2) (uA kN2 (uic kI0) (uA kN3 (uic kI1) (uA kN4 (uis kN0) uA0))))) (uS (uis kN1) uS0) (uO kN90 kN30 (uic kI6) (uO kN107 kN2 (uic kI6) uO0)) kI2748 (uL kJ172 kN0 uL0))
  (uK (uC kN70 (uE kI0 kI1 (uE kI0 kI6 uE0)) (uA kN0 (rA kI90) (uA kN1 (uic kI2) (uA kN2 (uic kI0) (uA kN3 (uis kN0) (uA kN4 (uis kN1) uA0))))) uS0 (uO kN90 kN30 (uic kI6) (uO kN107 kN2 (uic kI6) uO0)) kI1646 uL0)
  uK0)))) = true := by decide +kernel
theorem r300 {l : Launch} {D : va_G} {tys : List (ClassId × FieldType)} {A : Nat → Prop} {ad : Nat → Nat} (hAD : ∀ i : Nat, ad (1000 + i) = D.2 1000 i) : CRok l D tys A ad GG 2 g300 := CR_of_vrf (dep := 1) hAD (fun c hc => by cases hc) T2OK_nil w300
noncomputable def g301 : CR := (307, [(2, 90, 90), (0, 2, 2)], [((107, 2), (0, 7, 60))], some (0, 0, 0), [], [])
theorem w301 : vrf GG [] [] 300 0 g301
  (uK (uC kN2 (uE kI7 kI60 uE0) (uA kN0 (rA kI90) (uA kN1 (uic kI2) (uA kN2 (uic kI0) uA0))) uS0 (uO kN107 kN2 (uis kN0) uO0) kI510 uL0)
  uK0) = true := by decide +kernel
theorem r301 {l : Launch} {D : va_G} {tys : List (ClassId × FieldType)} {A : Nat → Prop} {ad : Nat → Nat} (hAD : ∀ i : Nat, ad (1000 + i) = D.2 1000 i) : CRok l D tys A ad GG 1 g301 := CR_of_vrf (dep := 0) hAD (fun c hc => by cases hc) T2OK_nil w301
noncomputable def g302 : CR := (307, [(2, 90, 90), (0, 3, 3)], [((107, 3), (0, (-1), (-1)))], some (0, 1, 1), [], [])
theorem w302 : vrf GG [] [] 300 0 g302
  (uK (uC kN2 uE0 (uA kN0 (rA kI90) (uA kN1 (uic kI3) (uA kN2 (uic kI0) uA0))) uS0 (uO kN107 kN3 (uic kJ1) uO0) kI510 uL0)
  (uK (uC kN22 (uE kI0 kI6 uE0) (uA kN0 (rA kI90) (uA kN1 (uic kI3) (uA kN2 (uic kI0) (uA kN3 (uic kI1) (uA kN4 (uic kI0) uA0))))) uS0 (uO kN90 kN30 (uis kN0) (uO kN107 kN3 (uic kJ1) uO0)) kI209 uL0)
  (uK (uC kN70 (uE kI0 kI6 uE0) (uA kN0 (rA kI90) (uA kN1 (uic kI3) (uA kN2 (uic kI0) (uA kN3 (uic kI1) (uA kN4 (uic kI0) uA0))))) uS0 (uO kN90 kN30 (uis kN0) (uO kN107 kN3 (uic kJ1) uO0)) kI98 uL0)
  uK0))) = true := by decide +kernel
theorem r302 {l : Launch} {D : va_G} {tys : List (ClassId × FieldType)} {A : Nat → Prop} {ad : Nat → Nat} (hAD : ∀ i : Nat, ad (1000 + i) = D.2 1000 i) : CRok l D tys A ad GG 1 g302 := CR_of_vrf (dep := 0) hAD (fun c hc => by cases hc) T2OK_nil w302
noncomputable def g303 : CR := (307, [(2, 90, 90), (0, 3, 3)], [((107, 3), (0, 0, 0))], some (0, 1, 1), [], [])
theorem w303 : vrf GG [] [] 300 0 g303
  (uK (uC kN2 uE0 (uA kN0 (rA kI90) (uA kN1 (uic kI3) (uA kN2 (uic kI0) uA0))) uS0 (uO kN107 kN3 (uic kI0) uO0) kI510 uL0)
  (uK (uC kN22 (uE kI0 kI6 uE0) (uA kN0 (rA kI90) (uA kN1 (uic kI3) (uA kN2 (uic kI0) (uA kN3 (uic kI1) (uA kN4 (uic kI0) uA0))))) uS0 (uO kN90 kN30 (uis kN0) (uO kN107 kN3 (uic kI0) uO0)) kI209 uL0)
  (uK (uC kN70 (uE kI0 kI6 uE0) (uA kN0 (rA kI90) (uA kN1 (uic kI3) (uA kN2 (uic kI0) (uA kN3 (uic kI1) (uA kN4 (uic kI0) uA0))))) uS0 (uO kN90 kN30 (uis kN0) (uO kN107 kN3 (uic kI0) uO0)) kI98 uL0)
  uK0))) = true := by decide +kernel
theorem r303 {l : Launch} {D : va_G} {tys : List (ClassId × FieldType)} {A : Nat → Prop} {ad : Nat → Nat} (hAD : ∀ i : Nat, ad (1000 + i) = D.2 1000 i) : CRok l D tys A ad GG 1 g303 := CR_of_vrf (dep := 0) hAD (fun c hc => by cases hc) T2OK_nil w303
noncomputable def g304 : CR := (307, [(2, 90, 90), (0, 3, 3)], [((107, 3), (0, 1, 1))], some (0, 0, 1), [], [])
theorem w304 : vrf GG [] [] 300 1 g304
  (uK (uC kN2 (uE kI0 kI6 uE0) (uA kN0 (rA kI90) (uA kN1 (uic kI3) (uA kN2 (uis kN0) uA0))) uS0 (uO kN107 kN3 (uic kI1) uO0) kI4810 (uL kJ688 kN0 uL0))
  (uK (uC kN22 (uE kI0 kI5 (uE kI0 kI1 (uE kI0 kI1 (uE kI1 kI6 uE0)))) (uA kN0 (rA kI90) (uA kN1 (uic kI3) (uA kN2 (uis kN0) (uA kN3 (uis kN1) (uA kN4 (uis kN2) uA0))))) uS0 (uO kN90 kN30 (uis kN3) (uO kN107 kN3 (uic kI1) uO0)) kI4509 (uL kJ172 kN2 (uL kJ688 kN0 uL0)))
  (uK (uC kN63 (uE kI0 kI5 (uE kI0 kI1 (uE kI1 kI6 (uE kJ9223372036854775808 kI9223372036854775807 uE0)))) (uA kN0 (rA kI90) (uA kN1 (uic kI3) (uA kN2 (uis kN0) (uA kN3 (uic kI1) (uA kN4 (uic kI0) uA0))))) (uS (uis kN1) uS0) (uO kN90 kN30 (uis kN2) (uO kN107 kN3 (uic kI1) (uO kN109 kN180 (uls kN3) uO0))) kI4468 (uL kJ688 kN0 uL0))
  (uK (uC kN70 (uE kI0 kI5 (uE kI0 kI1 (uE kI0 kI1 (uE kI1 kI6 uE0)))) (uA kN0 (rA kI90) (uA kN1 (uic kI3) (uA kN2 (uis kN0) (uA kN3 (uis kN1) (uA kN4 (uis kN2) uA0))))) uS0 (uO kN90 kN30 (uis kN3) (uO kN107 kN3 (uic kI1) uO0)) kI4226 (uL kJ688 kN0 uL0))
  uK0)))) = true := by decide +kernel
theorem r304 {l : Launch} {D : va_G} {tys : List (ClassId × FieldType)} {A : Nat → Prop} {ad : Nat → Nat} (hAD : ∀ i : Nat, ad (1000 + i) = D.2 1000 i) : CRok l D tys A ad GG 2 g304 := CR_of_vrf (dep := 1) hAD (fun c hc => by cases hc) T2OK_nil w304
noncomputable def g305 : CR := (307, [(2, 90, 90), (0, 3, 3)], [((107, 3), (0, 2, 2))], some (0, 0, 1), [], [])
theorem w305 : vrf GG [] [] 300 1 g305
  (uK (uC kN2 (uE kI0 kI5 uE0) (uA kN0 (rA kI90) (uA kN1 (uic kI3) (uA kN2 (uis kN0) uA0))) uS0 (uO kN107 kN3 (uic kI2) uO0) kI5154 (uL kJ860 kN0 uL0))
  (uK (uC kN22 (uE kI0 kI4 (uE kI0 kI1 (uE kI0 kI2 (uE kI2 kI6 uE0)))) (uA kN0 (rA kI90) (uA kN1 (uic kI3) (uA kN2 (uis kN0) (uA kN3 (uis kN1) (uA kN4 (uis kN2) uA0))))) uS0 (uO kN90 kN30 (uis kN3) (uO kN107 kN3 (uic kI2) uO0)) kI4853 (uL kJ172 kN2 (uL kJ860 kN0 uL0)))
  (uK (uC kN63 (uE kI0 kI4 (uE kI0 kI1 (uE kI0 kI1 (uE kI2 kI6 uE0)))) (uA kN0 (rA kI90) (uA kN1 (uic kI3) (uA kN2 (uis kN0) (uA kN3 (uic kI1) (uA kN4 (uis kN1) uA0))))) (uS (uis kN2) uS0) (uO kN90 kN30 (uis kN3) (uO kN107 kN3 (uic kI2) uO0)) kI4812 (uL kJ172 kN1 (uL kJ860 kN0 uL0)))
  (uK (uC kN70 (uE kI0 kI4 (uE kI0 kI1 (uE kI0 kI2 (uE kI2 kI6 uE0)))) (uA kN0 (rA kI90) (uA kN1 (uic kI3) (uA kN2 (uis kN0) (uA kN3 (uis kN1) (uA kN4 (uis kN2) uA0))))) uS0 (uO kN90 kN30 (uis kN3) (uO kN107 kN3 (uic kI2) uO0)) kI4398 (uL kJ860 kN0 uL0))
  uK0)))) = true := by decide +kernel
theorem r305 {l : Launch} {D : va_G} {tys : List (ClassId × FieldType)} {A : Nat → Prop} {ad : Nat → Nat} (hAD : ∀ i : Nat, ad (1000 + i) = D.2 1000 i) : CRok l D tys A ad GG 2 g305 := CR_of_vrf (dep := 1) hAD (fun c hc => by cases hc) T2OK_nil w305
noncomputable def g306 : CR := (307, [(2, 90, 90), (0, 3, 3)], [((107, 3), (0, 3, 3))], some (0, 0, 1), [], [])
theorem w306 : vrf GG [] [] 300 1 g306
  (uK (uC kN2 (uE kI0 kI4 uE0) (uA kN0 (rA kI90) (uA kN1 (uic kI3) (uA kN2 (uis kN0) uA0))) uS0 (uO kN107 kN3 (uic kI3) uO0) kI5154 (uL kJ1032 kN0 uL0))
  (uK (uC kN22 (uE kI0 kI3 (uE kI0 kI1 (uE kI0 kI3 (uE kI3 kI6 uE0)))) (uA kN0 (rA kI90) (uA kN1 (uic kI3) (uA kN2 (uis kN0) (uA kN3 (uis kN1) (uA kN4 (uis kN2) uA0))))) uS0 (uO kN90 kN30 (uis kN3) (uO kN107 kN3 (uic kI3) uO0)) kI4853 (uL kJ172 kN2 (uL kJ1032 kN0 uL0)))
  (uK (uC kN63 (uE kI0 kI3 (uE kI0 kI2 (uE kI0 kI1 (uE kI3 kI6 uE0)))) (uA kN0 (rA kI90) (uA kN1 (uic kI3) (uA kN2 (uis kN0) (uA kN3 (uic kI1) (uA kN4 (uis kN1) uA0))))) (uS (uis kN2) uS0) (uO kN90 kN30 (uis kN3) (uO kN107 kN3 (uic kI3) uO0)) kI4812 (uL kJ172 kN1 (uL kJ1032 kN0 uL0)))
  (uK (uC kN70 (uE kI0 kI3 (uE kI0 kI1 (uE kI0 kI3 (uE kI3 kI6 uE0)))) (uA kN0 (rA kI90) (uA kN1 (uic kI3) (uA kN2 (uis kN0) (uA kN3 (uis kN1) (uA kN4 (uis kN2) uA0))))) uS0 (uO kN90 kN30 (uis kN3) (uO kN107 kN3 (uic kI3) uO0)) kI4226 (uL kJ1032 kN0 uL0))
  uK0)))) = true := by decide +kernel
theorem r306 {l : Launch} {D : va_G} {tys : List (ClassId × FieldType)} {A : Nat → Prop} {ad : Nat → Nat} (hAD : ∀ i : Nat, ad (1000 + i) = D.2 1000 i) : CRok l D tys A ad GG 2 g306 := CR_of_vrf (dep := 1) hAD (fun c hc => by cases hc) T2OK_nil w306
noncomputable def g307 : CR := (307, [(2, 90, 90), (0, 3, 3)], [((107, 3), (0, 4, 4))], some (0, 0, 1), [], [])
theorem w307 : vrf GG [] [] 300 1 g307
  (uK (uC kN2 (uE kI0 kI3 uE0) (uA kN0 (rA kI90) (uA kN1 (uic kI3) (uA kN2 (uis kN0) uA0))) uS0 (uO kN107 kN3 (uic kI4) uO0) kI4810 (uL kJ1204 kN0 uL0))
  (uK (uC kN22 (uE kI0 kI2 (uE kI0 kI1 (uE kI0 kI4 (uE kI4 kI6 uE0)))) (uA kN0 (rA kI90) (uA kN1 (uic kI3) (uA kN2 (uis kN0) (uA kN3 (uis kN1) (uA kN4 (uis kN2) uA0))))) uS0 (uO kN90 kN30 (uis kN3) (uO kN107 kN3 (uic kI4) uO0)) kI4509 (uL kJ172 kN2 (uL kJ1204 kN0 uL0)))
  (uK (uC kN63 (uE kI0 kI2 (uE kI0 kI3 (uE kI0 kI1 (uE kI4 kI6 uE0)))) (uA kN0 (rA kI90) (uA kN1 (uic kI3) (uA kN2 (uis kN0) (uA kN3 (uic kI1) (uA kN4 (uis kN1) uA0))))) (uS (uis kN2) uS0) (uO kN90 kN30 (uis kN3) (uO kN107 kN3 (uic kI4) uO0)) kI4468 (uL kJ172 kN1 (uL kJ1204 kN0 uL0)))
  (uK (uC kN70 (uE kI0 kI2 (uE kI0 kI1 (uE kI0 kI4 (uE kI4 kI6 uE0)))) (uA kN0 (rA kI90) (uA kN1 (uic kI3) (uA kN2 (uis kN0) (uA kN3 (uis kN1) (uA kN4 (uis kN2) uA0))))) uS0 (uO kN90 kN30 (uis kN3) (uO kN107 kN3 (uic kI4) uO0)) kI3710 (uL kJ1204 kN0 uL0))
  uK0)))) = true := by decide +kernel
theorem r307 {l : Launch} {D : va_G} {tys : List (ClassId × FieldType)} {A : Nat → Prop} {ad : Nat → Nat} (hAD : ∀ i : Nat, ad (1000 + i) = D.2 1000 i) : CRok l D tys A ad GG 2 g307 := CR_of_vrf (dep := 1) hAD (fun c hc => by cases hc) T2OK_nil w307
noncomputable def g308 : CR := (307, [(2, 90, 90), (0, 3, 3)], [((107, 3), (0, 5, 5))], some (0, 0, 1), [], [])
theorem w308 : vrf GG [] [] 300 1 g308
  (uK (uC kN2 (uE kI0 kI2 uE0) (uA kN0 (rA kI90) (uA kN1 (uic kI3) (uA kN2 (uis kN0) uA0))) uS0 (uO kN107 kN3 (uic kI5) uO0) kI4122 (uL kJ1376 kN0 uL0))
  (uK (uC kN22 (uE kI0 kI1 (uE kI0 kI1 (uE kI0 kI5 (uE kI5 kI6 uE0)))) (uA kN0 (rA kI90) (uA kN1 (uic kI3) (uA kN2 (uis kN0) (uA kN3 (uis kN1) (uA kN4 (uis kN2) uA0))))) uS0 (uO kN90 kN30 (uis kN3) (uO kN107 kN3 (uic kI5) uO0)) kI3821 (uL kJ172 kN2 (uL kJ1376 kN0 uL0)))
  (uK (uC kN63 (uE kI0 kI1 (uE kI0 kI4 (uE kI0 kI1 (uE kI5 kI6 uE0)))) (uA kN0 (rA kI90) (uA kN1 (uic kI3) (uA kN2 (uis kN0) (uA kN3 (uic kI1) (uA kN4 (uis kN1) uA0))))) (uS (uis kN2) uS0) (uO kN90 kN30 (uis kN3) (uO kN107 kN3 (uic kI5) uO0)) kI3780 (uL kJ172 kN1 (uL kJ1376 kN0 uL0)))
  (uK (uC kN70 (uE kI0 kI1 (uE kI0 kI1 (uE kI0 kI5 (uE kI5 kI6 uE0)))) (uA kN0 (rA kI90) (uA kN1 (uic kI3) (uA kN2 (uis kN0) (uA kN3 (uis kN1) (uA kN4 (uis kN2) uA0))))) uS0 (uO kN90 kN30 (uis kN3) (uO kN107 kN3 (uic kI5) uO0)) kI2850 (uL kJ1376 kN0 uL0))
  uK0)))) = true := by decide +kernel
theorem r308 {l : Launch} {D : va_G} {tys : List (ClassId × FieldType)} {A : Nat → Prop} {ad : Nat → Nat} (hAD : ∀ i : Nat, ad (1000 + i) = D.2 1000 i) : CRok l D tys A ad GG 2 g308 := CR_of_vrf (dep := 1) hAD (fun c hc => by cases hc) T2OK_nil w308
noncomputable def g309 : CR := (307, [(2, 90, 90), (0, 3, 3)], [((107, 3), (0, 6, 6))], some (0, 0, 1), [], [])
theorem w309 : vrf GG [] [] 300 1 g309
  (uK (uC kN2 (uE kI0 kI1 uE0) (uA kN0 (rA kI90) (uA kN1 (uic kI3) (uA kN2 (uis kN0) uA0))) uS0 (uO kN107 kN3 (uic kI6) uO0) kI3090 (uL kJ1548 kN0 uL0))
  (uK (uC kN22 (uE kI0 kI1 (uE kI0 kI6 uE0)) (uA kN0 (rA kI90) (uA kN1 (uic kI3) (uA kN2 (uic kI0) (uA kN3 (uis kN0) (uA kN4 (uis kN1) uA0))))) uS0 (uO kN90 kN30 (uic kI6) (uO kN107 kN3 (uic kI6) uO0)) kI2789 (uL kJ172 kN1 uL0))
  (uK (uC kN63 (uE kI0 kI5 (uE kI0 kI1 uE0)) (uA kN0 (rA kI90) (uA kN1 (uic kI3) (uA kN2 (uic kI0) (uA kN3 (uic kI1) (uA kN4 (uis kN0) uA0))))) (uS (uis kN1) uS0) (uO kN90 kN30 (uic kI6) (uO kN107 kN3 (uic kI6) uO0)) kI2748 (uL kJ172 kN0 uL0))
  (uK (uC kN70 (uE kI0 kI1 (uE kI0 kI6 uE0)) (uA kN0 (rA kI90) (uA kN1 (uic kI3) (uA kN2 (uic kI0) (uA kN3 (uis kN0) (uA kN4 (uis kN1) uA0))))) uS0 (uO kN90 kN30 (uic kI6) (uO kN107 kN3 (uic kI6) uO0)) kI1646 uL0)
  uK0)))) = true := by decide +kernel
theorem r309 {l : Launch} {D : va_G} {tys : List (ClassId × FieldType)} {A : Nat → Prop} {ad : Nat → Nat} (hAD : ∀ i : Nat, ad (1000 + i) = D.2 1000 i) : CRok l D tys A ad GG 2 g309 := CR_of_vrf (dep := 1) hAD (fun c hc => by cases hc) T2OK_nil w309
noncomputable def g310 : CR := (307, [(2, 90, 90), (0, 3, 3)], [((107, 3), (0, 7, 60))], some (0, 0, 0), [], [])
theorem w310 : vrf GG [] [] 300 0 g310
  (uK (uC kN2 (uE kI7 kI60 uE0) (uA kN0 (rA kI90) (uA kN1 (uic kI3) (uA kN2 (uic kI0) uA0))) uS0 (uO kN107 kN3 (uis kN0) uO0) kI510 uL0)
  uK0) = true := by decide +kernel
theorem r310 {l : Launch} {D : va_G} {tys : List (ClassId × FieldType)} {A : Nat → Prop} {ad : Nat → Nat} (hAD : ∀ i : Nat, ad (1000 + i) = D.2 1000 i) : CRok l D tys A ad GG 1 g310 := CR_of_vrf (dep := 0) hAD (fun c hc => by cases hc) T2OK_nil w310
noncomputable def g311 : CR := (308, [(2, 90, 90), (0, 0, 3)], [], some (0, (-6), 63), [], [90, 105])
theorem w311 : vrf GG [(3, g273), (2, g274), (1, g275), (1, g276), (2, g277), (2, g278), (2, g279), (2, g280), (2, g281), (2, g282), (1, g283), (1, g284), (1, g285), (2, g286), (2, g287), (2, g288), (2, g289), (2, g290), (2, g291), (1, g292), (1, g293), (1, g294), (2, g295), (2, g296), (2, g297), (2, g298), (2, g299), (2, g300), (1, g301), (1, g302), (1, g303), (2, g304), (2, g305), (2, g306), (2, g307), (2, g308), (2, g309), (1, g310)] [] 460 3 g311
  (uK (uC kN18 (uE kI0 kI3 (uE kI0 kI63 (uE kI0 kI6 uE0))) (uA kN0 (rA kI90) (uA kN1 (uis kN0) (uA kN2 (uic kI0) (uA kN3 (uis kN1) (uA kN4 (uis kN2) uA0))))) uS0 uO0 (Int.ofNat (nat_lit 858)) (uL kJ128 kN2 uL0))
  (uK (uC kN52 (uE kI0 kI3 (uE kI0 kI63 (uE kI0 kI5 (uE kI0 kI32 (uE kI0 kI63 (uE kI1 kI6 uE0)))))) (uA kN0 (rA kI90) (uA kN1 (uis kN0) (uA kN2 (uic kI0) (uA kN3 (uis kN1) (uA kN4 (uis kN2) uA0))))) (uS (uis kN3) (uS (uis kN4) uS0)) (uO kN91 kN3 (uis kN5) uO0) (Int.ofNat (nat_lit 824)) (uL kJ128 kN2 uL0))
  uK0)) = true := by decide +kernel
theorem r311 {l : Launch} {D : va_G} {tys : List (ClassId × FieldType)} {A : Nat → Prop} {ad : Nat → Nat} (hAD : ∀ i : Nat, ad (1000 + i) = D.2 1000 i) : CRok l D tys A ad GG 4 g311 := CR_of_vrf (dep := 3) hAD (List.forall_mem_cons.mpr ⟨r273 hAD, List.forall_mem_cons.mpr ⟨r274 hAD, List.forall_mem_cons.mpr ⟨r275 hAD, List.forall_mem_cons.mpr ⟨r276 hAD, List.forall_mem_cons.mpr ⟨r277 hAD, List.forall_mem_cons.mpr ⟨r278 hAD, List.forall_mem_cons.mpr ⟨r279 hAD, List.forall_mem_cons.mpr ⟨r280 hAD, List.forall_mem_cons.mpr ⟨r281 hAD, List.forall_mem_cons.mpr ⟨r282 hAD, List.forall_mem_cons.mpr ⟨r283 hAD, List.forall_mem_cons.mpr ⟨r284 hAD, List.forall_mem_cons.mpr ⟨r285 hAD, List.forall_mem_cons.mpr ⟨r286 hAD, List.forall_mem_cons.mpr ⟨r287 hAD, List.forall_mem_cons.mpr ⟨r288 hAD, List.forall_mem_cons.mpr ⟨r289 hAD, List.forall_mem_cons.mpr ⟨r290 hAD, List.forall_mem_cons.mpr ⟨r291 hAD, List.forall_mem_cons.mpr ⟨r292 hAD, List.forall_mem_cons.mpr ⟨r293 hAD, List.forall_mem_cons.mpr ⟨r294 hAD, List.forall_mem_cons.mpr ⟨r295 hAD, List.forall_mem_cons.mpr ⟨r296 hAD, List.forall_mem_cons.mpr ⟨r297 hAD, List.forall_mem_cons.mpr ⟨r298 hAD, List.forall_mem_cons.mpr ⟨r299 hAD, List.forall_mem_cons.mpr ⟨r300 hAD, List.forall_mem_cons.mpr ⟨r301 hAD, List.forall_mem_cons.mpr ⟨r302 hAD, List.forall_mem_cons.mpr ⟨r303 hAD, List.forall_mem_cons.mpr ⟨r304 hAD, List.forall_mem_cons.mpr ⟨r305 hAD, List.forall_mem_cons.mpr ⟨r306 hAD, List.forall_mem_cons.mpr ⟨r307 hAD, List.forall_mem_cons.mpr ⟨r308 hAD, List.forall_mem_cons.mpr ⟨r309 hAD, List.forall_mem_cons.mpr ⟨r310 hAD, fun c hc => by cases hc⟩⟩⟩⟩⟩⟩⟩⟩⟩⟩⟩⟩⟩⟩⟩⟩⟩⟩⟩⟩⟩⟩⟩⟩⟩⟩⟩⟩⟩⟩⟩⟩⟩⟩⟩⟩⟩⟩) T2OK_nil w311
noncomputable def g312 : CR := (52, [(2, 0, 0), (0, (-2147483648), (-1)), (0, (-2147483648), 2147483647)], [], some (0, (-2), (-2)), [], [])
theorem w312 : vrf GG [] [] 300 2 g312
  [] = true := by decide +kernel
theorem r312 {l : Launch} {D : va_G} {tys : List (ClassId × FieldType)} {A : Nat → Prop} {ad : Nat → Nat} (hAD : ∀ i : Nat, ad (1000 + i) = D.2 1000 i) : CRok l D tys A ad GG 3 g312 := CR_of_vrf (dep := 2) hAD (fun c hc => by cases hc) T2OK_nil w312
noncomputable def g313 : CR := (52, [(2, 0, 0), (0, 4, 2147483647), (0, (-2147483648), 2147483647)], [], some (0, (-2), (-2)), [], [])
theorem w313 : vrf GG [] [] 300 2 g313
  [] = true := by decide +kernel
theorem r313 {l : Launch} {D : va_G} {tys : List (ClassId × FieldType)} {A : Nat → Prop} {ad : Nat → Nat} (hAD : ∀ i : Nat, ad (1000 + i) = D.2 1000 i) : CRok l D tys A ad GG 3 g313 := CR_of_vrf (dep := 2) hAD (fun c hc => by cases hc) T2OK_nil w313
noncomputable def g314 : CR := (52, [(2, 0, 0), (0, 0, 3), (0, (-2147483648), 0)], [], some (0, (-2), (-2)), [], [])
theorem w314 : vrf GG [] [] 300 0 g314
  [] = true := by decide +kernel
theorem r314 {l : Launch} {D : va_G} {tys : List (ClassId × FieldType)} {A : Nat → Prop} {ad : Nat → Nat} (hAD : ∀ i : Nat, ad (1000 + i) = D.2 1000 i) : CRok l D tys A ad GG 1 g314 := CR_of_vrf (dep := 0) hAD (fun c hc => by cases hc) T2OK_nil w314
noncomputable def g315 : CR := (52, [(2, 0, 0), (0, 0, 3), (0, 7, 2147483647)], [], some (0, (-2), (-2)), [], [])
theorem w315 : vrf GG [] [] 300 0 g315
  [] = true := by decide +kernel
theorem r315 {l : Launch} {D : va_G} {tys : List (ClassId × FieldType)} {A : Nat → Prop} {ad : Nat → Nat} (hAD : ∀ i : Nat, ad (1000 + i) = D.2 1000 i) : CRok l D tys A ad GG 1 g315 := CR_of_vrf (dep := 0) hAD (fun c hc => by cases hc) T2OK_nil w315
noncomputable def g316 : CR := (119, [(2, 39, 39), (0, 0, 3), (0, 0, 6), (0, 0, 9)], [], some (0, 0, 7), [], [])
theorem w316 : vrf GG [] [] 541 3 g316
  (uK (uC kN5 (uE kI0 kI3 (uE kI0 kI6 (uE kI0 kI9 (uE kI0 kI7 uE0)))) (uA kN0 (rA kI39) (uA kN1 (uis kN0) (uA kN2 (uis kN1) (uA kN3 (uis kN2) (uA kN4 (uis kN3) uA0))))) uS0 uO0 (Int.ofNat (nat_lit 1842)) (uL kI1854 kN3 uL0))
  (uK (uC kN30 (uE kI0 kI3 (uE kI0 kI6 (uE kI0 kI9 (uE kI1 kI7 (uE kI0 kI1 uE0))))) (uA kN0 (rA kI39) (uA kN1 (uis kN0) (uA kN2 (uis kN1) (uA kN3 (uis kN2) (uA kN4 (uis kN3) uA0))))) (uS (uis kN4) uS0) uO0 (Int.ofNat (nat_lit 1817)) (uL kI1854 kN3 uL0))
  (uK (uC kN35 (uE kI0 kI3 (uE kI0 kI6 (uE kI0 kI9 (uE kI1 kI7 (uE kI0 kI1 (uE kI0 kI6 uE0)))))) (uA kN0 (rA kI39) (uA kN1 (uis kN0) (uA kN2 (uis kN1) (uA kN3 (uis kN2) (uA kN4 (uis kN3) (uA kN5 (uis kN4) (uA kN6 (uis kN5) uA0))))))) uS0 uO0 (Int.ofNat (nat_lit 1467)) (uL kJ206 kN5 (uL kI1854 kN3 uL0)))
  (uK (uC kN76 (uE kI0 kI3 (uE kI0 kI6 (uE kI0 kI9 (uE kI2 kI7 (uE kI0 kI1 (uE kI0 kI5 (uE kI0 kI1 (uE kI0 kI1 uE0)))))))) (uA kN0 (rA kI39) (uA kN1 (uis kN0) (uA kN2 (uis kN1) (uA kN3 (uis kN2) (uA kN4 (uis kN3) (uA kN5 (uis kN4) (uA kN6 (uis kN5) uA0))))))) (uS (uis kN6) (uS (uis kN7) uS0)) uO0 kI1426 (uL kJ206 kN5 (uL kI1854 kN3 uL0)))
  uK0)))) = true := by decide +kernel
theorem r316 {l : Launch} {D : va_G} {tys : List (ClassId × FieldType)} {A : Nat → Prop} {ad : Nat → Nat} (hAD : ∀ i : Nat, ad (1000 + i) = D.2 1000 i) : CRok l D tys A ad GG 4 g316 := CR_of_vrf (dep := 3) hAD (fun c hc => by cases hc) T2OK_nil w316
noncomputable def g317 : CR := (149, [(2, 48, 48), (0, 0, 0)], [], none, [], [48])
theorem w317 : vrf GG [] [] 300 0 g317
  (uK (uC kN2 (uE kI0 kI7 uE0) (uA kN0 (rA kI48) (uA kN1 (uic kI0) (uA kN2 (uis kN0) uA0))) uS0 uO0 kI330 (uL kJ42 kN0 uL0))
  uK0) = true := by decide +kernel
theorem r317 {l : Launch} {D : va_G} {tys : List (ClassId × FieldType)} {A : Nat → Prop} {ad : Nat → Nat} (hAD : ∀ i : Nat, ad (1000 + i) = D.2 1000 i) : CRok l D tys A ad GG 1 g317 := CR_of_vrf (dep := 0) hAD (fun c hc => by cases hc) T2OK_nil w317
noncomputable def g318 : CR := (149, [(2, 49, 49), (0, 0, 0)], [], none, [], [49])
theorem w318 : vrf GG [] [] 300 0 g318
  (uK (uC kN2 (uE kI0 kI7 uE0) (uA kN0 (rA kI49) (uA kN1 (uic kI0) (uA kN2 (uis kN0) uA0))) uS0 uO0 kI330 (uL kJ42 kN0 uL0))
  uK0) = true := by decide +kernel
theorem r318 {l : Launch} {D : va_G} {tys : List (ClassId × FieldType)} {A : Nat → Prop} {ad : Nat → Nat} (hAD : ∀ i : Nat, ad (1000 + i) = D.2 1000 i) : CRok l D tys A ad GG 1 g318 := CR_of_vrf (dep := 0) hAD (fun c hc => by cases hc) T2OK_nil w318
noncomputable def g319 : CR := (150, [(2, 49, 49), (2, 48, 48)], [], none, [], [48])
theorem w319 : vrf GG [] [] 300 0 g319
  (uK (uC kN2 (uE kI0 kI7 uE0) (uA kN0 (rA kI49) (uA kN1 (rA kI48) (uA kN2 (uis kN0) uA0))) uS0 uO0 (Int.ofNat (nat_lit 458)) (uL kJ58 kN0 uL0))
  uK0) = true := by decide +kernel
theorem r319 {l : Launch} {D : va_G} {tys : List (ClassId × FieldType)} {A : Nat → Prop} {ad : Nat → Nat} (hAD : ∀ i : Nat, ad (1000 + i) = D.2 1000 i) : CRok l D tys A ad GG 1 g319 := CR_of_vrf (dep := 0) hAD (fun c hc => by cases hc) T2OK_nil w319
noncomputable def g320 : CR := (118, [(2, 47, 47), (2, 4, 4), (2, 39, 39), (0, 0, 3), (0, 1, 1)], [], some (0, (-2147483648), 2147483647), [], [48, 49])
theorem w320 : vrf GG [(4, g316), (1, g317), (1, g318), (1, g319)] [] 300 4 g320
  (uK (uC kN36 (uE kI0 kI3 (uE kJ1 kI1 (uE kI0 kI1 uE0))) (uA kN0 (rA kI47) (uA kN1 (rA kI4) (uA kN2 (rA kI39) (uA kN3 (uis kN0) (uA kN4 (uic kI1) (uA kN5 (uis kN1) (uA kN6 (uis kN2) uA0))))))) uS0 uO0 (Int.ofNat (nat_lit 32266)) (uL (Int.negSucc (nat_lit 16169)) kN2 uL0))
  (uK (uC kN54 (uE kI0 kI3 (uE kJ1 kI1 (uE kI0 kI2 uE0))) (uA kN0 (rA kI47) (uA kN1 (rA kI4) (uA kN2 (rA kI39) (uA kN3 (uis kN0) (uA kN4 (uic kI1) (uA kN5 (uis kN1) (uA kN6 (uic kI0) (uA kN7 (uis kN2) uA0)))))))) uS0 uO0 (Int.ofNat (nat_lit 28068)) (uL kJ3960 kN2 uL0))
  (uK (uC kN64 (uE kI0 kI3 (uE kI0 kI1 (uE kI0 kI1 (uE kI0 kI9 uE0)))) (uA kN0 (rA kI47) (uA kN1 (rA kI4) (uA kN2 (rA kI39) (uA kN3 (uis kN0) (uA kN4 (uic kI1) (uA kN5 (uis kN1) (uA kN6 (uic kI0) (uA kN7 (uis kN2) (uA kN8 (uis kN3) uA0))))))))) uS0 uO0 (Int.ofNat (nat_lit 27498)) (uL kJ330 kN3 (uL kJ3960 kN2 uL0)))
  (uK (uC kN94 (uE kI0 kI3 (uE kI0 kI1 (uE kI0 kI1 (uE kI0 kI8 (uE kI0 kI7 (uE kI1 kI9 uE0)))))) (uA kN0 (rA kI47) (uA kN1 (rA kI4) (uA kN2 (rA kI39) (uA kN3 (uis kN0) (uA kN4 (uic kI1) (uA kN5 (uis kN1) (uA kN6 (uic kI0) (uA kN7 (uis kN2) (uA kN8 (uis kN3) uA0))))))))) (uS (uis kN4) uS0) (uO kN4 kN1 (uis kN5) uO0) (Int.ofNat (nat_lit 27468)) (uL kJ330 kN3 (uL kJ3960 kN2 uL0)))
  uK0)))) = true := by decide +kernel
theorem r320 {l : Launch} {D : va_G} {tys : List (ClassId × FieldType)} {A : Nat → Prop} {ad : Nat → Nat} (hAD : ∀ i : Nat, ad (1000 + i) = D.2 1000 i) : CRok l D tys A ad GG 5 g320 := CR_of_vrf (dep := 4) hAD (List.forall_mem_cons.mpr ⟨r316 hAD, List.forall_mem_cons.mpr ⟨r317 hAD, List.forall_mem_cons.mpr ⟨r318 hAD, List.forall_mem_cons.mpr ⟨r319 hAD, fun c hc => by cases hc⟩⟩⟩⟩) T2OK_nil w320
noncomputable def g321 : CR := (52, [(2, 0, 0), (0, 0, 3), (0, 1, 1)], [], some (0, (-2147483648), 2147483647), [], [48, 49])
theorem w321 : vrf GG [(5, g320), (4, g267)] [] 300 5 g321
  [] = true := by decide +kernel
theorem r321 {l : Launch} {D : va_G} {tys : List (ClassId × FieldType)} {A : Nat → Prop} {ad : Nat → Nat} (hAD : ∀ i : Nat, ad (1000 + i) = D.2 1000 i) : CRok l D tys A ad GG 6 g321 := CR_of_vrf (dep := 5) hAD (List.forall_mem_cons.mpr ⟨r320 hAD, List.forall_mem_cons.mpr ⟨r267 hAD, fun c hc => by cases hc⟩⟩) T2OK_nil w321
noncomputable def g322 : CR := (118, [(2, 47, 47), (2, 4, 4), (2, 39, 39), (0, 0, 3), (0, 2, 2)], [], some (0, (-2147483648), 2147483647), [], [48, 49])
theorem w322 : vrf GG [(4, g316), (1, g317), (1, g318), (1, g319)] [] 300 4 g322
  (uK (uC kN36 (uE kI0 kI3 (uE kJ1 kI2 (uE kI0 kI2 uE0))) (uA kN0 (rA kI47) (uA kN1 (rA kI4) (uA kN2 (rA kI39) (uA kN3 (uis kN0) (uA kN4 (uic kI2) (uA kN5 (uis kN1) (uA kN6 (uis kN2) uA0))))))) uS0 uO0 (Int.ofNat (nat_lit 60316)) (uL kJ20130 kN2 uL0))
  (uK (uC kN54 (uE kI0 kI3 (uE kJ1 kI2 (uE kI0 kI1 (uE kI0 kI3 uE0)))) (uA kN0 (rA kI47) (uA kN1 (rA kI4) (uA kN2 (rA kI39) (uA kN3 (uis kN0) (uA kN4 (uic kI2) (uA kN5 (uis kN1) (uA kN6 (uis kN2) (uA kN7 (uis kN3) uA0)))))))) uS0 uO0 (Int.ofNat (nat_lit 56118)) (uL kJ3960 kN3 (uL kJ20130 kN2 uL0)))
  (uK (uC kN64 (uE kI0 kI3 (uE kI0 kI2 (uE kI0 kI1 (uE kI0 kI2 (uE kI0 kI9 uE0))))) (uA kN0 (rA kI47) (uA kN1 (rA kI4) (uA kN2 (rA kI39) (uA kN3 (uis kN0) (uA kN4 (uic kI2) (uA kN5 (uis kN1) (uA kN6 (uis kN2) (uA kN7 (uis kN3) (uA kN8 (uis kN4) uA0))))))))) uS0 uO0 (Int.ofNat (nat_lit 55548)) (uL kJ330 kN4 (uL kJ20130 kN2 (uL kJ3960 kN3 uL0))))
  (uK (uC kN94 (uE kI0 kI3 (uE kI0 kI2 (uE kI0 kI1 (uE kI0 kI2 (uE kI0 kI8 (uE kI0 kI7 (uE kI1 kI9 uE0))))))) (uA kN0 (rA kI47) (uA kN1 (rA kI4) (uA kN2 (rA kI39) (uA kN3 (uis kN0) (uA kN4 (uic kI2) (uA kN5 (uis kN1) (uA kN6 (uis kN2) (uA kN7 (uis kN3) (uA kN8 (uis kN4) uA0))))))))) (uS (uis kN5) uS0) (uO kN4 kN1 (uis kN6) uO0) (Int.ofNat (nat_lit 55518)) (uL kJ330 kN4 (uL kJ20130 kN2 (uL kJ3960 kN3 uL0))))
  uK0)))) = true := by decide +kernel
theorem r322 {l : Launch} {D : va_G} {tys : List (ClassId × FieldType)} {A : Nat → Prop} {ad : Nat → Nat} (hAD : ∀ i : Nat, ad (1000 + i) = D.2 1000 i) : CRok l D tys A ad GG 5 g322 := CR_of_vrf (dep := 4) hAD (List.forall_mem_cons.mpr ⟨r316 hAD, List.forall_mem_cons.mpr ⟨r317 hAD, List.forall_mem_cons.mpr ⟨r318 hAD, List.forall_mem_cons.mpr ⟨r319 hAD, fun c hc => by cases hc⟩⟩⟩⟩) T2OK_nil w322
noncomputable def g323 : CR := (52, [(2, 0, 0), (0, 0, 3), (0, 2, 2)], [], some (0, (-2147483648), 2147483647), [], [48, 49])
theorem w323 : vrf GG [(5, g322), (4, g267)] [] 300 5 g323
  [] = true := by decide +kernel
theorem r323 {l : Launch} {D : va_G} {tys : List (ClassId × FieldType)} {A : Nat → Prop} {ad : Nat → Nat} (hAD : ∀ i : Nat, ad (1000 + i) = D.2 1000 i) : CRok l D tys A ad GG 6 g323 := CR_of_vrf (dep := 5) hAD (List.forall_mem_cons.mpr ⟨r322 hAD, List.forall_mem_cons.mpr ⟨r267 hAD, fun c hc => by cases hc⟩⟩) T2OK_nil w323
noncomputable def g324 : CR := (118, [(2, 47, 47), (2, 4, 4), (2, 39, 39), (0, 0, 3), (0, 3, 3)], [], some (0, (-2147483648), 2147483647), [], [48, 49])
theorem w324 : vrf GG [(4, g316), (1, g317), (1, g318), (1, g319)] [] 300 4 g324
  (uK (uC kN36 (uE kI0 kI3 (uE kJ1 kI3 (uE kI0 kI3 uE0))) (uA kN0 (rA kI47) (uA kN1 (rA kI4) (uA kN2 (rA kI39) (uA kN3 (uis kN0) (uA kN4 (uic kI3) (uA kN5 (uis kN1) (uA kN6 (uis kN2) uA0))))))) uS0 uO0 (Int.ofNat (nat_lit 96286)) (uL kJ24090 kN2 uL0))
  (uK (uC kN54 (uE kI0 kI3 (uE kJ1 kI3 (uE kI0 kI2 (uE kI0 kI4 uE0)))) (uA kN0 (rA kI47) (uA kN1 (rA kI4) (uA kN2 (rA kI39) (uA kN3 (uis kN0) (uA kN4 (uic kI3) (uA kN5 (uis kN1) (uA kN6 (uis kN2) (uA kN7 (uis kN3) uA0)))))))) uS0 uO0 (Int.ofNat (nat_lit 92088)) (uL kJ3960 kN3 (uL kJ24090 kN2 uL0)))
  (uK (uC kN64 (uE kI0 kI3 (uE kI0 kI3 (uE kI0 kI2 (uE kI0 kI3 (uE kI0 kI9 uE0))))) (uA kN0 (rA kI47) (uA kN1 (rA kI4) (uA kN2 (rA kI39) (uA kN3 (uis kN0) (uA kN4 (uic kI3) (uA kN5 (uis kN1) (uA kN6 (uis kN2) (uA kN7 (uis kN3) (uA kN8 (uis kN4) uA0))))))))) uS0 uO0 (Int.ofNat (nat_lit 91518)) (uL kJ330 kN4 (uL kJ24090 kN2 (uL kJ3960 kN3 uL0))))
  (uK (uC kN94 (uE kI0 kI3 (uE kI0 kI3 (uE kI0 kI2 (uE kI0 kI3 (uE kI0 kI8 (uE kI0 kI7 (uE kI1 kI9 uE0))))))) (uA kN0 (rA kI47) (uA kN1 (rA kI4) (uA kN2 (rA kI39) (uA kN3 (uis kN0) (uA kN4 (uic kI3) (uA kN5 (uis kN1) (uA kN6 (uis kN2) (uA kN7 (uis kN3) (uA kN8 (uis kN4) uA0))))))))) (uS (uis kN5) uS0) (uO kN4 kN1 (uis kN6) uO0) (Int.ofNat (nat_lit 91488)) (uL kJ330 kN4 (uL kJ24090 kN2 (uL kJ3960 kN3 uL0))))
  uK0)))) = true := by decide +kernel
theorem r324 {l : Launch} {D : va_G} {tys : List (ClassId × FieldType)} {A : Nat → Prop} {ad : Nat → Nat} (hAD : ∀ i : Nat, ad (1000 + i) = D.2 1000 i) : CRok l D tys A ad GG 5 g324 := CR_of_vrf (dep := 4) hAD (List.forall_mem_cons.mpr ⟨r316 hAD, List.forall_mem_cons.mpr ⟨r317 hAD, List.forall_mem_cons.mpr ⟨r318 hAD, List.forall_mem_cons.mpr ⟨r319 hAD, fun c hc => by cases hc⟩⟩⟩⟩) T2OK_nil w324
noncomputable def g325 : CR := (52, [(2, 0, 0), (0, 0, 3), (0, 3, 3)], [], some (0, (-2147483648), 2147483647), [], [48, 49])
theorem w325 : vrf GG [(5, g324), (4, g267)] [] 300 5 g325
  [] = true := by decide +kernel
theorem r325 {l : Launch} {D : va_G} {tys : List (ClassId × FieldType)} {A : Nat → Prop} {ad : Nat → Nat} (hAD : ∀ i : Nat, ad (1000 + i) = D.2 1000 i) : CRok l D tys A ad GG 6 g325 := CR_of_vrf (dep := 5) hAD (List.forall_mem_cons.mpr ⟨r324 hAD, List.forall_mem_cons.mpr ⟨r267 hAD, fun c hc => by cases hc⟩⟩) T2OK_nil w325
noncomputable def g326 : CR := (118, [(2, 47, 47), (2, 4, 4), (2, 39, 39), (0, 0, 3), (0, 4, 4)], [], some (0, (-2147483648), 2147483647), [], [48, 49])
theorem w326 : vrf GG [(4, g316), (1, g317), (1, g318), (1, g319)] [] 300 4 g326
  (uK (uC kN36 (uE kI0 kI3 (uE kJ1 kI4 (uE kI0 kI4 uE0))) (uA kN0 (rA kI47) (uA kN1 (rA kI4) (uA kN2 (rA kI39) (uA kN3 (uis kN0) (uA kN4 (uic kI4) (uA kN5 (uis kN1) (uA kN6 (uis kN2) uA0))))))) uS0 uO0 (Int.ofNat (nat_lit 140176)) (uL kJ28050 kN2 uL0))
  (uK (uC kN54 (uE kI0 kI3 (uE kJ1 kI4 (uE kI0 kI3 (uE kI0 kI5 uE0)))) (uA kN0 (rA kI47) (uA kN1 (rA kI4) (uA kN2 (rA kI39) (uA kN3 (uis kN0) (uA kN4 (uic kI4) (uA kN5 (uis kN1) (uA kN6 (uis kN2) (uA kN7 (uis kN3) uA0)))))))) uS0 uO0 (Int.ofNat (nat_lit 135978)) (uL kJ3960 kN3 (uL kJ28050 kN2 uL0)))
  (uK (uC kN64 (uE kI0 kI3 (uE kI0 kI4 (uE kI0 kI3 (uE kI0 kI4 (uE kI0 kI9 uE0))))) (uA kN0 (rA kI47) (uA kN1 (rA kI4) (uA kN2 (rA kI39) (uA kN3 (uis kN0) (uA kN4 (uic kI4) (uA kN5 (uis kN1) (uA kN6 (uis kN2) (uA kN7 (uis kN3) (uA kN8 (uis kN4) uA0))))))))) uS0 uO0 (Int.ofNat (nat_lit 135408)) (uL kJ330 kN4 (uL kJ28050 kN2 (uL kJ3960 kN3 uL0))))
  (uK (uC kN94 (uE kI0 kI3 (uE kI0 kI4 (uE kI0 kI3 (uE kI0 kI4 (uE kI0 kI8 (uE kI0 kI7 (uE kI1 kI9 uE0))))))) (uA kN0 (rA kI47) (uA kN1 (rA kI4) (uA kN2 (rA kI39) (uA kN3 (uis kN0) (uA kN4 (uic kI4) (uA kN5 (uis kN1) (uA kN6 (uis kN2) (uA kN7 (uis kN3) (uA kN8 (uis kN4) uA0))))))))) (uS (uis kN5) uS0) (uO kN4 kN1 (uis kN6) uO0) (Int.ofNat (nat_lit 135378)) (uL kJ330 kN4 (uL kJ28050 kN2 (uL kJ3960 kN3 uL0))))
  uK0)))) = true := by decide +kernel
theorem r326 {l : Launch} {D : va_G} {tys : List (ClassId × FieldType)} {A : Nat → Prop} {ad : Nat → Nat} (hAD : ∀ i : Nat, ad (1000 + i) = D.2 1000 i) : CRok l D tys A ad GG 5 g326 := CR_of_vrf (dep := 4) hAD (List.forall_mem_cons.mpr ⟨r316 hAD, List.forall_mem_cons.mpr ⟨r317 hAD, List.forall_mem_cons.mpr ⟨r318 hAD, List.forall_mem_cons.mpr ⟨r319 hAD, fun c hc => by cases hc⟩⟩⟩⟩) T2OK_nil w326
noncomputable def g327 : CR := (52, [(2, 0, 0), (0, 0, 3), (0, 4, 4)], [], some (0, (-2147483648), 2147483647), [], [48, 49])
theorem w327 : vrf GG [(5, g326), (4, g267)] [] 300 5 g327
  [] = true := by decide +kernel
theorem r327 {l : Launch} {D : va_G} {tys : List (ClassId × FieldType)} {A : Nat → Prop} {ad : Nat → Nat} (hAD : ∀ i : Nat, ad (1000 + i) = D.2 1000 i) : CRok l D tys A ad GG 6 g327 := CR_of_vrf (dep := 5) hAD (List.forall_mem_cons.mpr ⟨r326 hAD, List.forall_mem_cons.mpr ⟨r267 hAD, fun c hc => by cases hc⟩⟩) T2OK_nil w327
noncomputable def g328 : CR := (119, [(2, 39, 39), (0, 0, 3), (0, 0, 5), (0, 0, 8)], [], some (0, 0, 6), [], [])
theorem w328 : vrf GG [] [] 541 3 g328
  (uK (uC kN5 (uE kI0 kI3 (uE kI0 kI5 (uE kI0 kI8 (uE kI0 kI6 uE0)))) (uA kN0 (rA kI39) (uA kN1 (uis kN0) (uA kN2 (uis kN1) (uA kN3 (uis kN2) (uA kN4 (uis kN3) uA0))))) uS0 uO0 (Int.ofNat (nat_lit 1636)) (uL kI1648 kN3 uL0))
  (uK (uC kN30 (uE kI0 kI3 (uE kI0 kI5 (uE kI0 kI8 (uE kI1 kI6 (uE kI0 kI1 uE0))))) (uA kN0 (rA kI39) (uA kN1 (uis kN0) (uA kN2 (uis kN1) (uA kN3 (uis kN2) (uA kN4 (uis kN3) uA0))))) (uS (uis kN4) uS0) uO0 (Int.ofNat (nat_lit 1611)) (uL kI1648 kN3 uL0))
  (uK (uC kN35 (uE kI0 kI3 (uE kI0 kI5 (uE kI0 kI8 (uE kI1 kI6 (uE kI0 kI1 (uE kI0 kI5 uE0)))))) (uA kN0 (rA kI39) (uA kN1 (uis kN0) (uA kN2 (uis kN1) (uA kN3 (uis kN2) (uA kN4 (uis kN3) (uA kN5 (uis kN4) (uA kN6 (uis kN5) uA0))))))) uS0 uO0 (Int.ofNat (nat_lit 1261)) (uL kJ206 kN5 (uL kI1648 kN3 uL0)))
  (uK (uC kN76 (uE kI0 kI3 (uE kI0 kI5 (uE kI0 kI8 (uE kI2 kI6 (uE kI0 kI1 (uE kI0 kI4 (uE kI0 kI1 (uE kI0 kI1 uE0)))))))) (uA kN0 (rA kI39) (uA kN1 (uis kN0) (uA kN2 (uis kN1) (uA kN3 (uis kN2) (uA kN4 (uis kN3) (uA kN5 (uis kN4) (uA kN6 (uis kN5) uA0))))))) (uS (uis kN6) (uS (uis kN7) uS0)) uO0 kI1220 (uL kJ206 kN5 (uL kI1648 kN3 uL0)))
  uK0)))) = true := by decide +kernel
theorem r328 {l : Launch} {D : va_G} {tys : List (ClassId × FieldType)} {A : Nat → Prop} {ad : Nat → Nat} (hAD : ∀ i : Nat, ad (1000 + i) = D.2 1000 i) : CRok l D tys A ad GG 4 g328 := CR_of_vrf (dep := 3) hAD (fun c hc => by cases hc) T2OK_nil w328
noncomputable def g329 : CR := (118, [(2, 47, 47), (2, 4, 4), (2, 39, 39), (0, 0, 3), (0, 5, 5)], [], some (0, (-2147483648), 2147483647), [], [48, 49])
theorem w329 : vrf GG [(4, g328), (1, g317), (1, g318), (1, g319)] [] 300 4 g329
  (uK (uC kN36 (uE kI0 kI3 (uE kJ1 kI5 (uE kI0 kI5 uE0))) (uA kN0 (rA kI47) (uA kN1 (rA kI4) (uA kN2 (rA kI39) (uA kN3 (uis kN0) (uA kN4 (uic kI5) (uA kN5 (uis kN1) (uA kN6 (uis kN2) uA0))))))) uS0 uO0 (Int.ofNat (nat_lit 191986)) (uL kJ32010 kN2 uL0))
  (uK (uC kN54 (uE kI0 kI3 (uE kJ1 kI5 (uE kI0 kI4 (uE kI0 kI6 uE0)))) (uA kN0 (rA kI47) (uA kN1 (rA kI4) (uA kN2 (rA kI39) (uA kN3 (uis kN0) (uA kN4 (uic kI5) (uA kN5 (uis kN1) (uA kN6 (uis kN2) (uA kN7 (uis kN3) uA0)))))))) uS0 uO0 (Int.ofNat (nat_lit 187788)) (uL kJ3960 kN3 (uL kJ32010 kN2 uL0)))
  (uK (uC kN64 (uE kI0 kI3 (uE kI0 kI5 (uE kI0 kI4 (uE kI0 kI5 (uE kI0 kI9 uE0))))) (uA kN0 (rA kI47) (uA kN1 (rA kI4) (uA kN2 (rA kI39) (uA kN3 (uis kN0) (uA kN4 (uic kI5) (uA kN5 (uis kN1) (uA kN6 (uis kN2) (uA kN7 (uis kN3) (uA kN8 (uis kN4) uA0))))))))) uS0 uO0 (Int.ofNat (nat_lit 187218)) (uL kJ330 kN4 (uL kJ32010 kN2 (uL kJ3960 kN3 uL0))))
  (uK (uC kN94 (uE kI0 kI3 (uE kI0 kI5 (uE kI0 kI4 (uE kI0 kI5 (uE kI0 kI8 (uE kI0 kI6 (uE kI1 kI9 uE0))))))) (uA kN0 (rA kI47) (uA kN1 (rA kI4) (uA kN2 (rA kI39) (uA kN3 (uis kN0) (uA kN4 (uic kI5) (uA kN5 (uis kN1) (uA kN6 (uis kN2) (uA kN7 (uis kN3) (uA kN8 (uis kN4) uA0))))))))) (uS (uis kN5) uS0) (uO kN4 kN1 (uis kN6) uO0) (Int.ofNat (nat_lit 187188)) (uL kJ330 kN4 (uL kJ32010 kN2 (uL kJ3960 kN3 uL0))))
  uK0)))) = true := by decide +kernel
theorem r329 {l : Launch} {D : va_G} {tys : List (ClassId × FieldType)} {A : Nat → Prop} {ad : Nat → Nat} (hAD : ∀ i : Nat, ad (1000 + i) = D.2 1000 i) : CRok l D tys A ad GG 5 g329 := CR_of_vrf (dep := 4) hAD (List.forall_mem_cons.mpr ⟨r328 hAD, List.forall_mem_cons.mpr ⟨r317 hAD, List.forall_mem_cons.mpr ⟨r318 hAD, List.forall_mem_cons.mpr ⟨r319 hAD, fun c hc => by cases hc⟩⟩⟩⟩) T2OK_nil w329
noncomputable def g330 : CR := (52, [(2, 0, 0), (0, 0, 3), (0, 5, 5)], [], some (0, (-2147483648), 2147483647), [], [48, 49])
theorem w330 : vrf GG [(5, g329), (4, g267)] [] 300 5 g330
  [] = true := by decide +kernel
theorem r330 {l : Launch} {D : va_G} {tys : List (ClassId × FieldType)} {A : Nat → Prop} {ad : Nat → Nat} (hAD : ∀ i : Nat, ad (1000 + i) = D.2 1000 i) : CRok l D tys A ad GG 6 g330 := CR_of_vrf (dep := 5) hAD (List.forall_mem_cons.mpr ⟨r329 hAD, List.forall_mem_cons.mpr ⟨r267 hAD, fun c hc => by cases hc⟩⟩) T2OK_nil w330
noncomputable def g331 : CR := (118, [(2, 47, 47), (2, 4, 4), (2, 39, 39), (0, 0, 3), (0, 6, 6)], [], some (0, (-2147483648), 2147483647), [], [48, 49])
theorem w331 : vrf GG [(4, g316), (1, g317), (1, g318), (1, g319)] [] 300 4 g331
  (uK (uC kN36 (uE kI0 kI3 (uE kJ1 kI6 (uE kI0 kI6 uE0))) (uA kN0 (rA kI47) (uA kN1 (rA kI4) (uA kN2 (rA kI39) (uA kN3 (uis kN0) (uA kN4 (uic kI6) (uA kN5 (uis kN1) (uA kN6 (uis kN2) uA0))))))) uS0 uO0 (Int.ofNat (nat_lit 251716)) (uL kJ35970 kN2 uL0))
  (uK (uC kN54 (uE kI0 kI3 (uE kJ1 kI6 (uE kI0 kI5 (uE kI0 kI7 uE0)))) (uA kN0 (rA kI47) (uA kN1 (rA kI4) (uA kN2 (rA kI39) (uA kN3 (uis kN0) (uA kN4 (uic kI6) (uA kN5 (uis kN1) (uA kN6 (uis kN2) (uA kN7 (uis kN3) uA0)))))))) uS0 uO0 (Int.ofNat (nat_lit 247518)) (uL kJ3960 kN3 (uL kJ35970 kN2 uL0)))
  (uK (uC kN64 (uE kI0 kI3 (uE kI0 kI6 (uE kI0 kI5 (uE kI0 kI6 (uE kI0 kI9 uE0))))) (uA kN0 (rA kI47) (uA kN1 (rA kI4) (uA kN2 (rA kI39) (uA kN3 (uis kN0) (uA kN4 (uic kI6) (uA kN5 (uis kN1) (uA kN6 (uis kN2) (uA kN7 (uis kN3) (uA kN8 (uis kN4) uA0))))))))) uS0 uO0 (Int.ofNat (nat_lit 246948)) (uL kJ330 kN4 (uL kJ35970 kN2 (uL kJ3960 kN3 uL0))))
  (uK (uC kN94 (uE kI0 kI3 (uE kI0 kI6 (uE kI0 kI5 (uE kI0 kI6 (uE kI0 kI8 (uE kI0 kI7 (uE kI1 kI9 uE0))))))) (uA kN0 (rA kI47) (uA kN1 (rA kI4) (uA kN2 (rA kI39) (uA kN3 (uis kN0) (uA kN4 (uic kI6) (uA kN5 (uis kN1) (uA kN6 (uis kN2) (uA kN7 (uis kN3) (uA kN8 (uis kN4) uA0))))))))) (uS (uis kN5) uS0) (uO kN4 kN1 (uis kN6) uO0) (Int.ofNat (nat_lit 246918)) (uL kJ330 kN4 (uL kJ35970 kN2 (uL kJ3960 kN3 uL0))))
  uK0)))) = true := by decide +kernel
theorem r331 {l : Launch} {D : va_G} {tys : List (ClassId × FieldType)} {A : Nat → Prop} {ad : Nat → Nat} (hAD : ∀ i : Nat, ad (1000 + i) = D.2 1000 i) : CRok l D tys A ad GG 5 g331 := CR_of_vrf (dep := 4) hAD (List.forall_mem_cons.mpr ⟨r316 hAD, List.forall_mem_cons.mpr ⟨r317 hAD, List.forall_mem_cons.mpr ⟨r318 hAD, List.forall_mem_cons.mpr ⟨r319 hAD, fun c hc => by cases hc⟩⟩⟩⟩) T2OK_nil w331
noncomputable def g332 : CR := (52, [(2, 0, 0), (0, 0, 3), (0, 6, 6)], [], some (0, (-2147483648), 2147483647), [], [48, 49])
theorem w332 : vrf GG [(5, g331), (4, g267)] [] 300 5 g332
  [] = true := by decide +kernel
theorem r332 {l : Launch} {D : va_G} {tys : List (ClassId × FieldType)} {A : Nat → Prop} {ad : Nat → Nat} (hAD : ∀ i : Nat, ad (1000 + i) = D.2 1000 i) : CRok l D tys A ad GG 6 g332 := CR_of_vrf (dep := 5) hAD (List.forall_mem_cons.mpr ⟨r331 hAD, List.forall_mem_cons.mpr ⟨r267 hAD, fun c hc => by cases hc⟩⟩) T2OK_nil w332
noncomputable def g333 : CR := (305, [(2, 90, 90), (0, (-2147483648), (-1)), (0, 0, 0)], [((91, 0), (0, 0, 0))], some (0, (-2), (-2)), [], [])
theorem w333 : vrf GG [] [] 300 2 g333
  [] = true := by decide +kernel
theorem r333 {l : Launch} {D : va_G} {tys : List (ClassId × FieldType)} {A : Nat → Prop} {ad : Nat → Nat} (hAD : ∀ i : Nat, ad (1000 + i) = D.2 1000 i) : CRok l D tys A ad GG 3 g333 := CR_of_vrf (dep := 2) hAD (fun c hc => by cases hc) T2OK_nil w333
noncomputable def g334 : CR := (305, [(2, 90, 90), (0, (-2147483648), (-1)), (0, 1, 1)], [((91, 0), (0, 0, 0))], some (0, (-2), (-2)), [], [])
theorem w334 : vrf GG [] [] 300 2 g334
  [] = true := by decide +kernel
theorem r334 {l : Launch} {D : va_G} {tys : List (ClassId × FieldType)} {A : Nat → Prop} {ad : Nat → Nat} (hAD : ∀ i : Nat, ad (1000 + i) = D.2 1000 i) : CRok l D tys A ad GG 3 g334 := CR_of_vrf (dep := 2) hAD (fun c hc => by cases hc) T2OK_nil w334
noncomputable def g335 : CR := (311, [(2, 90, 90), (0, (-2147483648), (-1)), (0, (-2147483648), 2147483647)], [((91, 0), (0, 0, 0))], some (0, (-2), (-2)), [], [])
theorem w335 : vrf GG [(3, g333), (3, g334)] [] 300 3 g335
  [] = true := by decide +kernel
theorem r335 {l : Launch} {D : va_G} {tys : List (ClassId × FieldType)} {A : Nat → Prop} {ad : Nat → Nat} (hAD : ∀ i : Nat, ad (1000 + i) = D.2 1000 i) : CRok l D tys A ad GG 4 g335 := CR_of_vrf (dep := 3) hAD (List.forall_mem_cons.mpr ⟨r333 hAD, List.forall_mem_cons.mpr ⟨r334 hAD, fun c hc => by cases hc⟩⟩) T2OK_nil w335
noncomputable def g336 : CR := (305, [(2, 90, 90), (0, (-2147483648), (-1)), (0, 0, 0)], [((91, 0), (0, 1, 9))], some (0, (-2), (-2)), [], [])
theorem w336 : vrf GG [] [] 300 2 g336
  [] = true := by decide +kernel
theorem r336 {l : Launch} {D : va_G} {tys : List (ClassId × FieldType)} {A : Nat → Prop} {ad : Nat → Nat} (hAD : ∀ i : Nat, ad (1000 + i) = D.2 1000 i) : CRok l D tys A ad GG 3 g336 := CR_of_vrf (dep := 2) hAD (fun c hc => by cases hc) T2OK_nil w336
noncomputable def g337 : CR := (305, [(2, 90, 90), (0, (-2147483648), (-1)), (0, 1, 1)], [((91, 0), (0, 1, 9))], some (0, (-2), (-2)), [], [])
theorem w337 : vrf GG [] [] 300 2 g337
  [] = true := by decide +kernel
theorem r337 {l : Launch} {D : va_G} {tys : List (ClassId × FieldType)} {A : Nat → Prop} {ad : Nat → Nat} (hAD : ∀ i : Nat, ad (1000 + i) = D.2 1000 i) : CRok l D tys A ad GG 3 g337 := CR_of_vrf (dep := 2) hAD (fun c hc => by cases hc) T2OK_nil w337
noncomputable def g338 : CR := (311, [(2, 90, 90), (0, (-2147483648), (-1)), (0, (-2147483648), 2147483647)], [((91, 0), (0, 1, 9))], some (0, (-2), (-2)), [], [])
theorem w338 : vrf GG [(3, g336), (3, g337)] [] 300 3 g338
  [] = true := by decide +kernel
theorem r338 {l : Launch} {D : va_G} {tys : List (ClassId × FieldType)} {A : Nat → Prop} {ad : Nat → Nat} (hAD : ∀ i : Nat, ad (1000 + i) = D.2 1000 i) : CRok l D tys A ad GG 4 g338 := CR_of_vrf (dep := 3) hAD (List.forall_mem_cons.mpr ⟨r336 hAD, List.forall_mem_cons.mpr ⟨r337 hAD, fun c hc => by cases hc⟩⟩) T2OK_nil w338
noncomputable def g339 : CR := (305, [(2, 90, 90), (0, 4, 2147483647), (0, 0, 0)], [((91, 0), (0, 0, 0))], some (0, (-2), (-2)), [], [])
theorem w339 : vrf GG [] [] 300 2 g339
  [] = true := by decide +kernel
theorem r339 {l : Launch} {D : va_G} {tys : List (ClassId × FieldType)} {A : Nat → Prop} {ad : Nat → Nat} (hAD : ∀ i : Nat, ad (1000 + i) = D.2 1000 i) : CRok l D tys A ad GG 3 g339 := CR_of_vrf (dep := 2) hAD (fun c hc => by cases hc) T2OK_nil w339
noncomputable def g340 : CR := (305, [(2, 90, 90), (0, 4, 2147483647), (0, 1, 1)], [((91, 0), (0, 0, 0))], some (0, (-2), (-2)), [], [])
theorem w340 : vrf GG [] [] 300 2 g340
  [] = true := by decide +kernel
theorem r340 {l : Launch} {D : va_G} {tys : List (ClassId × FieldType)} {A : Nat → Prop} {ad : Nat → Nat} (hAD : ∀ i : Nat, ad (1000 + i) = D.2 1000 i) : CRok l D tys A ad GG 3 g340 := CR_of_vrf (dep := 2) hAD (fun c hc => by cases hc) T2OK_nil w340
noncomputable def g341 : CR := (311, [(2, 90, 90), (0, 4, 2147483647), (0, (-2147483648), 2147483647)], [((91, 0), (0, 0, 0))], some (0, (-2), (-2)), [], [])
theorem w341 : vrf GG [(3, g339), (3, g340)] [] 300 3 g341
  [] = true := by decide +kernel
theorem r341 {l : Launch} {D : va_G} {tys : List (ClassId × FieldType)} {A : Nat → Prop} {ad : Nat → Nat} (hAD : ∀ i : Nat, ad (1000 + i) = D.2 1000 i) : CRok l D tys A ad GG 4 g341 := CR_of_vrf (dep := 3) hAD (List.forall_mem_cons.mpr ⟨r339 hAD, List.forall_mem_cons.mpr ⟨r340 hAD, fun c hc => by cases hc⟩⟩) T2OK_nil w341
noncomputable def g342 : CR := (305, [(2, 90, 90), (0, 4, 2147483647), (0, 0, 0)], [((91, 0), (0, 1, 9))], some (0, (-2), (-2)), [], [])
theorem w342 : vrf GG [] [] 300 2 g342
  [] = true := by decide +kernel
theorem r342 {l : Launch} {D : va_G} {tys : List (ClassId × FieldType)} {A : Nat → Prop} {ad : Nat → Nat} (hAD : ∀ i : Nat, ad (1000 + i) = D.2 1000 i) : CRok l D tys A ad GG 3 g342 := CR_of_vrf (dep := 2) hAD (fun c hc => by cases hc) T2OK_nil w342
noncomputable def g343 : CR := (305, [(2, 90, 90), (0, 4, 2147483647), (0, 1, 1)], [((91, 0), (0, 1, 9))], some (0, (-2), (-2)), [], [])
theorem w343 : vrf GG [] [] 300 2 g343
  [] = true := by decide +kernel
theorem r343 {l : Launch} {D : va_G} {tys : List (ClassId × FieldType)} {A : Nat → Prop} {ad : Nat → Nat} (hAD : ∀ i : Nat, ad (1000 + i) = D.2 1000 i) : CRok l D tys A ad GG 3 g343 := CR_of_vrf (dep := 2) hAD (fun c hc => by cases hc) T2OK_nil w343
noncomputable def g344 : CR := (311, [(2, 90, 90), (0, 4, 2147483647), (0, (-2147483648), 2147483647)], [((91, 0), (0, 1, 9))], some (0, (-2), (-2)), [], [])
theorem w344 : vrf GG [(3, g342), (3, g343)] [] 300 3 g344
  [] = true := by decide +kernel
theorem r344 {l : Launch} {D : va_G} {tys : List (ClassId × FieldType)} {A : Nat → Prop} {ad : Nat → Nat} (hAD : ∀ i : Nat, ad (1000 + i) = D.2 1000 i) : CRok l D tys A ad GG 4 g344 := CR_of_vrf (dep := 3) hAD (List.forall_mem_cons.mpr ⟨r342 hAD, List.forall_mem_cons.mpr ⟨r343 hAD, fun c hc => by cases hc⟩⟩) T2OK_nil w344
noncomputable def g345 : CR := (305, [(2, 90, 90), (0, 0, 3), (0, 0, 0)], [((91, 0), (0, 0, 0))], some (0, (-2), (-2)), [], [])
theorem w345 : vrf GG [] [] 300 2 g345
  [] = true := by decide +kernel
theorem r345 {l : Launch} {D : va_G} {tys : List (ClassId × FieldType)} {A : Nat → Prop} {ad : Nat → Nat} (hAD : ∀ i : Nat, ad (1000 + i) = D.2 1000 i) : CRok l D tys A ad GG 3 g345 := CR_of_vrf (dep := 2) hAD (fun c hc => by cases hc) T2OK_nil w345
noncomputable def g346 : CR := (311, [(2, 90, 90), (0, 0, 3), (0, (-2147483648), 0)], [((91, 0), (0, 0, 0))], some (0, (-2), (-2)), [], [])
theorem w346 : vrf GG [(3, g345)] [] 300 3 g346
  [] = true := by decide +kernel
theorem r346 {l : Launch} {D : va_G} {tys : List (ClassId × FieldType)} {A : Nat → Prop} {ad : Nat → Nat} (hAD : ∀ i : Nat, ad (1000 + i) = D.2 1000 i) : CRok l D tys A ad GG 4 g346 := CR_of_vrf (dep := 3) hAD (List.forall_mem_cons.mpr ⟨r345 hAD, fun c hc => by cases hc⟩) T2OK_nil w346
noncomputable def g347 : CR := (305, [(2, 90, 90), (0, 0, 3), (0, 0, 0)], [((91, 0), (0, 1, 9))], some (0, (-2), (-2)), [], [])
theorem w347 : vrf GG [] [] 300 2 g347
  [] = true := by decide +kernel
theorem r347 {l : Launch} {D : va_G} {tys : List (ClassId × FieldType)} {A : Nat → Prop} {ad : Nat → Nat} (hAD : ∀ i : Nat, ad (1000 + i) = D.2 1000 i) : CRok l D tys A ad GG 3 g347 := CR_of_vrf (dep := 2) hAD (fun c hc => by cases hc) T2OK_nil w347
noncomputable def g348 : CR := (311, [(2, 90, 90), (0, 0, 3), (0, (-2147483648), 0)], [((91, 0), (0, 1, 9))], some (0, (-2), (-2)), [], [])
theorem w348 : vrf GG [(3, g347)] [] 300 3 g348
  [] = true := by decide +kernel
theorem r348 {l : Launch} {D : va_G} {tys : List (ClassId × FieldType)} {A : Nat → Prop} {ad : Nat → Nat} (hAD : ∀ i : Nat, ad (1000 + i) = D.2 1000 i) : CRok l D tys A ad GG 4 g348 := CR_of_vrf (dep := 3) hAD (List.forall_mem_cons.mpr ⟨r347 hAD, fun c hc => by cases hc⟩) T2OK_nil w348
noncomputable def g349 : CR := (311, [(2, 90, 90), (0, 0, 3), (0, 7, 2147483647)], [((91, 0), (0, 0, 0))], some (0, (-2), (-2)), [], [])
theorem w349 : vrf GG [(3, g345)] [] 300 3 g349
  [] = true := by decide +kernel
theorem r349 {l : Launch} {D : va_G} {tys : List (ClassId × FieldType)} {A : Nat → Prop} {ad : Nat → Nat} (hAD : ∀ i : Nat, ad (1000 + i) = D.2 1000 i) : CRok l D tys A ad GG 4 g349 := CR_of_vrf (dep := 3) hAD (List.forall_mem_cons.mpr ⟨r345 hAD, fun c hc => by cases hc⟩) T2OK_nil w349
noncomputable def g350 : CR := (311, [(2, 90, 90), (0, 0, 3), (0, 7, 2147483647)], [((91, 0), (0, 1, 9))], some (0, (-2), (-2)), [], [])
theorem w350 : vrf GG [(3, g347)] [] 300 3 g350
  [] = true := by decide +kernel
theorem r350 {l : Launch} {D : va_G} {tys : List (ClassId × FieldType)} {A : Nat → Prop} {ad : Nat → Nat} (hAD : ∀ i : Nat, ad (1000 + i) = D.2 1000 i) : CRok l D tys A ad GG 4 g350 := CR_of_vrf (dep := 3) hAD (List.forall_mem_cons.mpr ⟨r347 hAD, fun c hc => by cases hc⟩) T2OK_nil w350
noncomputable def g351 : CR := (305, [(2, 90, 90), (0, 0, 3), (0, 1, 1)], [((91, 0), (0, 0, 0))], some (0, (-6), 0), [], [])
theorem w351 : vrf GG [] [] 300 2 g351
  (uK (uC kN36 (uE kI0 kI3 (uE kI1 kI2147483647 uE0)) (uA kN0 (rA kI90) (uA kN1 (uis kN0) (uA kN2 (uic kI1) (uA kN3 (uic kI0) uA0)))) uS0 (uO kN91 kN0 (uic kI0) (uO kN91 kN5 (uis kN1) uO0)) kI70 uL0)
  uK0) = true := by decide +kernel
theorem r351 {l : Launch} {D : va_G} {tys : List (ClassId × FieldType)} {A : Nat → Prop} {ad : Nat → Nat} (hAD : ∀ i : Nat, ad (1000 + i) = D.2 1000 i) : CRok l D tys A ad GG 3 g351 := CR_of_vrf (dep := 2) hAD (fun c hc => by cases hc) T2OK_nil w351
noncomputable def g352 : CR := (309, [(2, 90, 90), (0, 1, 1)], [((91, 0), (0, 0, 0))], some (0, 0, 0), [], [])
theorem w352 : vrf GG [] [] 300 0 g352
  [] = true := by decide +kernel
theorem r352 {l : Launch} {D : va_G} {tys : List (ClassId × FieldType)} {A : Nat → Prop} {ad : Nat → Nat} (hAD : ∀ i : Nat, ad (1000 + i) = D.2 1000 i) : CRok l D tys A ad GG 1 g352 := CR_of_vrf (dep := 0) hAD (fun c hc => by cases hc) T2OK_nil w352
noncomputable def g353 : CR := (311, [(2, 90, 90), (0, 0, 3), (0, 1, 1)], [((91, 0), (0, 0, 0))], some (0, (-6), 0), [], [])
theorem w353 : vrf GG [(3, g351), (1, g352)] [] 300 3 g353
  (uK (uC kN27 (uE kI0 kI3 uE0) (uA kN0 (rA kI90) (uA kN1 (uis kN0) (uA kN2 (uic kI1) (uA kN3 (uic kI0) (uA kN4 (uic kI0) (uA kN5 (uic kI0) uA0)))))) uS0 (uO kN91 kN0 (uic kI0) uO0) kI90 uL0)
  uK0) = true := by decide +kernel
theorem r353 {l : Launch} {D : va_G} {tys : List (ClassId × FieldType)} {A : Nat → Prop} {ad : Nat → Nat} (hAD : ∀ i : Nat, ad (1000 + i) = D.2 1000 i) : CRok l D tys A ad GG 4 g353 := CR_of_vrf (dep := 3) hAD (List.forall_mem_cons.mpr ⟨r351 hAD, List.forall_mem_cons.mpr ⟨r352 hAD, fun c hc => by cases hc⟩⟩) T2OK_nil w353
noncomputable def g354 : CR := (305, [(2, 90, 90), (0, 0, 3), (0, 1, 1)], [((91, 0), (0, 1, 9))], some (0, (-6), 0), [], [])
theorem w354 : vrf GG [] [] 300 2 g354
  (uK (uC kN36 (uE kI0 kI3 (uE kI0 kI60 (uE kI1 kI9 (uE kI1 kI2147483647 uE0)))) (uA kN0 (rA kI90) (uA kN1 (uis kN0) (uA kN2 (uic kI1) (uA kN3 (uis kN1) uA0)))) uS0 (uO kN91 kN0 (uis kN2) (uO kN91 kN5 (uis kN3) uO0)) (Int.ofNat (nat_lit 8710)) (uL kJ144 kN1 uL0))
  uK0) = true := by decide +kernel
theorem r354 {l : Launch} {D : va_G} {tys : List (ClassId × FieldType)} {A : Nat → Prop} {ad : Nat → Nat} (hAD : ∀ i : Nat, ad (1000 + i) = D.2 1000 i) : CRok l D tys A ad GG 3 g354 := CR_of_vrf (dep := 2) hAD (fun c hc => by cases hc) T2OK_nil w354
noncomputable def g355 : CR := (307, [(2, 90, 90), (0, 0, 0)], [((91, 0), (0, 1, 9)), ((107, 0), (0, (-1), (-1)))], some (0, 1, 1), [], [])
theorem w355 : vrf GG [] [] 300 0 g355
  (uK (uC kN2 (uE kI1 kI9 uE0) (uA kN0 (rA kI90) (uA kN1 (uic kI0) (uA kN2 (uic kI0) uA0))) uS0 (uO kN91 kN0 (uis kN0) (uO kN107 kN0 (uic kJ1) uO0)) kI510 uL0)
  (uK (uC kN22 (uE kI0 kI6 (uE kI1 kI9 uE0)) (uA kN0 (rA kI90) (uA kN1 (uic kI0) (uA kN2 (uic kI0) (uA kN3 (uic kI1) (uA kN4 (uic kI0) uA0))))) uS0 (uO kN90 kN30 (uis kN0) (uO kN91 kN0 (uis kN1) (uO kN107 kN0 (uic kJ1) uO0))) kI209 uL0)
  (uK (uC kN70 (uE kI0 kI6 (uE kI1 kI9 uE0)) (uA kN0 (rA kI90) (uA kN1 (uic kI0) (uA kN2 (uic kI0) (uA kN3 (uic kI1) (uA kN4 (uic kI0) uA0))))) uS0 (uO kN90 kN30 (uis kN0) (uO kN91 kN0 (uis kN1) (uO kN107 kN0 (uic kJ1) uO0))) kI98 uL0)
  uK0))) = true := by decide +kernel
theorem r355 {l : Launch} {D : va_G} {tys : List (ClassId × FieldType)} {A : Nat → Prop} {ad : Nat → Nat} (hAD : ∀ i : Nat, ad (1000 + i) = D.2 1000 i) : CRok l D tys A ad GG 1 g355 := CR_of_vrf (dep := 0) hAD (fun c hc => by cases hc) T2OK_nil w355
noncomputable def g356 : CR := (307, [(2, 90, 90), (0, 0, 0)], [((91, 0), (0, 1, 9)), ((107, 0), (0, 0, 0))], some (0, 1, 1), [], [])
theorem w356 : vrf GG [] [] 300 0 g356
  (uK (uC kN2 (uE kI1 kI9 uE0) (uA kN0 (rA kI90) (uA kN1 (uic kI0) (uA kN2 (uic kI0) uA0))) uS0 (uO kN91 kN0 (uis kN0) (uO kN107 kN0 (uic kI0) uO0)) kI510 uL0)
  (uK (uC kN22 (uE kI0 kI6 (uE kI1 kI9 uE0)) (uA kN0 (rA kI90) (uA kN1 (uic kI0) (uA kN2 (uic kI0) (uA kN3 (uic kI1) (uA kN4 (uic kI0) uA0))))) uS0 (uO kN90 kN30 (uis kN0) (uO kN91 kN0 (uis kN1) (uO kN107 kN0 (uic kI0) uO0))) kI209 uL0)
  (uK (uC kN70 (uE kI0 kI6 (uE kI1 kI9 uE0)) (uA kN0 (rA kI90) (uA kN1 (uic kI0) (uA kN2 (uic kI0) (uA kN3 (uic kI1) (uA kN4 (uic kI0) uA0))))) uS0 (uO kN90 kN30 (uis kN0) (uO kN91 kN0 (uis kN1) (uO kN107 kN0 (uic kI0) uO0))) kI98 uL0)
  uK0))) = true := by decide +kernel
theorem r356 {l : Launch} {D : va_G} {tys : List (ClassId × FieldType)} {A : Nat → Prop} {ad : Nat → Nat} (hAD : ∀ i : Nat, ad (1000 + i) = D.2 1000 i) : CRok l D tys A ad GG 1 g356 := CR_of_vrf (dep := 0) hAD (fun c hc => by cases hc) T2OK_nil w356
noncomputable def g357 : CR := (307, [(2, 90, 90), (0, 0, 0)], [((91, 0), (0, 1, 9)), ((107, 0), (0, 1, 1))], some (0, 0, 1), [], [])
theorem w357 : vrf GG [] [] 300 1 g357
  (uK (uC kN2 (uE kI0 kI6 (uE kI1 kI9 uE0)) (uA kN0 (rA kI90) (uA kN1 (uic kI0) (uA kN2 (uis kN0) uA0))) uS0 (uO kN91 kN0 (uis kN1) (uO kN107 kN0 (uic kI1) uO0)) kI4810 (uL kJ688 kN0 uL0))
  (uK (uC kN22 (uE kI0 kI5 (uE kI0 kI1 (uE kI0 kI1 (uE kI1 kI6 (uE kI1 kI9 uE0))))) (uA kN0 (rA kI90) (uA kN1 (uic kI0) (uA kN2 (uis kN0) (uA kN3 (uis kN1) (uA kN4 (uis kN2) uA0))))) uS0 (uO kN90 kN30 (uis kN3) (uO kN91 kN0 (uis kN4) (uO kN107 kN0 (uic kI1) uO0))) kI4509 (uL kJ172 kN2 (uL kJ688 kN0 uL0)))
  (uK (uC kN63 (uE kI0 kI5 (uE kI0 kI1 (uE kI1 kI6 (uE kI1 kI9 (uE kJ9223372036854775808 kI9223372036854775807 uE0))))) (uA kN0 (rA kI90) (uA kN1 (uic kI0) (uA kN2 (uis kN0) (uA kN3 (uic kI1) (uA kN4 (uic kI0) uA0))))) (uS (uis kN1) uS0) (uO kN90 kN30 (uis kN2) (uO kN91 kN0 (uis kN3) (uO kN107 kN0 (uic kI1) (uO kN109 kN0 (uls kN4) uO0)))) kI4468 (uL kJ688 kN0 uL0))
  (uK (uC kN70 (uE kI0 kI5 (uE kI0 kI1 (uE kI0 kI1 (uE kI1 kI6 (uE kI1 kI9 uE0))))) (uA kN0 (rA kI90) (uA kN1 (uic kI0) (uA kN2 (uis kN0) (uA kN3 (uis kN1) (uA kN4 (uis kN2) uA0))))) uS0 (uO kN90 kN30 (uis kN3) (uO kN91 kN0 (uis kN4) (uO kN107 kN0 (uic kI1) uO0))) kI4226 (uL kJ688 kN0 uL0))
  uK0)))) = true := by decide +kernel
theorem r357 {l : Launch} {D : va_G} {tys : List (ClassId × FieldType)} {A : Nat → Prop} {ad : Nat → Nat} (hAD : ∀ i : Nat, ad (1000 + i) = D.2 1000 i) : CRok l D tys A ad GG 2 g357 := CR_of_vrf (dep := 1) hAD (fun c hc => by cases hc) T2OK_nil w357
noncomputable def g358 : CR := (307, [(2, 90, 90), (0, 0, 0)], [((91, 0), (0, 1, 9)), ((107, 0), (0, 2, 2))], some (0, 0, 1), [], [])
theorem w358 : vrf GG [] [] 300 1 g358
  (uK (uC kN2 (uE kI0 kI5 (uE kI1 kI9 uE0)) (uA kN0 (rA kI90) (uA kN1 (uic kI0) (uA kN2 (uis kN0) uA0))) uS0 (uO kN91 kN0 (uis kN1) (uO kN107 kN0 (uic kI2) uO0)) kI5154 (uL kJ860 kN0 uL0))
  (uK (uC kN22 (uE kI0 kI4 (uE kI0 kI1 (uE kI0 kI2 (uE kI2 kI6 (uE kI1 kI9 uE0))))) (uA kN0 (rA kI90) (uA kN1 (uic kI0) (uA kN2 (uis kN0) (uA kN3 (uis kN1) (uA kN4 (uis kN2) uA0))))) uS0 (uO kN90 kN30 (uis kN3) (uO kN91 kN0 (uis kN4) (uO kN107 kN0 (uic kI2) uO0))) kI4853 (uL kJ172 kN2 (uL kJ860 kN0 uL0)))
  (uK (uC kN63 (uE kI0 kI4 (uE kI0 kI1 (uE kI0 kI1 (uE kI2 kI6 (uE kI1 kI9 uE0))))) (uA kN0 (rA kI90) (uA kN1 (uic kI0) (uA kN2 (uis kN0) (uA kN3 (uic kI1) (uA kN4 (uis kN1) uA0))))) (uS (uis kN2) uS0) (uO kN90 kN30 (uis kN3) (uO kN91 kN0 (uis kN4) (uO kN107 kN0 (uic kI2) uO0))) kI4812 (uL kJ172 kN1 (uL kJ860 kN0 uL0)))
  (uK (uC kN70 (uE kI0 kI4 (uE kI0 kI1 (uE kI0 kI2 (uE kI2 kI6 (uE kI1 kI9 uE0))))) (uA kN0 (rA kI90) (uA kN1 (uic kI0) (uA kN2 (uis kN0) (uA kN3 (uis kN1) (uA kN4 (uis kN2) uA0))))) uS0 (uO kN90 kN30 (uis kN3) (uO kN91 kN0 (uis kN4) (uO kN107 kN0 (uic kI2) uO0))) kI4398 (uL kJ860 kN0 uL0))
  uK0)))) = true := by decide +kernel
theorem r358 {l : Launch} {D : va_G} {tys : List (ClassId × FieldType)} {A : Nat → Prop} {ad : Nat → Nat} (hAD : ∀ i : Nat, ad (1000 + i) = D.2 1000 i) : CRok l D tys A ad GG 2 g358 := CR_of_vrf (dep := 1) hAD (fun c hc => by cases hc) T2OK_nil w358
noncomputable def g359 : CR := (307, [(2, 90, 90), (0, 0, 0)], [((91, 0), (0, 1, 9)), ((107, 0), (0, 3, 3))], some (0, 0, 1), [], [])
theorem w359 : vrf GG [] [] 300 1 g359
  (uK (uC kN2 (uE kI0 kI4 (uE kI1 kI9 uE0)) (uA kN0 (rA kI90) (uA kN1 (uic kI0) (uA kN2 (uis kN0) uA0))) uS0 (uO kN91 kN0 (uis kN1) (uO kN107 kN0 (uic kI3) uO0)) kI5154 (uL kJ1032 kN0 uL0))
  (uK (uC kN22 (uE kI0 kI3 (uE kI0 kI1 (uE kI0 kI3 (uE kI3 kI6 (uE kI1 kI9 uE0))))) (uA kN0 (rA kI90) (uA kN1 (uic kI0) (uA kN2 (uis kN0) (uA kN3 (uis kN1) (uA kN4 (uis kN2) uA0))))) uS0 (uO kN90 kN30 (uis kN3) (uO kN91 kN0 (uis kN4) (uO kN107 kN0 (uic kI3) uO0))) kI4853 (uL kJ172 kN2 (uL kJ1032 kN0 uL0)))
  (uK (uC kN63 (uE kI0 kI3 (uE kI0 kI2 (uE kI0 kI1 (uE kI3 kI6 (uE kI1 kI9 uE0))))) (uA kN0 (rA kI90) (uA kN1 (uic kI0) (uA kN2 (uis kN0) (uA kN3 (uic kI1) (uA kN4 (uis kN1) uA0))))) (uS (uis kN2) uS0) (uO kN90 kN30 (uis kN3) (uO kN91 kN0 (uis kN4) (uO kN107 kN0 (uic kI3) uO0))) kI4812 (uL kJ172 kN1 (uL kJ1032 kN0 uL0)))
  (uK (uC kN70 (uE kI0 kI3 (uE kI0 kI1 (uE kI0 kI3 (uE kI3 kI6 (uE kI1 kI9 uE0))))) (uA kN0 (rA kI90) (uA kN1 (uic kI0) (uA kN2 (uis kN0) (uA kN3 (uis kN1) (uA kN4 (uis kN2) uA0))))) uS0 (uO kN90 kN30 (uis kN3) (uO kN91 kN0 (uis kN4) (uO kN107 kN0 (uic kI3) uO0))) kI4226 (uL kJ1032 kN0 uL0))
  uK0)))) = true := by decide +kernel
theorem r359 {l : Launch} {D : va_G} {tys : List (ClassId × FieldType)} {A : Nat → Prop} {ad : Nat → Nat} (hAD : ∀ i : Nat, ad (1000 + i) = D.2 1000 i) : CRok l D tys A ad GG 2 g359 := CR_of_vrf (dep := 1) hAD (fun c hc => by cases hc) T2OK_nil w359
end
