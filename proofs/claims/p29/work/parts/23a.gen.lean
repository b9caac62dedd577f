noncomputable def g0 : CR := (185, [(2, 2, 2), (0, (-2147483648), 2147483647)], [], none, [], [2, 3])
theorem w0 : vrf GG [] [] 300 0 g0
  (uK (uC kN3 (uE kJ2147483648 kI2147483647 (uE kJ8 kI24 uE0)) (uA kN0 (rA kI2) (uA kN1 (uis kN0) (uA kN2 (uis kN1) uA0))) uS0 uO0 (Int.ofNat (nat_lit 1036)) (uL (Int.ofNat (nat_lit 116)) kN1 uL0))
  (uK (uC kN49 (uE kJ2147483648 kI2147483647 (uE kI0 kI24 (uE kI1 kI1400 uE0))) (uA kN0 (rA kI2) (uA kN1 (uis kN0) (uA kN2 (uis kN1) uA0))) uS0 (uO kN2 kN1 (uis kN2) uO0) (Int.ofNat (nat_lit 990)) (uL (Int.ofNat (nat_lit 116)) kN1 uL0))
  uK0)) = true := by decide +kernel
theorem r0 {l : Launch} {D : va_G} {tys : List (ClassId × FieldType)} {A : Nat → Prop} {ad : Nat → Nat} (hAD : ∀ i : Nat, ad (1000 + i) = D.2 1000 i) : CRok l D tys A ad GG 1 g0 := CR_of_vrf (dep := 0) hAD (fun c hc => by cases hc) T2OK_nil w0
noncomputable def g5 : CR := (111, [(2, 16, 16)], [], none, [], [22])
theorem w5 : vrf GG [] [] 300 1 g5
  (uK (uC kN2 (uE kI0 kI6 uE0) (uA kN0 (rA kI16) (uA kN1 (uis kN0) uA0)) uS0 uO0 (Int.ofNat (nat_lit 27588)) (uL kJ3942 kN0 uL0))
  (uK (uC kN12 (uE kI0 kI5 (uE kJ2147483648 kI2147483647 (uE kI0 kI24 uE0))) (uA kN0 (rA kI16) (uA kN1 (uis kN0) (uA kN2 (uis kN1) (uA kN3 (uis kN2) uA0)))) uS0 uO0 (Int.ofNat (nat_lit 27346)) (uL kJ146 kN2 (uL kJ3942 kN0 uL0)))
  (uK (uC kN48 (uE kI0 kI5 (uE kJ2147483648 kI2147483647 (uE kI0 kI23 (uE kI0 (Int.ofNat (nat_lit 143)) uE0)))) (uA kN0 (rA kI16) (uA kN1 (uis kN0) (uA kN2 (uis kN1) (uA kN3 (uis kN2) (uA kN4 (uis kN3) uA0))))) uS0 uO0 (Int.ofNat (nat_lit 27310)) (uL kJ146 kN2 (uL kJ3942 kN0 uL0)))
  uK0))) = true := by decide +kernel
theorem r5 {l : Launch} {D : va_G} {tys : List (ClassId × FieldType)} {A : Nat → Prop} {ad : Nat → Nat} (hAD : ∀ i : Nat, ad (1000 + i) = D.2 1000 i) : CRok l D tys A ad GG 2 g5 := CR_of_vrf (dep := 1) hAD (fun c hc => by cases hc) T2OK_nil w5
noncomputable def g6 : CR := (189, [(2, 2, 2), (0, 0, 1399), (0, 48, 48), (0, 57, 57)], [], some (0, 0, 1400), [], [])
theorem w6 : vrf GG [] [] 300 0 g6
  (uK (uC kN3 (uE kI0 (Int.ofNat (nat_lit 1399)) (uE kI0 kI1400 uE0)) (uA kN0 (rA kI2) (uA kN1 (uis kN0) (uA kN2 (uic kI48) (uA kN3 (uic kI57) (uA kN4 (uis kN1) uA0))))) uS0 uO0 kI168112 (uL kJ120 kN1 uL0))
  uK0) = true := by decide +kernel
theorem r6 {l : Launch} {D : va_G} {tys : List (ClassId × FieldType)} {A : Nat → Prop} {ad : Nat → Nat} (hAD : ∀ i : Nat, ad (1000 + i) = D.2 1000 i) : CRok l D tys A ad GG 1 g6 := CR_of_vrf (dep := 0) hAD (fun c hc => by cases hc) T2OK_nil w6
noncomputable def g7 : CR := (189, [(2, 2, 2), (0, 0, 1399), (0, 97, 97), (0, 122, 122)], [], some (0, 0, 1400), [], [])
theorem w7 : vrf GG [] [] 300 0 g7
  (uK (uC kN3 (uE kI0 (Int.ofNat (nat_lit 1399)) (uE kI0 kI1400 uE0)) (uA kN0 (rA kI2) (uA kN1 (uis kN0) (uA kN2 (uic kI97) (uA kN3 (uic kI122) (uA kN4 (uis kN1) uA0))))) uS0 uO0 kI168112 (uL kJ120 kN1 uL0))
  uK0) = true := by decide +kernel
theorem r7 {l : Launch} {D : va_G} {tys : List (ClassId × FieldType)} {A : Nat → Prop} {ad : Nat → Nat} (hAD : ∀ i : Nat, ad (1000 + i) = D.2 1000 i) : CRok l D tys A ad GG 1 g7 := CR_of_vrf (dep := 0) hAD (fun c hc => by cases hc) T2OK_nil w7
noncomputable def g8 : CR := (189, [(2, 2, 2), (0, 1, 1398), (0, 48, 48), (0, 57, 57)], [], some (0, 1, 1400), [], [])
theorem w8 : vrf GG [] [] 300 0 g8
  (uK (uC kN3 (uE kI1 (Int.ofNat (nat_lit 1398)) (uE kI1 kI1400 uE0)) (uA kN0 (rA kI2) (uA kN1 (uis kN0) (uA kN2 (uic kI48) (uA kN3 (uic kI57) (uA kN4 (uis kN1) uA0))))) uS0 uO0 kI168112 (uL kJ120 kN1 uL0))
  uK0) = true := by decide +kernel
noncomputable def g9 : CR := (189, [(2, 2, 2), (0, 1, 1398), (0, 97, 97), (0, 122, 122)], [], some (0, 1, 1400), [], [])
theorem w9 : vrf GG [] [] 300 0 g9
  (uK (uC kN3 (uE kI1 (Int.ofNat (nat_lit 1398)) (uE kI1 kI1400 uE0)) (uA kN0 (rA kI2) (uA kN1 (uis kN0) (uA kN2 (uic kI97) (uA kN3 (uic kI122) (uA kN4 (uis kN1) uA0))))) uS0 uO0 kI168112 (uL kJ120 kN1 uL0))
  uK0) = true := by decide +kernel
theorem r9 {l : Launch} {D : va_G} {tys : List (ClassId × FieldType)} {A : Nat → Prop} {ad : Nat → Nat} (hAD : ∀ i : Nat, ad (1000 + i) = D.2 1000 i) : CRok l D tys A ad GG 1 g9 := CR_of_vrf (dep := 0) hAD (fun c hc => by cases hc) T2OK_nil w9
noncomputable def g11 : CR := (190, [(2, 2, 2), (0, 1, 1400)], [], some (0, (-2147483648), 2147483647), [], [])
noncomputable def g66 : CR := (149, [(2, 34, 34), (0, 0, 0)], [], none, [], [34])
theorem w66 : vrf GG [] [] 300 0 g66
  (uK (uC kN2 (uE kI0 kI12 uE0) (uA kN0 (rA kI34) (uA kN1 (uic kI0) (uA kN2 (uis kN0) uA0))) uS0 uO0 (Int.ofNat (nat_lit 540)) (uL kJ42 kN0 uL0))
  uK0) = true := by decide +kernel
theorem r66 {l : Launch} {D : va_G} {tys : List (ClassId × FieldType)} {A : Nat → Prop} {ad : Nat → Nat} (hAD : ∀ i : Nat, ad (1000 + i) = D.2 1000 i) : CRok l D tys A ad GG 1 g66 := CR_of_vrf (dep := 0) hAD (fun c hc => by cases hc) T2OK_nil w66
noncomputable def g67 : CR := (149, [(2, 35, 35), (0, 0, 0)], [], none, [], [35])
theorem w67 : vrf GG [] [] 300 0 g67
  (uK (uC kN2 (uE kI0 kI12 uE0) (uA kN0 (rA kI35) (uA kN1 (uic kI0) (uA kN2 (uis kN0) uA0))) uS0 uO0 (Int.ofNat (nat_lit 540)) (uL kJ42 kN0 uL0))
  uK0) = true := by decide +kernel
theorem r67 {l : Launch} {D : va_G} {tys : List (ClassId × FieldType)} {A : Nat → Prop} {ad : Nat → Nat} (hAD : ∀ i : Nat, ad (1000 + i) = D.2 1000 i) : CRok l D tys A ad GG 1 g67 := CR_of_vrf (dep := 0) hAD (fun c hc => by cases hc) T2OK_nil w67
noncomputable def g68 : CR := (92, [(2, 28, 28), (2, 4, 4), (0, (-2147483648), (-1)), (0, 0, 0)], [], some (0, 0, 0), [], [])
theorem w68 : vrf GG [] [] 300 1 g68
  (uK (uC kN28 (uE kJ2147483648 kJ1 (uE kI0 kI6 uE0)) (uA kN0 (rA kI28) (uA kN1 (rA kI4) (uA kN2 (uis kN0) (uA kN3 (uic kI0) (uA kN4 (uic kI0) (uA kN5 (uic kI1) (uA kN6 (uic kI0) (uA kN7 (uis kN1) uA0)))))))) uS0 uO0 kI1426 (uL kJ212 kN1 uL0))
  (uK (uC kN95 (uE kJ2147483648 kJ1 (uE kI0 kI5 (uE kI1 kI6 uE0))) (uA kN0 (rA kI28) (uA kN1 (rA kI4) (uA kN2 (uis kN0) (uA kN3 (uic kI0) (uA kN4 (uic kI0) (uA kN5 (uic kI1) (uA kN6 (uic kI0) (uA kN7 (uis kN1) uA0)))))))) uS0 (uO kN4 kN4 (uis kN2) uO0) kI1359 (uL kJ212 kN1 uL0))
  uK0)) = true := by decide +kernel
theorem r68 {l : Launch} {D : va_G} {tys : List (ClassId × FieldType)} {A : Nat → Prop} {ad : Nat → Nat} (hAD : ∀ i : Nat, ad (1000 + i) = D.2 1000 i) : CRok l D tys A ad GG 2 g68 := CR_of_vrf (dep := 1) hAD (fun c hc => by cases hc) T2OK_nil w68
noncomputable def g69 : CR := (92, [(2, 28, 28), (2, 4, 4), (0, 0, 11), (0, (-2147483648), 2147483647)], [], some (0, 0, 63), [], [31])
theorem w69 : vrf GG [] [] 708 2 g69
  (uK (uC kN28 (uE kI0 kI11 (uE kJ2147483648 kI2147483647 (uE kJ2147483648 kI2147483647 (uE kJ2147483648 kI2147483647 (uE kI0 kI63 (uE kI0 kI6 uE0)))))) (uA kN0 (rA kI28) (uA kN1 (rA kI4) (uA kN2 (uis kN0) (uA kN3 (uis kN1) (uA kN4 (uis kN2) (uA kN5 (uis kN3) (uA kN6 (uis kN4) (uA kN7 (uis kN5) uA0)))))))) uS0 uO0 kI1426 (uL kJ212 kN5 uL0))
  (uK (uC kN95 (uE kI0 kI11 (uE kJ2147483648 kI2147483647 (uE kJ2147483648 kI2147483647 (uE kJ2147483648 kI2147483647 (uE kI0 kI63 (uE kI0 kI5 (uE kI1 kI6 uE0))))))) (uA kN0 (rA kI28) (uA kN1 (rA kI4) (uA kN2 (uis kN0) (uA kN3 (uis kN1) (uA kN4 (uis kN2) (uA kN5 (uis kN3) (uA kN6 (uis kN4) (uA kN7 (uis kN5) uA0)))))))) uS0 (uO kN4 kN4 (uis kN6) uO0) kI1359 (uL kJ212 kN5 uL0))
  uK0)) = true := by decide +kernel
theorem r69 {l : Launch} {D : va_G} {tys : List (ClassId × FieldType)} {A : Nat → Prop} {ad : Nat → Nat} (hAD : ∀ i : Nat, ad (1000 + i) = D.2 1000 i) : CRok l D tys A ad GG 3 g69 := CR_of_vrf (dep := 2) hAD (fun c hc => by cases hc) T2OK_nil w69
noncomputable def g70 : CR := (92, [(2, 28, 28), (2, 4, 4), (0, 12, 2147483647), (0, 0, 0)], [], some (0, 0, 0), [], [])
theorem w70 : vrf GG [] [] 300 1 g70
  (uK (uC kN28 (uE kI12 kI2147483647 (uE kI0 kI6 uE0)) (uA kN0 (rA kI28) (uA kN1 (rA kI4) (uA kN2 (uis kN0) (uA kN3 (uic kI0) (uA kN4 (uic kI0) (uA kN5 (uic kI1) (uA kN6 (uic kI0) (uA kN7 (uis kN1) uA0)))))))) uS0 uO0 kI1426 (uL kJ212 kN1 uL0))
  (uK (uC kN95 (uE kI12 kI2147483647 (uE kI0 kI5 (uE kI1 kI6 uE0))) (uA kN0 (rA kI28) (uA kN1 (rA kI4) (uA kN2 (uis kN0) (uA kN3 (uic kI0) (uA kN4 (uic kI0) (uA kN5 (uic kI1) (uA kN6 (uic kI0) (uA kN7 (uis kN1) uA0)))))))) uS0 (uO kN4 kN4 (uis kN2) uO0) kI1359 (uL kJ212 kN1 uL0))
  uK0)) = true := by decide +kernel
theorem r70 {l : Launch} {D : va_G} {tys : List (ClassId × FieldType)} {A : Nat → Prop} {ad : Nat → Nat} (hAD : ∀ i : Nat, ad (1000 + i) = D.2 1000 i) : CRok l D tys A ad GG 2 g70 := CR_of_vrf (dep := 1) hAD (fun c hc => by cases hc) T2OK_nil w70
noncomputable def g71 : CR := (174, [(2, 32, 32), (2, 4, 4), (2, 28, 28), (0, (-2147483648), 2147483647)], [], none, [], [31, 32, 34, 35])
theorem w71 : vrf GG [(2, g70), (2, g68), (3, g69)] [] 654 3 g71
  [] = true := by decide +kernel
theorem r71 {l : Launch} {D : va_G} {tys : List (ClassId × FieldType)} {A : Nat → Prop} {ad : Nat → Nat} (hAD : ∀ i : Nat, ad (1000 + i) = D.2 1000 i) : CRok l D tys A ad GG 4 g71 := CR_of_vrf (dep := 3) hAD (List.forall_mem_cons.mpr ⟨r70 hAD, List.forall_mem_cons.mpr ⟨r68 hAD, List.forall_mem_cons.mpr ⟨r69 hAD, fun c hc => by cases hc⟩⟩⟩) T2OK_nil w71
noncomputable def g72 : CR := (175, [(2, 32, 32), (2, 28, 28), (0, 0, 0)], [], none, [], [33])
theorem w72 : vrf GG [] [] 300 2 g72
  (uK (uC kN2 (uE kI0 kI6 uE0) (uA kN0 (rA kI32) (uA kN1 (rA kI28) (uA kN2 (uic kI0) (uA kN3 (uis kN0) uA0)))) uS0 uO0 (Int.ofNat (nat_lit 7428)) (uL kJ1062 kN0 uL0))
  (uK (uC kN11 (uE kI0 kI5 (uE kI0 kI6 uE0)) (uA kN0 (rA kI32) (uA kN1 (rA kI28) (uA kN2 (uic kI0) (uA kN3 (uis kN0) (uA kN4 (uis kN1) uA0))))) uS0 uO0 (Int.ofNat (nat_lit 7230)) (uL kJ118 kN1 (uL kJ1062 kN0 uL0)))
  uK0)) = true := by decide +kernel
theorem r72 {l : Launch} {D : va_G} {tys : List (ClassId × FieldType)} {A : Nat → Prop} {ad : Nat → Nat} (hAD : ∀ i : Nat, ad (1000 + i) = D.2 1000 i) : CRok l D tys A ad GG 3 g72 := CR_of_vrf (dep := 2) hAD (fun c hc => by cases hc) T2OK_nil w72
noncomputable def g73 : CR := (175, [(2, 32, 32), (2, 28, 28), (0, 1, 24)], [], none, [], [33])
theorem w73 : vrf GG [] [] 300 2 g73
  (uK (uC kN2 (uE kI1 kI24 (uE kI0 kI6 uE0)) (uA kN0 (rA kI32) (uA kN1 (rA kI28) (uA kN2 (uis kN0) (uA kN3 (uis kN1) uA0)))) uS0 uO0 (Int.ofNat (nat_lit 7428)) (uL kJ1062 kN1 uL0))
  (uK (uC kN11 (uE kI1 kI24 (uE kI0 kI5 (uE kI0 kI6 uE0))) (uA kN0 (rA kI32) (uA kN1 (rA kI28) (uA kN2 (uis kN0) (uA kN3 (uis kN1) (uA kN4 (uis kN2) uA0))))) uS0 uO0 (Int.ofNat (nat_lit 7230)) (uL kJ118 kN2 (uL kJ1062 kN1 uL0)))
  uK0)) = true := by decide +kernel
theorem r73 {l : Launch} {D : va_G} {tys : List (ClassId × FieldType)} {A : Nat → Prop} {ad : Nat → Nat} (hAD : ∀ i : Nat, ad (1000 + i) = D.2 1000 i) : CRok l D tys A ad GG 3 g73 := CR_of_vrf (dep := 2) hAD (fun c hc => by cases hc) T2OK_nil w73
noncomputable def g74 : CR := (150, [(2, 11, 11), (2, 31, 31)], [], none, [], [31])
theorem w74 : vrf GG [] [] 300 0 g74
  (uK (uC kN2 (uE kI0 kI36 uE0) (uA kN0 (rA kI11) (uA kN1 (rA kI31) (uA kN2 (uis kN0) uA0))) uS0 uO0 kI2140 (uL kJ58 kN0 uL0))
  uK0) = true := by decide +kernel
theorem r74 {l : Launch} {D : va_G} {tys : List (ClassId × FieldType)} {A : Nat → Prop} {ad : Nat → Nat} (hAD : ∀ i : Nat, ad (1000 + i) = D.2 1000 i) : CRok l D tys A ad GG 1 g74 := CR_of_vrf (dep := 0) hAD (fun c hc => by cases hc) T2OK_nil w74
noncomputable def g75 : CR := (87, [(2, 28, 28), (2, 4, 4)], [], none, [], [31])
theorem w75 : vrf GG [(1, g74)] [] 300 2 g75
  (uK (uC kN13 (uE kI0 kI6 uE0) (uA kN0 (rA kI28) (uA kN1 (rA kI4) (uA kN2 (uis kN0) uA0))) uS0 uO0 kI644 (uL kJ96 kN0 uL0))
  uK0) = true := by decide +kernel
theorem r75 {l : Launch} {D : va_G} {tys : List (ClassId × FieldType)} {A : Nat → Prop} {ad : Nat → Nat} (hAD : ∀ i : Nat, ad (1000 + i) = D.2 1000 i) : CRok l D tys A ad GG 3 g75 := CR_of_vrf (dep := 2) hAD (List.forall_mem_cons.mpr ⟨r74 hAD, fun c hc => by cases hc⟩) T2OK_nil w75
noncomputable def g76 : CR := (173, [(2, 32, 32), (2, 4, 4), (2, 28, 28)], [], none, [], [31, 32, 33, 34, 35])
theorem w76 : vrf GG [(3, g75), (1, g66), (1, g67), (4, g71), (3, g72), (3, g73)] [] 300 4 g76
  (uK (uC kN37 (uE kI0 kI12 (uE kI0 kI24 uE0)) (uA kN0 (rA kI32) (uA kN1 (rA kI4) (uA kN2 (rA kI28) (uA kN3 (uis kN0) (uA kN4 (uis kN1) uA0))))) uS0 uO0 (Int.ofNat (nat_lit 79424)) (uL kJ3180 kN1 uL0))
  (uK (uC kN46 (uE kI0 kI12 (uE kI0 kI23 (uE kI1 kI24 uE0))) (uA kN0 (rA kI32) (uA kN1 (rA kI4) (uA kN2 (rA kI28) (uA kN3 (uis kN0) (uA kN4 (uis kN1) uA0))))) uS0 (uO kN4 kN3 (uis kN2) uO0) (Int.ofNat (nat_lit 79050)) (uL kJ212 kN0 (uL kJ3180 kN1 uL0)))
  (uK (uC kN88 (uE kI0 kI12 (uE kI0 kI23 (uE kI1 kI24 (uE kI0 kI12 uE0)))) (uA kN0 (rA kI32) (uA kN1 (rA kI4) (uA kN2 (rA kI28) (uA kN3 (uis kN0) (uA kN4 (uis kN1) uA0))))) uS0 (uO kN4 kN3 (uis kN2) (uO kN4 kN5 (uis kN3) uO0)) (Int.ofNat (nat_lit 76405)) (uL kJ3180 kN1 uL0))
  uK0))) = true := by decide +kernel
theorem r76 {l : Launch} {D : va_G} {tys : List (ClassId × FieldType)} {A : Nat → Prop} {ad : Nat → Nat} (hAD : ∀ i : Nat, ad (1000 + i) = D.2 1000 i) : CRok l D tys A ad GG 5 g76 := CR_of_vrf (dep := 4) hAD (List.forall_mem_cons.mpr ⟨r75 hAD, List.forall_mem_cons.mpr ⟨r66 hAD, List.forall_mem_cons.mpr ⟨r67 hAD, List.forall_mem_cons.mpr ⟨r71 hAD, List.forall_mem_cons.mpr ⟨r72 hAD, List.forall_mem_cons.mpr ⟨r73 hAD, fun c hc => by cases hc⟩⟩⟩⟩⟩⟩) T2OK_nil w76
noncomputable def g77 : CR := (86, [(2, 4, 4), (0, (-2147483648), 2147483647), (0, (-2147483648), 2147483647)], [], some (0, 0, 63), [], [])
theorem w77 : vrf GG [] [] 633 2 g77
  (uK (uC kN5 (uE kJ2147483648 kI2147483647 (uE kJ2147483648 kI2147483647 (uE kI0 kI63 (uE kI0 kI6 uE0)))) (uA kN0 (rA kI4) (uA kN1 (uis kN0) (uA kN2 (uis kN1) (uA kN3 (uis kN2) (uA kN4 (uis kN3) uA0))))) uS0 uO0 (Int.ofNat (nat_lit 730)) (uL kJ106 kN3 uL0))
  (uK (uC kN43 (uE kJ2147483648 kI2147483647 (uE kJ2147483648 kI2147483647 (uE kI0 kI63 (uE kI0 kI5 (uE kI1 kI6 uE0))))) (uA kN0 (rA kI4) (uA kN1 (uis kN0) (uA kN2 (uis kN1) (uA kN3 (uis kN2) (uA kN4 (uis kN3) uA0))))) uS0 (uO kN4 kN4 (uis kN4) uO0) kI692 (uL kJ106 kN3 uL0))
  uK0)) = true := by decide +kernel
theorem r77 {l : Launch} {D : va_G} {tys : List (ClassId × FieldType)} {A : Nat → Prop} {ad : Nat → Nat} (hAD : ∀ i : Nat, ad (1000 + i) = D.2 1000 i) : CRok l D tys A ad GG 3 g77 := CR_of_vrf (dep := 2) hAD (fun c hc => by cases hc) T2OK_nil w77
noncomputable def g78 : CR := (85, [(2, 28, 28), (2, 4, 4)], [], none, [], [29, 30])
theorem w78 : vrf GG [(3, g77)] [] 300 3 g78
  (uK (uC kN4 (uE kJ2147483648 kI2147483647 (uE kI0 kI24 uE0)) (uA kN0 (rA kI28) (uA kN1 (rA kI4) (uA kN2 (uis kN0) (uA kN3 (uis kN1) uA0)))) uS0 uO0 (Int.ofNat (nat_lit 84792)) (uL kJ3270 kN1 uL0))
  (uK (uC kN15 (uE kJ2147483648 kI2147483647 (uE kI0 kI23 (uE kI0 kI12 (uE kI1 kI24 uE0)))) (uA kN0 (rA kI28) (uA kN1 (rA kI4) (uA kN2 (uis kN0) (uA kN3 (uis kN1) (uA kN4 (uis kN2) uA0))))) uS0 (uO kN4 kN3 (uis kN3) uO0) (Int.ofNat (nat_lit 84438)) (uL kJ218 kN2 (uL kJ3270 kN1 uL0)))
  (uK (uC kN50 (uE kJ2147483648 kI2147483647 (uE kI0 kI23 (uE kI0 kI11 (uE kI1 kI24 (uE kI1 kI12 uE0))))) (uA kN0 (rA kI28) (uA kN1 (rA kI4) (uA kN2 (uis kN0) (uA kN3 (uis kN1) (uA kN4 (uis kN2) uA0))))) uS0 (uO kN4 kN3 (uis kN3) (uO kN4 kN5 (uis kN4) uO0)) (Int.ofNat (nat_lit 84403)) (uL kJ218 kN2 (uL kJ3270 kN1 uL0)))
  (uK (uC kN64 (uE kJ2147483648 kI2147483647 (uE kI0 kI12 (uE kI0 kI24 uE0))) (uA kN0 (rA kI28) (uA kN1 (rA kI4) (uA kN2 (uis kN0) (uA kN3 (uis kN1) uA0)))) uS0 (uO kN4 kN3 (uis kN2) uO0) (Int.ofNat (nat_lit 2704)) (uL kJ218 kN1 uL0))
  uK0)))) = true := by decide +kernel
theorem r78 {l : Launch} {D : va_G} {tys : List (ClassId × FieldType)} {A : Nat → Prop} {ad : Nat → Nat} (hAD : ∀ i : Nat, ad (1000 + i) = D.2 1000 i) : CRok l D tys A ad GG 4 g78 := CR_of_vrf (dep := 3) hAD (List.forall_mem_cons.mpr ⟨r77 hAD, fun c hc => by cases hc⟩) T2OK_nil w78
noncomputable def g92 : CR := (10, [(2, 0, 0), (0, (-2147483648), 2147483647), (0, (-2147483648), 2147483647)], [], some (0, (-2147483648), 2147483647), [], [])
theorem w92 : vrf GG [] [] 300 2 g92
  [] = true := by decide +kernel
theorem r92 {l : Launch} {D : va_G} {tys : List (ClassId × FieldType)} {A : Nat → Prop} {ad : Nat → Nat} (hAD : ∀ i : Nat, ad (1000 + i) = D.2 1000 i) : CRok l D tys A ad GG 3 g92 := CR_of_vrf (dep := 2) hAD (fun c hc => by cases hc) T2OK_nil w92
noncomputable def g93 : CR := (248, [(2, 90, 90), (0, (-2147483648), 2147483647), (0, (-2147483648), 2147483647)], [], some (0, (-2), 63), [], [])
theorem w93 : vrf GG [] [] 300 2 g93
  [] = true := by decide +kernel
theorem r93 {l : Launch} {D : va_G} {tys : List (ClassId × FieldType)} {A : Nat → Prop} {ad : Nat → Nat} (hAD : ∀ i : Nat, ad (1000 + i) = D.2 1000 i) : CRok l D tys A ad GG 3 g93 := CR_of_vrf (dep := 2) hAD (fun c hc => by cases hc) T2OK_nil w93
noncomputable def g94 : CR := (11, [(2, 0, 0), (0, (-2147483648), 2147483647), (0, (-2147483648), 2147483647), (0, (-2147483648), 2147483647)], [], some (0, (-2147483648), 2147483647), [], [])
theorem w94 : vrf GG [] [] 300 2 g94
  [] = true := by decide +kernel
theorem r94 {l : Launch} {D : va_G} {tys : List (ClassId × FieldType)} {A : Nat → Prop} {ad : Nat → Nat} (hAD : ∀ i : Nat, ad (1000 + i) = D.2 1000 i) : CRok l D tys A ad GG 3 g94 := CR_of_vrf (dep := 2) hAD (fun c hc => by cases hc) T2OK_nil w94
noncomputable def g95 : CR := (236, [(2, 90, 90), (0, 0, 11)], [], none, [], [90, 99, 100, 101])
theorem w95 : vrf GG [] [] 544 2 g95
  (uK (uC kN77 (uE kI0 kI11 (uE kI0 kI5 (uE kI0 kI5 (uE kI0 kI5 (uE kI0 kI23 (uE kI0 kI6 (uE kJ2147483648 kI2147483647 (uE kJ2147483648 kI2147483647 uE0)))))))) (uA kN0 (rA kI90) (uA kN1 (uis kN0) (uA kN2 (uis kN1) (uA kN3 (uis kN2) (uA kN4 (uis kN3) (uA kN5 (uis kN4) (uA kN6 (uis kN5) uA0))))))) uS0 (uO kN90 kN18 (uis kN6) (uO kN90 kN21 (uis kN7) uO0)) (Int.ofNat (nat_lit 2686)) (uL kJ406 kN5 uL0))
  (uK (uC kN173 (uE kI0 kI11 (uE kI0 kI5 (uE kI0 kI5 (uE kI0 kI5 (uE kI0 kI23 (uE kI0 kI5 (uE kI0 kI32 (uE kI0 kI63 (uE kI0 kI11 (uE kJ2147483648 kI2147483647 (uE kJ2147483648 kI2147483647 (uE kI0 kI1 (uE kI1 kI6 uE0))))))))))))) (uA kN0 (rA kI90) (uA kN1 (uis kN0) (uA kN2 (uis kN1) (uA kN3 (uis kN2) (uA kN4 (uis kN3) (uA kN5 (uis kN4) (uA kN6 (uis kN5) uA0))))))) (uS (uis kN6) (uS (uis kN7) (uS (uis kN8) (uS (rA kI101) uS0)))) (uO kN90 kN18 (uis kN9) (uO kN90 kN21 (uis kN10) (uO kN90 kN24 (uis kN11) (uO kN91 kN3 (uis kN12) uO0)))) (Int.ofNat (nat_lit 2590)) (uL kJ406 kN5 uL0))
  (uK (uC kN194 (uE kI0 kI11 (uE kI0 kI5 (uE kI0 kI5 (uE kI0 kI5 (uE kI0 kI23 (uE kI0 kI5 (uE kJ2147483648 kI2147483647 (uE kJ2147483648 kI2147483647 (uE kI1 kI6 uE0))))))))) (uA kN0 (rA kI90) (uA kN1 (uis kN0) (uA kN2 (uis kN1) (uA kN3 (uis kN2) (uA kN4 (uis kN3) (uA kN5 (uis kN4) (uA kN6 (uis kN5) uA0))))))) uS0 (uO kN90 kN18 (uis kN6) (uO kN90 kN21 (uis kN7) (uO kN91 kN3 (uis kN8) uO0))) (Int.ofNat (nat_lit 2569)) (uL kJ406 kN5 uL0))
  uK0))) = true := by decide +kernel
theorem r95 {l : Launch} {D : va_G} {tys : List (ClassId × FieldType)} {A : Nat → Prop} {ad : Nat → Nat} (hAD : ∀ i : Nat, ad (1000 + i) = D.2 1000 i) : CRok l D tys A ad GG 3 g95 := CR_of_vrf (dep := 2) hAD (fun c hc => by cases hc) T2OK_nil w95
noncomputable def g96 : CR := (237, [(2, 90, 90)], [], none, [], [90, 98, 99, 100, 101])
theorem w96 : vrf GG [(3, g95)] [] 300 3 g96
  (uK (uC kN7 (uE kI0 kI12 uE0) (uA kN0 (rA kI90) (uA kN1 (uis kN0) uA0)) uS0 (uO kN90 kN18 (uic kI0) uO0) (Int.ofNat (nat_lit 566968)) (uL kJ374 kN0 uL0))
  (uK (uC kN35 (uE kI0 kI6 uE0) (uA kN0 (rA kI90) (uA kN1 (uis kN0) uA0)) uS0 (uO kN90 kN18 (uic kI0) uO0) (Int.ofNat (nat_lit 558684)) (uL kJ3366 kN0 uL0))
  (uK (uC kN43 (uE kI0 kI5 (uE kI0 kI6 uE0)) (uA kN0 (rA kI90) (uA kN1 (uis kN0) (uA kN2 (uis kN1) uA0))) uS0 (uO kN90 kN18 (uic kI0) uO0) (Int.ofNat (nat_lit 558071)) (uL kJ374 kN1 (uL kJ3366 kN0 uL0)))
  (uK (uC kN86 (uE kI0 kI5 (uE kI0 kI5 (uE kI0 kI63 (uE kI0 kI35 uE0)))) (uA kN0 (rA kI90) (uA kN1 (uis kN0) (uA kN2 (uis kN1) uA0))) (uS (uis kN2) (uS (uis kN3) (uS (rA kI99) uS0))) (uO kN90 kN18 (uic kI0) uO0) (Int.ofNat (nat_lit 558028)) (uL kJ374 kN1 (uL kJ3366 kN0 uL0)))
  (uK (uC kN101 (uE kI0 kI25 uE0) (uA kN0 (rA kI90) (uA kN1 (uis kN0) uA0)) uS0 uO0 (Int.ofNat (nat_lit 515168)) (uL kJ19822 kN0 uL0))
  (uK (uC kN113 (uE kI0 kI24 (uE kI0 kI36 (uE kI0 kI24 uE0))) (uA kN0 (rA kI90) (uA kN1 (uis kN0) (uA kN2 (uis kN1) uA0))) uS0 (uO kN91 kN2 (uis kN2) uO0) (Int.ofNat (nat_lit 514481)) (uL kJ374 kN1 (uL kJ19822 kN0 uL0)))
  (uK (uC kN147 (uE kI0 kI24 (uE kI0 kI12 (uE kI0 kI24 uE0))) (uA kN0 (rA kI90) (uA kN1 (uis kN0) (uA kN2 (uis kN1) uA0))) uS0 (uO kN91 kN2 (uis kN2) uO0) (Int.ofNat (nat_lit 500201)) (uL kJ374 kN1 (uL kJ19822 kN0 uL0)))
  (uK (uC kN172 (uE kI0 kI24 (uE kI0 kI11 (uE kI0 kI24 (uE kI1 kI12 uE0)))) (uA kN0 (rA kI90) (uA kN1 (uis kN0) (uA kN2 (uis kN1) uA0))) uS0 (uO kN91 kN2 (uis kN2) (uO kN91 kN4 (uis kN3) uO0)) (Int.ofNat (nat_lit 500176)) (uL kJ374 kN1 (uL kJ19822 kN0 uL0)))
  uK0)))))))) = true := by decide +kernel
theorem r96 {l : Launch} {D : va_G} {tys : List (ClassId × FieldType)} {A : Nat → Prop} {ad : Nat → Nat} (hAD : ∀ i : Nat, ad (1000 + i) = D.2 1000 i) : CRok l D tys A ad GG 4 g96 := CR_of_vrf (dep := 3) hAD (List.forall_mem_cons.mpr ⟨r95 hAD, fun c hc => by cases hc⟩) T2OK_nil w96
noncomputable def g97 : CR := (249, [(2, 90, 90), (0, (-2147483648), 2147483647), (0, (-2147483648), 2147483647), (0, (-2147483648), 2147483647)], [], some (0, (-2), 63), [], [90, 98, 99, 100, 101])
theorem w97 : vrf GG [(4, g96)] [] 300 5 g97
  [] = true := by decide +kernel
theorem r97 {l : Launch} {D : va_G} {tys : List (ClassId × FieldType)} {A : Nat → Prop} {ad : Nat → Nat} (hAD : ∀ i : Nat, ad (1000 + i) = D.2 1000 i) : CRok l D tys A ad GG 6 g97 := CR_of_vrf (dep := 5) hAD (List.forall_mem_cons.mpr ⟨r96 hAD, fun c hc => by cases hc⟩) T2OK_nil w97
noncomputable def g98 : CR := (12, [(2, 0, 0), (0, (-2147483648), 2147483647)], [], some (0, (-2), 1), [], [])
theorem w98 : vrf GG [] [] 300 1 g98
  [] = true := by decide +kernel
theorem r98 {l : Launch} {D : va_G} {tys : List (ClassId × FieldType)} {A : Nat → Prop} {ad : Nat → Nat} (hAD : ∀ i : Nat, ad (1000 + i) = D.2 1000 i) : CRok l D tys A ad GG 2 g98 := CR_of_vrf (dep := 1) hAD (fun c hc => by cases hc) T2OK_nil w98
noncomputable def g99 : CR := (250, [(2, 90, 90), (0, (-2147483648), 2147483647)], [], some (0, (-2), 1), [], [90, 98, 99, 100, 101])
theorem w99 : vrf GG [(4, g96)] [] 300 5 g99
  [] = true := by decide +kernel
theorem r99 {l : Launch} {D : va_G} {tys : List (ClassId × FieldType)} {A : Nat → Prop} {ad : Nat → Nat} (hAD : ∀ i : Nat, ad (1000 + i) = D.2 1000 i) : CRok l D tys A ad GG 6 g99 := CR_of_vrf (dep := 5) hAD (List.forall_mem_cons.mpr ⟨r96 hAD, fun c hc => by cases hc⟩) T2OK_nil w99
noncomputable def g100 : CR := (13, [(2, 0, 0), (0, (-2147483648), 2147483647)], [], some (0, (-2147483648), 2147483647), [], [])
theorem w100 : vrf GG [] [] 300 1 g100
  [] = true := by decide +kernel
theorem r100 {l : Launch} {D : va_G} {tys : List (ClassId × FieldType)} {A : Nat → Prop} {ad : Nat → Nat} (hAD : ∀ i : Nat, ad (1000 + i) = D.2 1000 i) : CRok l D tys A ad GG 2 g100 := CR_of_vrf (dep := 1) hAD (fun c hc => by cases hc) T2OK_nil w100
noncomputable def g101 : CR := (251, [(2, 90, 90), (0, (-2147483648), 2147483647)], [], some (0, (-2), 63), [], [90, 98, 99, 100, 101])
theorem w101 : vrf GG [(4, g96)] [] 300 5 g101
  [] = true := by decide +kernel
theorem r101 {l : Launch} {D : va_G} {tys : List (ClassId × FieldType)} {A : Nat → Prop} {ad : Nat → Nat} (hAD : ∀ i : Nat, ad (1000 + i) = D.2 1000 i) : CRok l D tys A ad GG 6 g101 := CR_of_vrf (dep := 5) hAD (List.forall_mem_cons.mpr ⟨r96 hAD, fun c hc => by cases hc⟩) T2OK_nil w101
noncomputable def g102 : CR := (14, [(2, 0, 0), (0, (-2147483648), 2147483647)], [], some (0, (-2147483648), 2147483647), [], [])
theorem w102 : vrf GG [] [] 300 1 g102
  [] = true := by decide +kernel
theorem r102 {l : Launch} {D : va_G} {tys : List (ClassId × FieldType)} {A : Nat → Prop} {ad : Nat → Nat} (hAD : ∀ i : Nat, ad (1000 + i) = D.2 1000 i) : CRok l D tys A ad GG 2 g102 := CR_of_vrf (dep := 1) hAD (fun c hc => by cases hc) T2OK_nil w102
noncomputable def g103 : CR := (252, [(2, 90, 90), (0, (-2147483648), 2147483647)], [], some (0, (-2), 63), [], [90, 98, 99, 100, 101])
theorem w103 : vrf GG [(4, g96)] [] 300 5 g103
  [] = true := by decide +kernel
theorem r103 {l : Launch} {D : va_G} {tys : List (ClassId × FieldType)} {A : Nat → Prop} {ad : Nat → Nat} (hAD : ∀ i : Nat, ad (1000 + i) = D.2 1000 i) : CRok l D tys A ad GG 6 g103 := CR_of_vrf (dep := 5) hAD (List.forall_mem_cons.mpr ⟨r96 hAD, fun c hc => by cases hc⟩) T2OK_nil w103
noncomputable def g104 : CR := (178, [(2, 32, 32), (2, 4, 4), (0, 0, 5), (0, 0, 5)], [], some (0, (-1), 24), [], [])
theorem w104 : vrf GG [] [] 300 3 g104
  (uK (uC kN3 (uE kI0 kI5 (uE kI0 kI5 (uE kI0 kI25 uE0))) (uA kN0 (rA kI32) (uA kN1 (rA kI4) (uA kN2 (uis kN0) (uA kN3 (uis kN1) (uA kN4 (uis kN2) uA0))))) uS0 uO0 (Int.ofNat (nat_lit 1916)) (uL kJ74 kN2 uL0))
  uK0) = true := by decide +kernel
theorem r104 {l : Launch} {D : va_G} {tys : List (ClassId × FieldType)} {A : Nat → Prop} {ad : Nat → Nat} (hAD : ∀ i : Nat, ad (1000 + i) = D.2 1000 i) : CRok l D tys A ad GG 4 g104 := CR_of_vrf (dep := 3) hAD (fun c hc => by cases hc) T2OK_nil w104
noncomputable def g105 : CR := (15, [(2, 0, 0), (0, (-2147483648), 2147483647), (0, (-2147483648), 2147483647)], [], some (0, (-3), 23), [], [])
theorem w105 : vrf GG [(4, g104)] [] 300 4 g105
  [] = true := by decide +kernel
theorem r105 {l : Launch} {D : va_G} {tys : List (ClassId × FieldType)} {A : Nat → Prop} {ad : Nat → Nat} (hAD : ∀ i : Nat, ad (1000 + i) = D.2 1000 i) : CRok l D tys A ad GG 5 g105 := CR_of_vrf (dep := 4) hAD (List.forall_mem_cons.mpr ⟨r104 hAD, fun c hc => by cases hc⟩) T2OK_nil w105
noncomputable def g106 : CR := (253, [(2, 90, 90), (0, 0, 5), (0, 0, 5)], [], some (0, (-3), 23), [], [])
theorem w106 : vrf GG [] [] 300 3 g106
  (uK (uC kN2 (uE kI0 kI5 (uE kI0 kI5 (uE kI0 kI25 uE0))) (uA kN0 (rA kI90) (uA kN1 (uis kN0) (uA kN2 (uis kN1) (uA kN3 (uis kN2) uA0)))) uS0 uO0 (Int.ofNat (nat_lit 2334)) (uL kJ90 kN2 uL0))
  (uK (uC kN34 (uE kI0 kI5 (uE kI0 kI5 (uE kI0 kI24 (uE kJ3 kI23 (uE kI0 kI24 uE0))))) (uA kN0 (rA kI90) (uA kN1 (uis kN0) (uA kN2 (uis kN1) (uA kN3 (uis kN2) uA0)))) (uS (uis kN3) uS0) (uO kN91 kN2 (uis kN4) uO0) (Int.ofNat (nat_lit 2302)) (uL kJ90 kN2 uL0))
  uK0)) = true := by decide +kernel
theorem r106 {l : Launch} {D : va_G} {tys : List (ClassId × FieldType)} {A : Nat → Prop} {ad : Nat → Nat} (hAD : ∀ i : Nat, ad (1000 + i) = D.2 1000 i) : CRok l D tys A ad GG 4 g106 := CR_of_vrf (dep := 3) hAD (fun c hc => by cases hc) T2OK_nil w106
noncomputable def g107 : CR := (254, [(2, 90, 90), (0, (-2147483648), 2147483647), (0, (-2147483648), 2147483647)], [], some (0, (-3), 23), [], [90, 98, 99, 100, 101])
theorem w107 : vrf GG [(4, g96), (4, g106)] [] 300 5 g107
  [] = true := by decide +kernel
theorem r107 {l : Launch} {D : va_G} {tys : List (ClassId × FieldType)} {A : Nat → Prop} {ad : Nat → Nat} (hAD : ∀ i : Nat, ad (1000 + i) = D.2 1000 i) : CRok l D tys A ad GG 6 g107 := CR_of_vrf (dep := 5) hAD (List.forall_mem_cons.mpr ⟨r96 hAD, List.forall_mem_cons.mpr ⟨r106 hAD, fun c hc => by cases hc⟩⟩) T2OK_nil w107
noncomputable def g108 : CR := (179, [(2, 32, 32), (2, 4, 4), (0, 0, 5), (0, 1, 24)], [], some (0, 0, 63), [], [])
theorem w108 : vrf GG [] [] 300 3 g108
  (uK (uC kN6 (uE kI0 kI5 (uE kI1 kI24 (uE kI0 kI63 (uE kI0 kI6 uE0)))) (uA kN0 (rA kI32) (uA kN1 (rA kI4) (uA kN2 (uis kN0) (uA kN3 (uis kN1) (uA kN4 (uis kN2) (uA kN5 (uis kN3) uA0)))))) uS0 uO0 (Int.ofNat (nat_lit 728)) (uL kJ106 kN3 uL0))
  (uK (uC kN42 (uE kI0 kI5 (uE kI1 kI24 (uE kI0 kI63 (uE kI0 kI5 (uE kI1 kI6 uE0))))) (uA kN0 (rA kI32) (uA kN1 (rA kI4) (uA kN2 (uis kN0) (uA kN3 (uis kN1) (uA kN4 (uis kN2) (uA kN5 (uis kN3) uA0)))))) uS0 (uO kN4 kN4 (uis kN4) uO0) kI692 (uL kJ106 kN3 uL0))
  uK0)) = true := by decide +kernel
theorem r108 {l : Launch} {D : va_G} {tys : List (ClassId × FieldType)} {A : Nat → Prop} {ad : Nat → Nat} (hAD : ∀ i : Nat, ad (1000 + i) = D.2 1000 i) : CRok l D tys A ad GG 4 g108 := CR_of_vrf (dep := 3) hAD (fun c hc => by cases hc) T2OK_nil w108
noncomputable def g109 : CR := (16, [(2, 0, 0), (0, (-2147483648), 2147483647), (0, (-2147483648), 2147483647)], [], some (0, (-2), 63), [], [])
theorem w109 : vrf GG [(4, g108)] [] 300 4 g109
  [] = true := by decide +kernel
theorem r109 {l : Launch} {D : va_G} {tys : List (ClassId × FieldType)} {A : Nat → Prop} {ad : Nat → Nat} (hAD : ∀ i : Nat, ad (1000 + i) = D.2 1000 i) : CRok l D tys A ad GG 5 g109 := CR_of_vrf (dep := 4) hAD (List.forall_mem_cons.mpr ⟨r108 hAD, fun c hc => by cases hc⟩) T2OK_nil w109
noncomputable def g110 : CR := (255, [(2, 90, 90), (0, 0, 5), (0, 0, 23)], [], some (0, 0, 63), [], [])
theorem w110 : vrf GG [] [] 300 3 g110
  (uK (uC kN5 (uE kI0 kI5 (uE kI0 kI23 (uE kI0 kI63 (uE kI0 kI6 uE0)))) (uA kN0 (rA kI90) (uA kN1 (uis kN0) (uA kN2 (uis kN1) (uA kN3 (uis kN2) (uA kN4 (uis kN3) uA0))))) uS0 uO0 (Int.ofNat (nat_lit 772)) (uL kJ112 kN3 uL0))
  (uK (uC kN43 (uE kI0 kI5 (uE kI0 kI23 (uE kI0 kI63 (uE kI0 kI5 (uE kI0 kI63 (uE kI1 kI6 uE0)))))) (uA kN0 (rA kI90) (uA kN1 (uis kN0) (uA kN2 (uis kN1) (uA kN3 (uis kN2) (uA kN4 (uis kN3) uA0))))) (uS (uis kN4) uS0) (uO kN91 kN3 (uis kN5) uO0) (Int.ofNat (nat_lit 734)) (uL kJ112 kN3 uL0))
  (uK (uC kN44 (uE kI0 kI5 (uE kI0 kI23 (uE kI0 kI63 (uE kI0 kI5 (uE kI0 kI32 (uE kI0 kI63 (uE kI1 kI6 uE0))))))) (uA kN0 (rA kI90) (uA kN1 (uis kN0) (uA kN2 (uis kN1) (uA kN3 (uis kN2) (uA kN4 (uis kN3) uA0))))) (uS (uis kN4) (uS (uis kN5) uS0)) (uO kN91 kN3 (uis kN6) uO0) (Int.ofNat (nat_lit 733)) (uL kJ112 kN3 uL0))
  uK0))) = true := by decide +kernel
theorem r110 {l : Launch} {D : va_G} {tys : List (ClassId × FieldType)} {A : Nat → Prop} {ad : Nat → Nat} (hAD : ∀ i : Nat, ad (1000 + i) = D.2 1000 i) : CRok l D tys A ad GG 4 g110 := CR_of_vrf (dep := 3) hAD (fun c hc => by cases hc) T2OK_nil w110
noncomputable def g111 : CR := (256, [(2, 90, 90), (0, (-2147483648), 2147483647), (0, (-2147483648), 2147483647)], [], some (0, (-2), 63), [], [90, 98, 99, 100, 101])
theorem w111 : vrf GG [(4, g96), (4, g110)] [] 300 5 g111
  [] = true := by decide +kernel
theorem r111 {l : Launch} {D : va_G} {tys : List (ClassId × FieldType)} {A : Nat → Prop} {ad : Nat → Nat} (hAD : ∀ i : Nat, ad (1000 + i) = D.2 1000 i) : CRok l D tys A ad GG 6 g111 := CR_of_vrf (dep := 5) hAD (List.forall_mem_cons.mpr ⟨r96 hAD, List.forall_mem_cons.mpr ⟨r110 hAD, fun c hc => by cases hc⟩⟩) T2OK_nil w111
noncomputable def g112 : CR := (180, [(2, 32, 32), (2, 4, 4), (0, 0, 5)], [], some (0, (-1), 5), [], [])
theorem w112 : vrf GG [(4, g104)] [] 300 4 g112
  (uK (uC kN9 (uE kI0 kI5 (uE kJ1 kI5 (uE kI0 kI25 (uE kI0 kI6 uE0)))) (uA kN0 (rA kI32) (uA kN1 (rA kI4) (uA kN2 (uis kN0) (uA kN3 (uis kN1) (uA kN4 (uis kN2) (uA kN5 (uis kN3) uA0)))))) uS0 uO0 (Int.ofNat (nat_lit 1002)) (uL kJ146 kN3 uL0))
  (uK (uC kN63 (uE kI0 kI5 (uE kJ1 kI5 (uE kI0 kI25 (uE kI0 kI5 (uE kI1 kI6 uE0))))) (uA kN0 (rA kI32) (uA kN1 (rA kI4) (uA kN2 (uis kN0) (uA kN3 (uis kN1) (uA kN4 (uis kN2) (uA kN5 (uis kN3) uA0)))))) uS0 (uO kN4 kN4 (uis kN4) uO0) (Int.ofNat (nat_lit 948)) (uL kJ146 kN3 uL0))
  uK0)) = true := by decide +kernel
theorem r112 {l : Launch} {D : va_G} {tys : List (ClassId × FieldType)} {A : Nat → Prop} {ad : Nat → Nat} (hAD : ∀ i : Nat, ad (1000 + i) = D.2 1000 i) : CRok l D tys A ad GG 5 g112 := CR_of_vrf (dep := 4) hAD (List.forall_mem_cons.mpr ⟨r104 hAD, fun c hc => by cases hc⟩) T2OK_nil w112
noncomputable def g113 : CR := (17, [(2, 0, 0), (0, (-2147483648), 2147483647)], [], some (0, (-3), 23), [], [])
theorem w113 : vrf GG [(4, g104), (5, g112)] [] 300 5 g113
  [] = true := by decide +kernel
theorem r113 {l : Launch} {D : va_G} {tys : List (ClassId × FieldType)} {A : Nat → Prop} {ad : Nat → Nat} (hAD : ∀ i : Nat, ad (1000 + i) = D.2 1000 i) : CRok l D tys A ad GG 6 g113 := CR_of_vrf (dep := 5) hAD (List.forall_mem_cons.mpr ⟨r104 hAD, List.forall_mem_cons.mpr ⟨r112 hAD, fun c hc => by cases hc⟩⟩) T2OK_nil w113
noncomputable def g114 : CR := (257, [(2, 90, 90), (0, 0, 5)], [], some (0, (-1), 5), [], [])
theorem w114 : vrf GG [(4, g106)] [] 300 4 g114
  (uK (uC kN9 (uE kI0 kI5 (uE kJ1 kI5 (uE kJ2 kI1000000 (uE kI0 kI6 uE0)))) (uA kN0 (rA kI90) (uA kN1 (uis kN0) (uA kN2 (uis kN1) (uA kN3 (uis kN2) (uA kN4 (uis kN3) uA0))))) uS0 uO0 kI1394 (uL kJ202 kN3 uL0))
  (uK (uC kN74 (uE kI0 kI5 (uE kJ1 kI5 (uE kJ2 kI1000000 (uE kI0 kI5 (uE kJ3 kI23 (uE kJ2 kI1000000 (uE kI1 kI6 uE0))))))) (uA kN0 (rA kI90) (uA kN1 (uis kN0) (uA kN2 (uis kN1) (uA kN3 (uis kN2) (uA kN4 (uis kN3) (uA kN5 (uis kN4) uA0)))))) (uS (uis kN5) uS0) (uO kN91 kN3 (uis kN6) uO0) (Int.ofNat (nat_lit 1329)) (uL kJ202 kN3 uL0))
  (uK (uC kN91 (uE kI0 kI5 (uE kJ1 kI5 (uE kJ2 kI1000000 (uE kI0 kI5 (uE kI1 kI6 uE0))))) (uA kN0 (rA kI90) (uA kN1 (uis kN0) (uA kN2 (uis kN1) (uA kN3 (uis kN2) (uA kN4 (uis kN3) uA0))))) uS0 (uO kN91 kN3 (uis kN4) uO0) (Int.ofNat (nat_lit 1312)) (uL kJ202 kN3 uL0))
  uK0))) = true := by decide +kernel
theorem r114 {l : Launch} {D : va_G} {tys : List (ClassId × FieldType)} {A : Nat → Prop} {ad : Nat → Nat} (hAD : ∀ i : Nat, ad (1000 + i) = D.2 1000 i) : CRok l D tys A ad GG 5 g114 := CR_of_vrf (dep := 4) hAD (List.forall_mem_cons.mpr ⟨r106 hAD, fun c hc => by cases hc⟩) T2OK_nil w114
noncomputable def g115 : CR := (258, [(2, 90, 90), (0, (-2147483648), 2147483647)], [], some (0, (-3), 23), [], [90, 98, 99, 100, 101])
theorem w115 : vrf GG [(4, g96), (4, g106), (5, g114)] [] 300 5 g115
  [] = true := by decide +kernel
theorem r115 {l : Launch} {D : va_G} {tys : List (ClassId × FieldType)} {A : Nat → Prop} {ad : Nat → Nat} (hAD : ∀ i : Nat, ad (1000 + i) = D.2 1000 i) : CRok l D tys A ad GG 6 g115 := CR_of_vrf (dep := 5) hAD (List.forall_mem_cons.mpr ⟨r96 hAD, List.forall_mem_cons.mpr ⟨r106 hAD, List.forall_mem_cons.mpr ⟨r114 hAD, fun c hc => by cases hc⟩⟩⟩) T2OK_nil w115
noncomputable def g116 : CR := (18, [(2, 0, 0), (0, (-2147483648), 2147483647)], [], some (0, (-2), 5), [], [])
theorem w116 : vrf GG [(5, g112)] [] 300 5 g116
  [] = true := by decide +kernel
theorem r116 {l : Launch} {D : va_G} {tys : List (ClassId × FieldType)} {A : Nat → Prop} {ad : Nat → Nat} (hAD : ∀ i : Nat, ad (1000 + i) = D.2 1000 i) : CRok l D tys A ad GG 6 g116 := CR_of_vrf (dep := 5) hAD (List.forall_mem_cons.mpr ⟨r112 hAD, fun c hc => by cases hc⟩) T2OK_nil w116
noncomputable def g117 : CR := (259, [(2, 90, 90), (0, (-2147483648), 2147483647)], [], some (0, (-2), 5), [], [90, 98, 99, 100, 101])
theorem w117 : vrf GG [(4, g96), (5, g114)] [] 300 5 g117
  [] = true := by decide +kernel
theorem r117 {l : Launch} {D : va_G} {tys : List (ClassId × FieldType)} {A : Nat → Prop} {ad : Nat → Nat} (hAD : ∀ i : Nat, ad (1000 + i) = D.2 1000 i) : CRok l D tys A ad GG 6 g117 := CR_of_vrf (dep := 5) hAD (List.forall_mem_cons.mpr ⟨r96 hAD, List.forall_mem_cons.mpr ⟨r114 hAD, fun c hc => by cases hc⟩⟩) T2OK_nil w117
noncomputable def g118 : CR := (19, [(2, 0, 0), (0, (-2147483648), 2147483647)], [], some (0, (-2), 63), [], [])
theorem w118 : vrf GG [(4, g108)] [] 300 4 g118
  (uK (uC kN18 (uE kI0 kI23 (uE kI0 kI63 (uE kI0 kI6 (uE kI1 kI24 uE0)))) (uA kN0 (rA kI0) (uA kN1 (uis kN0) (uA kN2 (uis kN1) (uA kN3 (uis kN2) uA0)))) uS0 (uO kN4 kN3 (uis kN3) uO0) (Int.ofNat (nat_lit 844)) (uL (Int.negSucc (nat_lit 125)) kN2 uL0))
  (uK (uC kN53 (uE kI0 kI23 (uE kI0 kI63 (uE kI0 kI5 (uE kI1 kI24 (uE kI1 kI6 uE0))))) (uA kN0 (rA kI0) (uA kN1 (uis kN0) (uA kN2 (uis kN1) (uA kN3 (uis kN2) uA0)))) uS0 (uO kN4 kN3 (uis kN3) (uO kN4 kN4 (uis kN4) uO0)) (Int.ofNat (nat_lit 809)) (uL (Int.negSucc (nat_lit 125)) kN2 uL0))
  uK0)) = true := by decide +kernel
theorem r118 {l : Launch} {D : va_G} {tys : List (ClassId × FieldType)} {A : Nat → Prop} {ad : Nat → Nat} (hAD : ∀ i : Nat, ad (1000 + i) = D.2 1000 i) : CRok l D tys A ad GG 5 g118 := CR_of_vrf (dep := 4) hAD (List.forall_mem_cons.mpr ⟨r108 hAD, fun c hc => by cases hc⟩) T2OK_nil w118
noncomputable def g119 : CR := (260, [(2, 90, 90), (0, (-2147483648), 2147483647)], [], some (0, (-2), 63), [], [90, 98, 99, 100, 101])
theorem w119 : vrf GG [(4, g96), (4, g110)] [] 300 5 g119
  (uK (uC kN19 (uE kI0 kI23 (uE kI0 kI63 (uE kI0 kI6 (uE kI1 kI24 uE0)))) (uA kN0 (rA kI90) (uA kN1 (uis kN0) (uA kN2 (uis kN1) (uA kN3 (uis kN2) uA0)))) uS0 (uO kN91 kN2 (uis kN3) uO0) (Int.ofNat (nat_lit 772)) (uL (Int.negSucc (nat_lit 115)) kN2 uL0))
  (uK (uC kN46 (uE kI0 kI23 (uE kI0 kI63 (uE kI0 kI5 (uE kI0 kI32 (uE kI0 kI63 (uE kI1 kI24 (uE kI1 kI6 uE0))))))) (uA kN0 (rA kI90) (uA kN1 (uis kN0) (uA kN2 (uis kN1) (uA kN3 (uis kN2) uA0)))) (uS (uis kN3) (uS (uis kN4) uS0)) (uO kN91 kN2 (uis kN5) (uO kN91 kN3 (uis kN6) uO0)) (Int.ofNat (nat_lit 745)) (uL (Int.negSucc (nat_lit 115)) kN2 uL0))
  uK0)) = true := by decide +kernel
theorem r119 {l : Launch} {D : va_G} {tys : List (ClassId × FieldType)} {A : Nat → Prop} {ad : Nat → Nat} (hAD : ∀ i : Nat, ad (1000 + i) = D.2 1000 i) : CRok l D tys A ad GG 6 g119 := CR_of_vrf (dep := 5) hAD (List.forall_mem_cons.mpr ⟨r96 hAD, List.forall_mem_cons.mpr ⟨r110 hAD, fun c hc => by cases hc⟩⟩) T2OK_nil w119
