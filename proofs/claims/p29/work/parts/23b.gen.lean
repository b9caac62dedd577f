noncomputable def g120 : CR := (181, [(2, 32, 32), (2, 4, 4), (0, 0, 5), (0, 1, 24)], [], some (0, (-2147483648), 2147483647), [], [])
theorem w120 : vrf GG [] [] 300 2 g120
  (uK (uC kN6 (uE kI0 kI5 (uE kI1 kI24 (uE kJ2147483648 kI2147483647 (uE kI0 kI6 uE0)))) (uA kN0 (rA kI32) (uA kN1 (rA kI4) (uA kN2 (uis kN0) (uA kN3 (uis kN1) (uA kN4 (uis kN2) (uA kN5 (uis kN3) uA0)))))) uS0 uO0 (Int.ofNat (nat_lit 658)) (uL kJ96 kN3 uL0))
  (uK (uC kN37 (uE kI0 kI5 (uE kI1 kI24 (uE kJ2147483648 kI2147483647 (uE kI0 kI5 (uE kI1 kI6 uE0))))) (uA kN0 (rA kI32) (uA kN1 (rA kI4) (uA kN2 (uis kN0) (uA kN3 (uis kN1) (uA kN4 (uis kN2) (uA kN5 (uis kN3) uA0)))))) uS0 (uO kN4 kN4 (uis kN4) uO0) (Int.ofNat (nat_lit 627)) (uL kJ96 kN3 uL0))
  uK0)) = true := by decide +kernel
theorem r120 {l : Launch} {D : va_G} {tys : List (ClassId × FieldType)} {A : Nat → Prop} {ad : Nat → Nat} (hAD : ∀ i : Nat, ad (1000 + i) = D.2 1000 i) : CRok l D tys A ad GG 3 g120 := CR_of_vrf (dep := 2) hAD (fun c hc => by cases hc) T2OK_nil w120
noncomputable def g121 : CR := (20, [(2, 0, 0), (0, (-2147483648), 2147483647), (0, (-2147483648), 2147483647)], [], some (0, (-2147483648), 2147483647), [], [])
theorem w121 : vrf GG [(3, g120)] [] 300 3 g121
  [] = true := by decide +kernel
theorem r121 {l : Launch} {D : va_G} {tys : List (ClassId × FieldType)} {A : Nat → Prop} {ad : Nat → Nat} (hAD : ∀ i : Nat, ad (1000 + i) = D.2 1000 i) : CRok l D tys A ad GG 4 g121 := CR_of_vrf (dep := 3) hAD (List.forall_mem_cons.mpr ⟨r120 hAD, fun c hc => by cases hc⟩) T2OK_nil w121
noncomputable def g122 : CR := (194, [(0, 0, 63)], [], some (0, 0, 13), [], [])
theorem w122 : vrf GG [] [] 300 0 g122
  [] = true := by decide +kernel
theorem r122 {l : Launch} {D : va_G} {tys : List (ClassId × FieldType)} {A : Nat → Prop} {ad : Nat → Nat} (hAD : ∀ i : Nat, ad (1000 + i) = D.2 1000 i) : CRok l D tys A ad GG 1 g122 := CR_of_vrf (dep := 0) hAD (fun c hc => by cases hc) T2OK_nil w122
noncomputable def g123 : CR := (261, [(2, 90, 90), (0, 0, 5), (0, 0, 23)], [], some (0, (-2147483648), 2147483647), [], [])
theorem w123 : vrf GG [(1, g122)] [] 300 1 g123
  (uK (uC kN5 (uE kI0 kI5 (uE kI0 kI23 (uE kJ2147483648 kI2147483647 (uE kI0 kI6 uE0)))) (uA kN0 (rA kI90) (uA kN1 (uis kN0) (uA kN2 (uis kN1) (uA kN3 (uis kN2) (uA kN4 (uis kN3) uA0))))) uS0 uO0 (Int.ofNat (nat_lit 716)) (uL kJ104 kN3 uL0))
  (uK (uC kN40 (uE kI0 kI5 (uE kI0 kI23 (uE kJ2147483648 kI2147483647 (uE kI0 kI5 (uE kI0 kI13 (uE kJ2147483648 kI2147483647 (uE kI1 kI6 uE0))))))) (uA kN0 (rA kI90) (uA kN1 (uis kN0) (uA kN2 (uis kN1) (uA kN3 (uis kN2) (uA kN4 (uis kN3) uA0))))) (uS (uis kN4) (uS (uis kN5) uS0)) (uO kN91 kN3 (uis kN6) uO0) (Int.ofNat (nat_lit 681)) (uL kJ104 kN3 uL0))
  uK0)) = true := by decide +kernel
theorem r123 {l : Launch} {D : va_G} {tys : List (ClassId × FieldType)} {A : Nat → Prop} {ad : Nat → Nat} (hAD : ∀ i : Nat, ad (1000 + i) = D.2 1000 i) : CRok l D tys A ad GG 2 g123 := CR_of_vrf (dep := 1) hAD (List.forall_mem_cons.mpr ⟨r122 hAD, fun c hc => by cases hc⟩) T2OK_nil w123
noncomputable def g124 : CR := (262, [(2, 90, 90), (0, (-2147483648), 2147483647), (0, (-2147483648), 2147483647)], [], some (0, (-2147483648), 2147483647), [], [90, 98, 99, 100, 101])
theorem w124 : vrf GG [(4, g96), (2, g123)] [] 300 5 g124
  [] = true := by decide +kernel
theorem r124 {l : Launch} {D : va_G} {tys : List (ClassId × FieldType)} {A : Nat → Prop} {ad : Nat → Nat} (hAD : ∀ i : Nat, ad (1000 + i) = D.2 1000 i) : CRok l D tys A ad GG 6 g124 := CR_of_vrf (dep := 5) hAD (List.forall_mem_cons.mpr ⟨r96 hAD, List.forall_mem_cons.mpr ⟨r123 hAD, fun c hc => by cases hc⟩⟩) T2OK_nil w124
noncomputable def g125 : CR := (21, [(2, 0, 0), (0, (-2147483648), 2147483647)], [], some (0, (-2), 5), [], [])
theorem w125 : vrf GG [(3, g120)] [] 300 3 g125
  (uK (uC kN21 (uE kI0 kI23 (uE kJ1 kI5 (uE kJ1 kI2147483647 (uE kI0 kI6 (uE kI1 kI24 uE0))))) (uA kN0 (rA kI0) (uA kN1 (uis kN0) (uA kN2 (uis kN1) (uA kN3 (uis kN2) (uA kN4 (uis kN3) uA0))))) uS0 (uO kN4 kN3 (uis kN4) uO0) (Int.ofNat (nat_lit 978)) (uL kJ146 kN3 uL0))
  (uK (uC kN63 (uE kI0 kI23 (uE kJ1 kI5 (uE kJ1 kI2147483647 (uE kI0 kI5 (uE kJ2147483648 kI2147483647 (uE kI1 kI24 (uE kI1 kI6 uE0))))))) (uA kN0 (rA kI0) (uA kN1 (uis kN0) (uA kN2 (uis kN1) (uA kN3 (uis kN2) (uA kN4 (uis kN3) (uA kN5 (uis kN4) uA0)))))) uS0 (uO kN4 kN3 (uis kN5) (uO kN4 kN4 (uis kN6) uO0)) (Int.ofNat (nat_lit 936)) (uL kJ146 kN3 uL0))
  uK0)) = true := by decide +kernel
theorem r125 {l : Launch} {D : va_G} {tys : List (ClassId × FieldType)} {A : Nat → Prop} {ad : Nat → Nat} (hAD : ∀ i : Nat, ad (1000 + i) = D.2 1000 i) : CRok l D tys A ad GG 4 g125 := CR_of_vrf (dep := 3) hAD (List.forall_mem_cons.mpr ⟨r120 hAD, fun c hc => by cases hc⟩) T2OK_nil w125
noncomputable def g126 : CR := (263, [(2, 90, 90), (0, (-2147483648), 2147483647)], [], some (0, (-2), 5), [], [90, 98, 99, 100, 101])
theorem w126 : vrf GG [(4, g96), (2, g123)] [] 300 5 g126
  (uK (uC kN19 (uE kI0 kI23 (uE kJ1 kI5 (uE kI0 kI6 (uE kI1 kI24 uE0)))) (uA kN0 (rA kI90) (uA kN1 (uis kN0) (uA kN2 (uis kN1) (uA kN3 (uis kN2) uA0)))) uS0 (uO kN91 kN2 (uis kN3) uO0) (Int.ofNat (nat_lit 814)) (uL kJ122 kN2 uL0))
  (uK (uC kN49 (uE kI0 kI23 (uE kJ1 kI5 (uE kI0 kI5 (uE kI1 kI24 (uE kI1 kI6 uE0))))) (uA kN0 (rA kI90) (uA kN1 (uis kN0) (uA kN2 (uis kN1) (uA kN3 (uis kN2) uA0)))) uS0 (uO kN91 kN2 (uis kN3) (uO kN91 kN3 (uis kN4) uO0)) (Int.ofNat (nat_lit 784)) (uL kJ122 kN2 uL0))
  (uK (uC kN51 (uE kI0 kI23 (uE kI0 kI5 (uE kI0 kI5 (uE kI1 kI24 (uE kI1 kI6 uE0))))) (uA kN0 (rA kI90) (uA kN1 (uis kN0) (uA kN2 (uis kN1) (uA kN3 (uis kN2) uA0)))) uS0 (uO kN91 kN2 (uis kN3) (uO kN91 kN3 (uis kN4) uO0)) (Int.ofNat (nat_lit 782)) (uL kJ122 kN2 uL0))
  uK0))) = true := by decide +kernel
theorem r126 {l : Launch} {D : va_G} {tys : List (ClassId × FieldType)} {A : Nat → Prop} {ad : Nat → Nat} (hAD : ∀ i : Nat, ad (1000 + i) = D.2 1000 i) : CRok l D tys A ad GG 6 g126 := CR_of_vrf (dep := 5) hAD (List.forall_mem_cons.mpr ⟨r96 hAD, List.forall_mem_cons.mpr ⟨r123 hAD, fun c hc => by cases hc⟩⟩) T2OK_nil w126
noncomputable def g127 : CR := (26, [(2, 0, 0), (0, 0, 5), (0, 0, 5), (0, 0, 23)], [], some (0, (-5), 23), [], [])
theorem w127 : vrf GG [] [] 626 3 g127
  (uK (uC kN63 (uE kI0 kI5 (uE kI0 kI5 (uE kI0 kI23 (uE kI0 kI23 (uE kI0 kI24 (uE kI1 kI24 uE0)))))) (uA kN0 (rA kI0) (uA kN1 (uis kN0) (uA kN2 (uis kN1) (uA kN3 (uis kN2) (uA kN4 (uis kN3) (uA kN5 (uis kN4) uA0)))))) uS0 (uO kN4 kN3 (uis kN5) uO0) (Int.ofNat (nat_lit 5172)) (uL kJ212 kN4 uL0))
  uK0) = true := by decide +kernel
theorem r127 {l : Launch} {D : va_G} {tys : List (ClassId × FieldType)} {A : Nat → Prop} {ad : Nat → Nat} (hAD : ∀ i : Nat, ad (1000 + i) = D.2 1000 i) : CRok l D tys A ad GG 4 g127 := CR_of_vrf (dep := 3) hAD (fun c hc => by cases hc) T2OK_nil w127
noncomputable def g128 : CR := (22, [(2, 0, 0), (0, (-2147483648), 2147483647), (0, (-2147483648), 2147483647), (0, (-2147483648), 2147483647)], [], some (0, (-5), 23), [], [])
theorem w128 : vrf GG [(4, g127)] [] 300 4 g128
  [] = true := by decide +kernel
theorem r128 {l : Launch} {D : va_G} {tys : List (ClassId × FieldType)} {A : Nat → Prop} {ad : Nat → Nat} (hAD : ∀ i : Nat, ad (1000 + i) = D.2 1000 i) : CRok l D tys A ad GG 5 g128 := CR_of_vrf (dep := 4) hAD (List.forall_mem_cons.mpr ⟨r127 hAD, fun c hc => by cases hc⟩) T2OK_nil w128
noncomputable def g129 : CR := (265, [(2, 90, 90), (0, 0, 5), (0, 0, 5), (0, 0, 23)], [], some (0, (-2147483648), 23), [], [])
theorem w129 : vrf GG [] [] 300 3 g129
  (uK (uC kN50 (uE kI0 kI5 (uE kI0 kI5 (uE kI0 kI23 (uE kJ2147483648 kI23 (uE kI0 kI24 (uE kI0 kI24 uE0)))))) (uA kN0 (rA kI90) (uA kN1 (uis kN0) (uA kN2 (uis kN1) (uA kN3 (uis kN2) (uA kN4 (uis kN3) (uA kN5 (uis kN4) uA0)))))) uS0 (uO kN91 kN2 (uis kN5) uO0) (Int.ofNat (nat_lit 3948)) (uL (Int.negSucc (nat_lit 161)) kN4 uL0))
  uK0) = true := by decide +kernel
theorem r129 {l : Launch} {D : va_G} {tys : List (ClassId × FieldType)} {A : Nat → Prop} {ad : Nat → Nat} (hAD : ∀ i : Nat, ad (1000 + i) = D.2 1000 i) : CRok l D tys A ad GG 4 g129 := CR_of_vrf (dep := 3) hAD (fun c hc => by cases hc) T2OK_nil w129
noncomputable def g130 : CR := (266, [(2, 90, 90), (0, (-2147483648), 2147483647), (0, (-2147483648), 2147483647), (0, (-2147483648), 2147483647)], [], some (0, (-2147483648), 23), [], [90, 98, 99, 100, 101])
theorem w130 : vrf GG [(4, g96), (4, g129)] [] 300 5 g130
  [] = true := by decide +kernel
theorem r130 {l : Launch} {D : va_G} {tys : List (ClassId × FieldType)} {A : Nat → Prop} {ad : Nat → Nat} (hAD : ∀ i : Nat, ad (1000 + i) = D.2 1000 i) : CRok l D tys A ad GG 6 g130 := CR_of_vrf (dep := 5) hAD (List.forall_mem_cons.mpr ⟨r96 hAD, List.forall_mem_cons.mpr ⟨r129 hAD, fun c hc => by cases hc⟩⟩) T2OK_nil w130
noncomputable def g131 : CR := (23, [(2, 0, 0), (0, (-2147483648), 2147483647), (0, (-2147483648), 2147483647)], [], some (0, (-2), 23), [], [])
theorem w131 : vrf GG [(4, g127)] [] 300 4 g131
  (uK (uC kN14 (uE kI0 kI5 (uE kI0 kI5 (uE kI0 kI24 (uE kI1 kI6 uE0)))) (uA kN0 (rA kI0) (uA kN1 (uis kN0) (uA kN2 (uis kN1) (uA kN3 (uis kN2) uA0)))) uS0 (uO kN4 kN4 (uis kN3) uO0) (Int.ofNat (nat_lit 2320)) (uL (Int.negSucc (nat_lit 93)) kN2 uL0))
  uK0) = true := by decide +kernel
theorem r131 {l : Launch} {D : va_G} {tys : List (ClassId × FieldType)} {A : Nat → Prop} {ad : Nat → Nat} (hAD : ∀ i : Nat, ad (1000 + i) = D.2 1000 i) : CRok l D tys A ad GG 5 g131 := CR_of_vrf (dep := 4) hAD (List.forall_mem_cons.mpr ⟨r127 hAD, fun c hc => by cases hc⟩) T2OK_nil w131
noncomputable def g132 : CR := (267, [(2, 90, 90), (0, (-2147483648), 2147483647), (0, (-2147483648), 2147483647)], [], some (0, (-2), 23), [], [90, 98, 99, 100, 101])
theorem w132 : vrf GG [(4, g96), (4, g129)] [] 300 5 g132
  (uK (uC kN18 (uE kI0 kI5 (uE kI0 kI5 (uE kI0 kI24 (uE kI1 kI6 uE0)))) (uA kN0 (rA kI90) (uA kN1 (uis kN0) (uA kN2 (uis kN1) (uA kN3 (uis kN2) uA0)))) uS0 (uO kN91 kN3 (uis kN3) uO0) (Int.ofNat (nat_lit 2462)) (uL (Int.negSucc (nat_lit 99)) kN2 uL0))
  uK0) = true := by decide +kernel
theorem r132 {l : Launch} {D : va_G} {tys : List (ClassId × FieldType)} {A : Nat → Prop} {ad : Nat → Nat} (hAD : ∀ i : Nat, ad (1000 + i) = D.2 1000 i) : CRok l D tys A ad GG 6 g132 := CR_of_vrf (dep := 5) hAD (List.forall_mem_cons.mpr ⟨r96 hAD, List.forall_mem_cons.mpr ⟨r129 hAD, fun c hc => by cases hc⟩⟩) T2OK_nil w132
noncomputable def g133 : CR := (24, [(2, 0, 0), (0, (-2147483648), 2147483647), (0, (-2147483648), 2147483647)], [], some (0, (-2), 23), [], [])
theorem w133 : vrf GG [(4, g127)] [] 300 4 g133
  (uK (uC kN22 (uE kI0 kI5 (uE kI0 kI5 (uE kJ1 kI23 (uE kI0 kI24 (uE kI1 kI6 uE0))))) (uA kN0 (rA kI0) (uA kN1 (uis kN0) (uA kN2 (uis kN1) (uA kN3 (uis kN2) uA0)))) uS0 (uO kN4 kN3 (uis kN3) (uO kN4 kN4 (uis kN4) uO0)) (Int.ofNat (nat_lit 146)) (uL kI96 kN2 uL0))
  uK0) = true := by decide +kernel
theorem r133 {l : Launch} {D : va_G} {tys : List (ClassId × FieldType)} {A : Nat → Prop} {ad : Nat → Nat} (hAD : ∀ i : Nat, ad (1000 + i) = D.2 1000 i) : CRok l D tys A ad GG 5 g133 := CR_of_vrf (dep := 4) hAD (List.forall_mem_cons.mpr ⟨r127 hAD, fun c hc => by cases hc⟩) T2OK_nil w133
noncomputable def g134 : CR := (268, [(2, 90, 90), (0, (-2147483648), 2147483647), (0, (-2147483648), 2147483647)], [], some (0, (-2), 23), [], [90, 98, 99, 100, 101])
theorem w134 : vrf GG [(4, g96), (4, g129)] [] 300 5 g134
  (uK (uC kN25 (uE kI0 kI5 (uE kI0 kI5 (uE kJ1 kI23 (uE kI0 kI24 (uE kI1 kI6 uE0))))) (uA kN0 (rA kI90) (uA kN1 (uis kN0) (uA kN2 (uis kN1) (uA kN3 (uis kN2) uA0)))) uS0 (uO kN91 kN2 (uis kN3) (uO kN91 kN3 (uis kN4) uO0)) (Int.ofNat (nat_lit 152)) (uL kI102 kN2 uL0))
  uK0) = true := by decide +kernel
theorem r134 {l : Launch} {D : va_G} {tys : List (ClassId × FieldType)} {A : Nat → Prop} {ad : Nat → Nat} (hAD : ∀ i : Nat, ad (1000 + i) = D.2 1000 i) : CRok l D tys A ad GG 6 g134 := CR_of_vrf (dep := 5) hAD (List.forall_mem_cons.mpr ⟨r96 hAD, List.forall_mem_cons.mpr ⟨r129 hAD, fun c hc => by cases hc⟩⟩) T2OK_nil w134
noncomputable def g135 : CR := (25, [(2, 0, 0), (0, (-2147483648), 2147483647), (0, (-2147483648), 2147483647)], [], some (0, (-2), 63), [], [])
theorem w135 : vrf GG [(4, g127)] [] 300 4 g135
  (uK (uC kN30 (uE kI0 kI5 (uE kI0 kI23 (uE kI0 kI63 (uE kI0 kI6 (uE kI1 kI24 (uE kI1 kI6 uE0)))))) (uA kN0 (rA kI0) (uA kN1 (uis kN0) (uA kN2 (uis kN1) (uA kN3 (uis kN2) (uA kN4 (uis kN3) uA0))))) uS0 (uO kN4 kN3 (uis kN4) (uO kN4 kN4 (uis kN5) uO0)) (Int.ofNat (nat_lit 1002)) (uL (Int.negSucc (nat_lit 151)) kN3 uL0))
  (uK (uC kN66 (uE kI0 kI5 (uE kI0 kI23 (uE kI0 kI63 (uE kI0 kI5 (uE kI1 kI24 (uE kI1 kI6 uE0)))))) (uA kN0 (rA kI0) (uA kN1 (uis kN0) (uA kN2 (uis kN1) (uA kN3 (uis kN2) (uA kN4 (uis kN3) uA0))))) uS0 (uO kN4 kN3 (uis kN4) (uO kN4 kN4 (uis kN5) uO0)) (Int.ofNat (nat_lit 966)) (uL (Int.negSucc (nat_lit 151)) kN3 uL0))
  uK0)) = true := by decide +kernel
theorem r135 {l : Launch} {D : va_G} {tys : List (ClassId × FieldType)} {A : Nat → Prop} {ad : Nat → Nat} (hAD : ∀ i : Nat, ad (1000 + i) = D.2 1000 i) : CRok l D tys A ad GG 5 g135 := CR_of_vrf (dep := 4) hAD (List.forall_mem_cons.mpr ⟨r127 hAD, fun c hc => by cases hc⟩) T2OK_nil w135
noncomputable def g136 : CR := (269, [(2, 90, 90), (0, (-2147483648), 2147483647), (0, (-2147483648), 2147483647)], [], some (0, (-2), 63), [], [90, 98, 99, 100, 101])
theorem w136 : vrf GG [(4, g96), (4, g129)] [] 300 5 g136
  (uK (uC kN28 (uE kI0 kI5 (uE kI0 kI23 (uE kI0 kI63 (uE kI0 kI6 (uE kI1 kI24 (uE kI1 kI6 uE0)))))) (uA kN0 (rA kI90) (uA kN1 (uis kN0) (uA kN2 (uis kN1) (uA kN3 (uis kN2) (uA kN4 (uis kN3) uA0))))) uS0 (uO kN91 kN2 (uis kN4) (uO kN91 kN3 (uis kN5) uO0)) (Int.ofNat (nat_lit 1020)) (uL kJ154 kN3 uL0))
  (uK (uC kN64 (uE kI0 kI5 (uE kI0 kI23 (uE kI0 kI63 (uE kI0 kI5 (uE kI0 kI63 (uE kI1 kI24 (uE kI1 kI6 uE0))))))) (uA kN0 (rA kI90) (uA kN1 (uis kN0) (uA kN2 (uis kN1) (uA kN3 (uis kN2) (uA kN4 (uis kN3) uA0))))) (uS (uis kN4) uS0) (uO kN91 kN2 (uis kN5) (uO kN91 kN3 (uis kN6) uO0)) (Int.ofNat (nat_lit 984)) (uL kJ154 kN3 uL0))
  (uK (uC kN65 (uE kI0 kI5 (uE kI0 kI23 (uE kI0 kI63 (uE kI0 kI5 (uE kI0 kI32 (uE kI0 kI63 (uE kI1 kI24 (uE kI1 kI6 uE0)))))))) (uA kN0 (rA kI90) (uA kN1 (uis kN0) (uA kN2 (uis kN1) (uA kN3 (uis kN2) (uA kN4 (uis kN3) uA0))))) (uS (uis kN4) (uS (uis kN5) uS0)) (uO kN91 kN2 (uis kN6) (uO kN91 kN3 (uis kN7) uO0)) (Int.ofNat (nat_lit 983)) (uL kJ154 kN3 uL0))
  uK0))) = true := by decide +kernel
theorem r136 {l : Launch} {D : va_G} {tys : List (ClassId × FieldType)} {A : Nat → Prop} {ad : Nat → Nat} (hAD : ∀ i : Nat, ad (1000 + i) = D.2 1000 i) : CRok l D tys A ad GG 6 g136 := CR_of_vrf (dep := 5) hAD (List.forall_mem_cons.mpr ⟨r96 hAD, List.forall_mem_cons.mpr ⟨r129 hAD, fun c hc => by cases hc⟩⟩) T2OK_nil w136
noncomputable def g139 : CR := (28, [(2, 0, 0), (0, (-2147483648), 2147483647)], [], some (0, (-2147483648), 2147483647), [], [])
theorem w139 : vrf GG [] [] 300 1 g139
  (uK (uC kN18 (uE kI0 kI5 (uE kJ2147483648 kI2147483647 (uE kI0 kI12 (uE kI1 kI6 uE0)))) (uA kN0 (rA kI0) (uA kN1 (uis kN0) (uA kN2 (uis kN1) (uA kN3 (uis kN2) uA0)))) uS0 (uO kN4 kN4 (uis kN3) uO0) (Int.ofNat (nat_lit 1808)) (uL (Int.negSucc (nat_lit 141)) kN2 uL0))
  (uK (uC kN61 (uE kI0 kI5 (uE kJ2147483648 kI2147483647 (uE kI0 kI11 (uE kI1 kI6 (uE kI1 kI12 uE0))))) (uA kN0 (rA kI0) (uA kN1 (uis kN0) (uA kN2 (uis kN1) (uA kN3 (uis kN2) uA0)))) uS0 (uO kN4 kN4 (uis kN3) (uO kN4 kN5 (uis kN4) uO0)) (Int.ofNat (nat_lit 1765)) (uL (Int.negSucc (nat_lit 141)) kN2 uL0))
  uK0)) = true := by decide +kernel
theorem r139 {l : Launch} {D : va_G} {tys : List (ClassId × FieldType)} {A : Nat → Prop} {ad : Nat → Nat} (hAD : ∀ i : Nat, ad (1000 + i) = D.2 1000 i) : CRok l D tys A ad GG 2 g139 := CR_of_vrf (dep := 1) hAD (fun c hc => by cases hc) T2OK_nil w139
noncomputable def g140 : CR := (271, [(2, 90, 90), (0, (-2147483648), 2147483647)], [], some (0, (-2147483648), 2147483647), [], [90, 98, 99, 100, 101])
theorem w140 : vrf GG [(1, g122), (4, g96)] [] 300 5 g140
  (uK (uC kN19 (uE kI0 kI5 (uE kJ2147483648 kI2147483647 (uE kI0 kI12 (uE kI1 kI6 uE0)))) (uA kN0 (rA kI90) (uA kN1 (uis kN0) (uA kN2 (uis kN1) (uA kN3 (uis kN2) uA0)))) uS0 (uO kN91 kN3 (uis kN3) uO0) (Int.ofNat (nat_lit 1650)) (uL (Int.negSucc (nat_lit 129)) kN2 uL0))
  (uK (uC kN53 (uE kI0 kI5 (uE kJ2147483648 kI2147483647 (uE kI0 kI11 (uE kI0 kI13 (uE kJ2147483648 kI2147483647 (uE kI1 kI6 (uE kI1 kI12 uE0))))))) (uA kN0 (rA kI90) (uA kN1 (uis kN0) (uA kN2 (uis kN1) (uA kN3 (uis kN2) uA0)))) (uS (uis kN3) (uS (uis kN4) uS0)) (uO kN91 kN3 (uis kN5) (uO kN91 kN4 (uis kN6) uO0)) (Int.ofNat (nat_lit 1616)) (uL (Int.negSucc (nat_lit 129)) kN2 uL0))
  uK0)) = true := by decide +kernel
theorem r140 {l : Launch} {D : va_G} {tys : List (ClassId × FieldType)} {A : Nat → Prop} {ad : Nat → Nat} (hAD : ∀ i : Nat, ad (1000 + i) = D.2 1000 i) : CRok l D tys A ad GG 6 g140 := CR_of_vrf (dep := 5) hAD (List.forall_mem_cons.mpr ⟨r122 hAD, List.forall_mem_cons.mpr ⟨r96 hAD, fun c hc => by cases hc⟩⟩) T2OK_nil w140
noncomputable def g147 : CR := (79, [(2, 36, 36), (2, 4, 4), (2, 32, 32), (0, 0, 5)], [], none, [], [37])
theorem w147 : vrf GG [] [] 300 2 g147
  (uK (uC kN3 (uE kI0 kI5 (uE kI0 kI6 uE0)) (uA kN0 (rA kI36) (uA kN1 (rA kI4) (uA kN2 (rA kI32) (uA kN3 (uis kN0) (uA kN4 (uis kN1) uA0))))) uS0 uO0 (Int.ofNat (nat_lit 706)) (uL kJ102 kN1 uL0))
  uK0) = true := by decide +kernel
theorem r147 {l : Launch} {D : va_G} {tys : List (ClassId × FieldType)} {A : Nat → Prop} {ad : Nat → Nat} (hAD : ∀ i : Nat, ad (1000 + i) = D.2 1000 i) : CRok l D tys A ad GG 3 g147 := CR_of_vrf (dep := 2) hAD (fun c hc => by cases hc) T2OK_nil w147
noncomputable def g148 : CR := (78, [(2, 36, 36), (2, 4, 4), (2, 32, 32), (0, 0, 5), (0, 1, 63)], [], some (0, 0, 63), [], [37])
theorem w148 : vrf GG [(3, g147)] [] 300 3 g148
  (uK (uC kN3 (uE kI0 kI5 (uE kI1 kI63 (uE kI0 kI6 uE0))) (uA kN0 (rA kI36) (uA kN1 (rA kI4) (uA kN2 (rA kI32) (uA kN3 (uis kN0) (uA kN4 (uis kN1) (uA kN5 (uis kN2) uA0)))))) uS0 uO0 (Int.ofNat (nat_lit 23376)) (uL kJ296 kN2 uL0))
  (uK (uC kN44 (uE kI0 kI5 (uE kI1 kI63 (uE kI0 kI63 (uE kI0 kI6 (uE kI0 kI6 uE0))))) (uA kN0 (rA kI36) (uA kN1 (rA kI4) (uA kN2 (rA kI32) (uA kN3 (uis kN0) (uA kN4 (uis kN1) (uA kN5 (uis kN2) (uA kN6 (uis kN3) uA0))))))) uS0 (uO kN4 kN4 (uis kN4) uO0) (Int.ofNat (nat_lit 18558)) (uL kJ2664 kN3 uL0))
  (uK (uC kN54 (uE kI0 kI5 (uE kI1 kI63 (uE kI0 kI63 (uE kI0 kI5 (uE kI0 kI6 (uE kI0 kI6 uE0)))))) (uA kN0 (rA kI36) (uA kN1 (rA kI4) (uA kN2 (rA kI32) (uA kN3 (uis kN0) (uA kN4 (uis kN1) (uA kN5 (uis kN2) (uA kN6 (uis kN3) (uA kN7 (uis kN4) uA0)))))))) uS0 (uO kN4 kN4 (uis kN5) uO0) (Int.ofNat (nat_lit 18049)) (uL kJ296 kN4 (uL kJ2664 kN3 uL0)))
  (uK (uC kN88 (uE kI0 kI5 (uE kI1 kI63 (uE kI0 kI63 (uE kI0 kI5 (uE kI0 kI5 (uE kI1 kI6 uE0)))))) (uA kN0 (rA kI36) (uA kN1 (rA kI4) (uA kN2 (rA kI32) (uA kN3 (uis kN0) (uA kN4 (uis kN1) (uA kN5 (uis kN2) (uA kN6 (uis kN3) (uA kN7 (uis kN4) uA0)))))))) uS0 (uO kN4 kN4 (uis kN5) uO0) (Int.ofNat (nat_lit 18015)) (uL kJ296 kN4 (uL kJ2664 kN3 uL0)))
  (uK (uC kN89 (uE kI0 kI5 (uE kI1 kI63 (uE kI0 kI63 (uE kI0 kI5 (uE kI0 kI5 (uE kI0 kI1 (uE kI1 kI6 uE0))))))) (uA kN0 (rA kI36) (uA kN1 (rA kI4) (uA kN2 (rA kI32) (uA kN3 (uis kN0) (uA kN4 (uis kN1) (uA kN5 (uis kN2) (uA kN6 (uis kN3) (uA kN7 (uis kN4) uA0)))))))) (uS (uis kN5) uS0) (uO kN4 kN4 (uis kN6) uO0) (Int.ofNat (nat_lit 18014)) (uL kJ296 kN4 (uL kJ2664 kN3 uL0)))
  (uK (uC kN131 (uE kI0 kI5 (uE kI1 kI63 (uE kI0 kI63 (uE kI0 kI5 (uE kI0 kI5 (uE kI0 kI1 (uE kI1 kI6 uE0))))))) (uA kN0 (rA kI36) (uA kN1 (rA kI4) (uA kN2 (rA kI32) (uA kN3 (uis kN0) (uA kN4 (uis kN1) (uA kN5 (uis kN2) (uA kN6 (uis kN3) (uA kN7 (uis kN4) (uA kN8 (uis kN5) uA0))))))))) uS0 (uO kN4 kN4 (uis kN6) uO0) (Int.ofNat (nat_lit 17972)) (uL kJ296 kN4 (uL kJ2664 kN3 uL0)))
  uK0)))))) = true := by decide +kernel
theorem r148 {l : Launch} {D : va_G} {tys : List (ClassId × FieldType)} {A : Nat → Prop} {ad : Nat → Nat} (hAD : ∀ i : Nat, ad (1000 + i) = D.2 1000 i) : CRok l D tys A ad GG 4 g148 := CR_of_vrf (dep := 3) hAD (List.forall_mem_cons.mpr ⟨r147 hAD, fun c hc => by cases hc⟩) T2OK_nil w148
noncomputable def g149 : CR := (32, [(2, 0, 0), (0, (-2147483648), 2147483647)], [], some (0, (-2), 63), [], [37])
theorem w149 : vrf GG [(4, g148)] [] 300 4 g149
  [] = true := by decide +kernel
theorem r149 {l : Launch} {D : va_G} {tys : List (ClassId × FieldType)} {A : Nat → Prop} {ad : Nat → Nat} (hAD : ∀ i : Nat, ad (1000 + i) = D.2 1000 i) : CRok l D tys A ad GG 5 g149 := CR_of_vrf (dep := 4) hAD (List.forall_mem_cons.mpr ⟨r148 hAD, fun c hc => by cases hc⟩) T2OK_nil w149
noncomputable def g150 : CR := (278, [(2, 90, 90), (0, (-2147483648), 2147483647)], [], some (0, (-2), 63), [], [90, 98, 99, 100, 101])
theorem w150 : vrf GG [(4, g96), (4, hBru)] [] 300 5 g150
  [] = true := by decide +kernel
theorem r150 {l : Launch} {D : va_G} {tys : List (ClassId × FieldType)} {A : Nat → Prop} {ad : Nat → Nat} (hAD : ∀ i : Nat, ad (1000 + i) = D.2 1000 i) : CRok l D tys A ad GG 6 g150 := CR_of_vrf (dep := 5) hAD (List.forall_mem_cons.mpr ⟨r96 hAD, List.forall_mem_cons.mpr ⟨HBru_ok hAD, fun c hc => by cases hc⟩⟩) T2OK_nil w150
noncomputable def g151 : CR := (78, [(2, 36, 36), (2, 4, 4), (2, 32, 32), (0, 0, 5), (0, 0, 63)], [], some (0, 0, 63), [], [37])
theorem w151 : vrf GG [(3, g147)] [] 300 3 g151
  (uK (uC kN3 (uE kI0 kI5 (uE kI0 kI63 (uE kI0 kI6 uE0))) (uA kN0 (rA kI36) (uA kN1 (rA kI4) (uA kN2 (rA kI32) (uA kN3 (uis kN0) (uA kN4 (uis kN1) (uA kN5 (uis kN2) uA0)))))) uS0 uO0 (Int.ofNat (nat_lit 23376)) (uL kJ296 kN2 uL0))
  (uK (uC kN44 (uE kI0 kI5 (uE kI0 kI63 (uE kI0 kI63 (uE kI0 kI6 (uE kI0 kI6 uE0))))) (uA kN0 (rA kI36) (uA kN1 (rA kI4) (uA kN2 (rA kI32) (uA kN3 (uis kN0) (uA kN4 (uis kN1) (uA kN5 (uis kN2) (uA kN6 (uis kN3) uA0))))))) uS0 (uO kN4 kN4 (uis kN4) uO0) (Int.ofNat (nat_lit 18558)) (uL kJ2664 kN3 uL0))
  (uK (uC kN54 (uE kI0 kI5 (uE kI0 kI63 (uE kI0 kI63 (uE kI0 kI5 (uE kI0 kI6 (uE kI0 kI6 uE0)))))) (uA kN0 (rA kI36) (uA kN1 (rA kI4) (uA kN2 (rA kI32) (uA kN3 (uis kN0) (uA kN4 (uis kN1) (uA kN5 (uis kN2) (uA kN6 (uis kN3) (uA kN7 (uis kN4) uA0)))))))) uS0 (uO kN4 kN4 (uis kN5) uO0) (Int.ofNat (nat_lit 18049)) (uL kJ296 kN4 (uL kJ2664 kN3 uL0)))
  (uK (uC kN88 (uE kI0 kI5 (uE kI0 kI63 (uE kI0 kI63 (uE kI0 kI5 (uE kI0 kI5 (uE kI1 kI6 uE0)))))) (uA kN0 (rA kI36) (uA kN1 (rA kI4) (uA kN2 (rA kI32) (uA kN3 (uis kN0) (uA kN4 (uis kN1) (uA kN5 (uis kN2) (uA kN6 (uis kN3) (uA kN7 (uis kN4) uA0)))))))) uS0 (uO kN4 kN4 (uis kN5) uO0) (Int.ofNat (nat_lit 18015)) (uL kJ296 kN4 (uL kJ2664 kN3 uL0)))
  (uK (uC kN89 (uE kI0 kI5 (uE kI0 kI63 (uE kI0 kI63 (uE kI0 kI5 (uE kI0 kI5 (uE kI0 kI1 (uE kI1 kI6 uE0))))))) (uA kN0 (rA kI36) (uA kN1 (rA kI4) (uA kN2 (rA kI32) (uA kN3 (uis kN0) (uA kN4 (uis kN1) (uA kN5 (uis kN2) (uA kN6 (uis kN3) (uA kN7 (uis kN4) uA0)))))))) (uS (uis kN5) uS0) (uO kN4 kN4 (uis kN6) uO0) (Int.ofNat (nat_lit 18014)) (uL kJ296 kN4 (uL kJ2664 kN3 uL0)))
  (uK (uC kN131 (uE kI0 kI5 (uE kI0 kI63 (uE kI0 kI63 (uE kI0 kI5 (uE kI0 kI5 (uE kI0 kI1 (uE kI1 kI6 uE0))))))) (uA kN0 (rA kI36) (uA kN1 (rA kI4) (uA kN2 (rA kI32) (uA kN3 (uis kN0) (uA kN4 (uis kN1) (uA kN5 (uis kN2) (uA kN6 (uis kN3) (uA kN7 (uis kN4) (uA kN8 (uis kN5) uA0))))))))) uS0 (uO kN4 kN4 (uis kN6) uO0) (Int.ofNat (nat_lit 17972)) (uL kJ296 kN4 (uL kJ2664 kN3 uL0)))
  uK0)))))) = true := by decide +kernel
theorem r151 {l : Launch} {D : va_G} {tys : List (ClassId × FieldType)} {A : Nat → Prop} {ad : Nat → Nat} (hAD : ∀ i : Nat, ad (1000 + i) = D.2 1000 i) : CRok l D tys A ad GG 4 g151 := CR_of_vrf (dep := 3) hAD (List.forall_mem_cons.mpr ⟨r147 hAD, fun c hc => by cases hc⟩) T2OK_nil w151
noncomputable def g152 : CR := (80, [(2, 36, 36), (2, 4, 4), (2, 32, 32), (0, 0, 5), (0, 0, 5)], [], some (0, (-1), 63), [], [37])
theorem w152 : vrf GG [(4, g151)] [] 300 4 g152
  (uK (uC kN10 (uE kI0 kI5 (uE kI0 kI5 (uE kJ1 kI63 (uE kI0 kI63 (uE kI0 kI64 uE0))))) (uA kN0 (rA kI36) (uA kN1 (rA kI4) (uA kN2 (rA kI32) (uA kN3 (uis kN0) (uA kN4 (uis kN1) (uA kN5 (uis kN2) (uA kN6 (uis kN3) (uA kN7 (uis kN4) uA0)))))))) uS0 uO0 (Int.ofNat (nat_lit 12458)) (uL kJ192 kN4 uL0))
  (uK (uC kN42 (uE kI0 kI5 (uE kI0 kI5 (uE kJ1 kI63 (uE kI0 kI63 (uE kI0 kI63 (uE kI0 kI6 uE0)))))) (uA kN0 (rA kI36) (uA kN1 (rA kI4) (uA kN2 (rA kI32) (uA kN3 (uis kN0) (uA kN4 (uis kN1) (uA kN5 (uis kN2) (uA kN6 (uis kN3) (uA kN7 (uis kN4) uA0)))))))) uS0 (uO kN4 kN4 (uis kN5) uO0) (Int.ofNat (nat_lit 12426)) (uL kJ192 kN4 uL0))
  (uK (uC kN43 (uE kI0 kI5 (uE kI0 kI5 (uE kJ1 kI63 (uE kI0 kI63 (uE kI0 kI63 (uE kI0 kI1 (uE kI0 kI6 uE0))))))) (uA kN0 (rA kI36) (uA kN1 (rA kI4) (uA kN2 (rA kI32) (uA kN3 (uis kN0) (uA kN4 (uis kN1) (uA kN5 (uis kN2) (uA kN6 (uis kN3) (uA kN7 (uis kN4) uA0)))))))) (uS (uis kN5) uS0) (uO kN4 kN4 (uis kN6) uO0) (Int.ofNat (nat_lit 12425)) (uL kJ192 kN4 uL0))
  (uK (uC kN85 (uE kI0 kI5 (uE kI0 kI5 (uE kJ1 kI63 (uE kI0 kI63 (uE kI0 kI63 (uE kI0 kI1 (uE kI0 kI6 uE0))))))) (uA kN0 (rA kI36) (uA kN1 (rA kI4) (uA kN2 (rA kI32) (uA kN3 (uis kN0) (uA kN4 (uis kN1) (uA kN5 (uis kN2) (uA kN6 (uis kN3) (uA kN7 (uis kN4) (uA kN8 (uis kN5) uA0))))))))) uS0 (uO kN4 kN4 (uis kN6) uO0) (Int.ofNat (nat_lit 12383)) (uL kJ192 kN4 uL0))
  uK0)))) = true := by decide +kernel
theorem r152 {l : Launch} {D : va_G} {tys : List (ClassId × FieldType)} {A : Nat → Prop} {ad : Nat → Nat} (hAD : ∀ i : Nat, ad (1000 + i) = D.2 1000 i) : CRok l D tys A ad GG 5 g152 := CR_of_vrf (dep := 4) hAD (List.forall_mem_cons.mpr ⟨r151 hAD, fun c hc => by cases hc⟩) T2OK_nil w152
noncomputable def g153 : CR := (33, [(2, 0, 0), (0, (-2147483648), 2147483647), (0, (-2147483648), 2147483647)], [], some (0, (-2), 63), [], [37])
theorem w153 : vrf GG [(5, g152)] [] 300 5 g153
  [] = true := by decide +kernel
theorem r153 {l : Launch} {D : va_G} {tys : List (ClassId × FieldType)} {A : Nat → Prop} {ad : Nat → Nat} (hAD : ∀ i : Nat, ad (1000 + i) = D.2 1000 i) : CRok l D tys A ad GG 6 g153 := CR_of_vrf (dep := 5) hAD (List.forall_mem_cons.mpr ⟨r152 hAD, fun c hc => by cases hc⟩) T2OK_nil w153
noncomputable def g154 : CR := (279, [(2, 90, 90), (0, 0, 5), (0, 0, 5)], [], some (0, (-1), 63), [], [])
theorem w154 : vrf GG [(1, g122), (4, hBru)] [] 300 4 g154
  (uK (uC kN5 (uE kI0 kI5 (uE kI0 kI5 (uE kJ1 kI63 (uE kI0 kI64 uE0)))) (uA kN0 (rA kI90) (uA kN1 (uis kN0) (uA kN2 (uis kN1) (uA kN3 (uis kN2) (uA kN4 (uis kN3) uA0))))) uS0 uO0 (Int.ofNat (nat_lit 11168)) (uL kJ172 kN3 uL0))
  (uK (uC kN53 (uE kI0 kI5 (uE kI0 kI5 (uE kJ1 kI63 (uE kI0 kI63 (uE kI0 kI6 uE0))))) (uA kN0 (rA kI90) (uA kN1 (uis kN0) (uA kN2 (uis kN1) (uA kN3 (uis kN2) (uA kN4 (uis kN3) uA0))))) uS0 (uO kN91 kN3 (uis kN4) uO0) (Int.ofNat (nat_lit 11120)) (uL kJ172 kN3 uL0))
  (uK (uC kN75 (uE kI0 kI5 (uE kI0 kI5 (uE kJ1 kI63 (uE kI0 kI63 (uE kJ1 kI63 (uE kI0 kI6 uE0)))))) (uA kN0 (rA kI90) (uA kN1 (uis kN0) (uA kN2 (uis kN1) (uA kN3 (uis kN2) (uA kN4 (uis kN3) uA0))))) (uS (uis kN4) uS0) (uO kN91 kN3 (uis kN5) uO0) (Int.ofNat (nat_lit 11098)) (uL kJ172 kN3 uL0))
  (uK (uC kN76 (uE kI0 kI5 (uE kI0 kI5 (uE kJ1 kI63 (uE kI0 kI63 (uE kI0 kI6 uE0))))) (uA kN0 (rA kI90) (uA kN1 (uis kN0) (uA kN2 (uis kN1) (uA kN3 (uis kN2) (uA kN4 (uis kN3) uA0))))) uS0 (uO kN91 kN3 (uis kN4) uO0) (Int.ofNat (nat_lit 11097)) (uL kJ172 kN3 uL0))
  uK0)))) = true := by decide +kernel
theorem r154 {l : Launch} {D : va_G} {tys : List (ClassId × FieldType)} {A : Nat → Prop} {ad : Nat → Nat} (hAD : ∀ i : Nat, ad (1000 + i) = D.2 1000 i) : CRok l D tys A ad GG 5 g154 := CR_of_vrf (dep := 4) hAD (List.forall_mem_cons.mpr ⟨r122 hAD, List.forall_mem_cons.mpr ⟨HBru_ok hAD, fun c hc => by cases hc⟩⟩) T2OK_nil w154
noncomputable def g155 : CR := (280, [(2, 90, 90), (0, (-2147483648), 2147483647), (0, (-2147483648), 2147483647)], [], some (0, (-2), 13), [], [90, 98, 99, 100, 101])
theorem w155 : vrf GG [(1, g122), (4, g96), (5, g154)] [] 300 5 g155
  [] = true := by decide +kernel
theorem r155 {l : Launch} {D : va_G} {tys : List (ClassId × FieldType)} {A : Nat → Prop} {ad : Nat → Nat} (hAD : ∀ i : Nat, ad (1000 + i) = D.2 1000 i) : CRok l D tys A ad GG 6 g155 := CR_of_vrf (dep := 5) hAD (List.forall_mem_cons.mpr ⟨r122 hAD, List.forall_mem_cons.mpr ⟨r96 hAD, List.forall_mem_cons.mpr ⟨r154 hAD, fun c hc => by cases hc⟩⟩⟩) T2OK_nil w155
noncomputable def g156 : CR := (34, [(2, 0, 0), (0, (-2147483648), 2147483647), (0, (-2147483648), 2147483647)], [], some (0, (-2), 63), [], [37])
theorem w156 : vrf GG [(5, g152)] [] 300 5 g156
  [] = true := by decide +kernel
theorem r156 {l : Launch} {D : va_G} {tys : List (ClassId × FieldType)} {A : Nat → Prop} {ad : Nat → Nat} (hAD : ∀ i : Nat, ad (1000 + i) = D.2 1000 i) : CRok l D tys A ad GG 6 g156 := CR_of_vrf (dep := 5) hAD (List.forall_mem_cons.mpr ⟨r152 hAD, fun c hc => by cases hc⟩) T2OK_nil w156
noncomputable def g157 : CR := (281, [(2, 90, 90), (0, (-2147483648), 2147483647), (0, (-2147483648), 2147483647)], [], some (0, (-2), 63), [], [90, 98, 99, 100, 101])
theorem w157 : vrf GG [(4, g96), (5, g154)] [] 300 5 g157
  [] = true := by decide +kernel
theorem r157 {l : Launch} {D : va_G} {tys : List (ClassId × FieldType)} {A : Nat → Prop} {ad : Nat → Nat} (hAD : ∀ i : Nat, ad (1000 + i) = D.2 1000 i) : CRok l D tys A ad GG 6 g157 := CR_of_vrf (dep := 5) hAD (List.forall_mem_cons.mpr ⟨r96 hAD, List.forall_mem_cons.mpr ⟨r154 hAD, fun c hc => by cases hc⟩⟩) T2OK_nil w157
noncomputable def g158 : CR := (82, [(2, 4, 4), (2, 32, 32), (0, 0, 5)], [], some (0, 0, 63), [], [])
theorem w158 : vrf GG [] [] 300 3 g158
  (uK (uC kN5 (uE kI0 kI5 (uE kI0 kI63 (uE kI0 kI6 uE0))) (uA kN0 (rA kI4) (uA kN1 (rA kI32) (uA kN2 (uis kN0) (uA kN3 (uis kN1) (uA kN4 (uis kN2) uA0))))) uS0 uO0 (Int.ofNat (nat_lit 716)) (uL kJ104 kN2 uL0))
  (uK (uC kN42 (uE kI0 kI5 (uE kI0 kI63 (uE kI0 kI5 (uE kI1 kI6 uE0)))) (uA kN0 (rA kI4) (uA kN1 (rA kI32) (uA kN2 (uis kN0) (uA kN3 (uis kN1) (uA kN4 (uis kN2) uA0))))) uS0 (uO kN4 kN4 (uis kN3) uO0) (Int.ofNat (nat_lit 679)) (uL kJ104 kN2 uL0))
  uK0)) = true := by decide +kernel
theorem r158 {l : Launch} {D : va_G} {tys : List (ClassId × FieldType)} {A : Nat → Prop} {ad : Nat → Nat} (hAD : ∀ i : Nat, ad (1000 + i) = D.2 1000 i) : CRok l D tys A ad GG 4 g158 := CR_of_vrf (dep := 3) hAD (fun c hc => by cases hc) T2OK_nil w158
noncomputable def g159 : CR := (83, [(2, 36, 36), (2, 4, 4), (0, (-2147483648), 2147483647)], [], some (0, (-2147483648), 2147483647), [], [])
theorem w159 : vrf GG [] [] 300 1 g159
  (uK (uC kN5 (uE kJ2147483648 kI2147483647 (uE kJ2147483648 kI2147483647 (uE kI0 kI6 uE0))) (uA kN0 (rA kI36) (uA kN1 (rA kI4) (uA kN2 (uis kN0) (uA kN3 (uis kN1) (uA kN4 (uis kN2) uA0))))) uS0 uO0 (Int.ofNat (nat_lit 618)) (uL kJ90 kN2 uL0))
  (uK (uC kN35 (uE kJ2147483648 kI2147483647 (uE kJ2147483648 kI2147483647 (uE kI0 kI5 (uE kI1 kI6 uE0)))) (uA kN0 (rA kI36) (uA kN1 (rA kI4) (uA kN2 (uis kN0) (uA kN3 (uis kN1) (uA kN4 (uis kN2) uA0))))) uS0 (uO kN4 kN4 (uis kN3) uO0) (Int.ofNat (nat_lit 588)) (uL kJ90 kN2 uL0))
  uK0)) = true := by decide +kernel
theorem r159 {l : Launch} {D : va_G} {tys : List (ClassId × FieldType)} {A : Nat → Prop} {ad : Nat → Nat} (hAD : ∀ i : Nat, ad (1000 + i) = D.2 1000 i) : CRok l D tys A ad GG 2 g159 := CR_of_vrf (dep := 1) hAD (fun c hc => by cases hc) T2OK_nil w159
noncomputable def g160 : CR := (81, [(2, 36, 36), (2, 4, 4), (2, 32, 32)], [], some (0, 0, 63), [], [38])
theorem w160 : vrf GG [(4, g158), (2, g159)] [] 300 4 g160
  (uK (uC kN2 (uE kI0 kI6 uE0) (uA kN0 (rA kI36) (uA kN1 (rA kI4) (uA kN2 (rA kI32) (uA kN3 (uis kN0) uA0)))) uS0 uO0 (Int.ofNat (nat_lit 21918)) (uL kJ252 kN0 uL0))
  (uK (uC kN32 (uE kI0 kI6 (uE kI0 kI6 uE0)) (uA kN0 (rA kI36) (uA kN1 (rA kI4) (uA kN2 (rA kI32) (uA kN3 (uis kN0) uA0)))) uS0 (uO kN4 kN4 (uis kN1) uO0) (Int.ofNat (nat_lit 17826)) (uL (Int.negSucc (nat_lit 2267)) kN0 uL0))
  (uK (uC kN41 (uE kI0 kI5 (uE kI0 kI6 (uE kI0 kI6 uE0))) (uA kN0 (rA kI36) (uA kN1 (rA kI4) (uA kN2 (rA kI32) (uA kN3 (uis kN0) (uA kN4 (uis kN1) uA0))))) uS0 (uO kN4 kN4 (uis kN2) uO0) (Int.ofNat (nat_lit 17397)) (uL kJ252 kN1 (uL (Int.negSucc (nat_lit 2267)) kN0 uL0)))
  (uK (uC kN90 (uE kI0 kI63 (uE kI0 kI6 (uE kI0 kI6 uE0))) (uA kN0 (rA kI36) (uA kN1 (rA kI4) (uA kN2 (rA kI32) (uA kN3 (uis kN0) (uA kN4 (uis kN1) uA0))))) uS0 (uO kN4 kN4 (uis kN2) uO0) (Int.ofNat (nat_lit 1582)) (uL kJ252 kN1 uL0))
  uK0)))) = true := by decide +kernel
theorem r160 {l : Launch} {D : va_G} {tys : List (ClassId × FieldType)} {A : Nat → Prop} {ad : Nat → Nat} (hAD : ∀ i : Nat, ad (1000 + i) = D.2 1000 i) : CRok l D tys A ad GG 5 g160 := CR_of_vrf (dep := 4) hAD (List.forall_mem_cons.mpr ⟨r158 hAD, List.forall_mem_cons.mpr ⟨r159 hAD, fun c hc => by cases hc⟩⟩) T2OK_nil w160
noncomputable def g161 : CR := (35, [(2, 0, 0)], [], some (0, (-2), 63), [], [38])
theorem w161 : vrf GG [(5, g160)] [] 300 5 g161
  [] = true := by decide +kernel
theorem r161 {l : Launch} {D : va_G} {tys : List (ClassId × FieldType)} {A : Nat → Prop} {ad : Nat → Nat} (hAD : ∀ i : Nat, ad (1000 + i) = D.2 1000 i) : CRok l D tys A ad GG 6 g161 := CR_of_vrf (dep := 5) hAD (List.forall_mem_cons.mpr ⟨r160 hAD, fun c hc => by cases hc⟩) T2OK_nil w161
noncomputable def g162 : CR := (282, [(2, 90, 90), (0, 0, 5)], [], some (0, 0, 63), [], [])
theorem w162 : vrf GG [] [] 300 4 g162
  (uK (uC kN4 (uE kI0 kI5 (uE kI0 kI63 (uE kI0 kI6 uE0))) (uA kN0 (rA kI90) (uA kN1 (uis kN0) (uA kN2 (uis kN1) (uA kN3 (uis kN2) uA0)))) uS0 uO0 (Int.ofNat (nat_lit 662)) (uL kJ96 kN2 uL0))
  (uK (uC kN35 (uE kI0 kI5 (uE kI0 kI63 (uE kI0 kI5 (uE kI0 kI63 (uE kI1 kI6 uE0))))) (uA kN0 (rA kI90) (uA kN1 (uis kN0) (uA kN2 (uis kN1) (uA kN3 (uis kN2) uA0)))) (uS (uis kN3) uS0) (uO kN91 kN3 (uis kN4) uO0) kI631 (uL kJ96 kN2 uL0))
  (uK (uC kN36 (uE kI0 kI5 (uE kI0 kI63 (uE kI0 kI5 (uE kI0 kI32 (uE kI0 kI63 (uE kI1 kI6 uE0)))))) (uA kN0 (rA kI90) (uA kN1 (uis kN0) (uA kN2 (uis kN1) (uA kN3 (uis kN2) uA0)))) (uS (uis kN3) (uS (uis kN4) uS0)) (uO kN91 kN3 (uis kN5) uO0) kI630 (uL kJ96 kN2 uL0))
  uK0))) = true := by decide +kernel
theorem r162 {l : Launch} {D : va_G} {tys : List (ClassId × FieldType)} {A : Nat → Prop} {ad : Nat → Nat} (hAD : ∀ i : Nat, ad (1000 + i) = D.2 1000 i) : CRok l D tys A ad GG 5 g162 := CR_of_vrf (dep := 4) hAD (fun c hc => by cases hc) T2OK_nil w162
noncomputable def g163 : CR := (283, [(2, 90, 90)], [], some (0, (-2), 63), [], [90, 98, 99, 100, 101])
theorem w163 : vrf GG [(4, g96), (5, g162)] [] 300 5 g163
  (uK (uC kN18 (uE kI0 kI63 (uE kI0 kI6 (uE kI1 kI2147483647 uE0))) (uA kN0 (rA kI90) (uA kN1 (uis kN0) (uA kN2 (uis kN1) uA0))) uS0 (uO kN91 kN5 (uis kN2) uO0) (Int.ofNat (nat_lit 115448)) (uL kJ16498 kN1 uL0))
  (uK (uC kN37 (uE kI0 kI63 (uE kI0 kI5 (uE kI0 kI63 (uE kI0 kI6 (uE kI1 kI6 (uE kI1 kI2147483647 uE0)))))) (uA kN0 (rA kI90) (uA kN1 (uis kN0) (uA kN2 (uis kN1) (uA kN3 (uis kN2) (uA kN4 (uis kN3) uA0))))) uS0 (uO kN91 kN3 (uis kN4) (uO kN91 kN5 (uis kN5) uO0)) (Int.ofNat (nat_lit 113244)) (uL kJ2034 kN3 (uL kJ16498 kN1 uL0)))
  (uK (uC kN47 (uE kI0 kI63 (uE kI0 kI5 (uE kI0 kI63 (uE kI0 kI5 (uE kI0 kI6 (uE kI1 kI6 (uE kI1 kI2147483647 uE0))))))) (uA kN0 (rA kI90) (uA kN1 (uis kN0) (uA kN2 (uis kN1) (uA kN3 (uis kN2) (uA kN4 (uis kN3) (uA kN5 (uis kN4) uA0)))))) uS0 (uO kN91 kN3 (uis kN5) (uO kN91 kN5 (uis kN6) uO0)) (Int.ofNat (nat_lit 112847)) (uL (Int.negSucc (nat_lit 225)) kN4 (uL kJ16498 kN1 (uL kJ2034 kN3 uL0))))
  (uK (uC kN79 (uE kI0 kI63 (uE kI0 kI5 (uE kI0 kI63 (uE kI0 kI5 (uE kI0 kI5 (uE kI0 kI63 (uE kI0 kI63 (uE kI1 kI6 (uE kI1 kI2147483647 uE0))))))))) (uA kN0 (rA kI90) (uA kN1 (uis kN0) (uA kN2 (uis kN1) (uA kN3 (uis kN2) (uA kN4 (uis kN3) (uA kN5 (uis kN4) uA0)))))) (uS (uis kN5) (uS (uis kN6) uS0)) (uO kN91 kN3 (uis kN7) (uO kN91 kN5 (uis kN8) uO0)) (Int.ofNat (nat_lit 112815)) (uL (Int.negSucc (nat_lit 225)) kN4 (uL kJ16498 kN1 (uL kJ2034 kN3 uL0))))
  uK0)))) = true := by decide +kernel
theorem r163 {l : Launch} {D : va_G} {tys : List (ClassId × FieldType)} {A : Nat → Prop} {ad : Nat → Nat} (hAD : ∀ i : Nat, ad (1000 + i) = D.2 1000 i) : CRok l D tys A ad GG 6 g163 := CR_of_vrf (dep := 5) hAD (List.forall_mem_cons.mpr ⟨r96 hAD, List.forall_mem_cons.mpr ⟨r162 hAD, fun c hc => by cases hc⟩⟩) T2OK_nil w163
noncomputable def g164 : CR := (113, [(2, 4, 4), (0, 0, 5)], [], some (0, 0, 4095), [], [])
theorem w164 : vrf GG [] [] 300 1 g164
  (uK (uC kN4 (uE kI0 kI5 (uE kI0 kI4095 (uE kI0 kI12 uE0))) (uA kN0 (rA kI4) (uA kN1 (uis kN0) (uA kN2 (uis kN1) (uA kN3 (uis kN2) uA0)))) uS0 uO0 (Int.ofNat (nat_lit 1030)) (uL kJ80 kN2 uL0))
  (uK (uC kN30 (uE kI0 kI5 (uE kI0 kI4095 (uE kI0 kI11 (uE kI1 kI12 uE0)))) (uA kN0 (rA kI4) (uA kN1 (uis kN0) (uA kN2 (uis kN1) (uA kN3 (uis kN2) uA0)))) uS0 (uO kN4 kN5 (uis kN3) uO0) (Int.ofNat (nat_lit 1004)) (uL kJ80 kN2 uL0))
  uK0)) = true := by decide +kernel
theorem r164 {l : Launch} {D : va_G} {tys : List (ClassId × FieldType)} {A : Nat → Prop} {ad : Nat → Nat} (hAD : ∀ i : Nat, ad (1000 + i) = D.2 1000 i) : CRok l D tys A ad GG 2 g164 := CR_of_vrf (dep := 1) hAD (fun c hc => by cases hc) T2OK_nil w164
noncomputable def g165 : CR := (93, [(2, 28, 28), (2, 4, 4), (0, 0, 5), (0, 0, 5), (0, 0, 4095)], [], some (0, 0, 1), [], [31])
theorem w165 : vrf GG [(3, g75), (2, g70), (2, g68), (3, g69)] [] 603 3 g165
  (uK (uC kN8 (uE kI0 kI5 (uE kI0 kI5 (uE kI0 kI4095 (uE kI0 kI12 uE0)))) (uA kN0 (rA kI28) (uA kN1 (rA kI4) (uA kN2 (uis kN0) (uA kN3 (uis kN1) (uA kN4 (uis kN2) (uA kN5 (uis kN3) uA0)))))) uS0 uO0 (Int.ofNat (nat_lit 2244)) (uL kJ174 kN3 uL0))
  (uK (uC kN59 (uE kI0 kI5 (uE kI0 kI5 (uE kI0 kI4095 (uE kI0 kI11 (uE kJ2147483648 kI2147483647 (uE kI1 kI12 uE0)))))) (uA kN0 (rA kI28) (uA kN1 (rA kI4) (uA kN2 (uis kN0) (uA kN3 (uis kN1) (uA kN4 (uis kN2) (uA kN5 (uis kN3) (uA kN6 (uis kN4) uA0))))))) uS0 (uO kN4 kN5 (uis kN5) uO0) (Int.ofNat (nat_lit 2193)) (uL kJ174 kN3 uL0))
  uK0)) = true := by decide +kernel
theorem r165 {l : Launch} {D : va_G} {tys : List (ClassId × FieldType)} {A : Nat → Prop} {ad : Nat → Nat} (hAD : ∀ i : Nat, ad (1000 + i) = D.2 1000 i) : CRok l D tys A ad GG 4 g165 := CR_of_vrf (dep := 3) hAD (List.forall_mem_cons.mpr ⟨r75 hAD, List.forall_mem_cons.mpr ⟨r70 hAD, List.forall_mem_cons.mpr ⟨r68 hAD, List.forall_mem_cons.mpr ⟨r69 hAD, fun c hc => by cases hc⟩⟩⟩⟩) T2OK_nil w165
noncomputable def g166 : CR := (36, [(2, 0, 0), (0, (-2147483648), 2147483647), (0, (-2147483648), 2147483647)], [], some (0, (-2), 63), [], [31])
theorem w166 : vrf GG [(4, g165), (2, g164)] [] 300 4 g166
  (uK (uC kN42 (uE kI0 kI5 (uE kI0 kI5 (uE kI0 kI63 (uE kI0 kI6 (uE kI0 kI24 (uE kI1 kI6 uE0)))))) (uA kN0 (rA kI0) (uA kN1 (uis kN0) (uA kN2 (uis kN1) (uA kN3 (uis kN2) (uA kN4 (uis kN3) uA0))))) uS0 (uO kN4 kN3 (uis kN4) (uO kN4 kN4 (uis kN5) uO0)) kI1594 (uL kJ240 kN3 uL0))
  (uK (uC kN70 (uE kI0 kI5 (uE kI0 kI5 (uE kI0 kI63 (uE kI0 kI5 (uE kI0 kI24 (uE kI1 kI6 uE0)))))) (uA kN0 (rA kI0) (uA kN1 (uis kN0) (uA kN2 (uis kN1) (uA kN3 (uis kN2) (uA kN4 (uis kN3) uA0))))) uS0 (uO kN4 kN3 (uis kN4) (uO kN4 kN4 (uis kN5) uO0)) (Int.ofNat (nat_lit 1566)) (uL kJ240 kN3 uL0))
  (uK (uC kN71 (uE kI0 kI5 (uE kI0 kI5 (uE kI0 kI63 (uE kI0 kI5 (uE kI0 kI1 (uE kI0 kI24 (uE kI1 kI6 uE0))))))) (uA kN0 (rA kI0) (uA kN1 (uis kN0) (uA kN2 (uis kN1) (uA kN3 (uis kN2) (uA kN4 (uis kN3) uA0))))) (uS (uis kN4) uS0) (uO kN4 kN3 (uis kN5) (uO kN4 kN4 (uis kN6) uO0)) (Int.ofNat (nat_lit 1565)) (uL kJ240 kN3 uL0))
  (uK (uC kN110 (uE kI0 kI5 (uE kI0 kI5 (uE kI0 kI63 (uE kI0 kI5 (uE kI0 kI1 (uE kI0 kI24 (uE kI1 kI6 uE0))))))) (uA kN0 (rA kI0) (uA kN1 (uis kN0) (uA kN2 (uis kN1) (uA kN3 (uis kN2) (uA kN4 (uis kN3) (uA kN5 (uis kN4) uA0)))))) uS0 (uO kN4 kN3 (uis kN5) (uO kN4 kN4 (uis kN6) uO0)) (Int.ofNat (nat_lit 1526)) (uL kJ240 kN3 uL0))
  uK0)))) = true := by decide +kernel
theorem r166 {l : Launch} {D : va_G} {tys : List (ClassId × FieldType)} {A : Nat → Prop} {ad : Nat → Nat} (hAD : ∀ i : Nat, ad (1000 + i) = D.2 1000 i) : CRok l D tys A ad GG 5 g166 := CR_of_vrf (dep := 4) hAD (List.forall_mem_cons.mpr ⟨r165 hAD, List.forall_mem_cons.mpr ⟨r164 hAD, fun c hc => by cases hc⟩⟩) T2OK_nil w166
noncomputable def g167 : CR := (285, [(2, 90, 90), (0, 0, 5)], [], some (0, 0, 4095), [], [])
theorem w167 : vrf GG [] [] 300 1 g167
  (uK (uC kN4 (uE kI0 kI5 (uE kI0 kI4095 (uE kI0 kI12 uE0))) (uA kN0 (rA kI90) (uA kN1 (uis kN0) (uA kN2 (uis kN1) (uA kN3 (uis kN2) uA0)))) uS0 uO0 (Int.ofNat (nat_lit 1134)) (uL kJ88 kN2 uL0))
  (uK (uC kN32 (uE kI0 kI5 (uE kI0 kI4095 (uE kI0 kI11 (uE kI0 kI2048 (uE kI0 kI4095 (uE kI1 kI12 uE0)))))) (uA kN0 (rA kI90) (uA kN1 (uis kN0) (uA kN2 (uis kN1) (uA kN3 (uis kN2) uA0)))) (uS (uis kN3) (uS (uis kN4) uS0)) (uO kN91 kN4 (uis kN5) uO0) (Int.ofNat (nat_lit 1106)) (uL kJ88 kN2 uL0))
  uK0)) = true := by decide +kernel
theorem r167 {l : Launch} {D : va_G} {tys : List (ClassId × FieldType)} {A : Nat → Prop} {ad : Nat → Nat} (hAD : ∀ i : Nat, ad (1000 + i) = D.2 1000 i) : CRok l D tys A ad GG 2 g167 := CR_of_vrf (dep := 1) hAD (fun c hc => by cases hc) T2OK_nil w167
noncomputable def g168 : CR := (286, [(2, 90, 90), (0, (-2147483648), 2147483647), (0, (-2147483648), 2147483647)], [], some (0, (-2), 63), [], [90, 98, 99, 100, 101])
theorem w168 : vrf GG [(4, g96), (2, g167)] [] 488 5 g168
  (uK (uC kN29 (uE kI0 kI5 (uE kI0 kI5 (uE kI0 kI63 (uE kI0 kI6 (uE kI0 kI24 (uE kI1 kI6 uE0)))))) (uA kN0 (rA kI90) (uA kN1 (uis kN0) (uA kN2 (uis kN1) (uA kN3 (uis kN2) (uA kN4 (uis kN3) uA0))))) uS0 (uO kN90 kN21 (uic kI0) (uO kN91 kN2 (uis kN4) (uO kN91 kN3 (uis kN5) uO0))) (Int.ofNat (nat_lit 1172)) (uL kJ176 kN3 uL0))
  (uK (uC kN75 (uE kI0 kI5 (uE kI0 kI5 (uE kI0 kI63 (uE kI0 kI5 (uE kI0 kI63 (uE kI0 kI24 (uE kI1 kI6 uE0))))))) (uA kN0 (rA kI90) (uA kN1 (uis kN0) (uA kN2 (uis kN1) (uA kN3 (uis kN2) (uA kN4 (uis kN3) uA0))))) (uS (uis kN4) uS0) (uO kN90 kN21 (uic kI0) (uO kN91 kN2 (uis kN5) (uO kN91 kN3 (uis kN6) uO0))) (Int.ofNat (nat_lit 1126)) (uL kJ176 kN3 uL0))
  (uK (uC kN76 (uE kI0 kI5 (uE kI0 kI5 (uE kI0 kI63 (uE kI0 kI5 (uE kI0 kI32 (uE kI0 kI63 (uE kI0 kI24 (uE kI1 kI6 uE0)))))))) (uA kN0 (rA kI90) (uA kN1 (uis kN0) (uA kN2 (uis kN1) (uA kN3 (uis kN2) (uA kN4 (uis kN3) uA0))))) (uS (uis kN4) (uS (uis kN5) uS0)) (uO kN90 kN21 (uic kI0) (uO kN91 kN2 (uis kN6) (uO kN91 kN3 (uis kN7) uO0))) (Int.ofNat (nat_lit 1125)) (uL kJ176 kN3 uL0))
  uK0))) = true := by decide +kernel
theorem r168 {l : Launch} {D : va_G} {tys : List (ClassId × FieldType)} {A : Nat → Prop} {ad : Nat → Nat} (hAD : ∀ i : Nat, ad (1000 + i) = D.2 1000 i) : CRok l D tys A ad GG 6 g168 := CR_of_vrf (dep := 5) hAD (List.forall_mem_cons.mpr ⟨r96 hAD, List.forall_mem_cons.mpr ⟨r167 hAD, fun c hc => by cases hc⟩⟩) T2OK_nil w168
noncomputable def g169 : CR := (93, [(2, 28, 28), (2, 4, 4), (0, 0, 5), (0, 0, 5), (0, 0, 2147483647)], [], some (0, 0, 1), [], [31])
theorem w169 : vrf GG [(3, g75), (2, g70), (2, g68), (3, g69)] [] 603 3 g169
  (uK (uC kN8 (uE kI0 kI5 (uE kI0 kI5 (uE kI0 kI2147483647 (uE kI0 kI12 uE0)))) (uA kN0 (rA kI28) (uA kN1 (rA kI4) (uA kN2 (uis kN0) (uA kN3 (uis kN1) (uA kN4 (uis kN2) (uA kN5 (uis kN3) uA0)))))) uS0 uO0 (Int.ofNat (nat_lit 2244)) (uL kJ174 kN3 uL0))
  (uK (uC kN59 (uE kI0 kI5 (uE kI0 kI5 (uE kI0 kI2147483647 (uE kI0 kI11 (uE kJ2147483648 kI2147483647 (uE kI1 kI12 uE0)))))) (uA kN0 (rA kI28) (uA kN1 (rA kI4) (uA kN2 (uis kN0) (uA kN3 (uis kN1) (uA kN4 (uis kN2) (uA kN5 (uis kN3) (uA kN6 (uis kN4) uA0))))))) uS0 (uO kN4 kN5 (uis kN5) uO0) (Int.ofNat (nat_lit 2193)) (uL kJ174 kN3 uL0))
  uK0)) = true := by decide +kernel
theorem r169 {l : Launch} {D : va_G} {tys : List (ClassId × FieldType)} {A : Nat → Prop} {ad : Nat → Nat} (hAD : ∀ i : Nat, ad (1000 + i) = D.2 1000 i) : CRok l D tys A ad GG 4 g169 := CR_of_vrf (dep := 3) hAD (List.forall_mem_cons.mpr ⟨r75 hAD, List.forall_mem_cons.mpr ⟨r70 hAD, List.forall_mem_cons.mpr ⟨r68 hAD, List.forall_mem_cons.mpr ⟨r69 hAD, fun c hc => by cases hc⟩⟩⟩⟩) T2OK_nil w169
noncomputable def g170 : CR := (37, [(2, 0, 0), (0, (-2147483648), 2147483647), (0, (-2147483648), 2147483647)], [], some (0, (-2), 4095), [], [31])
theorem w170 : vrf GG [(4, g169)] [] 300 4 g170
  (uK (uC kN42 (uE kI0 kI5 (uE kI0 kI5 (uE kI0 kI4095 (uE kI0 kI12 (uE kI0 kI24 (uE kI1 kI6 uE0)))))) (uA kN0 (rA kI0) (uA kN1 (uis kN0) (uA kN2 (uis kN1) (uA kN3 (uis kN2) (uA kN4 (uis kN3) uA0))))) uS0 (uO kN4 kN3 (uis kN4) (uO kN4 kN4 (uis kN5) uO0)) (Int.ofNat (nat_lit 2280)) (uL (Int.negSucc (nat_lit 181)) kN3 uL0))
  (uK (uC kN81 (uE kI0 kI5 (uE kI0 kI5 (uE kI0 kI4095 (uE kI0 kI11 (uE kI0 kI24 (uE kI1 kI6 (uE kI1 kI12 uE0))))))) (uA kN0 (rA kI0) (uA kN1 (uis kN0) (uA kN2 (uis kN1) (uA kN3 (uis kN2) (uA kN4 (uis kN3) uA0))))) uS0 (uO kN4 kN3 (uis kN4) (uO kN4 kN4 (uis kN5) (uO kN4 kN5 (uis kN6) uO0))) (Int.ofNat (nat_lit 2241)) (uL (Int.negSucc (nat_lit 181)) kN3 uL0))
  uK0)) = true := by decide +kernel
theorem r170 {l : Launch} {D : va_G} {tys : List (ClassId × FieldType)} {A : Nat → Prop} {ad : Nat → Nat} (hAD : ∀ i : Nat, ad (1000 + i) = D.2 1000 i) : CRok l D tys A ad GG 5 g170 := CR_of_vrf (dep := 4) hAD (List.forall_mem_cons.mpr ⟨r169 hAD, fun c hc => by cases hc⟩) T2OK_nil w170
noncomputable def g171 : CR := (287, [(2, 90, 90), (0, (-2147483648), 2147483647), (0, (-2147483648), 2147483647)], [], some (0, (-2), 4095), [], [90, 98, 99, 100, 101])
theorem w171 : vrf GG [(4, g96)] [] 482 5 g171
  (uK (uC kN29 (uE kI0 kI5 (uE kI0 kI5 (uE kI0 kI4095 (uE kI0 kI12 (uE kI0 kI24 (uE kI1 kI6 uE0)))))) (uA kN0 (rA kI90) (uA kN1 (uis kN0) (uA kN2 (uis kN1) (uA kN3 (uis kN2) (uA kN4 (uis kN3) uA0))))) uS0 (uO kN90 kN21 (uic kI0) (uO kN91 kN2 (uis kN4) (uO kN91 kN3 (uis kN5) uO0))) (Int.ofNat (nat_lit 1864)) (uL kJ148 kN3 uL0))
  (uK (uC kN62 (uE kI0 kI5 (uE kI0 kI5 (uE kI0 kI4095 (uE kI0 kI11 (uE kI0 kI2048 (uE kI0 kI4095 (uE kI0 kI24 (uE kI1 kI6 (uE kI1 kI12 uE0))))))))) (uA kN0 (rA kI90) (uA kN1 (uis kN0) (uA kN2 (uis kN1) (uA kN3 (uis kN2) (uA kN4 (uis kN3) uA0))))) (uS (uis kN4) (uS (uis kN5) uS0)) (uO kN90 kN21 (uic kI0) (uO kN91 kN2 (uis kN6) (uO kN91 kN3 (uis kN7) (uO kN91 kN4 (uis kN8) uO0)))) kI1831 (uL kJ148 kN3 uL0))
  uK0)) = true := by decide +kernel
theorem r171 {l : Launch} {D : va_G} {tys : List (ClassId × FieldType)} {A : Nat → Prop} {ad : Nat → Nat} (hAD : ∀ i : Nat, ad (1000 + i) = D.2 1000 i) : CRok l D tys A ad GG 6 g171 := CR_of_vrf (dep := 5) hAD (List.forall_mem_cons.mpr ⟨r96 hAD, fun c hc => by cases hc⟩) T2OK_nil w171
noncomputable def g172 : CR := (40, [(2, 0, 0), (0, 0, 5), (0, 0, 5)], [], some (0, (-1), 4095), [], [31])
theorem w172 : vrf GG [(4, g165)] [] 300 4 g172
  (uK (uC kN34 (uE kI0 kI5 (uE kI0 kI5 (uE kI1 kI4096 (uE kI0 kI13 (uE kI0 kI12 uE0))))) (uA kN0 (rA kI0) (uA kN1 (uis kN0) (uA kN2 (uis kN1) (uA kN3 (uis kN2) (uA kN4 (uis kN3) uA0))))) uS0 (uO kN4 kN5 (uis kN4) uO0) (Int.ofNat (nat_lit 13083938)) (uL kJ934572 kN3 uL0))
  (uK (uC kN49 (uE kI0 kI5 (uE kI0 kI5 (uE kI1 kI4096 (uE kI0 kI12 (uE kI0 kI4096 (uE kI0 kI12 uE0)))))) (uA kN0 (rA kI0) (uA kN1 (uis kN0) (uA kN2 (uis kN1) (uA kN3 (uis kN2) (uA kN4 (uis kN3) (uA kN5 (uis kN4) uA0)))))) uS0 (uO kN4 kN5 (uis kN5) uO0) (Int.ofNat (nat_lit 13083531)) (uL kJ228 kN4 (uL kJ934572 kN3 uL0)))
  (uK (uC kN70 (uE kI0 kI5 (uE kI0 kI5 (uE kI1 kI4096 (uE kI0 kI12 (uE kI0 kI4095 (uE kI0 kI1 (uE kI0 kI12 uE0))))))) (uA kN0 (rA kI0) (uA kN1 (uis kN0) (uA kN2 (uis kN1) (uA kN3 (uis kN2) (uA kN4 (uis kN3) (uA kN5 (uis kN4) uA0)))))) (uS (uis kN5) uS0) (uO kN4 kN5 (uis kN6) uO0) (Int.ofNat (nat_lit 13083510)) (uL kJ228 kN4 (uL kJ934572 kN3 uL0)))
  (uK (uC kN98 (uE kI0 kI5 (uE kI0 kI5 (uE kI1 kI4096 (uE kI0 kI12 (uE kI0 kI4095 (uE kI0 kI1 (uE kI0 kI12 uE0))))))) (uA kN0 (rA kI0) (uA kN1 (uis kN0) (uA kN2 (uis kN1) (uA kN3 (uis kN2) (uA kN4 (uis kN3) (uA kN5 (uis kN4) (uA kN6 (uis kN5) uA0))))))) uS0 (uO kN4 kN5 (uis kN6) uO0) (Int.ofNat (nat_lit 13083482)) (uL kJ228 kN4 (uL kJ934572 kN3 uL0)))
  uK0)))) = true := by decide +kernel
theorem r172 {l : Launch} {D : va_G} {tys : List (ClassId × FieldType)} {A : Nat → Prop} {ad : Nat → Nat} (hAD : ∀ i : Nat, ad (1000 + i) = D.2 1000 i) : CRok l D tys A ad GG 5 g172 := CR_of_vrf (dep := 4) hAD (List.forall_mem_cons.mpr ⟨r165 hAD, fun c hc => by cases hc⟩) T2OK_nil w172
noncomputable def g173 : CR := (38, [(2, 0, 0), (0, (-2147483648), 2147483647), (0, (-2147483648), 2147483647)], [], some (0, (-2), 63), [], [31])
theorem w173 : vrf GG [(5, g172)] [] 300 5 g173
  [] = true := by decide +kernel
theorem r173 {l : Launch} {D : va_G} {tys : List (ClassId × FieldType)} {A : Nat → Prop} {ad : Nat → Nat} (hAD : ∀ i : Nat, ad (1000 + i) = D.2 1000 i) : CRok l D tys A ad GG 6 g173 := CR_of_vrf (dep := 5) hAD (List.forall_mem_cons.mpr ⟨r172 hAD, fun c hc => by cases hc⟩) T2OK_nil w173
noncomputable def g174 : CR := (194, [(0, 0, 2147483647)], [], some (0, 0, 13), [], [])
theorem w174 : vrf GG [] [] 300 0 g174
  [] = true := by decide +kernel
theorem r174 {l : Launch} {D : va_G} {tys : List (ClassId × FieldType)} {A : Nat → Prop} {ad : Nat → Nat} (hAD : ∀ i : Nat, ad (1000 + i) = D.2 1000 i) : CRok l D tys A ad GG 1 g174 := CR_of_vrf (dep := 0) hAD (fun c hc => by cases hc) T2OK_nil w174
noncomputable def g175 : CR := (288, [(2, 90, 90), (0, 0, 5), (0, 0, 5)], [], some (0, (-1), 4095), [], [90, 98, 99, 100, 101])
theorem w175 : vrf GG [(1, g174), (4, g96)] [] 300 5 g175
  (uK (uC kN5 (uE kI0 kI5 (uE kI0 kI5 (uE kJ1 kI4095 (uE kI0 kI4096 uE0)))) (uA kN0 (rA kI90) (uA kN1 (uis kN0) (uA kN2 (uis kN1) (uA kN3 (uis kN2) (uA kN4 (uis kN3) uA0))))) uS0 uO0 (Int.ofNat (nat_lit 483434)) (uL kJ118 kN3 uL0))
  (uK (uC kN35 (uE kI0 kI5 (uE kI0 kI5 (uE kJ1 kI4095 (uE kI0 kI4095 (uE kI0 kI12 uE0))))) (uA kN0 (rA kI90) (uA kN1 (uis kN0) (uA kN2 (uis kN1) (uA kN3 (uis kN2) (uA kN4 (uis kN3) uA0))))) uS0 (uO kN91 kN4 (uis kN4) uO0) (Int.ofNat (nat_lit 483404)) (uL kJ118 kN3 uL0))
  (uK (uC kN49 (uE kI0 kI5 (uE kI0 kI5 (uE kJ1 kI4095 (uE kI0 kI4095 (uE kI0 kI12 uE0))))) (uA kN0 (rA kI90) (uA kN1 (uis kN0) (uA kN2 (uis kN1) (uA kN3 (uis kN2) (uA kN4 (uis kN3) uA0))))) uS0 (uO kN91 kN4 (uis kN4) uO0) (Int.ofNat (nat_lit 483390)) (uL kJ118 kN3 uL0))
  uK0))) = true := by decide +kernel
theorem r175 {l : Launch} {D : va_G} {tys : List (ClassId × FieldType)} {A : Nat → Prop} {ad : Nat → Nat} (hAD : ∀ i : Nat, ad (1000 + i) = D.2 1000 i) : CRok l D tys A ad GG 6 g175 := CR_of_vrf (dep := 5) hAD (List.forall_mem_cons.mpr ⟨r174 hAD, List.forall_mem_cons.mpr ⟨r96 hAD, fun c hc => by cases hc⟩⟩) T2OK_nil w175
noncomputable def g176 : CR := (289, [(2, 90, 90), (0, (-2147483648), 2147483647), (0, (-2147483648), 2147483647)], [], some (0, (-2), 13), [], [90, 98, 99, 100, 101])
theorem w176 : vrf GG [(1, g174), (6, g175)] [] 300 6 g176
  [] = true := by decide +kernel
theorem r176 {l : Launch} {D : va_G} {tys : List (ClassId × FieldType)} {A : Nat → Prop} {ad : Nat → Nat} (hAD : ∀ i : Nat, ad (1000 + i) = D.2 1000 i) : CRok l D tys A ad GG 7 g176 := CR_of_vrf (dep := 6) hAD (List.forall_mem_cons.mpr ⟨r174 hAD, List.forall_mem_cons.mpr ⟨r175 hAD, fun c hc => by cases hc⟩⟩) T2OK_nil w176
noncomputable def g177 : CR := (39, [(2, 0, 0), (0, (-2147483648), 2147483647), (0, (-2147483648), 2147483647)], [], some (0, (-2), 4095), [], [31])
theorem w177 : vrf GG [(5, g172)] [] 300 5 g177
  [] = true := by decide +kernel
theorem r177 {l : Launch} {D : va_G} {tys : List (ClassId × FieldType)} {A : Nat → Prop} {ad : Nat → Nat} (hAD : ∀ i : Nat, ad (1000 + i) = D.2 1000 i) : CRok l D tys A ad GG 6 g177 := CR_of_vrf (dep := 5) hAD (List.forall_mem_cons.mpr ⟨r172 hAD, fun c hc => by cases hc⟩) T2OK_nil w177
noncomputable def g178 : CR := (290, [(2, 90, 90), (0, (-2147483648), 2147483647), (0, (-2147483648), 2147483647)], [], some (0, (-2), 4095), [], [90, 98, 99, 100, 101])
theorem w178 : vrf GG [(6, g175)] [] 300 6 g178
  [] = true := by decide +kernel
theorem r178 {l : Launch} {D : va_G} {tys : List (ClassId × FieldType)} {A : Nat → Prop} {ad : Nat → Nat} (hAD : ∀ i : Nat, ad (1000 + i) = D.2 1000 i) : CRok l D tys A ad GG 7 g178 := CR_of_vrf (dep := 6) hAD (List.forall_mem_cons.mpr ⟨r175 hAD, fun c hc => by cases hc⟩) T2OK_nil w178
noncomputable def g185 : CR := (182, [(2, 32, 32), (2, 4, 4), (0, 0, 63), (0, 0, 5), (0, 1, 24)], [], some (0, 0, 1), [], [])
theorem w185 : vrf GG [] [] 300 2 g185
  (uK (uC kN6 (uE kI0 kI63 (uE kI0 kI5 (uE kI1 kI24 (uE kJ2147483648 kI2147483647 (uE kI0 kI6 uE0))))) (uA kN0 (rA kI32) (uA kN1 (rA kI4) (uA kN2 (uis kN0) (uA kN3 (uis kN1) (uA kN4 (uis kN2) (uA kN5 (uis kN3) (uA kN6 (uis kN4) uA0))))))) uS0 uO0 (Int.ofNat (nat_lit 854)) (uL (Int.negSucc (nat_lit 123)) kN4 uL0))
  (uK (uC kN38 (uE kI0 kI63 (uE kI0 kI5 (uE kI1 kI24 (uE kJ2147483648 kI2147483647 (uE kI0 kI5 (uE kI1 kI6 uE0)))))) (uA kN0 (rA kI32) (uA kN1 (rA kI4) (uA kN2 (uis kN0) (uA kN3 (uis kN1) (uA kN4 (uis kN2) (uA kN5 (uis kN3) (uA kN6 (uis kN4) uA0))))))) uS0 (uO kN4 kN4 (uis kN5) uO0) (Int.ofNat (nat_lit 822)) (uL (Int.negSucc (nat_lit 123)) kN4 uL0))
  uK0)) = true := by decide +kernel
theorem r185 {l : Launch} {D : va_G} {tys : List (ClassId × FieldType)} {A : Nat → Prop} {ad : Nat → Nat} (hAD : ∀ i : Nat, ad (1000 + i) = D.2 1000 i) : CRok l D tys A ad GG 3 g185 := CR_of_vrf (dep := 2) hAD (fun c hc => by cases hc) T2OK_nil w185
noncomputable def g186 : CR := (45, [(2, 0, 0), (0, (-2147483648), 2147483647), (0, (-2147483648), 2147483647), (0, (-2147483648), 2147483647)], [], some (0, (-2), 1), [], [])
theorem w186 : vrf GG [(3, g185)] [] 300 3 g186
  [] = true := by decide +kernel
theorem r186 {l : Launch} {D : va_G} {tys : List (ClassId × FieldType)} {A : Nat → Prop} {ad : Nat → Nat} (hAD : ∀ i : Nat, ad (1000 + i) = D.2 1000 i) : CRok l D tys A ad GG 4 g186 := CR_of_vrf (dep := 3) hAD (List.forall_mem_cons.mpr ⟨r185 hAD, fun c hc => by cases hc⟩) T2OK_nil w186
noncomputable def g187 : CR := (295, [(2, 90, 90), (0, 0, 63), (0, 0, 5), (0, 0, 23)], [], some (0, 0, 1), [], [])
theorem w187 : vrf GG [] [] 300 2 g187
  (uK (uC kN6 (uE kI0 kI63 (uE kI0 kI5 (uE kI0 kI23 (uE kI0 kI63 (uE kI0 kI6 uE0))))) (uA kN0 (rA kI90) (uA kN1 (uis kN0) (uA kN2 (uis kN1) (uA kN3 (uis kN2) (uA kN4 (uis kN3) (uA kN5 (uis kN4) uA0)))))) uS0 uO0 (Int.ofNat (nat_lit 966)) (uL (Int.negSucc (nat_lit 139)) kN4 uL0))
  (uK (uC kN43 (uE kI0 kI63 (uE kI0 kI5 (uE kI0 kI23 (uE kI0 kI63 (uE kI0 kI5 (uE kI0 kI63 (uE kI0 kI63 (uE kI1 kI6 uE0)))))))) (uA kN0 (rA kI90) (uA kN1 (uis kN0) (uA kN2 (uis kN1) (uA kN3 (uis kN2) (uA kN4 (uis kN3) (uA kN5 (uis kN4) uA0)))))) (uS (uis kN5) (uS (uis kN6) uS0)) (uO kN91 kN3 (uis kN7) uO0) kI929 (uL (Int.negSucc (nat_lit 139)) kN4 uL0))
  uK0)) = true := by decide +kernel
theorem r187 {l : Launch} {D : va_G} {tys : List (ClassId × FieldType)} {A : Nat → Prop} {ad : Nat → Nat} (hAD : ∀ i : Nat, ad (1000 + i) = D.2 1000 i) : CRok l D tys A ad GG 3 g187 := CR_of_vrf (dep := 2) hAD (fun c hc => by cases hc) T2OK_nil w187
noncomputable def g188 : CR := (296, [(2, 90, 90), (0, (-2147483648), 2147483647), (0, (-2147483648), 2147483647), (0, (-2147483648), 2147483647)], [], some (0, (-2), 1), [], [90, 98, 99, 100, 101])
theorem w188 : vrf GG [(4, g96), (3, g187)] [] 300 5 g188
  [] = true := by decide +kernel
theorem r188 {l : Launch} {D : va_G} {tys : List (ClassId × FieldType)} {A : Nat → Prop} {ad : Nat → Nat} (hAD : ∀ i : Nat, ad (1000 + i) = D.2 1000 i) : CRok l D tys A ad GG 6 g188 := CR_of_vrf (dep := 5) hAD (List.forall_mem_cons.mpr ⟨r96 hAD, List.forall_mem_cons.mpr ⟨r187 hAD, fun c hc => by cases hc⟩⟩) T2OK_nil w188
noncomputable def g189 : CR := (183, [(2, 32, 32), (2, 4, 4), (0, 0, 5), (0, 1, 24)], [], some (0, (-1), 63), [], [])
theorem w189 : vrf GG [(3, g185)] [] 300 3 g189
  (uK (uC kN10 (uE kI0 kI5 (uE kI1 kI24 (uE kJ1 kI63 (uE kI0 kI63 (uE kI0 kI64 uE0))))) (uA kN0 (rA kI32) (uA kN1 (rA kI4) (uA kN2 (uis kN0) (uA kN3 (uis kN1) (uA kN4 (uis kN2) (uA kN5 (uis kN3) (uA kN6 (uis kN4) uA0))))))) uS0 uO0 (Int.ofNat (nat_lit 10898)) (uL kJ168 kN4 uL0))
  (uK (uC kN33 (uE kI0 kI5 (uE kI1 kI24 (uE kJ1 kI63 (uE kI0 kI63 (uE kI0 kI63 (uE kI0 kI1 (uE kI0 kI6 uE0))))))) (uA kN0 (rA kI32) (uA kN1 (rA kI4) (uA kN2 (uis kN0) (uA kN3 (uis kN1) (uA kN4 (uis kN2) (uA kN5 (uis kN3) (uA kN6 (uis kN4) uA0))))))) (uS (uis kN5) uS0) (uO kN4 kN4 (uis kN6) uO0) (Int.ofNat (nat_lit 10875)) (uL kJ168 kN4 uL0))
  (uK (uC kN73 (uE kI0 kI5 (uE kI1 kI24 (uE kJ1 kI63 (uE kI0 kI63 (uE kI0 kI63 (uE kI0 kI1 (uE kI0 kI6 uE0))))))) (uA kN0 (rA kI32) (uA kN1 (rA kI4) (uA kN2 (uis kN0) (uA kN3 (uis kN1) (uA kN4 (uis kN2) (uA kN5 (uis kN3) (uA kN6 (uis kN4) (uA kN7 (uis kN5) uA0)))))))) uS0 (uO kN4 kN4 (uis kN6) uO0) (Int.ofNat (nat_lit 10835)) (uL kJ168 kN4 uL0))
  uK0))) = true := by decide +kernel
theorem r189 {l : Launch} {D : va_G} {tys : List (ClassId × FieldType)} {A : Nat → Prop} {ad : Nat → Nat} (hAD : ∀ i : Nat, ad (1000 + i) = D.2 1000 i) : CRok l D tys A ad GG 4 g189 := CR_of_vrf (dep := 3) hAD (List.forall_mem_cons.mpr ⟨r185 hAD, fun c hc => by cases hc⟩) T2OK_nil w189
noncomputable def g190 : CR := (46, [(2, 0, 0), (0, (-2147483648), 2147483647), (0, (-2147483648), 2147483647)], [], some (0, (-2), 63), [], [])
theorem w190 : vrf GG [(4, g189)] [] 300 4 g190
  [] = true := by decide +kernel
theorem r190 {l : Launch} {D : va_G} {tys : List (ClassId × FieldType)} {A : Nat → Prop} {ad : Nat → Nat} (hAD : ∀ i : Nat, ad (1000 + i) = D.2 1000 i) : CRok l D tys A ad GG 5 g190 := CR_of_vrf (dep := 4) hAD (List.forall_mem_cons.mpr ⟨r189 hAD, fun c hc => by cases hc⟩) T2OK_nil w190
noncomputable def g191 : CR := (297, [(2, 90, 90), (0, 0, 5), (0, 0, 23)], [], some (0, (-1), 63), [], [])
theorem w191 : vrf GG [(1, g122), (3, g187)] [] 300 3 g191
  (uK (uC kN5 (uE kI0 kI5 (uE kI0 kI23 (uE kJ1 kI63 (uE kI0 kI64 uE0)))) (uA kN0 (rA kI90) (uA kN1 (uis kN0) (uA kN2 (uis kN1) (uA kN3 (uis kN2) (uA kN4 (uis kN3) uA0))))) uS0 uO0 (Int.ofNat (nat_lit 8308)) (uL kJ128 kN3 uL0))
  (uK (uC kN40 (uE kI0 kI5 (uE kI0 kI23 (uE kJ1 kI63 (uE kI0 kI63 (uE kI0 kI6 uE0))))) (uA kN0 (rA kI90) (uA kN1 (uis kN0) (uA kN2 (uis kN1) (uA kN3 (uis kN2) (uA kN4 (uis kN3) uA0))))) uS0 (uO kN91 kN3 (uis kN4) uO0) (Int.ofNat (nat_lit 8273)) (uL kJ128 kN3 uL0))
  (uK (uC kN54 (uE kI0 kI5 (uE kI0 kI23 (uE kJ1 kI63 (uE kI0 kI63 (uE kI0 kI6 uE0))))) (uA kN0 (rA kI90) (uA kN1 (uis kN0) (uA kN2 (uis kN1) (uA kN3 (uis kN2) (uA kN4 (uis kN3) uA0))))) uS0 (uO kN91 kN3 (uis kN4) uO0) (Int.ofNat (nat_lit 8259)) (uL kJ128 kN3 uL0))
  uK0))) = true := by decide +kernel
theorem r191 {l : Launch} {D : va_G} {tys : List (ClassId × FieldType)} {A : Nat → Prop} {ad : Nat → Nat} (hAD : ∀ i : Nat, ad (1000 + i) = D.2 1000 i) : CRok l D tys A ad GG 4 g191 := CR_of_vrf (dep := 3) hAD (List.forall_mem_cons.mpr ⟨r122 hAD, List.forall_mem_cons.mpr ⟨r187 hAD, fun c hc => by cases hc⟩⟩) T2OK_nil w191
noncomputable def g192 : CR := (298, [(2, 90, 90), (0, (-2147483648), 2147483647), (0, (-2147483648), 2147483647)], [], some (0, (-2), 13), [], [90, 98, 99, 100, 101])
theorem w192 : vrf GG [(1, g122), (4, g96), (4, g191)] [] 300 5 g192
  [] = true := by decide +kernel
theorem r192 {l : Launch} {D : va_G} {tys : List (ClassId × FieldType)} {A : Nat → Prop} {ad : Nat → Nat} (hAD : ∀ i : Nat, ad (1000 + i) = D.2 1000 i) : CRok l D tys A ad GG 6 g192 := CR_of_vrf (dep := 5) hAD (List.forall_mem_cons.mpr ⟨r122 hAD, List.forall_mem_cons.mpr ⟨r96 hAD, List.forall_mem_cons.mpr ⟨r191 hAD, fun c hc => by cases hc⟩⟩⟩) T2OK_nil w192
noncomputable def g193 : CR := (47, [(2, 0, 0), (0, (-2147483648), 2147483647), (0, (-2147483648), 2147483647)], [], some (0, (-2), 63), [], [])
theorem w193 : vrf GG [(4, g189)] [] 300 4 g193
  [] = true := by decide +kernel
theorem r193 {l : Launch} {D : va_G} {tys : List (ClassId × FieldType)} {A : Nat → Prop} {ad : Nat → Nat} (hAD : ∀ i : Nat, ad (1000 + i) = D.2 1000 i) : CRok l D tys A ad GG 5 g193 := CR_of_vrf (dep := 4) hAD (List.forall_mem_cons.mpr ⟨r189 hAD, fun c hc => by cases hc⟩) T2OK_nil w193
noncomputable def g194 : CR := (299, [(2, 90, 90), (0, (-2147483648), 2147483647), (0, (-2147483648), 2147483647)], [], some (0, (-2), 63), [], [90, 98, 99, 100, 101])
theorem w194 : vrf GG [(4, g96), (4, g191)] [] 300 5 g194
  [] = true := by decide +kernel
theorem r194 {l : Launch} {D : va_G} {tys : List (ClassId × FieldType)} {A : Nat → Prop} {ad : Nat → Nat} (hAD : ∀ i : Nat, ad (1000 + i) = D.2 1000 i) : CRok l D tys A ad GG 6 g194 := CR_of_vrf (dep := 5) hAD (List.forall_mem_cons.mpr ⟨r96 hAD, List.forall_mem_cons.mpr ⟨r191 hAD, fun c hc => by cases hc⟩⟩) T2OK_nil w194
noncomputable def g195 : CR := (50, [(2, 0, 0), (0, (-2147483648), 0), (0, (-2147483648), 2147483647), (0, (-2147483648), 2147483647)], [], some (0, (-2), (-2)), [], [])
theorem w195 : vrf GG [] [] 300 0 g195
  [] = true := by decide +kernel
theorem r195 {l : Launch} {D : va_G} {tys : List (ClassId × FieldType)} {A : Nat → Prop} {ad : Nat → Nat} (hAD : ∀ i : Nat, ad (1000 + i) = D.2 1000 i) : CRok l D tys A ad GG 1 g195 := CR_of_vrf (dep := 0) hAD (fun c hc => by cases hc) T2OK_nil w195
noncomputable def g196 : CR := (48, [(2, 0, 0), (0, (-2147483648), 0), (0, (-2147483648), 2147483647), (0, (-2147483648), 2147483647)], [], some (0, (-2), (-2)), [], [])
theorem w196 : vrf GG [(1, g195)] [] 300 1 g196
  [] = true := by decide +kernel
theorem r196 {l : Launch} {D : va_G} {tys : List (ClassId × FieldType)} {A : Nat → Prop} {ad : Nat → Nat} (hAD : ∀ i : Nat, ad (1000 + i) = D.2 1000 i) : CRok l D tys A ad GG 2 g196 := CR_of_vrf (dep := 1) hAD (List.forall_mem_cons.mpr ⟨r195 hAD, fun c hc => by cases hc⟩) T2OK_nil w196
noncomputable def g197 : CR := (50, [(2, 0, 0), (0, 7, 2147483647), (0, (-2147483648), 2147483647), (0, (-2147483648), 2147483647)], [], some (0, (-2), (-2)), [], [])
theorem w197 : vrf GG [] [] 300 0 g197
  [] = true := by decide +kernel
theorem r197 {l : Launch} {D : va_G} {tys : List (ClassId × FieldType)} {A : Nat → Prop} {ad : Nat → Nat} (hAD : ∀ i : Nat, ad (1000 + i) = D.2 1000 i) : CRok l D tys A ad GG 1 g197 := CR_of_vrf (dep := 0) hAD (fun c hc => by cases hc) T2OK_nil w197
noncomputable def g198 : CR := (48, [(2, 0, 0), (0, 7, 2147483647), (0, (-2147483648), 2147483647), (0, (-2147483648), 2147483647)], [], some (0, (-2), (-2)), [], [])
theorem w198 : vrf GG [(1, g197)] [] 300 1 g198
  [] = true := by decide +kernel
theorem r198 {l : Launch} {D : va_G} {tys : List (ClassId × FieldType)} {A : Nat → Prop} {ad : Nat → Nat} (hAD : ∀ i : Nat, ad (1000 + i) = D.2 1000 i) : CRok l D tys A ad GG 2 g198 := CR_of_vrf (dep := 1) hAD (List.forall_mem_cons.mpr ⟨r197 hAD, fun c hc => by cases hc⟩) T2OK_nil w198
noncomputable def g199 : CR := (50, [(2, 0, 0), (0, 1, 6), (0, (-2147483648), (-1)), (0, (-2147483648), 2147483647)], [], some (0, (-2), (-2)), [], [])
theorem w199 : vrf GG [] [] 300 1 g199
  [] = true := by decide +kernel
theorem r199 {l : Launch} {D : va_G} {tys : List (ClassId × FieldType)} {A : Nat → Prop} {ad : Nat → Nat} (hAD : ∀ i : Nat, ad (1000 + i) = D.2 1000 i) : CRok l D tys A ad GG 2 g199 := CR_of_vrf (dep := 1) hAD (fun c hc => by cases hc) T2OK_nil w199
noncomputable def g200 : CR := (48, [(2, 0, 0), (0, 1, 6), (0, (-2147483648), (-1)), (0, (-2147483648), 2147483647)], [], some (0, (-2), (-2)), [], [])
theorem w200 : vrf GG [(2, g199)] [] 300 2 g200
  [] = true := by decide +kernel
theorem r200 {l : Launch} {D : va_G} {tys : List (ClassId × FieldType)} {A : Nat → Prop} {ad : Nat → Nat} (hAD : ∀ i : Nat, ad (1000 + i) = D.2 1000 i) : CRok l D tys A ad GG 3 g200 := CR_of_vrf (dep := 2) hAD (List.forall_mem_cons.mpr ⟨r199 hAD, fun c hc => by cases hc⟩) T2OK_nil w200
noncomputable def g201 : CR := (50, [(2, 0, 0), (0, 1, 6), (0, 4, 2147483647), (0, (-2147483648), 2147483647)], [], some (0, (-2), (-2)), [], [])
theorem w201 : vrf GG [] [] 300 1 g201
  [] = true := by decide +kernel
theorem r201 {l : Launch} {D : va_G} {tys : List (ClassId × FieldType)} {A : Nat → Prop} {ad : Nat → Nat} (hAD : ∀ i : Nat, ad (1000 + i) = D.2 1000 i) : CRok l D tys A ad GG 2 g201 := CR_of_vrf (dep := 1) hAD (fun c hc => by cases hc) T2OK_nil w201
noncomputable def g202 : CR := (48, [(2, 0, 0), (0, 1, 6), (0, 4, 2147483647), (0, (-2147483648), 2147483647)], [], some (0, (-2), (-2)), [], [])
theorem w202 : vrf GG [(2, g201)] [] 300 2 g202
  [] = true := by decide +kernel
theorem r202 {l : Launch} {D : va_G} {tys : List (ClassId × FieldType)} {A : Nat → Prop} {ad : Nat → Nat} (hAD : ∀ i : Nat, ad (1000 + i) = D.2 1000 i) : CRok l D tys A ad GG 3 g202 := CR_of_vrf (dep := 2) hAD (List.forall_mem_cons.mpr ⟨r201 hAD, fun c hc => by cases hc⟩) T2OK_nil w202
noncomputable def g203 : CR := (50, [(2, 0, 0), (0, 1, 6), (0, 0, 3), (0, (-2147483648), (-1))], [], some (0, (-2), (-2)), [], [])
theorem w203 : vrf GG [] [] 300 1 g203
  [] = true := by decide +kernel
theorem r203 {l : Launch} {D : va_G} {tys : List (ClassId × FieldType)} {A : Nat → Prop} {ad : Nat → Nat} (hAD : ∀ i : Nat, ad (1000 + i) = D.2 1000 i) : CRok l D tys A ad GG 2 g203 := CR_of_vrf (dep := 1) hAD (fun c hc => by cases hc) T2OK_nil w203
noncomputable def g204 : CR := (48, [(2, 0, 0), (0, 1, 6), (0, 0, 3), (0, (-2147483648), (-1))], [], some (0, (-2), (-2)), [], [])
theorem w204 : vrf GG [(2, g203)] [] 300 2 g204
  [] = true := by decide +kernel
theorem r204 {l : Launch} {D : va_G} {tys : List (ClassId × FieldType)} {A : Nat → Prop} {ad : Nat → Nat} (hAD : ∀ i : Nat, ad (1000 + i) = D.2 1000 i) : CRok l D tys A ad GG 3 g204 := CR_of_vrf (dep := 2) hAD (List.forall_mem_cons.mpr ⟨r203 hAD, fun c hc => by cases hc⟩) T2OK_nil w204
noncomputable def g205 : CR := (50, [(2, 0, 0), (0, 1, 6), (0, 0, 3), (0, 4, 2147483647)], [], some (0, (-2), (-2)), [], [])
theorem w205 : vrf GG [] [] 300 1 g205
  [] = true := by decide +kernel
theorem r205 {l : Launch} {D : va_G} {tys : List (ClassId × FieldType)} {A : Nat → Prop} {ad : Nat → Nat} (hAD : ∀ i : Nat, ad (1000 + i) = D.2 1000 i) : CRok l D tys A ad GG 2 g205 := CR_of_vrf (dep := 1) hAD (fun c hc => by cases hc) T2OK_nil w205
noncomputable def g206 : CR := (48, [(2, 0, 0), (0, 1, 6), (0, 0, 3), (0, 4, 2147483647)], [], some (0, (-2), (-2)), [], [])
theorem w206 : vrf GG [(2, g205)] [] 300 2 g206
  [] = true := by decide +kernel
theorem r206 {l : Launch} {D : va_G} {tys : List (ClassId × FieldType)} {A : Nat → Prop} {ad : Nat → Nat} (hAD : ∀ i : Nat, ad (1000 + i) = D.2 1000 i) : CRok l D tys A ad GG 3 g206 := CR_of_vrf (dep := 2) hAD (List.forall_mem_cons.mpr ⟨r205 hAD, fun c hc => by cases hc⟩) T2OK_nil w206
noncomputable def g207 : CR := (155, [(2, 39, 39), (0, 1, 63), (0, 0, 3), (0, 0, 3)], [], some (0, (-2147483648), 2147483647), [], [])
theorem w207 : vrf GG [] [] 460 3 g207
  (uK (uC kN3 (uE kI1 kI63 (uE kI0 kI3 (uE kI0 kI3 (uE kI0 kI60 uE0)))) (uA kN0 (rA kI39) (uA kN1 (uis kN0) (uA kN2 (uis kN1) (uA kN3 (uis kN2) (uA kN4 (uis kN3) uA0))))) uS0 uO0 (Int.ofNat (nat_lit 21394)) (uL kJ174 kN3 uL0))
  (uK (uC kN42 (uE kI1 kI63 (uE kI0 kI3 (uE kI0 kI3 (uE kJ2147483648 kI2147483647 (uE kI0 kI60 uE0))))) (uA kN0 (rA kI39) (uA kN1 (uis kN0) (uA kN2 (uis kN1) (uA kN3 (uis kN2) (uA kN4 (uis kN3) (uA kN5 (uis kN4) uA0)))))) uS0 uO0 (Int.ofNat (nat_lit 10528)) (uL kJ174 kN4 uL0))
  (uK (uC kN76 (uE kI1 kI63 (uE kI0 kI3 (uE kI0 kI3 (uE kJ2147483648 kI2147483647 (uE kI0 kI59 uE0))))) (uA kN0 (rA kI39) (uA kN1 (uis kN0) (uA kN2 (uis kN1) (uA kN3 (uis kN2) (uA kN4 (uis kN3) (uA kN5 (uis kN4) uA0)))))) uS0 uO0 (Int.ofNat (nat_lit 10494)) (uL kJ174 kN4 uL0))
  uK0))) = true := by decide +kernel
theorem r207 {l : Launch} {D : va_G} {tys : List (ClassId × FieldType)} {A : Nat → Prop} {ad : Nat → Nat} (hAD : ∀ i : Nat, ad (1000 + i) = D.2 1000 i) : CRok l D tys A ad GG 4 g207 := CR_of_vrf (dep := 3) hAD (fun c hc => by cases hc) T2OK_nil w207
noncomputable def g208 : CR := (157, [(2, 43, 43), (0, 1, 63), (0, 1, 6), (0, 0, 255)], [], some (0, (-2147483648), 2147483647), [], [])
theorem w208 : vrf GG [] [] 300 1 g208
  [] = true := by decide +kernel
theorem r208 {l : Launch} {D : va_G} {tys : List (ClassId × FieldType)} {A : Nat → Prop} {ad : Nat → Nat} (hAD : ∀ i : Nat, ad (1000 + i) = D.2 1000 i) : CRok l D tys A ad GG 2 g208 := CR_of_vrf (dep := 1) hAD (fun c hc => by cases hc) T2OK_nil w208
noncomputable def g209 : CR := (156, [(2, 43, 43), (0, 1, 6), (0, 0, 255)], [], some (0, (-2147483648), 1000), [], [])
theorem w209 : vrf GG [(2, g208)] [] 300 2 g209
  (uK (uC kN7 (uE kI1 kI6 (uE kI0 kI255 (uE kJ2147483648 kI1000 (uE kI1 kI64 uE0)))) (uA kN0 (rA kI43) (uA kN1 (uis kN0) (uA kN2 (uis kN1) (uA kN3 (uis kN2) (uA kN4 (uis kN3) uA0))))) uS0 uO0 (Int.ofNat (nat_lit 4794)) (uL kJ74 kN3 uL0))
  uK0) = true := by decide +kernel
theorem r209 {l : Launch} {D : va_G} {tys : List (ClassId × FieldType)} {A : Nat → Prop} {ad : Nat → Nat} (hAD : ∀ i : Nat, ad (1000 + i) = D.2 1000 i) : CRok l D tys A ad GG 3 g209 := CR_of_vrf (dep := 2) hAD (List.forall_mem_cons.mpr ⟨r208 hAD, fun c hc => by cases hc⟩) T2OK_nil w209
noncomputable def g210 : CR := (157, [(2, 43, 43), (0, 1, 63), (0, (-2147483648), 6), (0, 0, 255)], [], some (0, (-2147483648), 2147483647), [], [])
theorem w210 : vrf GG [] [] 300 1 g210
  [] = true := by decide +kernel
theorem r210 {l : Launch} {D : va_G} {tys : List (ClassId × FieldType)} {A : Nat → Prop} {ad : Nat → Nat} (hAD : ∀ i : Nat, ad (1000 + i) = D.2 1000 i) : CRok l D tys A ad GG 2 g210 := CR_of_vrf (dep := 1) hAD (fun c hc => by cases hc) T2OK_nil w210
noncomputable def g211 : CR := (158, [(2, 43, 43), (0, 1, 6), (0, 0, 255)], [], none, [], [46])
theorem w211 : vrf GG [(2, g210)] [] 300 2 g211
  (uK (uC kN5 (uE kI1 kI6 (uE kI0 kI255 (uE kI0 kI255 (uE kI0 kI6 uE0)))) (uA kN0 (rA kI43) (uA kN1 (uis kN0) (uA kN2 (uis kN1) (uA kN3 (uis kN2) (uA kN4 (uis kN3) uA0))))) uS0 uO0 (Int.ofNat (nat_lit 93312)) (uL kJ13332 kN3 uL0))
  (uK (uC kN37 (uE kI1 kI6 (uE kI0 kI255 (uE kI0 kI255 (uE kI0 kI5 (uE kJ128 kI6 (uE kJ2147483648 kI2147483647 (uE kI1 kI64 uE0))))))) (uA kN0 (rA kI43) (uA kN1 (uis kN0) (uA kN2 (uis kN1) (uA kN3 (uis kN2) (uA kN4 (uis kN3) (uA kN5 (uis kN4) (uA kN6 (uis kN5) (uA kN7 (uis kN6) uA0)))))))) uS0 uO0 (Int.ofNat (nat_lit 93141)) (uL kJ202 kN6 (uL kJ13332 kN3 uL0)))
  (uK (uC kN92 (uE kI1 kI6 (uE kI0 kI255 (uE kI0 kI255 (uE kI0 kI5 (uE kJ128 kI6 (uE kJ2147483648 kI2147483647 (uE kI1 kI64 uE0))))))) (uA kN0 (rA kI43) (uA kN1 (uis kN0) (uA kN2 (uis kN1) (uA kN3 (uis kN2) (uA kN4 (uis kN3) (uA kN5 (uis kN4) (uA kN6 (uis kN5) (uA kN7 (uis kN6) uA0)))))))) uS0 uO0 (Int.ofNat (nat_lit 80095)) (uL kJ13332 kN3 uL0))
  uK0))) = true := by decide +kernel
theorem r211 {l : Launch} {D : va_G} {tys : List (ClassId × FieldType)} {A : Nat → Prop} {ad : Nat → Nat} (hAD : ∀ i : Nat, ad (1000 + i) = D.2 1000 i) : CRok l D tys A ad GG 3 g211 := CR_of_vrf (dep := 2) hAD (List.forall_mem_cons.mpr ⟨r210 hAD, fun c hc => by cases hc⟩) T2OK_nil w211
noncomputable def g212 : CR := (154, [(2, 43, 43), (2, 39, 39), (0, 1, 6), (0, 0, 3), (0, 0, 3)], [], some (0, (-2147483648), 999), [], [44, 45, 46])
theorem w212 : vrf GG [(4, g207), (3, g209), (3, g211)] [] 300 4 g212
  (uK (uC kN3 (uE kI1 kI6 (uE kI0 kI3 (uE kI0 kI3 (uE kI1 kI64 uE0)))) (uA kN0 (rA kI43) (uA kN1 (rA kI39) (uA kN2 (uis kN0) (uA kN3 (uis kN1) (uA kN4 (uis kN2) (uA kN5 (uis kN3) uA0)))))) uS0 uO0 (Int.ofNat (nat_lit 895722)) (uL kJ374 kN3 uL0))
  (uK (uC kN37 (uE kI1 kI6 (uE kI0 kI3 (uE kI0 kI3 (uE kI0 kI256 uE0)))) (uA kN0 (rA kI43) (uA kN1 (rA kI39) (uA kN2 (uis kN0) (uA kN3 (uis kN1) (uA kN4 (uis kN2) (uA kN5 (uis kN3) uA0)))))) uS0 uO0 (Int.ofNat (nat_lit 870970)) (uL kJ374 kN3 uL0))
  (uK (uC kN63 (uE kI1 kI6 (uE kI0 kI3 (uE kI0 kI3 (uE kI0 kI255 (uE kI0 kI1000 (uE kI0 kI255 uE0)))))) (uA kN0 (rA kI43) (uA kN1 (rA kI39) (uA kN2 (uis kN0) (uA kN3 (uis kN1) (uA kN4 (uis kN2) (uA kN5 (uis kN3) uA0)))))) (uS (uis kN4) (uS (uis kN5) (uS (rA kI45) uS0))) uO0 (Int.ofNat (nat_lit 870944)) (uL kJ374 kN3 uL0))
  (uK (uC kN96 (uE kI1 kI6 (uE kI0 kI3 (uE kI0 kI3 (uE kI0 kI255 (uE kI1 kI7 uE0))))) (uA kN0 (rA kI43) (uA kN1 (rA kI39) (uA kN2 (uis kN0) (uA kN3 (uis kN1) (uA kN4 (uis kN2) (uA kN5 (uis kN3) (uA kN6 (uis kN4) uA0))))))) uS0 uO0 (Int.ofNat (nat_lit 774734)) (uL (Int.negSucc (nat_lit 96865)) kN4 uL0))
  (uK (uC kN105 (uE kI1 kI6 (uE kI0 kI3 (uE kI0 kI3 (uE kI0 kI255 (uE kI1 kI6 (uE kI0 kI256 uE0)))))) (uA kN0 (rA kI43) (uA kN1 (rA kI39) (uA kN2 (uis kN0) (uA kN3 (uis kN1) (uA kN4 (uis kN2) (uA kN5 (uis kN3) (uA kN6 (uis kN4) (uA kN7 (uis kN5) uA0)))))))) uS0 uO0 (Int.ofNat (nat_lit 774058)) (uL kJ374 kN5 (uL (Int.negSucc (nat_lit 96865)) kN4 uL0)))
  uK0))))) = true := by decide +kernel
theorem r212 {l : Launch} {D : va_G} {tys : List (ClassId × FieldType)} {A : Nat → Prop} {ad : Nat → Nat} (hAD : ∀ i : Nat, ad (1000 + i) = D.2 1000 i) : CRok l D tys A ad GG 5 g212 := CR_of_vrf (dep := 4) hAD (List.forall_mem_cons.mpr ⟨r207 hAD, List.forall_mem_cons.mpr ⟨r209 hAD, List.forall_mem_cons.mpr ⟨r211 hAD, fun c hc => by cases hc⟩⟩⟩) T2OK_nil w212
noncomputable def g213 : CR := (170, [(2, 39, 39), (0, 0, 3), (0, 1, 1), (0, 63, 63)], [], some (0, 0, 1), [], [])
theorem w213 : vrf GG [] [] 300 3 g213
  (uK (uC kN3 (uE kI0 kI3 (uE kI0 kI60 uE0)) (uA kN0 (rA kI39) (uA kN1 (uis kN0) (uA kN2 (uic kI1) (uA kN3 (uic kI63) (uA kN4 (uis kN1) uA0))))) uS0 uO0 (Int.ofNat (nat_lit 6214)) (uL kJ102 kN1 uL0))
  (uK (uC kN39 (uE kI0 kI3 (uE kI0 kI59 uE0)) (uA kN0 (rA kI39) (uA kN1 (uis kN0) (uA kN2 (uic kI1) (uA kN3 (uic kI63) (uA kN4 (uis kN1) uA0))))) uS0 uO0 (Int.ofNat (nat_lit 6178)) (uL kJ102 kN1 uL0))
  uK0)) = true := by decide +kernel
theorem r213 {l : Launch} {D : va_G} {tys : List (ClassId × FieldType)} {A : Nat → Prop} {ad : Nat → Nat} (hAD : ∀ i : Nat, ad (1000 + i) = D.2 1000 i) : CRok l D tys A ad GG 4 g213 := CR_of_vrf (dep := 3) hAD (fun c hc => by cases hc) T2OK_nil w213
noncomputable def g214 : CR := (50, [(2, 0, 0), (0, 1, 6), (0, 0, 3), (0, 0, 3)], [], some (0, (-6), 0), [], [])
theorem w214 : vrf GG [(4, g213)] [] 300 4 g214
  [] = true := by decide +kernel
theorem r214 {l : Launch} {D : va_G} {tys : List (ClassId × FieldType)} {A : Nat → Prop} {ad : Nat → Nat} (hAD : ∀ i : Nat, ad (1000 + i) = D.2 1000 i) : CRok l D tys A ad GG 5 g214 := CR_of_vrf (dep := 4) hAD (List.forall_mem_cons.mpr ⟨r213 hAD, fun c hc => by cases hc⟩) T2OK_nil w214
noncomputable def g215 : CR := (48, [(2, 0, 0), (0, 1, 6), (0, 0, 3), (0, 0, 3)], [], some (0, (-2147483648), 999), [], [44, 45, 46])
theorem w215 : vrf GG [(5, g214), (5, g212)] [] 300 5 g215
  [] = true := by decide +kernel
theorem r215 {l : Launch} {D : va_G} {tys : List (ClassId × FieldType)} {A : Nat → Prop} {ad : Nat → Nat} (hAD : ∀ i : Nat, ad (1000 + i) = D.2 1000 i) : CRok l D tys A ad GG 6 g215 := CR_of_vrf (dep := 5) hAD (List.forall_mem_cons.mpr ⟨r214 hAD, List.forall_mem_cons.mpr ⟨r212 hAD, fun c hc => by cases hc⟩⟩) T2OK_nil w215
noncomputable def g216 : CR := (301, [(2, 90, 90), (0, (-2147483648), 0), (0, (-2147483648), 2147483647), (0, (-2147483648), 2147483647)], [], some (0, (-2), (-2)), [], [])
theorem w216 : vrf GG [] [] 300 2 g216
  [] = true := by decide +kernel
theorem r216 {l : Launch} {D : va_G} {tys : List (ClassId × FieldType)} {A : Nat → Prop} {ad : Nat → Nat} (hAD : ∀ i : Nat, ad (1000 + i) = D.2 1000 i) : CRok l D tys A ad GG 3 g216 := CR_of_vrf (dep := 2) hAD (fun c hc => by cases hc) T2OK_nil w216
noncomputable def g217 : CR := (303, [(2, 90, 90), (0, (-2147483648), 0), (0, (-2147483648), 2147483647), (0, (-2147483648), 2147483647)], [], some (0, (-2), (-2)), [], [])
theorem w217 : vrf GG [(3, g216)] [] 300 3 g217
  [] = true := by decide +kernel
theorem r217 {l : Launch} {D : va_G} {tys : List (ClassId × FieldType)} {A : Nat → Prop} {ad : Nat → Nat} (hAD : ∀ i : Nat, ad (1000 + i) = D.2 1000 i) : CRok l D tys A ad GG 4 g217 := CR_of_vrf (dep := 3) hAD (List.forall_mem_cons.mpr ⟨r216 hAD, fun c hc => by cases hc⟩) T2OK_nil w217
noncomputable def g218 : CR := (301, [(2, 90, 90), (0, 7, 2147483647), (0, (-2147483648), 2147483647), (0, (-2147483648), 2147483647)], [], some (0, (-2), (-2)), [], [])
theorem w218 : vrf GG [] [] 300 2 g218
  [] = true := by decide +kernel
theorem r218 {l : Launch} {D : va_G} {tys : List (ClassId × FieldType)} {A : Nat → Prop} {ad : Nat → Nat} (hAD : ∀ i : Nat, ad (1000 + i) = D.2 1000 i) : CRok l D tys A ad GG 3 g218 := CR_of_vrf (dep := 2) hAD (fun c hc => by cases hc) T2OK_nil w218
noncomputable def g219 : CR := (303, [(2, 90, 90), (0, 7, 2147483647), (0, (-2147483648), 2147483647), (0, (-2147483648), 2147483647)], [], some (0, (-2), (-2)), [], [])
theorem w219 : vrf GG [(3, g218)] [] 300 3 g219
  [] = true := by decide +kernel
theorem r219 {l : Launch} {D : va_G} {tys : List (ClassId × FieldType)} {A : Nat → Prop} {ad : Nat → Nat} (hAD : ∀ i : Nat, ad (1000 + i) = D.2 1000 i) : CRok l D tys A ad GG 4 g219 := CR_of_vrf (dep := 3) hAD (List.forall_mem_cons.mpr ⟨r218 hAD, fun c hc => by cases hc⟩) T2OK_nil w219
noncomputable def g220 : CR := (301, [(2, 90, 90), (0, 1, 6), (0, (-2147483648), (-1)), (0, (-2147483648), 2147483647)], [], some (0, (-2), (-2)), [], [])
theorem w220 : vrf GG [] [] 300 2 g220
  [] = true := by decide +kernel
theorem r220 {l : Launch} {D : va_G} {tys : List (ClassId × FieldType)} {A : Nat → Prop} {ad : Nat → Nat} (hAD : ∀ i : Nat, ad (1000 + i) = D.2 1000 i) : CRok l D tys A ad GG 3 g220 := CR_of_vrf (dep := 2) hAD (fun c hc => by cases hc) T2OK_nil w220
noncomputable def g221 : CR := (303, [(2, 90, 90), (0, 1, 6), (0, (-2147483648), (-1)), (0, (-2147483648), 2147483647)], [], some (0, (-2), (-2)), [], [])
theorem w221 : vrf GG [(3, g220)] [] 300 3 g221
  [] = true := by decide +kernel
theorem r221 {l : Launch} {D : va_G} {tys : List (ClassId × FieldType)} {A : Nat → Prop} {ad : Nat → Nat} (hAD : ∀ i : Nat, ad (1000 + i) = D.2 1000 i) : CRok l D tys A ad GG 4 g221 := CR_of_vrf (dep := 3) hAD (List.forall_mem_cons.mpr ⟨r220 hAD, fun c hc => by cases hc⟩) T2OK_nil w221
noncomputable def g222 : CR := (301, [(2, 90, 90), (0, 1, 6), (0, 4, 2147483647), (0, (-2147483648), 2147483647)], [], some (0, (-2), (-2)), [], [])
theorem w222 : vrf GG [] [] 300 2 g222
  [] = true := by decide +kernel
theorem r222 {l : Launch} {D : va_G} {tys : List (ClassId × FieldType)} {A : Nat → Prop} {ad : Nat → Nat} (hAD : ∀ i : Nat, ad (1000 + i) = D.2 1000 i) : CRok l D tys A ad GG 3 g222 := CR_of_vrf (dep := 2) hAD (fun c hc => by cases hc) T2OK_nil w222
noncomputable def g223 : CR := (303, [(2, 90, 90), (0, 1, 6), (0, 4, 2147483647), (0, (-2147483648), 2147483647)], [], some (0, (-2), (-2)), [], [])
theorem w223 : vrf GG [(3, g222)] [] 300 3 g223
  [] = true := by decide +kernel
theorem r223 {l : Launch} {D : va_G} {tys : List (ClassId × FieldType)} {A : Nat → Prop} {ad : Nat → Nat} (hAD : ∀ i : Nat, ad (1000 + i) = D.2 1000 i) : CRok l D tys A ad GG 4 g223 := CR_of_vrf (dep := 3) hAD (List.forall_mem_cons.mpr ⟨r222 hAD, fun c hc => by cases hc⟩) T2OK_nil w223
noncomputable def g224 : CR := (301, [(2, 90, 90), (0, 1, 6), (0, 0, 3), (0, (-2147483648), (-1))], [], some (0, (-2), (-2)), [], [])
theorem w224 : vrf GG [] [] 300 2 g224
  [] = true := by decide +kernel
theorem r224 {l : Launch} {D : va_G} {tys : List (ClassId × FieldType)} {A : Nat → Prop} {ad : Nat → Nat} (hAD : ∀ i : Nat, ad (1000 + i) = D.2 1000 i) : CRok l D tys A ad GG 3 g224 := CR_of_vrf (dep := 2) hAD (fun c hc => by cases hc) T2OK_nil w224
noncomputable def g225 : CR := (303, [(2, 90, 90), (0, 1, 6), (0, 0, 3), (0, (-2147483648), (-1))], [], some (0, (-2), (-2)), [], [])
theorem w225 : vrf GG [(3, g224)] [] 300 3 g225
  [] = true := by decide +kernel
theorem r225 {l : Launch} {D : va_G} {tys : List (ClassId × FieldType)} {A : Nat → Prop} {ad : Nat → Nat} (hAD : ∀ i : Nat, ad (1000 + i) = D.2 1000 i) : CRok l D tys A ad GG 4 g225 := CR_of_vrf (dep := 3) hAD (List.forall_mem_cons.mpr ⟨r224 hAD, fun c hc => by cases hc⟩) T2OK_nil w225
noncomputable def g226 : CR := (301, [(2, 90, 90), (0, 1, 6), (0, 0, 3), (0, 4, 2147483647)], [], some (0, (-2), (-2)), [], [])
theorem w226 : vrf GG [] [] 300 2 g226
  [] = true := by decide +kernel
theorem r226 {l : Launch} {D : va_G} {tys : List (ClassId × FieldType)} {A : Nat → Prop} {ad : Nat → Nat} (hAD : ∀ i : Nat, ad (1000 + i) = D.2 1000 i) : CRok l D tys A ad GG 3 g226 := CR_of_vrf (dep := 2) hAD (fun c hc => by cases hc) T2OK_nil w226
noncomputable def g227 : CR := (303, [(2, 90, 90), (0, 1, 6), (0, 0, 3), (0, 4, 2147483647)], [], some (0, (-2), (-2)), [], [])
theorem w227 : vrf GG [(3, g226)] [] 300 3 g227
  [] = true := by decide +kernel
theorem r227 {l : Launch} {D : va_G} {tys : List (ClassId × FieldType)} {A : Nat → Prop} {ad : Nat → Nat} (hAD : ∀ i : Nat, ad (1000 + i) = D.2 1000 i) : CRok l D tys A ad GG 4 g227 := CR_of_vrf (dep := 3) hAD (List.forall_mem_cons.mpr ⟨r226 hAD, fun c hc => by cases hc⟩) T2OK_nil w227
noncomputable def g228 : CR := (301, [(2, 90, 90), (0, 1, 6), (0, 0, 3), (0, 0, 0)], [((107, 0), (0, (-1), (-1)))], some (0, (-6), (-6)), [], [])
theorem w228 : vrf GG [] [] 300 2 g228
  [] = true := by decide +kernel
theorem r228 {l : Launch} {D : va_G} {tys : List (ClassId × FieldType)} {A : Nat → Prop} {ad : Nat → Nat} (hAD : ∀ i : Nat, ad (1000 + i) = D.2 1000 i) : CRok l D tys A ad GG 3 g228 := CR_of_vrf (dep := 2) hAD (fun c hc => by cases hc) T2OK_nil w228
noncomputable def g229 : CR := (303, [(2, 90, 90), (0, 1, 6), (0, 0, 3), (0, 0, 0)], [((107, 0), (0, (-1), (-1)))], some (0, (-6), (-6)), [], [])
theorem w229 : vrf GG [(3, g228)] [] 300 3 g229
  [] = true := by decide +kernel
theorem r229 {l : Launch} {D : va_G} {tys : List (ClassId × FieldType)} {A : Nat → Prop} {ad : Nat → Nat} (hAD : ∀ i : Nat, ad (1000 + i) = D.2 1000 i) : CRok l D tys A ad GG 4 g229 := CR_of_vrf (dep := 3) hAD (List.forall_mem_cons.mpr ⟨r228 hAD, fun c hc => by cases hc⟩) T2OK_nil w229
noncomputable def g230 : CR := (301, [(2, 90, 90), (0, 1, 6), (0, 0, 3), (0, 0, 0)], [((107, 0), (0, 0, 8))], some (0, (-6), 0), [], [])
theorem w230 : vrf GG [] [] 300 2 g230
  (uK (uC kN69 (uE kI1 kI6 (uE kI0 kI3 (uE kI0 kI60 (uE kI0 kI8 uE0)))) (uA kN0 (rA kI90) (uA kN1 (uis kN0) (uA kN2 (uis kN1) (uA kN3 (uic kI0) (uA kN4 (uis kN2) uA0))))) uS0 (uO kN107 kN0 (uis kN3) uO0) kI21160 (uL kJ300 kN2 uL0))
  (uK (uC kN109 (uE kI1 kI6 (uE kI0 kI3 (uE kI0 kI8 (uE kI0 kI8 uE0)))) (uA kN0 (rA kI90) (uA kN1 (uis kN0) (uA kN2 (uis kN1) (uA kN3 (uic kI0) (uA kN4 (uis kN2) uA0))))) uS0 (uO kN107 kN0 (uis kN3) uO0) kI2480 (uL kJ300 kN2 uL0))
  uK0)) = true := by decide +kernel
theorem r230 {l : Launch} {D : va_G} {tys : List (ClassId × FieldType)} {A : Nat → Prop} {ad : Nat → Nat} (hAD : ∀ i : Nat, ad (1000 + i) = D.2 1000 i) : CRok l D tys A ad GG 3 g230 := CR_of_vrf (dep := 2) hAD (fun c hc => by cases hc) T2OK_nil w230
noncomputable def g231 : CR := (302, [(2, 90, 90), (0, 1, 6), (0, 0, 3), (0, 0, 0)], [((107, 0), (0, 0, 8))], none, [], [102, 103, 104])
theorem w231 : vrf GG [(1, g122)] [] 300 1 g231
  (uK (uC kN3 (uE kI1 kI6 (uE kI0 kI3 (uE kI0 kI64 (uE kI0 kI8 uE0)))) (uA kN0 (rA kI90) (uA kN1 (uis kN0) (uA kN2 (uis kN1) (uA kN3 (uic kI0) (uA kN4 (uis kN2) uA0))))) uS0 (uO kN107 kN0 (uis kN3) uO0) kI96870116 (uL kJ49348 kN2 uL0))
  (uK (uC kN29 (uE kI1 kI6 (uE kI0 kI3 (uE kI0 kI63 (uE kI0 kI60 (uE kI0 kI8 uE0))))) (uA kN0 (rA kI90) (uA kN1 (uis kN0) (uA kN2 (uis kN1) (uA kN3 (uic kI0) (uA kN4 (uis kN2) (uA kN5 (uis kN3) uA0)))))) uS0 (uO kN107 kN0 (uis kN4) uO0) kI96869046 (uL kJ676 kN3 (uL kJ49348 kN2 uL0)))
  (uK (uC kN76 (uE kI1 kI6 (uE kI0 kI3 (uE kI0 kI63 (uE kI0 kI59 (uE kI0 kI63 (uE kI0 kI8 uE0)))))) (uA kN0 (rA kI90) (uA kN1 (uis kN0) (uA kN2 (uis kN1) (uA kN3 (uic kI0) (uA kN4 (uis kN2) (uA kN5 (uis kN3) uA0)))))) (uS (uis kN4) (uS (rA kI102) uS0)) (uO kN107 kN0 (uis kN5) uO0) kI96868999 (uL kJ676 kN3 (uL kJ49348 kN2 uL0)))
  (uK (uC kN77 (uE kI1 kI6 (uE kI0 kI3 (uE kI0 kI63 (uE kI0 kI59 (uE kI0 kI1 (uE kI0 kI63 (uE kI0 kI8 uE0))))))) (uA kN0 (rA kI90) (uA kN1 (uis kN0) (uA kN2 (uis kN1) (uA kN3 (uic kI0) (uA kN4 (uis kN2) (uA kN5 (uis kN3) uA0)))))) (uS (uis kN4) (uS (uis kN5) (uS (rA kI102) uS0))) (uO kN107 kN0 (uis kN6) uO0) kI96868998 (uL kJ676 kN3 (uL kJ49348 kN2 uL0)))
  (uK (uC kN87 (uE kI1 kI6 (uE kI0 kI3 (uE kI0 kI63 (uE kI0 kI8 (uE kI0 kI8 uE0))))) (uA kN0 (rA kI90) (uA kN1 (uis kN0) (uA kN2 (uis kN1) (uA kN3 (uic kI0) (uA kN4 (uis kN2) (uA kN5 (uis kN3) uA0)))))) uS0 (uO kN107 kN0 (uis kN4) uO0) kI96827018 (uL kJ676 kN3 (uL kJ49348 kN2 uL0)))
  (uK (uC kN130 (uE kI1 kI6 (uE kI0 kI3 (uE kI0 kI63 (uE kI0 kI7 (uE kI0 kI128 (uE kI0 kI255 (uE kI0 kI63 (uE kI1 kI8 uE0)))))))) (uA kN0 (rA kI90) (uA kN1 (uis kN0) (uA kN2 (uis kN1) (uA kN3 (uic kI0) (uA kN4 (uis kN2) (uA kN5 (uis kN3) uA0)))))) (uS (uis kN4) (uS (uis kN5) (uS (uis kN6) (uS (rA kI103) uS0)))) (uO kN107 kN0 (uis kN7) uO0) kI96826975 (uL kJ676 kN3 (uL kJ49348 kN2 uL0)))
  (uK (uC kN159 (uE kI1 kI6 (uE kI0 kI3 (uE kI0 kI255 (uE kI0 kI256 (uE kI0 kI8 uE0))))) (uA kN0 (rA kI90) (uA kN1 (uis kN0) (uA kN2 (uis kN1) (uA kN3 (uic kI0) (uA kN4 (uis kN2) (uA kN5 (uis kN3) uA0)))))) uS0 (uO kN107 kN0 (uis kN4) uO0) kI93661508 (uL kJ676 kN3 uL0))
  (uK (uC kN192 (uE kI1 kI6 (uE kI0 kI3 (uE kI0 kI255 (uE kI0 kI255 (uE kI0 kI1000000 (uE kI256 kI1791 (uE kI0 kI8 uE0))))))) (uA kN0 (rA kI90) (uA kN1 (uis kN0) (uA kN2 (uis kN1) (uA kN3 (uic kI0) (uA kN4 (uis kN2) (uA kN5 (uis kN3) uA0)))))) (uS (uis kN4) (uS (uis kN5) (uS (rA kI104) uS0))) (uO kN107 kN0 (uis kN6) uO0) kI93661475 (uL kJ676 kN3 uL0))
  (uK (uC kN204 (uE kI1 kI6 (uE kI0 kI3 (uE kI0 kI255 (uE kJ1 kI5 (uE kI0 kI8 uE0))))) (uA kN0 (rA kI90) (uA kN1 (uis kN0) (uA kN2 (uis kN1) (uA kN3 (uic kI0) (uA kN4 (uis kN2) (uA kN5 (uis kN3) uA0)))))) uS0 (uO kN107 kN0 (uis kN4) uO0) kI23371614 (uL kI11686012 kN3 uL0))
  (uK (uC kN212 (uE kI1 kI6 (uE kI0 kI3 (uE kI0 kI255 (uE kI0 kI5 (uE kI0 kI256 (uE kI0 kI8 uE0)))))) (uA kN0 (rA kI90) (uA kN1 (uis kN0) (uA kN2 (uis kN1) (uA kN3 (uic kI0) (uA kN4 (uis kN2) (uA kN5 (uis kN3) (uA kN6 (uis kN4) uA0))))))) uS0 (uO kN107 kN0 (uis kN5) uO0) kI23325763 (uL kJ45292 kN4 (uL kI11686012 kN3 uL0)))
  (uK (uC kN239 (uE kI1 kI6 (uE kI0 kI3 (uE kI0 kI255 (uE kI0 kI5 (uE kI0 kI255 (uE kI0 kI64 (uE kI0 kI8 uE0))))))) (uA kN0 (rA kI90) (uA kN1 (uis kN0) (uA kN2 (uis kN1) (uA kN3 (uic kI0) (uA kN4 (uis kN2) (uA kN5 (uis kN3) (uA kN6 (uis kN4) (uA kN7 (uis kN5) uA0)))))))) uS0 (uO kN107 kN0 (uis kN6) uO0) kI23324482 (uL kJ676 kN5 (uL kI11686012 kN3 (uL kJ45292 kN4 uL0))))
  (uK (uC kN317 (uE kI1 kI6 (uE kI0 kI3 (uE kI0 kI255 (uE kI0 kI5 (uE kI0 kI255 (uE kI0 kI63 (uE kI0 kI8 uE0))))))) (uA kN0 (rA kI90) (uA kN1 (uis kN0) (uA kN2 (uis kN1) (uA kN3 (uic kI0) (uA kN4 (uis kN2) (uA kN5 (uis kN3) (uA kN6 (uis kN4) (uA kN7 (uis kN5) uA0)))))))) uS0 (uO kN107 kN0 (uis kN6) uO0) kI23324404 (uL kJ676 kN5 (uL kI11686012 kN3 (uL kJ45292 kN4 uL0))))
  uK0)))))))))))) = true := by decide +kernel
theorem r231 {l : Launch} {D : va_G} {tys : List (ClassId × FieldType)} {A : Nat → Prop} {ad : Nat → Nat} (hAD : ∀ i : Nat, ad (1000 + i) = D.2 1000 i) : CRok l D tys A ad GG 2 g231 := CR_of_vrf (dep := 1) hAD (List.forall_mem_cons.mpr ⟨r122 hAD, fun c hc => by cases hc⟩) T2OK_nil w231
noncomputable def g232 : CR := (303, [(2, 90, 90), (0, 1, 6), (0, 0, 3), (0, 0, 0)], [((107, 0), (0, 0, 8))], some (0, (-2147483648), 999999), [], [102, 103, 104])
theorem w232 : vrf GG [(3, g230), (2, g231)] [] 300 3 g232
  [] = true := by decide +kernel
theorem r232 {l : Launch} {D : va_G} {tys : List (ClassId × FieldType)} {A : Nat → Prop} {ad : Nat → Nat} (hAD : ∀ i : Nat, ad (1000 + i) = D.2 1000 i) : CRok l D tys A ad GG 4 g232 := CR_of_vrf (dep := 3) hAD (List.forall_mem_cons.mpr ⟨r230 hAD, List.forall_mem_cons.mpr ⟨r231 hAD, fun c hc => by cases hc⟩⟩) T2OK_nil w232
noncomputable def g233 : CR := (301, [(2, 90, 90), (0, 1, 6), (0, 0, 3), (0, 0, 0)], [((107, 0), (0, 9, 60))], some (0, (-6), (-2)), [], [])
theorem w233 : vrf GG [] [] 300 2 g233
  [] = true := by decide +kernel
theorem r233 {l : Launch} {D : va_G} {tys : List (ClassId × FieldType)} {A : Nat → Prop} {ad : Nat → Nat} (hAD : ∀ i : Nat, ad (1000 + i) = D.2 1000 i) : CRok l D tys A ad GG 3 g233 := CR_of_vrf (dep := 2) hAD (fun c hc => by cases hc) T2OK_nil w233
noncomputable def g234 : CR := (303, [(2, 90, 90), (0, 1, 6), (0, 0, 3), (0, 0, 0)], [((107, 0), (0, 9, 60))], some (0, (-6), (-2)), [], [])
theorem w234 : vrf GG [(3, g233)] [] 300 3 g234
  [] = true := by decide +kernel
theorem r234 {l : Launch} {D : va_G} {tys : List (ClassId × FieldType)} {A : Nat → Prop} {ad : Nat → Nat} (hAD : ∀ i : Nat, ad (1000 + i) = D.2 1000 i) : CRok l D tys A ad GG 4 g234 := CR_of_vrf (dep := 3) hAD (List.forall_mem_cons.mpr ⟨r233 hAD, fun c hc => by cases hc⟩) T2OK_nil w234
noncomputable def g235 : CR := (301, [(2, 90, 90), (0, 1, 6), (0, 0, 3), (0, 1, 1)], [((107, 1), (0, (-1), (-1)))], some (0, (-6), (-6)), [], [])
theorem w235 : vrf GG [] [] 300 2 g235
  [] = true := by decide +kernel
theorem r235 {l : Launch} {D : va_G} {tys : List (ClassId × FieldType)} {A : Nat → Prop} {ad : Nat → Nat} (hAD : ∀ i : Nat, ad (1000 + i) = D.2 1000 i) : CRok l D tys A ad GG 3 g235 := CR_of_vrf (dep := 2) hAD (fun c hc => by cases hc) T2OK_nil w235
noncomputable def g236 : CR := (303, [(2, 90, 90), (0, 1, 6), (0, 0, 3), (0, 1, 1)], [((107, 1), (0, (-1), (-1)))], some (0, (-6), (-6)), [], [])
theorem w236 : vrf GG [(3, g235)] [] 300 3 g236
  [] = true := by decide +kernel
theorem r236 {l : Launch} {D : va_G} {tys : List (ClassId × FieldType)} {A : Nat → Prop} {ad : Nat → Nat} (hAD : ∀ i : Nat, ad (1000 + i) = D.2 1000 i) : CRok l D tys A ad GG 4 g236 := CR_of_vrf (dep := 3) hAD (List.forall_mem_cons.mpr ⟨r235 hAD, fun c hc => by cases hc⟩) T2OK_nil w236
noncomputable def g237 : CR := (301, [(2, 90, 90), (0, 1, 6), (0, 0, 3), (0, 1, 1)], [((107, 1), (0, 0, 8))], some (0, (-6), 0), [], [])
theorem w237 : vrf GG [] [] 300 2 g237
  (uK (uC kN69 (uE kI1 kI6 (uE kI0 kI3 (uE kI0 kI60 (uE kI0 kI8 uE0)))) (uA kN0 (rA kI90) (uA kN1 (uis kN0) (uA kN2 (uis kN1) (uA kN3 (uic kI1) (uA kN4 (uis kN2) uA0))))) uS0 (uO kN107 kN1 (uis kN3) uO0) kI21160 (uL kJ300 kN2 uL0))
  (uK (uC kN109 (uE kI1 kI6 (uE kI0 kI3 (uE kI0 kI8 (uE kI0 kI8 uE0)))) (uA kN0 (rA kI90) (uA kN1 (uis kN0) (uA kN2 (uis kN1) (uA kN3 (uic kI1) (uA kN4 (uis kN2) uA0))))) uS0 (uO kN107 kN1 (uis kN3) uO0) kI2480 (uL kJ300 kN2 uL0))
  uK0)) = true := by decide +kernel
theorem r237 {l : Launch} {D : va_G} {tys : List (ClassId × FieldType)} {A : Nat → Prop} {ad : Nat → Nat} (hAD : ∀ i : Nat, ad (1000 + i) = D.2 1000 i) : CRok l D tys A ad GG 3 g237 := CR_of_vrf (dep := 2) hAD (fun c hc => by cases hc) T2OK_nil w237
noncomputable def g238 : CR := (302, [(2, 90, 90), (0, 1, 6), (0, 0, 3), (0, 1, 1)], [((107, 1), (0, 0, 8))], none, [], [102, 103, 104])
theorem w238 : vrf GG [(1, g122)] [] 300 1 g238
  (uK (uC kN3 (uE kI1 kI6 (uE kI0 kI3 (uE kI0 kI64 (uE kI0 kI8 uE0)))) (uA kN0 (rA kI90) (uA kN1 (uis kN0) (uA kN2 (uis kN1) (uA kN3 (uic kI1) (uA kN4 (uis kN2) uA0))))) uS0 (uO kN107 kN1 (uis kN3) uO0) kI96870116 (uL kJ49348 kN2 uL0))
  (uK (uC kN29 (uE kI1 kI6 (uE kI0 kI3 (uE kI0 kI63 (uE kI0 kI60 (uE kI0 kI8 uE0))))) (uA kN0 (rA kI90) (uA kN1 (uis kN0) (uA kN2 (uis kN1) (uA kN3 (uic kI1) (uA kN4 (uis kN2) (uA kN5 (uis kN3) uA0)))))) uS0 (uO kN107 kN1 (uis kN4) uO0) kI96869046 (uL kJ676 kN3 (uL kJ49348 kN2 uL0)))
  (uK (uC kN76 (uE kI1 kI6 (uE kI0 kI3 (uE kI0 kI63 (uE kI0 kI59 (uE kI0 kI63 (uE kI0 kI8 uE0)))))) (uA kN0 (rA kI90) (uA kN1 (uis kN0) (uA kN2 (uis kN1) (uA kN3 (uic kI1) (uA kN4 (uis kN2) (uA kN5 (uis kN3) uA0)))))) (uS (uis kN4) (uS (rA kI102) uS0)) (uO kN107 kN1 (uis kN5) uO0) kI96868999 (uL kJ676 kN3 (uL kJ49348 kN2 uL0)))
  (uK (uC kN77 (uE kI1 kI6 (uE kI0 kI3 (uE kI0 kI63 (uE kI0 kI59 (uE kI0 kI1 (uE kI0 kI63 (uE kI0 kI8 uE0))))))) (uA kN0 (rA kI90) (uA kN1 (uis kN0) (uA kN2 (uis kN1) (uA kN3 (uic kI1) (uA kN4 (uis kN2) (uA kN5 (uis kN3) uA0)))))) (uS (uis kN4) (uS (uis kN5) (uS (rA kI102) uS0))) (uO kN107 kN1 (uis kN6) uO0) kI96868998 (uL kJ676 kN3 (uL kJ49348 kN2 uL0)))
  (uK (uC kN87 (uE kI1 kI6 (uE kI0 kI3 (uE kI0 kI63 (uE kI0 kI8 (uE kI0 kI8 uE0))))) (uA kN0 (rA kI90) (uA kN1 (uis kN0) (uA kN2 (uis kN1) (uA kN3 (uic kI1) (uA kN4 (uis kN2) (uA kN5 (uis kN3) uA0)))))) uS0 (uO kN107 kN1 (uis kN4) uO0) kI96827018 (uL kJ676 kN3 (uL kJ49348 kN2 uL0)))
  (uK (uC kN130 (uE kI1 kI6 (uE kI0 kI3 (uE kI0 kI63 (uE kI0 kI7 (uE kI0 kI128 (uE kI0 kI255 (uE kI0 kI63 (uE kI1 kI8 uE0)))))))) (uA kN0 (rA kI90) (uA kN1 (uis kN0) (uA kN2 (uis kN1) (uA kN3 (uic kI1) (uA kN4 (uis kN2) (uA kN5 (uis kN3) uA0)))))) (uS (uis kN4) (uS (uis kN5) (uS (uis kN6) (uS (rA kI103) uS0)))) (uO kN107 kN1 (uis kN7) uO0) kI96826975 (uL kJ676 kN3 (uL kJ49348 kN2 uL0)))
  (uK (uC kN159 (uE kI1 kI6 (uE kI0 kI3 (uE kI0 kI255 (uE kI0 kI256 (uE kI0 kI8 uE0))))) (uA kN0 (rA kI90) (uA kN1 (uis kN0) (uA kN2 (uis kN1) (uA kN3 (uic kI1) (uA kN4 (uis kN2) (uA kN5 (uis kN3) uA0)))))) uS0 (uO kN107 kN1 (uis kN4) uO0) kI93661508 (uL kJ676 kN3 uL0))
  (uK (uC kN192 (uE kI1 kI6 (uE kI0 kI3 (uE kI0 kI255 (uE kI0 kI255 (uE kI0 kI1000000 (uE kI256 kI1791 (uE kI0 kI8 uE0))))))) (uA kN0 (rA kI90) (uA kN1 (uis kN0) (uA kN2 (uis kN1) (uA kN3 (uic kI1) (uA kN4 (uis kN2) (uA kN5 (uis kN3) uA0)))))) (uS (uis kN4) (uS (uis kN5) (uS (rA kI104) uS0))) (uO kN107 kN1 (uis kN6) uO0) kI93661475 (uL kJ676 kN3 uL0))
  (uK (uC kN204 (uE kI1 kI6 (uE kI0 kI3 (uE kI0 kI255 (uE kJ1 kI5 (uE kI0 kI8 uE0))))) (uA kN0 (rA kI90) (uA kN1 (uis kN0) (uA kN2 (uis kN1) (uA kN3 (uic kI1) (uA kN4 (uis kN2) (uA kN5 (uis kN3) uA0)))))) uS0 (uO kN107 kN1 (uis kN4) uO0) kI23371614 (uL kI11686012 kN3 uL0))
  (uK (uC kN212 (uE kI1 kI6 (uE kI0 kI3 (uE kI0 kI255 (uE kI0 kI5 (uE kI0 kI256 (uE kI0 kI8 uE0)))))) (uA kN0 (rA kI90) (uA kN1 (uis kN0) (uA kN2 (uis kN1) (uA kN3 (uic kI1) (uA kN4 (uis kN2) (uA kN5 (uis kN3) (uA kN6 (uis kN4) uA0))))))) uS0 (uO kN107 kN1 (uis kN5) uO0) kI23325763 (uL kJ45292 kN4 (uL kI11686012 kN3 uL0)))
  (uK (uC kN239 (uE kI1 kI6 (uE kI0 kI3 (uE kI0 kI255 (uE kI0 kI5 (uE kI0 kI255 (uE kI0 kI64 (uE kI0 kI8 uE0))))))) (uA kN0 (rA kI90) (uA kN1 (uis kN0) (uA kN2 (uis kN1) (uA kN3 (uic kI1) (uA kN4 (uis kN2) (uA kN5 (uis kN3) (uA kN6 (uis kN4) (uA kN7 (uis kN5) uA0)))))))) uS0 (uO kN107 kN1 (uis kN6) uO0) kI23324482 (uL kJ676 kN5 (uL kI11686012 kN3 (uL kJ45292 kN4 uL0))))
  (uK (uC kN317 (uE kI1 kI6 (uE kI0 kI3 (uE kI0 kI255 (uE kI0 kI5 (uE kI0 kI255 (uE kI0 kI63 (uE kI0 kI8 uE0))))))) (uA kN0 (rA kI90) (uA kN1 (uis kN0) (uA kN2 (uis kN1) (uA kN3 (uic kI1) (uA kN4 (uis kN2) (uA kN5 (uis kN3) (uA kN6 (uis kN4) (uA kN7 (uis kN5) uA0)))))))) uS0 (uO kN107 kN1 (uis kN6) uO0) kI23324404 (uL kJ676 kN5 (uL kI11686012 kN3 (uL kJ45292 kN4 uL0))))
  uK0)))))))))))) = true := by decide +kernel
theorem r238 {l : Launch} {D : va_G} {tys : List (ClassId × FieldType)} {A : Nat → Prop} {ad : Nat → Nat} (hAD : ∀ i : Nat, ad (1000 + i) = D.2 1000 i) : CRok l D tys A ad GG 2 g238 := CR_of_vrf (dep := 1) hAD (List.forall_mem_cons.mpr ⟨r122 hAD, fun c hc => by cases hc⟩) T2OK_nil w238
noncomputable def g239 : CR := (303, [(2, 90, 90), (0, 1, 6), (0, 0, 3), (0, 1, 1)], [((107, 1), (0, 0, 8))], some (0, (-2147483648), 999999), [], [102, 103, 104])
theorem w239 : vrf GG [(3, g237), (2, g238)] [] 300 3 g239
  [] = true := by decide +kernel
theorem r239 {l : Launch} {D : va_G} {tys : List (ClassId × FieldType)} {A : Nat → Prop} {ad : Nat → Nat} (hAD : ∀ i : Nat, ad (1000 + i) = D.2 1000 i) : CRok l D tys A ad GG 4 g239 := CR_of_vrf (dep := 3) hAD (List.forall_mem_cons.mpr ⟨r237 hAD, List.forall_mem_cons.mpr ⟨r238 hAD, fun c hc => by cases hc⟩⟩) T2OK_nil w239
