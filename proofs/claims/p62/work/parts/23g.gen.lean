def g528 : CR := (309, [(2, 90, 90), (0, 1, 6)], [((91, 0), (0, 1, 9))], some (0, (-2147483648), 2147483647), [], [])
theorem w528 : vrf GG [] [] 300 0 g528
  [] = true := by decide +kernel
theorem r528 {l : Launch} {D : va_G} {tys : List (ClassId × FieldType)} {A : Nat → Prop} {ad : Nat → Nat} (hAD : ∀ i : Nat, ad (1000 + i) = D.2 1000 i) : CRok l D tys A ad GG 1 g528 := CR_of_vrf (dep := 0) hAD (fun c hc => by cases hc) T2OK_nil w528
def g529 : CR := (310, [(2, 90, 90), (0, 0, 2147483646), (0, 1, 6)], [((91, 0), (0, 1, 9))], none, [], [90, 105])
theorem w529 : vrf GG [] [] 300 0 g529
  [(12, [(0, 2147483646), (1, 6), (0, 2147483646), ((-1), 5), (1, 6), (1, 9)], [(0, rA 90), (1, iA (0, [(1, 0)])), (2, iA (0, [(1, 1)])), (3, iA (0, [(1, 2)])), (4, iA (0, [(1, 3)]))], [], [((90, 30), iA (0, [(1, 4)])), ((91, 0), iA (0, [(1, 5)]))], (174, [(100, 3)]))] = true := by decide +kernel
theorem r529 {l : Launch} {D : va_G} {tys : List (ClassId × FieldType)} {A : Nat → Prop} {ad : Nat → Nat} (hAD : ∀ i : Nat, ad (1000 + i) = D.2 1000 i) : CRok l D tys A ad GG 1 g529 := CR_of_vrf (dep := 0) hAD (fun c hc => by cases hc) T2OK_nil w529
def g530 : CR := (326, [(2, 90, 90), (0, (-2147483648), 2147483647)], [((91, 0), (0, 1, 9))], some (0, (-2147483648), 2147483647), [], [90, 105])
theorem w530 : vrf GG [(1, g528), (1, g529), (3, g507)] [] 300 3 g530
  [(17, [((-1), 2147483647), (1, 7), (1, 9), (1, 2147483647)], [(0, rA 90), (1, iA (0, [(1, 0)])), (2, iA (0, [(1, 1)]))], [], [((91, 0), iA (0, [(1, 2)])), ((91, 5), iA (0, [(1, 3)]))], (3023656979164, [((-377957122400), 1)])),
  (25, [((-1), 2147483647), (1, 6), (0, 2147483647), (1, 9), (1, 2147483647)], [(0, rA 90), (1, iA (0, [(1, 0)])), (2, iA (0, [(1, 1)])), (3, iA (0, [(1, 2)]))], [], [((91, 0), iA (0, [(1, 3)])), ((91, 5), iA (0, [(1, 4)]))], (3023656978866, [((-176), 2), ((-377957122400), 1)])),
  (71, [((-1), 2147483647), (1, 6), (0, 2147483646), ((-2147483648), 2147483647), (1, 9), (1, 2147483647)], [(0, rA 90), (1, iA (0, [(1, 0)])), (2, iA (0, [(1, 1)])), (3, iA (0, [(1, 2)]))], [iA (0, [(1, 3)])], [((91, 0), iA (0, [(1, 4)])), ((91, 5), iA (0, [(1, 5)]))], (3023656978820, [((-176), 2), ((-377957122400), 1)]))] = true := by decide +kernel
theorem r530 {l : Launch} {D : va_G} {tys : List (ClassId × FieldType)} {A : Nat → Prop} {ad : Nat → Nat} (hAD : ∀ i : Nat, ad (1000 + i) = D.2 1000 i) : CRok l D tys A ad GG 4 g530 := CR_of_vrf (dep := 3) hAD (List.forall_mem_cons.mpr ⟨r528 hAD, List.forall_mem_cons.mpr ⟨r529 hAD, List.forall_mem_cons.mpr ⟨r507 hAD, fun c hc => by cases hc⟩⟩⟩) T2OK_nil w530
def g531 : CR := (31, [(2, 0, 0), (0, (-2147483648), 2147483647)], [], some (0, (-2), 63), [], [])
theorem w531 : vrf GG [(3, g129)] [] 300 3 g531
  [(18, [(0, 5), (0, 63), (0, 6), (1, 6)], [(0, rA 0), (1, iA (0, [(1, 0)])), (2, iA (0, [(1, 1)])), (3, iA (0, [(1, 2)]))], [], [((4, 4), iA (0, [(1, 3)]))], (998, [((-148), 2)])),
  (58, [(0, 5), (0, 63), (0, 5), (1, 6)], [(0, rA 0), (1, iA (0, [(1, 0)])), (2, iA (0, [(1, 1)])), (3, iA (0, [(1, 2)]))], [], [((4, 4), iA (0, [(1, 3)]))], (958, [((-148), 2)])),
  (64, [(0, 5), (0, 63), (0, 5), (1, 6)], [(0, rA 0), (1, iA (0, [(1, 0)])), (2, iA (0, [(1, 1)])), (3, iA (0, [(1, 2)]))], [], [((4, 4), iA (0, [(1, 3)]))], (952, [((-148), 2)]))] = true := by decide +kernel
theorem r531 {l : Launch} {D : va_G} {tys : List (ClassId × FieldType)} {A : Nat → Prop} {ad : Nat → Nat} (hAD : ∀ i : Nat, ad (1000 + i) = D.2 1000 i) : CRok l D tys A ad GG 4 g531 := CR_of_vrf (dep := 3) hAD (List.forall_mem_cons.mpr ⟨r129 hAD, fun c hc => by cases hc⟩) T2OK_nil w531
def g532 : CR := (275, [(2, 90, 90), (0, (-2147483648), 2147483647)], [], some (0, (-2), 63), [], [])
theorem w532 : vrf GG [(2, g131)] [] 300 2 g532
  [(15, [(0, 5), (0, 63), (0, 6), (1, 6)], [(0, rA 90), (1, iA (0, [(1, 0)])), (2, iA (0, [(1, 1)])), (3, iA (0, [(1, 2)]))], [], [((91, 3), iA (0, [(1, 3)]))], (920, [((-136), 2)])),
  (49, [(0, 5), (0, 63), (0, 5), (0, 63), (1, 6)], [(0, rA 90), (1, iA (0, [(1, 0)])), (2, iA (0, [(1, 1)])), (3, iA (0, [(1, 2)]))], [iA (0, [(1, 3)])], [((91, 3), iA (0, [(1, 4)]))], (886, [((-136), 2)])),
  (55, [(0, 5), (0, 63), (0, 5), (0, 63), (1, 6)], [(0, rA 90), (1, iA (0, [(1, 0)])), (2, iA (0, [(1, 1)])), (3, iA (0, [(1, 2)]))], [iA (0, [(1, 3)])], [((91, 3), iA (0, [(1, 4)]))], (880, [((-136), 2)])),
  (56, [(0, 5), (0, 63), (0, 5), (0, 32), (0, 63), (1, 6)], [(0, rA 90), (1, iA (0, [(1, 0)])), (2, iA (0, [(1, 1)])), (3, iA (0, [(1, 2)]))], [iA (0, [(1, 3)]), iA (0, [(1, 4)])], [((91, 3), iA (0, [(1, 5)]))], (879, [((-136), 2)]))] = true := by decide +kernel
theorem r532 {l : Launch} {D : va_G} {tys : List (ClassId × FieldType)} {A : Nat → Prop} {ad : Nat → Nat} (hAD : ∀ i : Nat, ad (1000 + i) = D.2 1000 i) : CRok l D tys A ad GG 3 g532 := CR_of_vrf (dep := 2) hAD (List.forall_mem_cons.mpr ⟨r131 hAD, fun c hc => by cases hc⟩) T2OK_nil w532
def g533 : CR := (151, [(0, 100, 100), (0, 0, 63)], [], some (1, (-9223372036854775808), 9223372036854775807), [], [])
theorem w533 : vrf GG [] [] 300 0 g533
  [(5, [(0, 63), ((-9223372036854775808), 9223372036854775807), (0, 63)], [(0, iA (100, [])), (1, iA (0, [(1, 0)])), (2, lA (0, [(1, 1)])), (4, iA (0, [(1, 2)]))], [], [], (3316, [((-52), 2)]))] = true := by decide +kernel
theorem r533 {l : Launch} {D : va_G} {tys : List (ClassId × FieldType)} {A : Nat → Prop} {ad : Nat → Nat} (hAD : ∀ i : Nat, ad (1000 + i) = D.2 1000 i) : CRok l D tys A ad GG 1 g533 := CR_of_vrf (dep := 0) hAD (fun c hc => by cases hc) T2OK_nil w533
def g534 : CR := (63, [(2, 0, 0), (0, 0, 5)], [], some (0, 0, 4095), [], [])
theorem w534 : vrf GG [] [] 300 2 g534
  [(4, [(0, 5), (0, 4095), (0, 12)], [(0, rA 0), (1, iA (0, [(1, 0)])), (2, iA (0, [(1, 1)])), (3, iA (0, [(1, 2)]))], [], [], (2642, [((-204), 2)])),
  (38, [(0, 5), (0, 4095), (0, 11), (0, 1), (1, 12)], [(0, rA 0), (1, iA (0, [(1, 0)])), (2, iA (0, [(1, 1)])), (3, iA (0, [(1, 2)]))], [iA (0, [(1, 3)])], [((4, 5), iA (0, [(1, 4)]))], (2608, [((-204), 2)])),
  (92, [(0, 5), (0, 4095), (0, 11), (0, 1), ((-2147483648), 2147483647), (1, 12)], [(0, rA 0), (1, iA (0, [(1, 0)])), (2, iA (0, [(1, 1)])), (3, iA (0, [(1, 2)])), (4, iA (0, [(1, 3)])), (5, iA (0, [(1, 4)]))], [], [((4, 5), iA (0, [(1, 5)]))], (2554, [((-204), 2)]))] = true := by decide +kernel
theorem r534 {l : Launch} {D : va_G} {tys : List (ClassId × FieldType)} {A : Nat → Prop} {ad : Nat → Nat} (hAD : ∀ i : Nat, ad (1000 + i) = D.2 1000 i) : CRok l D tys A ad GG 3 g534 := CR_of_vrf (dep := 2) hAD (fun c hc => by cases hc) T2OK_nil w534
def g535 : CR := (92, [(2, 28, 28), (2, 4, 4), (0, (-2147483648), 2147483647), (0, (-2147483648), 2147483647)], [], some (0, 0, 63), [], [31])
theorem w535 : vrf GG [] [] 748 2 g535
  [(28, [((-2147483648), 2147483647), ((-2147483648), 2147483647), ((-2147483648), 2147483647), ((-2147483648), 2147483647), (0, 63), (0, 6)], [(0, rA 28), (1, rA 4), (2, iA (0, [(1, 0)])), (3, iA (0, [(1, 1)])), (4, iA (0, [(1, 2)])), (5, iA (0, [(1, 3)])), (6, iA (0, [(1, 4)])), (7, iA (0, [(1, 5)]))], [], [], (1426, [((-212), 5)])),
  (95, [((-2147483648), 2147483647), ((-2147483648), 2147483647), ((-2147483648), 2147483647), ((-2147483648), 2147483647), (0, 63), (0, 5), (1, 6)], [(0, rA 28), (1, rA 4), (2, iA (0, [(1, 0)])), (3, iA (0, [(1, 1)])), (4, iA (0, [(1, 2)])), (5, iA (0, [(1, 3)])), (6, iA (0, [(1, 4)])), (7, iA (0, [(1, 5)]))], [], [((4, 4), iA (0, [(1, 6)]))], (1359, [((-212), 5)]))] = true := by decide +kernel
theorem r535 {l : Launch} {D : va_G} {tys : List (ClassId × FieldType)} {A : Nat → Prop} {ad : Nat → Nat} (hAD : ∀ i : Nat, ad (1000 + i) = D.2 1000 i) : CRok l D tys A ad GG 3 g535 := CR_of_vrf (dep := 2) hAD (fun c hc => by cases hc) T2OK_nil w535
def g536 : CR := (94, [(2, 28, 28), (2, 4, 4), (0, 0, 5), (0, 0, 5), (0, 0, 4095)], [], some (0, 0, 1), [], [31])
theorem w536 : vrf GG [(3, g63), (3, g535)] [] 675 3 g536
  [(8, [(0, 5), (0, 5), (0, 4095), (0, 12)], [(0, rA 28), (1, rA 4), (2, iA (0, [(1, 0)])), (3, iA (0, [(1, 1)])), (4, iA (0, [(1, 2)])), (5, iA (0, [(1, 3)]))], [], [], (2738, [((-212), 3)])),
  (66, [(0, 5), (0, 5), (0, 4095), (0, 11), ((-2147483648), 2147483647), ((-2147483648), 2147483647), (1, 12)], [(0, rA 28), (1, rA 4), (2, iA (0, [(1, 0)])), (3, iA (0, [(1, 1)])), (4, iA (0, [(1, 2)])), (5, iA (0, [(1, 3)])), (6, iA (0, [(1, 4)]))], [iA (0, [(1, 5)])], [((4, 5), iA (0, [(1, 6)]))], (2680, [((-212), 3)])),
  (78, [(0, 5), (0, 5), (0, 4095), (0, 11), ((-2147483648), 2147483647), (1, 12)], [(0, rA 28), (1, rA 4), (2, iA (0, [(1, 0)])), (3, iA (0, [(1, 1)])), (4, iA (0, [(1, 2)])), (5, iA (0, [(1, 3)])), (6, iA (0, [(1, 4)]))], [], [((4, 5), iA (0, [(1, 5)]))], (2668, [((-212), 3)]))] = true := by decide +kernel
theorem r536 {l : Launch} {D : va_G} {tys : List (ClassId × FieldType)} {A : Nat → Prop} {ad : Nat → Nat} (hAD : ∀ i : Nat, ad (1000 + i) = D.2 1000 i) : CRok l D tys A ad GG 4 g536 := CR_of_vrf (dep := 3) hAD (List.forall_mem_cons.mpr ⟨r63 hAD, List.forall_mem_cons.mpr ⟨r535 hAD, fun c hc => by cases hc⟩⟩) T2OK_nil w536
def g537 : CR := (96, [(0, 0, 4095), (0, 0, 4095), (0, (-2147483648), 2147483647)], [], some (1, (-9223372036854775808), 9223372036854775807), [], [])
theorem w537 : vrf GG [] [] 300 0 g537
  [(5, [(0, 4095), (0, 4095), ((-2147483648), 2147483647), ((-9223372036854775808), 9223372036854775807), (0, 12)], [(0, iA (0, [(1, 0)])), (1, iA (0, [(1, 1)])), (2, iA (0, [(1, 2)])), (3, lA (0, [(1, 3)])), (5, iA (0, [(1, 4)]))], [], [], (1366, [((-106), 4)])),
  (41, [(0, 4095), (0, 4095), ((-2147483648), 2147483647), ((-9223372036854775808), 9223372036854775807), (0, 11), ((-2147483648), 2147483647), ((-9223372036854775808), 9223372036854775807)], [(0, iA (0, [(1, 0)])), (1, iA (0, [(1, 1)])), (2, iA (0, [(1, 2)])), (3, lA (0, [(1, 3)])), (5, iA (0, [(1, 4)]))], [lA (0, [(1, 5)]), lA (0, [(1, 6)])], [], (1330, [((-106), 4)])),
  (43, [(0, 4095), (0, 4095), ((-2147483648), 2147483647), ((-9223372036854775808), 9223372036854775807), (0, 11)], [(0, iA (0, [(1, 0)])), (1, iA (0, [(1, 1)])), (2, iA (0, [(1, 2)])), (3, lA (0, [(1, 3)])), (5, iA (0, [(1, 4)]))], [], [], (1328, [((-106), 4)]))] = true := by decide +kernel
theorem r537 {l : Launch} {D : va_G} {tys : List (ClassId × FieldType)} {A : Nat → Prop} {ad : Nat → Nat} (hAD : ∀ i : Nat, ad (1000 + i) = D.2 1000 i) : CRok l D tys A ad GG 1 g537 := CR_of_vrf (dep := 0) hAD (fun c hc => by cases hc) T2OK_nil w537
def g538 : CR := (95, [(2, 28, 28), (2, 4, 4), (0, 0, 5), (0, 0, 5), (0, 0, 4095)], [], some (1, (-9223372036854775808), 9223372036854775807), [], [31])
theorem w538 : vrf GG [(4, g536), (1, g537)] [] 300 4 g538
  [(9, [(0, 5), (0, 5), (0, 4095), ((-9223372036854775808), 9223372036854775807), (0, 4095), (0, 256)], [(0, rA 28), (1, rA 4), (2, iA (0, [(1, 0)])), (3, iA (0, [(1, 1)])), (4, iA (0, [(1, 2)])), (5, lA (0, [(1, 3)])), (7, iA (0, [(1, 4)])), (8, iA (0, [(1, 5)]))], [], [], (45726, [((-178), 5)])),
  (60, [(0, 5), (0, 5), (0, 4095), ((-9223372036854775808), 9223372036854775807), (0, 4095), (0, 255), ((-9223372036854775808), 9223372036854775807)], [(0, rA 28), (1, rA 4), (2, iA (0, [(1, 0)])), (3, iA (0, [(1, 1)])), (4, iA (0, [(1, 2)])), (5, lA (0, [(1, 3)])), (7, iA (0, [(1, 4)])), (8, iA (0, [(1, 5)])), (9, lA (0, [(1, 6)]))], [], [], (45675, [((-178), 5)]))] = true := by decide +kernel
theorem r538 {l : Launch} {D : va_G} {tys : List (ClassId × FieldType)} {A : Nat → Prop} {ad : Nat → Nat} (hAD : ∀ i : Nat, ad (1000 + i) = D.2 1000 i) : CRok l D tys A ad GG 5 g538 := CR_of_vrf (dep := 4) hAD (List.forall_mem_cons.mpr ⟨r536 hAD, List.forall_mem_cons.mpr ⟨r537 hAD, fun c hc => by cases hc⟩⟩) T2OK_nil w538
def g539 : CR := (62, [(2, 0, 0), (0, (-2147483648), 2147483647), (0, (-2147483648), 2147483647), (0, (-2147483648), 2147483647)], [], some (1, (-9223372036854775808), 9223372036854775807), [], [31])
theorem w539 : vrf GG [(3, g534), (5, g538), (1, g533), (1, hCom)] [] 300 5 g539
  [] = true := by decide +kernel
theorem r539 {l : Launch} {D : va_G} {tys : List (ClassId × FieldType)} {A : Nat → Prop} {ad : Nat → Nat} (hAD : ∀ i : Nat, ad (1000 + i) = D.2 1000 i) : CRok l D tys A ad GG 6 g539 := CR_of_vrf (dep := 5) hAD (List.forall_mem_cons.mpr ⟨r534 hAD, List.forall_mem_cons.mpr ⟨r538 hAD, List.forall_mem_cons.mpr ⟨r533 hAD, List.forall_mem_cons.mpr ⟨HCom_ok hAD, fun c hc => by cases hc⟩⟩⟩⟩) T2OK_nil w539
def g540 : CR := (327, [(2, 90, 90), (0, 0, 5)], [], some (0, 0, 4095), [], [])
theorem w540 : vrf GG [] [] 300 2 g540
  [(4, [(0, 5), (0, 4095), (0, 12)], [(0, rA 90), (1, iA (0, [(1, 0)])), (2, iA (0, [(1, 1)])), (3, iA (0, [(1, 2)]))], [], [], (2512, [((-194), 2)])),
  (66, [(0, 5), (0, 4095), (0, 11), (0, 5), (0, 63), (0, 4095), (1, 12)], [(0, rA 90), (1, iA (0, [(1, 0)])), (2, iA (0, [(1, 1)])), (3, iA (0, [(1, 2)])), (4, iA (0, [(1, 3)]))], [iA (0, [(1, 4)]), iA (0, [(1, 5)])], [((91, 4), iA (0, [(1, 6)]))], (2450, [((-194), 2)])),
  (84, [(0, 5), (0, 4095), (0, 11), (0, 5), (0, 4095), (1, 12)], [(0, rA 90), (1, iA (0, [(1, 0)])), (2, iA (0, [(1, 1)])), (3, iA (0, [(1, 2)])), (4, iA (0, [(1, 3)]))], [iA (0, [(1, 4)])], [((91, 4), iA (0, [(1, 5)]))], (2432, [((-194), 2)])),
  (85, [(0, 5), (0, 4095), (0, 11), (0, 5), (0, 2048), (0, 4095), (1, 12)], [(0, rA 90), (1, iA (0, [(1, 0)])), (2, iA (0, [(1, 1)])), (3, iA (0, [(1, 2)])), (4, iA (0, [(1, 3)]))], [iA (0, [(1, 4)]), iA (0, [(1, 5)])], [((91, 4), iA (0, [(1, 6)]))], (2431, [((-194), 2)]))] = true := by decide +kernel
theorem r540 {l : Launch} {D : va_G} {tys : List (ClassId × FieldType)} {A : Nat → Prop} {ad : Nat → Nat} (hAD : ∀ i : Nat, ad (1000 + i) = D.2 1000 i) : CRok l D tys A ad GG 3 g540 := CR_of_vrf (dep := 2) hAD (fun c hc => by cases hc) T2OK_nil w540
def g541 : CR := (329, [(2, 90, 90), (0, 0, 5), (0, 0, 5), (0, 0, 4095)], [], some (1, (-9223372036854775808), 9223372036854775807), [], [90, 98, 99, 100, 101])
theorem w541 : vrf GG [(4, g84)] [] 300 5 g541
  [(6, [(0, 5), (0, 5), (0, 4095), ((-9223372036854775808), 9223372036854775807), (0, 4096)], [(0, rA 90), (1, iA (0, [(1, 0)])), (2, iA (0, [(1, 1)])), (3, iA (0, [(1, 2)])), (4, lA (0, [(1, 3)])), (6, iA (0, [(1, 4)]))], [], [], (19542676, [((-4770), 4)])),
  (30, [(0, 5), (0, 5), (0, 4095), ((-9223372036854775808), 9223372036854775807), (0, 4095), ((-9223372036854775808), 9223372036854775807), (0, 12)], [(0, rA 90), (1, iA (0, [(1, 0)])), (2, iA (0, [(1, 1)])), (3, iA (0, [(1, 2)])), (4, lA (0, [(1, 3)])), (6, iA (0, [(1, 4)])), (7, lA (0, [(1, 5)])), (9, iA (0, [(1, 6)]))], [], [], (19542144, [((-318), 6), ((-4770), 4)])),
  (89, [(0, 5), (0, 5), (0, 4095), ((-9223372036854775808), 9223372036854775807), (0, 4095), ((-9223372036854775808), 9223372036854775807), (0, 11), (0, 100), ((-9223372036854775808), 9223372036854775807)], [(0, rA 90), (1, iA (0, [(1, 0)])), (2, iA (0, [(1, 1)])), (3, iA (0, [(1, 2)])), (4, lA (0, [(1, 3)])), (6, iA (0, [(1, 4)])), (7, lA (0, [(1, 5)])), (9, iA (0, [(1, 6)]))], [lA (0, [(1, 7)]), lA (0, [(1, 8)])], [], (19542085, [((-318), 6), ((-4770), 4)])),
  (145, [(0, 5), (0, 5), (0, 4095), ((-9223372036854775808), 9223372036854775807), (0, 4095), ((-9223372036854775808), 9223372036854775807), ((-9223372036854775808), 9223372036854775807), ((-9223372036854775808), 9223372036854775807), (0, 24)], [(0, rA 90), (1, iA (0, [(1, 0)])), (2, iA (0, [(1, 1)])), (3, iA (0, [(1, 2)])), (4, lA (0, [(1, 3)])), (6, iA (0, [(1, 4)])), (7, lA (0, [(1, 5)])), (9, iA (12, []))], [lA (0, [(1, 6)]), lA (0, [(1, 7)])], [((90, 22), iA ((-1), [])), ((91, 2), iA (0, [(1, 8)]))], (19538085, [((-4770), 4)])),
  (148, [(0, 5), (0, 5), (0, 4095), ((-9223372036854775808), 9223372036854775807), (0, 4095)], [(0, rA 90), (1, iA (0, [(1, 0)])), (2, iA (0, [(1, 1)])), (3, iA (0, [(1, 2)])), (4, lA (0, [(1, 3)])), (6, iA (0, [(1, 4)]))], [], [], (19538082, [((-4770), 4)]))] = true := by decide +kernel
theorem r541 {l : Launch} {D : va_G} {tys : List (ClassId × FieldType)} {A : Nat → Prop} {ad : Nat → Nat} (hAD : ∀ i : Nat, ad (1000 + i) = D.2 1000 i) : CRok l D tys A ad GG 6 g541 := CR_of_vrf (dep := 5) hAD (List.forall_mem_cons.mpr ⟨r84 hAD, fun c hc => by cases hc⟩) T2OK_nil w541
def g542 : CR := (330, [(2, 90, 90), (0, (-2147483648), 2147483647), (0, (-2147483648), 2147483647), (0, (-2147483648), 2147483647)], [], some (1, (-9223372036854775808), 9223372036854775807), [], [90, 98, 99, 100, 101])
theorem w542 : vrf GG [(1, g162), (4, g84), (3, g540), (6, g541)] hDiv 812 6 g542
  [] = true := by decide +kernel
theorem r542 {l : Launch} {D : va_G} {tys : List (ClassId × FieldType)} {A : Nat → Prop} {ad : Nat → Nat} (hAD : ∀ i : Nat, ad (1000 + i) = D.2 1000 i) : CRok l D tys A ad GG 7 g542 := CR_of_vrf (dep := 6) hAD (List.forall_mem_cons.mpr ⟨r162 hAD, List.forall_mem_cons.mpr ⟨r84 hAD, List.forall_mem_cons.mpr ⟨r540 hAD, List.forall_mem_cons.mpr ⟨r541 hAD, fun c hc => by cases hc⟩⟩⟩⟩) HDiv_ok w542
def g543 : CR := (97, [(2, 28, 28), (2, 4, 4), (1, 0, 2000000000)], [], none, [], [31])
theorem w543 : vrf GG [(3, g63), (3, g535)] [] 631 3 g543
  [(11, [(0, 2000000000), (0, 2147483647), (0, 12)], [(0, rA 28), (1, rA 4), (2, lA (0, [(1, 0)])), (4, lA (0, [(1, 1)])), (6, iA (0, [(1, 2)]))], [], [], (34608, [((-2664), 2)])),
  (49, [(0, 2000000000), (0, 2147483647), (0, 11), ((-2147483648), 2147483647), ((-2147483648), 2147483647), (0, 6), (1, 12)], [(0, rA 28), (1, rA 4), (2, lA (0, [(1, 0)])), (4, lA (0, [(1, 1)])), (6, iA (0, [(1, 2)])), (7, iA (0, [(1, 3)])), (8, iA (0, [(1, 4)])), (9, iA (0, [(1, 5)]))], [], [((4, 5), iA (0, [(1, 6)]))], (34076, [((-296), 5), ((-2664), 2)])),
  (123, [(0, 2000000000), (0, 2147483647), (0, 11), ((-2147483648), 2147483647), ((-2147483648), 2147483647), (0, 5), (1, 6), (1, 12)], [(0, rA 28), (1, rA 4), (2, lA (0, [(1, 0)])), (4, lA (0, [(1, 1)])), (6, iA (0, [(1, 2)])), (7, iA (0, [(1, 3)])), (8, iA (0, [(1, 4)])), (9, iA (0, [(1, 5)]))], [], [((4, 4), iA (0, [(1, 6)])), ((4, 5), iA (0, [(1, 7)]))], (34002, [((-296), 5), ((-2664), 2)])),
  (139, [(0, 2000000000), (0, 2147483647), (0, 11), ((-2147483648), 2147483647), (1, 12)], [(0, rA 28), (1, rA 4), (2, lA (0, [(1, 0)])), (4, lA (0, [(1, 1)])), (6, iA (0, [(1, 2)])), (7, iA (0, [(1, 3)]))], [], [((4, 5), iA (0, [(1, 4)]))], (32112, [((-2664), 2)]))] = true := by decide +kernel
theorem r543 {l : Launch} {D : va_G} {tys : List (ClassId × FieldType)} {A : Nat → Prop} {ad : Nat → Nat} (hAD : ∀ i : Nat, ad (1000 + i) = D.2 1000 i) : CRok l D tys A ad GG 4 g543 := CR_of_vrf (dep := 3) hAD (List.forall_mem_cons.mpr ⟨r63 hAD, List.forall_mem_cons.mpr ⟨r535 hAD, fun c hc => by cases hc⟩⟩) T2OK_nil w543
def g544 : CR := (64, [(2, 0, 0), (0, (-2147483648), 2147483647), (0, (-2147483648), 2147483647), (0, (-2147483648), 2147483647)], [], some (0, (-2147483648), 2147483647), [], [31])
theorem w544 : vrf GG [(4, g543)] [] 300 4 g544
  [] = true := by decide +kernel
theorem r544 {l : Launch} {D : va_G} {tys : List (ClassId × FieldType)} {A : Nat → Prop} {ad : Nat → Nat} (hAD : ∀ i : Nat, ad (1000 + i) = D.2 1000 i) : CRok l D tys A ad GG 5 g544 := CR_of_vrf (dep := 4) hAD (List.forall_mem_cons.mpr ⟨r543 hAD, fun c hc => by cases hc⟩) T2OK_nil w544
def g545 : CR := (333, [(2, 90, 90), (0, (-2147483648), 2147483647), (0, (-2147483648), 2147483647), (0, (-2147483648), 2147483647)], [], some (0, (-2), 63), [], [90, 98, 99, 100, 101])
theorem w545 : vrf GG [(4, g84)] [] 300 6 g545
  [] = true := by decide +kernel
theorem r545 {l : Launch} {D : va_G} {tys : List (ClassId × FieldType)} {A : Nat → Prop} {ad : Nat → Nat} (hAD : ∀ i : Nat, ad (1000 + i) = D.2 1000 i) : CRok l D tys A ad GG 7 g545 := CR_of_vrf (dep := 6) hAD (List.forall_mem_cons.mpr ⟨r84 hAD, fun c hc => by cases hc⟩) T2OK_nil w545
def g546 : CR := (97, [(2, 28, 28), (2, 4, 4), (1, 0, 2147483647)], [], none, [], [31])
theorem w546 : vrf GG [(3, g63), (3, g535)] [] 631 3 g546
  [(11, [(0, 2147483647), (0, 2147483647), (0, 12)], [(0, rA 28), (1, rA 4), (2, lA (0, [(1, 0)])), (4, lA (0, [(1, 1)])), (6, iA (0, [(1, 2)]))], [], [], (34608, [((-2664), 2)])),
  (49, [(0, 2147483647), (0, 2147483647), (0, 11), ((-2147483648), 2147483647), ((-2147483648), 2147483647), (0, 6), (1, 12)], [(0, rA 28), (1, rA 4), (2, lA (0, [(1, 0)])), (4, lA (0, [(1, 1)])), (6, iA (0, [(1, 2)])), (7, iA (0, [(1, 3)])), (8, iA (0, [(1, 4)])), (9, iA (0, [(1, 5)]))], [], [((4, 5), iA (0, [(1, 6)]))], (34076, [((-296), 5), ((-2664), 2)])),
  (123, [(0, 2147483647), (0, 2147483647), (0, 11), ((-2147483648), 2147483647), ((-2147483648), 2147483647), (0, 5), (1, 6), (1, 12)], [(0, rA 28), (1, rA 4), (2, lA (0, [(1, 0)])), (4, lA (0, [(1, 1)])), (6, iA (0, [(1, 2)])), (7, iA (0, [(1, 3)])), (8, iA (0, [(1, 4)])), (9, iA (0, [(1, 5)]))], [], [((4, 4), iA (0, [(1, 6)])), ((4, 5), iA (0, [(1, 7)]))], (34002, [((-296), 5), ((-2664), 2)])),
  (139, [(0, 2147483647), (0, 2147483647), (0, 11), ((-2147483648), 2147483647), (1, 12)], [(0, rA 28), (1, rA 4), (2, lA (0, [(1, 0)])), (4, lA (0, [(1, 1)])), (6, iA (0, [(1, 2)])), (7, iA (0, [(1, 3)]))], [], [((4, 5), iA (0, [(1, 4)]))], (32112, [((-2664), 2)]))] = true := by decide +kernel
theorem r546 {l : Launch} {D : va_G} {tys : List (ClassId × FieldType)} {A : Nat → Prop} {ad : Nat → Nat} (hAD : ∀ i : Nat, ad (1000 + i) = D.2 1000 i) : CRok l D tys A ad GG 4 g546 := CR_of_vrf (dep := 3) hAD (List.forall_mem_cons.mpr ⟨r63 hAD, List.forall_mem_cons.mpr ⟨r535 hAD, fun c hc => by cases hc⟩⟩) T2OK_nil w546
def g547 : CR := (65, [(2, 0, 0), (0, (-2147483648), 2147483647), (0, (-2147483648), 2147483647), (0, (-2147483648), 2147483647), (0, (-2147483648), 2147483647)], [], some (0, (-2147483648), 2147483647), [], [31])
theorem w547 : vrf GG [(4, g546)] [] 300 4 g547
  [(57, [(0, 2000000000), (1, 20), (0, 5), (0, 5), ((-2147483648), 2147483647), (0, 20), (1, 6)], [(0, rA 0), (1, iA (0, [(1, 0)])), (2, iA (0, [(1, 1)])), (3, iA (0, [(1, 2)])), (4, iA (0, [(1, 3)])), (5, iA (0, [(1, 4)])), (6, iA (0, [(1, 5)]))], [], [((4, 4), iA (0, [(1, 6)]))], (4756, [((-232), 5)])),
  (105, [(0, 2000000000), (1, 20), (0, 5), (0, 5), ((-2147483648), 2147483647), (0, 19), (1, 6)], [(0, rA 0), (1, iA (0, [(1, 0)])), (2, iA (0, [(1, 1)])), (3, iA (0, [(1, 2)])), (4, iA (0, [(1, 3)])), (5, iA (0, [(1, 4)])), (6, iA (0, [(1, 5)]))], [], [((4, 4), iA (0, [(1, 6)]))], (4708, [((-232), 5)]))] = true := by decide +kernel
theorem r547 {l : Launch} {D : va_G} {tys : List (ClassId × FieldType)} {A : Nat → Prop} {ad : Nat → Nat} (hAD : ∀ i : Nat, ad (1000 + i) = D.2 1000 i) : CRok l D tys A ad GG 5 g547 := CR_of_vrf (dep := 4) hAD (List.forall_mem_cons.mpr ⟨r546 hAD, fun c hc => by cases hc⟩) T2OK_nil w547
def g548 : CR := (334, [(2, 90, 90), (0, (-2147483648), 2147483647), (0, (-2147483648), 2147483647), (0, (-2147483648), 2147483647), (0, (-2147483648), 2147483647)], [], some (0, (-2147483648), 2147483647), [], [90, 98, 99, 100, 101])
theorem w548 : vrf GG [(4, g84)] [] 300 6 g548
  [(45, [(0, 2000000000), (1, 20), (0, 5), (0, 5), ((-2147483648), 2147483647), (0, 20), (1, 6)], [(0, rA 90), (1, iA (0, [(1, 0)])), (2, iA (0, [(1, 1)])), (3, iA (0, [(1, 2)])), (4, iA (0, [(1, 3)])), (5, iA (0, [(1, 4)])), (6, iA (0, [(1, 5)]))], [], [((91, 3), iA (0, [(1, 6)]))], (3772, [((-184), 5)])),
  (78, [(0, 2000000000), (1, 20), (0, 5), (0, 5), ((-2147483648), 2147483647), (0, 19), (0, 1), ((-2147483648), 2147483647), (0, 24), (1, 6)], [(0, rA 90), (1, iA (0, [(1, 0)])), (2, iA (0, [(1, 1)])), (3, iA (0, [(1, 2)])), (4, iA (0, [(1, 3)])), (5, iA (0, [(1, 4)])), (6, iA (0, [(1, 5)]))], [iA (0, [(1, 6)]), iA (0, [(1, 7)])], [((90, 24), iA (0, [])), ((91, 2), iA (0, [(1, 8)])), ((91, 3), iA (0, [(1, 9)]))], (3739, [((-184), 5)]))] = true := by decide +kernel
theorem r548 {l : Launch} {D : va_G} {tys : List (ClassId × FieldType)} {A : Nat → Prop} {ad : Nat → Nat} (hAD : ∀ i : Nat, ad (1000 + i) = D.2 1000 i) : CRok l D tys A ad GG 7 g548 := CR_of_vrf (dep := 6) hAD (List.forall_mem_cons.mpr ⟨r84 hAD, fun c hc => by cases hc⟩) T2OK_nil w548
def g549 : CR := (44, [(2, 0, 0), (0, (-2147483648), 2147483647), (0, (-2147483648), 2147483647), (0, (-2147483648), 2147483647), (0, (-2147483648), 2147483647)], [], some (0, (-2), 1), [], [11, 29, 30, 31, 32, 33, 34, 35])
theorem w549 : vrf GG [(4, g66), (5, g64)] [] 454 6 g549
  [] = true := by decide +kernel
theorem r549 {l : Launch} {D : va_G} {tys : List (ClassId × FieldType)} {A : Nat → Prop} {ad : Nat → Nat} (hAD : ∀ i : Nat, ad (1000 + i) = D.2 1000 i) : CRok l D tys A ad GG 7 g549 := CR_of_vrf (dep := 6) hAD (List.forall_mem_cons.mpr ⟨r66 hAD, List.forall_mem_cons.mpr ⟨r64 hAD, fun c hc => by cases hc⟩⟩) T2OK_nil w549
def g550 : CR := (294, [(2, 90, 90), (0, (-2147483648), 2147483647), (0, (-2147483648), 2147483647), (0, (-2147483648), 2147483647), (0, (-2147483648), 2147483647)], [], some (0, (-2), 1), [], [91])
theorem w550 : vrf GG [] [] 300 3 g550
  [] = true := by decide +kernel
theorem r550 {l : Launch} {D : va_G} {tys : List (ClassId × FieldType)} {A : Nat → Prop} {ad : Nat → Nat} (hAD : ∀ i : Nat, ad (1000 + i) = D.2 1000 i) : CRok l D tys A ad GG 4 g550 := CR_of_vrf (dep := 3) hAD (fun c hc => by cases hc) T2OK_nil w550
def g551 : CR := (171, [(2, 39, 39)], [], some (0, (-2147483648), 2147483647), [], [])
theorem w551 : vrf GG [] [] 300 3 g551
  [(4, [((-2147483648), 2147483647), (0, 4)], [(0, rA 39), (1, iA (0, [(1, 0)])), (2, iA (0, [(1, 1)]))], [], [], (290, [((-60), 1)])),
  (20, [((-2147483648), 2147483647), (0, 3)], [(0, rA 39), (1, iA (0, [(1, 0)])), (2, iA (0, [(1, 1)]))], [], [], (274, [((-60), 1)]))] = true := by decide +kernel
theorem r551 {l : Launch} {D : va_G} {tys : List (ClassId × FieldType)} {A : Nat → Prop} {ad : Nat → Nat} (hAD : ∀ i : Nat, ad (1000 + i) = D.2 1000 i) : CRok l D tys A ad GG 4 g551 := CR_of_vrf (dep := 3) hAD (fun c hc => by cases hc) T2OK_nil w551
def g552 : CR := (66, [(2, 0, 0), (0, (-2147483648), 2147483647)], [], some (0, (-2147483648), 2147483647), [], [])
theorem w552 : vrf GG [(4, g551)] [] 300 4 g552
  [] = true := by decide +kernel
theorem r552 {l : Launch} {D : va_G} {tys : List (ClassId × FieldType)} {A : Nat → Prop} {ad : Nat → Nat} (hAD : ∀ i : Nat, ad (1000 + i) = D.2 1000 i) : CRok l D tys A ad GG 5 g552 := CR_of_vrf (dep := 4) hAD (List.forall_mem_cons.mpr ⟨r551 hAD, fun c hc => by cases hc⟩) T2OK_nil w552
def g553 : CR := (335, [(2, 90, 90), (0, (-2147483648), 2147483647)], [], some (0, (-2147483648), 2147483647), [], [])
theorem w553 : vrf GG [] [] 300 0 g553
  [(97, [((-2147483648), 2147483647), (0, 4)], [(0, rA 90), (1, iA (7, [])), (2, iA (0, [(1, 0)])), (3, iA (0, [(1, 1)]))], [], [], (1124, [((-264), 1)])),
  (118, [((-2147483648), 2147483647), (0, 3), (0, 1), ((-2147483648), 2147483647)], [(0, rA 90), (1, iA (7, [])), (2, iA (0, [(1, 0)])), (3, iA (0, [(1, 1)]))], [iA (0, [(1, 2)]), iA (0, [(1, 3)])], [], (1103, [((-264), 1)]))] = true := by decide +kernel
theorem r553 {l : Launch} {D : va_G} {tys : List (ClassId × FieldType)} {A : Nat → Prop} {ad : Nat → Nat} (hAD : ∀ i : Nat, ad (1000 + i) = D.2 1000 i) : CRok l D tys A ad GG 1 g553 := CR_of_vrf (dep := 0) hAD (fun c hc => by cases hc) T2OK_nil w553
def g554 : CR := (67, [(2, 0, 0), (0, (-2147483648), (-1))], [], some (0, (-2), (-2)), [], [])
theorem w554 : vrf GG [] [] 300 1 g554
  [] = true := by decide +kernel
theorem r554 {l : Launch} {D : va_G} {tys : List (ClassId × FieldType)} {A : Nat → Prop} {ad : Nat → Nat} (hAD : ∀ i : Nat, ad (1000 + i) = D.2 1000 i) : CRok l D tys A ad GG 2 g554 := CR_of_vrf (dep := 1) hAD (fun c hc => by cases hc) T2OK_nil w554
def g555 : CR := (67, [(2, 0, 0), (0, 3, 2147483647)], [], some (0, (-2), (-2)), [], [])
theorem w555 : vrf GG [] [] 300 1 g555
  [] = true := by decide +kernel
theorem r555 {l : Launch} {D : va_G} {tys : List (ClassId × FieldType)} {A : Nat → Prop} {ad : Nat → Nat} (hAD : ∀ i : Nat, ad (1000 + i) = D.2 1000 i) : CRok l D tys A ad GG 2 g555 := CR_of_vrf (dep := 1) hAD (fun c hc => by cases hc) T2OK_nil w555
def g556 : CR := (150, [(2, 10, 10), (2, 60, 60)], [], none, [], [60])
theorem w556 : vrf GG [] [] 300 0 g556
  [(2, [(0, 144)], [(0, rA 10), (1, rA 60), (2, iA (0, [(1, 0)]))], [], [], (8404, [((-58), 0)]))] = true := by decide +kernel
theorem r556 {l : Launch} {D : va_G} {tys : List (ClassId × FieldType)} {A : Nat → Prop} {ad : Nat → Nat} (hAD : ∀ i : Nat, ad (1000 + i) = D.2 1000 i) : CRok l D tys A ad GG 1 g556 := CR_of_vrf (dep := 0) hAD (fun c hc => by cases hc) T2OK_nil w556
def g557 : CR := (150, [(2, 11, 11), (2, 61, 61)], [], none, [], [61])
theorem w557 : vrf GG [] [] 300 0 g557
  [(2, [(0, 36)], [(0, rA 11), (1, rA 61), (2, iA (0, [(1, 0)]))], [], [], (2140, [((-58), 0)]))] = true := by decide +kernel
theorem r557 {l : Launch} {D : va_G} {tys : List (ClassId × FieldType)} {A : Nat → Prop} {ad : Nat → Nat} (hAD : ∀ i : Nat, ad (1000 + i) = D.2 1000 i) : CRok l D tys A ad GG 1 g557 := CR_of_vrf (dep := 0) hAD (fun c hc => by cases hc) T2OK_nil w557
def g558 : CR := (150, [(2, 12, 12), (2, 62, 62)], [], none, [], [62])
theorem w558 : vrf GG [] [] 300 0 g558
  [(2, [(0, 12)], [(0, rA 12), (1, rA 62), (2, iA (0, [(1, 0)]))], [], [], (748, [((-58), 0)]))] = true := by decide +kernel
theorem r558 {l : Launch} {D : va_G} {tys : List (ClassId × FieldType)} {A : Nat → Prop} {ad : Nat → Nat} (hAD : ∀ i : Nat, ad (1000 + i) = D.2 1000 i) : CRok l D tys A ad GG 1 g558 := CR_of_vrf (dep := 0) hAD (fun c hc => by cases hc) T2OK_nil w558
def g559 : CR := (150, [(2, 13, 13), (2, 63, 63)], [], none, [], [63])
theorem w559 : vrf GG [] [] 300 0 g559
  [(2, [(0, 12)], [(0, rA 13), (1, rA 63), (2, iA (0, [(1, 0)]))], [], [], (748, [((-58), 0)]))] = true := by decide +kernel
theorem r559 {l : Launch} {D : va_G} {tys : List (ClassId × FieldType)} {A : Nat → Prop} {ad : Nat → Nat} (hAD : ∀ i : Nat, ad (1000 + i) = D.2 1000 i) : CRok l D tys A ad GG 1 g559 := CR_of_vrf (dep := 0) hAD (fun c hc => by cases hc) T2OK_nil w559
def g560 : CR := (150, [(2, 14, 14), (2, 64, 64)], [], none, [], [64])
theorem w560 : vrf GG [] [] 300 0 g560
  [(2, [(0, 12)], [(0, rA 14), (1, rA 64), (2, iA (0, [(1, 0)]))], [], [], (748, [((-58), 0)]))] = true := by decide +kernel
theorem r560 {l : Launch} {D : va_G} {tys : List (ClassId × FieldType)} {A : Nat → Prop} {ad : Nat → Nat} (hAD : ∀ i : Nat, ad (1000 + i) = D.2 1000 i) : CRok l D tys A ad GG 1 g560 := CR_of_vrf (dep := 0) hAD (fun c hc => by cases hc) T2OK_nil w560
def g561 : CR := (150, [(2, 15, 15), (2, 65, 65)], [], none, [], [65])
theorem w561 : vrf GG [] [] 300 0 g561
  [(2, [(0, 12)], [(0, rA 15), (1, rA 65), (2, iA (0, [(1, 0)]))], [], [], (748, [((-58), 0)]))] = true := by decide +kernel
theorem r561 {l : Launch} {D : va_G} {tys : List (ClassId × FieldType)} {A : Nat → Prop} {ad : Nat → Nat} (hAD : ∀ i : Nat, ad (1000 + i) = D.2 1000 i) : CRok l D tys A ad GG 1 g561 := CR_of_vrf (dep := 0) hAD (fun c hc => by cases hc) T2OK_nil w561
def g562 : CR := (150, [(2, 5, 5), (2, 55, 55)], [], none, [], [55])
theorem w562 : vrf GG [] [] 300 0 g562
  [(2, [(0, 6)], [(0, rA 5), (1, rA 55), (2, iA (0, [(1, 0)]))], [], [], (400, [((-58), 0)]))] = true := by decide +kernel
theorem r562 {l : Launch} {D : va_G} {tys : List (ClassId × FieldType)} {A : Nat → Prop} {ad : Nat → Nat} (hAD : ∀ i : Nat, ad (1000 + i) = D.2 1000 i) : CRok l D tys A ad GG 1 g562 := CR_of_vrf (dep := 0) hAD (fun c hc => by cases hc) T2OK_nil w562
def g563 : CR := (150, [(2, 6, 6), (2, 56, 56)], [], none, [], [56])
theorem w563 : vrf GG [] [] 300 0 g563
  [(2, [(0, 36)], [(0, rA 6), (1, rA 56), (2, iA (0, [(1, 0)]))], [], [], (2140, [((-58), 0)]))] = true := by decide +kernel
theorem r563 {l : Launch} {D : va_G} {tys : List (ClassId × FieldType)} {A : Nat → Prop} {ad : Nat → Nat} (hAD : ∀ i : Nat, ad (1000 + i) = D.2 1000 i) : CRok l D tys A ad GG 1 g563 := CR_of_vrf (dep := 0) hAD (fun c hc => by cases hc) T2OK_nil w563
def g564 : CR := (150, [(2, 7, 7), (2, 57, 57)], [], none, [], [57])
theorem w564 : vrf GG [] [] 300 0 g564
  [(2, [(0, 6)], [(0, rA 7), (1, rA 57), (2, iA (0, [(1, 0)]))], [], [], (400, [((-58), 0)]))] = true := by decide +kernel
theorem r564 {l : Launch} {D : va_G} {tys : List (ClassId × FieldType)} {A : Nat → Prop} {ad : Nat → Nat} (hAD : ∀ i : Nat, ad (1000 + i) = D.2 1000 i) : CRok l D tys A ad GG 1 g564 := CR_of_vrf (dep := 0) hAD (fun c hc => by cases hc) T2OK_nil w564
def g565 : CR := (150, [(2, 8, 8), (2, 58, 58)], [], none, [], [58])
theorem w565 : vrf GG [] [] 300 0 g565
  [(2, [(0, 6)], [(0, rA 8), (1, rA 58), (2, iA (0, [(1, 0)]))], [], [], (400, [((-58), 0)]))] = true := by decide +kernel
theorem r565 {l : Launch} {D : va_G} {tys : List (ClassId × FieldType)} {A : Nat → Prop} {ad : Nat → Nat} (hAD : ∀ i : Nat, ad (1000 + i) = D.2 1000 i) : CRok l D tys A ad GG 1 g565 := CR_of_vrf (dep := 0) hAD (fun c hc => by cases hc) T2OK_nil w565
def g566 : CR := (150, [(2, 9, 9), (2, 59, 59)], [], none, [], [59])
theorem w566 : vrf GG [] [] 300 0 g566
  [(2, [(0, 6)], [(0, rA 9), (1, rA 59), (2, iA (0, [(1, 0)]))], [], [], (400, [((-58), 0)]))] = true := by decide +kernel
theorem r566 {l : Launch} {D : va_G} {tys : List (ClassId × FieldType)} {A : Nat → Prop} {ad : Nat → Nat} (hAD : ∀ i : Nat, ad (1000 + i) = D.2 1000 i) : CRok l D tys A ad GG 1 g566 := CR_of_vrf (dep := 0) hAD (fun c hc => by cases hc) T2OK_nil w566
def g567 : CR := (67, [(2, 0, 0), (0, 0, 0)], [], some (0, 0, 0), [], [0, 54, 55, 56, 57, 58, 59, 60, 61, 62, 63, 64, 65])
theorem w567 : vrf GG [(1, g556), (1, g557), (1, g558), (1, g559), (1, g560), (1, g561), (1, g562), (1, g563), (1, g564), (1, g565), (1, g566)] [] 300 2 g567
  [] = true := by decide +kernel
theorem r567 {l : Launch} {D : va_G} {tys : List (ClassId × FieldType)} {A : Nat → Prop} {ad : Nat → Nat} (hAD : ∀ i : Nat, ad (1000 + i) = D.2 1000 i) : CRok l D tys A ad GG 3 g567 := CR_of_vrf (dep := 2) hAD (List.forall_mem_cons.mpr ⟨r556 hAD, List.forall_mem_cons.mpr ⟨r557 hAD, List.forall_mem_cons.mpr ⟨r558 hAD, List.forall_mem_cons.mpr ⟨r559 hAD, List.forall_mem_cons.mpr ⟨r560 hAD, List.forall_mem_cons.mpr ⟨r561 hAD, List.forall_mem_cons.mpr ⟨r562 hAD, List.forall_mem_cons.mpr ⟨r563 hAD, List.forall_mem_cons.mpr ⟨r564 hAD, List.forall_mem_cons.mpr ⟨r565 hAD, List.forall_mem_cons.mpr ⟨r566 hAD, fun c hc => by cases hc⟩⟩⟩⟩⟩⟩⟩⟩⟩⟩⟩) T2OK_nil w567
def g568 : CR := (150, [(2, 10, 10), (2, 72, 72)], [], none, [], [72])
theorem w568 : vrf GG [] [] 300 0 g568
  [(2, [(0, 144)], [(0, rA 10), (1, rA 72), (2, iA (0, [(1, 0)]))], [], [], (8404, [((-58), 0)]))] = true := by decide +kernel
theorem r568 {l : Launch} {D : va_G} {tys : List (ClassId × FieldType)} {A : Nat → Prop} {ad : Nat → Nat} (hAD : ∀ i : Nat, ad (1000 + i) = D.2 1000 i) : CRok l D tys A ad GG 1 g568 := CR_of_vrf (dep := 0) hAD (fun c hc => by cases hc) T2OK_nil w568
def g569 : CR := (150, [(2, 11, 11), (2, 73, 73)], [], none, [], [73])
theorem w569 : vrf GG [] [] 300 0 g569
  [(2, [(0, 36)], [(0, rA 11), (1, rA 73), (2, iA (0, [(1, 0)]))], [], [], (2140, [((-58), 0)]))] = true := by decide +kernel
theorem r569 {l : Launch} {D : va_G} {tys : List (ClassId × FieldType)} {A : Nat → Prop} {ad : Nat → Nat} (hAD : ∀ i : Nat, ad (1000 + i) = D.2 1000 i) : CRok l D tys A ad GG 1 g569 := CR_of_vrf (dep := 0) hAD (fun c hc => by cases hc) T2OK_nil w569
def g570 : CR := (150, [(2, 12, 12), (2, 74, 74)], [], none, [], [74])
theorem w570 : vrf GG [] [] 300 0 g570
  [(2, [(0, 12)], [(0, rA 12), (1, rA 74), (2, iA (0, [(1, 0)]))], [], [], (748, [((-58), 0)]))] = true := by decide +kernel
theorem r570 {l : Launch} {D : va_G} {tys : List (ClassId × FieldType)} {A : Nat → Prop} {ad : Nat → Nat} (hAD : ∀ i : Nat, ad (1000 + i) = D.2 1000 i) : CRok l D tys A ad GG 1 g570 := CR_of_vrf (dep := 0) hAD (fun c hc => by cases hc) T2OK_nil w570
def g571 : CR := (150, [(2, 13, 13), (2, 75, 75)], [], none, [], [75])
theorem w571 : vrf GG [] [] 300 0 g571
  [(2, [(0, 12)], [(0, rA 13), (1, rA 75), (2, iA (0, [(1, 0)]))], [], [], (748, [((-58), 0)]))] = true := by decide +kernel
theorem r571 {l : Launch} {D : va_G} {tys : List (ClassId × FieldType)} {A : Nat → Prop} {ad : Nat → Nat} (hAD : ∀ i : Nat, ad (1000 + i) = D.2 1000 i) : CRok l D tys A ad GG 1 g571 := CR_of_vrf (dep := 0) hAD (fun c hc => by cases hc) T2OK_nil w571
def g572 : CR := (150, [(2, 14, 14), (2, 76, 76)], [], none, [], [76])
theorem w572 : vrf GG [] [] 300 0 g572
  [(2, [(0, 12)], [(0, rA 14), (1, rA 76), (2, iA (0, [(1, 0)]))], [], [], (748, [((-58), 0)]))] = true := by decide +kernel
theorem r572 {l : Launch} {D : va_G} {tys : List (ClassId × FieldType)} {A : Nat → Prop} {ad : Nat → Nat} (hAD : ∀ i : Nat, ad (1000 + i) = D.2 1000 i) : CRok l D tys A ad GG 1 g572 := CR_of_vrf (dep := 0) hAD (fun c hc => by cases hc) T2OK_nil w572
def g573 : CR := (150, [(2, 15, 15), (2, 77, 77)], [], none, [], [77])
theorem w573 : vrf GG [] [] 300 0 g573
  [(2, [(0, 12)], [(0, rA 15), (1, rA 77), (2, iA (0, [(1, 0)]))], [], [], (748, [((-58), 0)]))] = true := by decide +kernel
theorem r573 {l : Launch} {D : va_G} {tys : List (ClassId × FieldType)} {A : Nat → Prop} {ad : Nat → Nat} (hAD : ∀ i : Nat, ad (1000 + i) = D.2 1000 i) : CRok l D tys A ad GG 1 g573 := CR_of_vrf (dep := 0) hAD (fun c hc => by cases hc) T2OK_nil w573
def g574 : CR := (150, [(2, 5, 5), (2, 67, 67)], [], none, [], [67])
theorem w574 : vrf GG [] [] 300 0 g574
  [(2, [(0, 6)], [(0, rA 5), (1, rA 67), (2, iA (0, [(1, 0)]))], [], [], (400, [((-58), 0)]))] = true := by decide +kernel
theorem r574 {l : Launch} {D : va_G} {tys : List (ClassId × FieldType)} {A : Nat → Prop} {ad : Nat → Nat} (hAD : ∀ i : Nat, ad (1000 + i) = D.2 1000 i) : CRok l D tys A ad GG 1 g574 := CR_of_vrf (dep := 0) hAD (fun c hc => by cases hc) T2OK_nil w574
def g575 : CR := (150, [(2, 6, 6), (2, 68, 68)], [], none, [], [68])
theorem w575 : vrf GG [] [] 300 0 g575
  [(2, [(0, 36)], [(0, rA 6), (1, rA 68), (2, iA (0, [(1, 0)]))], [], [], (2140, [((-58), 0)]))] = true := by decide +kernel
theorem r575 {l : Launch} {D : va_G} {tys : List (ClassId × FieldType)} {A : Nat → Prop} {ad : Nat → Nat} (hAD : ∀ i : Nat, ad (1000 + i) = D.2 1000 i) : CRok l D tys A ad GG 1 g575 := CR_of_vrf (dep := 0) hAD (fun c hc => by cases hc) T2OK_nil w575
def g576 : CR := (150, [(2, 7, 7), (2, 69, 69)], [], none, [], [69])
theorem w576 : vrf GG [] [] 300 0 g576
  [(2, [(0, 6)], [(0, rA 7), (1, rA 69), (2, iA (0, [(1, 0)]))], [], [], (400, [((-58), 0)]))] = true := by decide +kernel
theorem r576 {l : Launch} {D : va_G} {tys : List (ClassId × FieldType)} {A : Nat → Prop} {ad : Nat → Nat} (hAD : ∀ i : Nat, ad (1000 + i) = D.2 1000 i) : CRok l D tys A ad GG 1 g576 := CR_of_vrf (dep := 0) hAD (fun c hc => by cases hc) T2OK_nil w576
def g577 : CR := (150, [(2, 8, 8), (2, 70, 70)], [], none, [], [70])
theorem w577 : vrf GG [] [] 300 0 g577
  [(2, [(0, 6)], [(0, rA 8), (1, rA 70), (2, iA (0, [(1, 0)]))], [], [], (400, [((-58), 0)]))] = true := by decide +kernel
theorem r577 {l : Launch} {D : va_G} {tys : List (ClassId × FieldType)} {A : Nat → Prop} {ad : Nat → Nat} (hAD : ∀ i : Nat, ad (1000 + i) = D.2 1000 i) : CRok l D tys A ad GG 1 g577 := CR_of_vrf (dep := 0) hAD (fun c hc => by cases hc) T2OK_nil w577
def g578 : CR := (150, [(2, 9, 9), (2, 71, 71)], [], none, [], [71])
theorem w578 : vrf GG [] [] 300 0 g578
  [(2, [(0, 6)], [(0, rA 9), (1, rA 71), (2, iA (0, [(1, 0)]))], [], [], (400, [((-58), 0)]))] = true := by decide +kernel
theorem r578 {l : Launch} {D : va_G} {tys : List (ClassId × FieldType)} {A : Nat → Prop} {ad : Nat → Nat} (hAD : ∀ i : Nat, ad (1000 + i) = D.2 1000 i) : CRok l D tys A ad GG 1 g578 := CR_of_vrf (dep := 0) hAD (fun c hc => by cases hc) T2OK_nil w578
def g579 : CR := (67, [(2, 0, 0), (0, 1, 1)], [], some (0, 0, 0), [], [0, 66, 67, 68, 69, 70, 71, 72, 73, 74, 75, 76, 77])
theorem w579 : vrf GG [(1, g568), (1, g569), (1, g570), (1, g571), (1, g572), (1, g573), (1, g574), (1, g575), (1, g576), (1, g577), (1, g578)] [] 300 2 g579
  [] = true := by decide +kernel
theorem r579 {l : Launch} {D : va_G} {tys : List (ClassId × FieldType)} {A : Nat → Prop} {ad : Nat → Nat} (hAD : ∀ i : Nat, ad (1000 + i) = D.2 1000 i) : CRok l D tys A ad GG 3 g579 := CR_of_vrf (dep := 2) hAD (List.forall_mem_cons.mpr ⟨r568 hAD, List.forall_mem_cons.mpr ⟨r569 hAD, List.forall_mem_cons.mpr ⟨r570 hAD, List.forall_mem_cons.mpr ⟨r571 hAD, List.forall_mem_cons.mpr ⟨r572 hAD, List.forall_mem_cons.mpr ⟨r573 hAD, List.forall_mem_cons.mpr ⟨r574 hAD, List.forall_mem_cons.mpr ⟨r575 hAD, List.forall_mem_cons.mpr ⟨r576 hAD, List.forall_mem_cons.mpr ⟨r577 hAD, List.forall_mem_cons.mpr ⟨r578 hAD, fun c hc => by cases hc⟩⟩⟩⟩⟩⟩⟩⟩⟩⟩⟩) T2OK_nil w579
def g580 : CR := (150, [(2, 10, 10), (2, 84, 84)], [], none, [], [84])
theorem w580 : vrf GG [] [] 300 0 g580
  [(2, [(0, 144)], [(0, rA 10), (1, rA 84), (2, iA (0, [(1, 0)]))], [], [], (8404, [((-58), 0)]))] = true := by decide +kernel
theorem r580 {l : Launch} {D : va_G} {tys : List (ClassId × FieldType)} {A : Nat → Prop} {ad : Nat → Nat} (hAD : ∀ i : Nat, ad (1000 + i) = D.2 1000 i) : CRok l D tys A ad GG 1 g580 := CR_of_vrf (dep := 0) hAD (fun c hc => by cases hc) T2OK_nil w580
def g581 : CR := (150, [(2, 11, 11), (2, 85, 85)], [], none, [], [85])
theorem w581 : vrf GG [] [] 300 0 g581
  [(2, [(0, 36)], [(0, rA 11), (1, rA 85), (2, iA (0, [(1, 0)]))], [], [], (2140, [((-58), 0)]))] = true := by decide +kernel
theorem r581 {l : Launch} {D : va_G} {tys : List (ClassId × FieldType)} {A : Nat → Prop} {ad : Nat → Nat} (hAD : ∀ i : Nat, ad (1000 + i) = D.2 1000 i) : CRok l D tys A ad GG 1 g581 := CR_of_vrf (dep := 0) hAD (fun c hc => by cases hc) T2OK_nil w581
def g582 : CR := (150, [(2, 12, 12), (2, 86, 86)], [], none, [], [86])
theorem w582 : vrf GG [] [] 300 0 g582
  [(2, [(0, 12)], [(0, rA 12), (1, rA 86), (2, iA (0, [(1, 0)]))], [], [], (748, [((-58), 0)]))] = true := by decide +kernel
theorem r582 {l : Launch} {D : va_G} {tys : List (ClassId × FieldType)} {A : Nat → Prop} {ad : Nat → Nat} (hAD : ∀ i : Nat, ad (1000 + i) = D.2 1000 i) : CRok l D tys A ad GG 1 g582 := CR_of_vrf (dep := 0) hAD (fun c hc => by cases hc) T2OK_nil w582
def g583 : CR := (150, [(2, 13, 13), (2, 87, 87)], [], none, [], [87])
theorem w583 : vrf GG [] [] 300 0 g583
  [(2, [(0, 12)], [(0, rA 13), (1, rA 87), (2, iA (0, [(1, 0)]))], [], [], (748, [((-58), 0)]))] = true := by decide +kernel
theorem r583 {l : Launch} {D : va_G} {tys : List (ClassId × FieldType)} {A : Nat → Prop} {ad : Nat → Nat} (hAD : ∀ i : Nat, ad (1000 + i) = D.2 1000 i) : CRok l D tys A ad GG 1 g583 := CR_of_vrf (dep := 0) hAD (fun c hc => by cases hc) T2OK_nil w583
def g584 : CR := (150, [(2, 14, 14), (2, 88, 88)], [], none, [], [88])
theorem w584 : vrf GG [] [] 300 0 g584
  [(2, [(0, 12)], [(0, rA 14), (1, rA 88), (2, iA (0, [(1, 0)]))], [], [], (748, [((-58), 0)]))] = true := by decide +kernel
theorem r584 {l : Launch} {D : va_G} {tys : List (ClassId × FieldType)} {A : Nat → Prop} {ad : Nat → Nat} (hAD : ∀ i : Nat, ad (1000 + i) = D.2 1000 i) : CRok l D tys A ad GG 1 g584 := CR_of_vrf (dep := 0) hAD (fun c hc => by cases hc) T2OK_nil w584
def g585 : CR := (150, [(2, 15, 15), (2, 89, 89)], [], none, [], [89])
theorem w585 : vrf GG [] [] 300 0 g585
  [(2, [(0, 12)], [(0, rA 15), (1, rA 89), (2, iA (0, [(1, 0)]))], [], [], (748, [((-58), 0)]))] = true := by decide +kernel
theorem r585 {l : Launch} {D : va_G} {tys : List (ClassId × FieldType)} {A : Nat → Prop} {ad : Nat → Nat} (hAD : ∀ i : Nat, ad (1000 + i) = D.2 1000 i) : CRok l D tys A ad GG 1 g585 := CR_of_vrf (dep := 0) hAD (fun c hc => by cases hc) T2OK_nil w585
def g586 : CR := (150, [(2, 5, 5), (2, 79, 79)], [], none, [], [79])
theorem w586 : vrf GG [] [] 300 0 g586
  [(2, [(0, 6)], [(0, rA 5), (1, rA 79), (2, iA (0, [(1, 0)]))], [], [], (400, [((-58), 0)]))] = true := by decide +kernel
theorem r586 {l : Launch} {D : va_G} {tys : List (ClassId × FieldType)} {A : Nat → Prop} {ad : Nat → Nat} (hAD : ∀ i : Nat, ad (1000 + i) = D.2 1000 i) : CRok l D tys A ad GG 1 g586 := CR_of_vrf (dep := 0) hAD (fun c hc => by cases hc) T2OK_nil w586
def g587 : CR := (150, [(2, 6, 6), (2, 80, 80)], [], none, [], [80])
theorem w587 : vrf GG [] [] 300 0 g587
  [(2, [(0, 36)], [(0, rA 6), (1, rA 80), (2, iA (0, [(1, 0)]))], [], [], (2140, [((-58), 0)]))] = true := by decide +kernel
theorem r587 {l : Launch} {D : va_G} {tys : List (ClassId × FieldType)} {A : Nat → Prop} {ad : Nat → Nat} (hAD : ∀ i : Nat, ad (1000 + i) = D.2 1000 i) : CRok l D tys A ad GG 1 g587 := CR_of_vrf (dep := 0) hAD (fun c hc => by cases hc) T2OK_nil w587
def g588 : CR := (150, [(2, 7, 7), (2, 81, 81)], [], none, [], [81])
theorem w588 : vrf GG [] [] 300 0 g588
  [(2, [(0, 6)], [(0, rA 7), (1, rA 81), (2, iA (0, [(1, 0)]))], [], [], (400, [((-58), 0)]))] = true := by decide +kernel
theorem r588 {l : Launch} {D : va_G} {tys : List (ClassId × FieldType)} {A : Nat → Prop} {ad : Nat → Nat} (hAD : ∀ i : Nat, ad (1000 + i) = D.2 1000 i) : CRok l D tys A ad GG 1 g588 := CR_of_vrf (dep := 0) hAD (fun c hc => by cases hc) T2OK_nil w588
def g589 : CR := (150, [(2, 8, 8), (2, 82, 82)], [], none, [], [82])
theorem w589 : vrf GG [] [] 300 0 g589
  [(2, [(0, 6)], [(0, rA 8), (1, rA 82), (2, iA (0, [(1, 0)]))], [], [], (400, [((-58), 0)]))] = true := by decide +kernel
theorem r589 {l : Launch} {D : va_G} {tys : List (ClassId × FieldType)} {A : Nat → Prop} {ad : Nat → Nat} (hAD : ∀ i : Nat, ad (1000 + i) = D.2 1000 i) : CRok l D tys A ad GG 1 g589 := CR_of_vrf (dep := 0) hAD (fun c hc => by cases hc) T2OK_nil w589
def g590 : CR := (150, [(2, 9, 9), (2, 83, 83)], [], none, [], [83])
theorem w590 : vrf GG [] [] 300 0 g590
  [(2, [(0, 6)], [(0, rA 9), (1, rA 83), (2, iA (0, [(1, 0)]))], [], [], (400, [((-58), 0)]))] = true := by decide +kernel
theorem r590 {l : Launch} {D : va_G} {tys : List (ClassId × FieldType)} {A : Nat → Prop} {ad : Nat → Nat} (hAD : ∀ i : Nat, ad (1000 + i) = D.2 1000 i) : CRok l D tys A ad GG 1 g590 := CR_of_vrf (dep := 0) hAD (fun c hc => by cases hc) T2OK_nil w590
def g591 : CR := (67, [(2, 0, 0), (0, 2, 2)], [], some (0, 0, 0), [], [0, 78, 79, 80, 81, 82, 83, 84, 85, 86, 87, 88, 89])
theorem w591 : vrf GG [(1, g580), (1, g581), (1, g582), (1, g583), (1, g584), (1, g585), (1, g586), (1, g587), (1, g588), (1, g589), (1, g590)] [] 300 2 g591
  [] = true := by decide +kernel
theorem r591 {l : Launch} {D : va_G} {tys : List (ClassId × FieldType)} {A : Nat → Prop} {ad : Nat → Nat} (hAD : ∀ i : Nat, ad (1000 + i) = D.2 1000 i) : CRok l D tys A ad GG 3 g591 := CR_of_vrf (dep := 2) hAD (List.forall_mem_cons.mpr ⟨r580 hAD, List.forall_mem_cons.mpr ⟨r581 hAD, List.forall_mem_cons.mpr ⟨r582 hAD, List.forall_mem_cons.mpr ⟨r583 hAD, List.forall_mem_cons.mpr ⟨r584 hAD, List.forall_mem_cons.mpr ⟨r585 hAD, List.forall_mem_cons.mpr ⟨r586 hAD, List.forall_mem_cons.mpr ⟨r587 hAD, List.forall_mem_cons.mpr ⟨r588 hAD, List.forall_mem_cons.mpr ⟨r589 hAD, List.forall_mem_cons.mpr ⟨r590 hAD, fun c hc => by cases hc⟩⟩⟩⟩⟩⟩⟩⟩⟩⟩⟩) T2OK_nil w591
def g592 : CR := (196, [(2, 90, 90), (0, (-2147483648), (-1))], [], some (0, (-2), (-2)), [], [])
theorem w592 : vrf GG [] [] 300 1 g592
  [] = true := by decide +kernel
theorem r592 {l : Launch} {D : va_G} {tys : List (ClassId × FieldType)} {A : Nat → Prop} {ad : Nat → Nat} (hAD : ∀ i : Nat, ad (1000 + i) = D.2 1000 i) : CRok l D tys A ad GG 2 g592 := CR_of_vrf (dep := 1) hAD (fun c hc => by cases hc) T2OK_nil w592
def g593 : CR := (196, [(2, 90, 90), (0, 3, 2147483647)], [], some (0, (-2), (-2)), [], [])
theorem w593 : vrf GG [] [] 300 1 g593
  [] = true := by decide +kernel
theorem r593 {l : Launch} {D : va_G} {tys : List (ClassId × FieldType)} {A : Nat → Prop} {ad : Nat → Nat} (hAD : ∀ i : Nat, ad (1000 + i) = D.2 1000 i) : CRok l D tys A ad GG 2 g593 := CR_of_vrf (dep := 1) hAD (fun c hc => by cases hc) T2OK_nil w593
def g594 : CR := (196, [(2, 90, 90), (0, 0, 0)], [], some (0, 0, 0), [], [92, 93])
theorem w594 : vrf GG [] [] 5227 1 g594
  [] = true := by decide +kernel
theorem r594 {l : Launch} {D : va_G} {tys : List (ClassId × FieldType)} {A : Nat → Prop} {ad : Nat → Nat} (hAD : ∀ i : Nat, ad (1000 + i) = D.2 1000 i) : CRok l D tys A ad GG 2 g594 := CR_of_vrf (dep := 1) hAD (fun c hc => by cases hc) T2OK_nil w594
