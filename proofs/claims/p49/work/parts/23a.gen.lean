noncomputable def g0 : CR := (185, [(2, 2, 2), (0, (-2147483648), 2147483647)], [], none, [], [2, 3])
theorem w0 : vrf GG [] [] 300 0 g0
  [(3, [((-2147483648), 2147483647), ((-8), 24)], [(0, rA 2), (1, iA (0, [(1, 0)])), (2, iA (0, [(1, 1)]))], [], [], (1036, [(116, 1)])),
  (49, [((-2147483648), 2147483647), (0, 24), (1, 1400)], [(0, rA 2), (1, iA (0, [(1, 0)])), (2, iA (0, [(1, 1)]))], [], [((2, 1), iA (0, [(1, 2)]))], (990, [(116, 1)]))] = true := by decide +kernel
theorem r0 {l : Launch} {D : va_G} {tys : List (ClassId × FieldType)} {A : Nat → Prop} {ad : Nat → Nat} (hAD : ∀ i : Nat, ad (1000 + i) = D.2 1000 i) : CRok l D tys A ad GG 1 g0 := CR_of_vrf (dep := 0) hAD (fun c hc => by cases hc) T2OK_nil w0
noncomputable def g5 : CR := (111, [(2, 16, 16)], [], none, [], [22])
theorem w5 : vrf GG [] [] 300 1 g5
  [(2, [(0, 6)], [(0, rA 16), (1, iA (0, [(1, 0)]))], [], [], (27588, [((-3942), 0)])),
  (12, [(0, 5), ((-2147483648), 2147483647), (0, 24)], [(0, rA 16), (1, iA (0, [(1, 0)])), (2, iA (0, [(1, 1)])), (3, iA (0, [(1, 2)]))], [], [], (27346, [((-146), 2), ((-3942), 0)])),
  (48, [(0, 5), ((-2147483648), 2147483647), (0, 23), (0, 143)], [(0, rA 16), (1, iA (0, [(1, 0)])), (2, iA (0, [(1, 1)])), (3, iA (0, [(1, 2)])), (4, iA (0, [(1, 3)]))], [], [], (27310, [((-146), 2), ((-3942), 0)]))] = true := by decide +kernel
theorem r5 {l : Launch} {D : va_G} {tys : List (ClassId × FieldType)} {A : Nat → Prop} {ad : Nat → Nat} (hAD : ∀ i : Nat, ad (1000 + i) = D.2 1000 i) : CRok l D tys A ad GG 2 g5 := CR_of_vrf (dep := 1) hAD (fun c hc => by cases hc) T2OK_nil w5
noncomputable def g6 : CR := (189, [(2, 2, 2), (0, 0, 1399), (0, 48, 48), (0, 57, 57)], [], some (0, 0, 1400), [], [])
theorem w6 : vrf GG [] [] 300 0 g6
  [(3, [(0, 1399), (0, 1400)], [(0, rA 2), (1, iA (0, [(1, 0)])), (2, iA (48, [])), (3, iA (57, [])), (4, iA (0, [(1, 1)]))], [], [], (168112, [((-120), 1)]))] = true := by decide +kernel
theorem r6 {l : Launch} {D : va_G} {tys : List (ClassId × FieldType)} {A : Nat → Prop} {ad : Nat → Nat} (hAD : ∀ i : Nat, ad (1000 + i) = D.2 1000 i) : CRok l D tys A ad GG 1 g6 := CR_of_vrf (dep := 0) hAD (fun c hc => by cases hc) T2OK_nil w6
noncomputable def g7 : CR := (189, [(2, 2, 2), (0, 0, 1399), (0, 97, 97), (0, 122, 122)], [], some (0, 0, 1400), [], [])
theorem w7 : vrf GG [] [] 300 0 g7
  [(3, [(0, 1399), (0, 1400)], [(0, rA 2), (1, iA (0, [(1, 0)])), (2, iA (97, [])), (3, iA (122, [])), (4, iA (0, [(1, 1)]))], [], [], (168112, [((-120), 1)]))] = true := by decide +kernel
theorem r7 {l : Launch} {D : va_G} {tys : List (ClassId × FieldType)} {A : Nat → Prop} {ad : Nat → Nat} (hAD : ∀ i : Nat, ad (1000 + i) = D.2 1000 i) : CRok l D tys A ad GG 1 g7 := CR_of_vrf (dep := 0) hAD (fun c hc => by cases hc) T2OK_nil w7
noncomputable def g8 : CR := (189, [(2, 2, 2), (0, 1, 1398), (0, 48, 48), (0, 57, 57)], [], some (0, 1, 1400), [], [])
theorem w8 : vrf GG [] [] 300 0 g8
  [(3, [(1, 1398), (1, 1400)], [(0, rA 2), (1, iA (0, [(1, 0)])), (2, iA (48, [])), (3, iA (57, [])), (4, iA (0, [(1, 1)]))], [], [], (168112, [((-120), 1)]))] = true := by decide +kernel
noncomputable def g9 : CR := (189, [(2, 2, 2), (0, 1, 1398), (0, 97, 97), (0, 122, 122)], [], some (0, 1, 1400), [], [])
theorem w9 : vrf GG [] [] 300 0 g9
  [(3, [(1, 1398), (1, 1400)], [(0, rA 2), (1, iA (0, [(1, 0)])), (2, iA (97, [])), (3, iA (122, [])), (4, iA (0, [(1, 1)]))], [], [], (168112, [((-120), 1)]))] = true := by decide +kernel
theorem r9 {l : Launch} {D : va_G} {tys : List (ClassId × FieldType)} {A : Nat → Prop} {ad : Nat → Nat} (hAD : ∀ i : Nat, ad (1000 + i) = D.2 1000 i) : CRok l D tys A ad GG 1 g9 := CR_of_vrf (dep := 0) hAD (fun c hc => by cases hc) T2OK_nil w9
noncomputable def g11 : CR := (190, [(2, 2, 2), (0, 1, 1400)], [], some (0, (-2147483648), 2147483647), [], [])
noncomputable def g66 : CR := (149, [(2, 34, 34), (0, 0, 0)], [], none, [], [34])
theorem w66 : vrf GG [] [] 300 0 g66
  [(2, [(0, 12)], [(0, rA 34), (1, iA (0, [])), (2, iA (0, [(1, 0)]))], [], [], (540, [((-42), 0)]))] = true := by decide +kernel
theorem r66 {l : Launch} {D : va_G} {tys : List (ClassId × FieldType)} {A : Nat → Prop} {ad : Nat → Nat} (hAD : ∀ i : Nat, ad (1000 + i) = D.2 1000 i) : CRok l D tys A ad GG 1 g66 := CR_of_vrf (dep := 0) hAD (fun c hc => by cases hc) T2OK_nil w66
noncomputable def g67 : CR := (149, [(2, 35, 35), (0, 0, 0)], [], none, [], [35])
theorem w67 : vrf GG [] [] 300 0 g67
  [(2, [(0, 12)], [(0, rA 35), (1, iA (0, [])), (2, iA (0, [(1, 0)]))], [], [], (540, [((-42), 0)]))] = true := by decide +kernel
theorem r67 {l : Launch} {D : va_G} {tys : List (ClassId × FieldType)} {A : Nat → Prop} {ad : Nat → Nat} (hAD : ∀ i : Nat, ad (1000 + i) = D.2 1000 i) : CRok l D tys A ad GG 1 g67 := CR_of_vrf (dep := 0) hAD (fun c hc => by cases hc) T2OK_nil w67
noncomputable def g68 : CR := (92, [(2, 28, 28), (2, 4, 4), (0, (-2147483648), (-1)), (0, 0, 0)], [], some (0, 0, 0), [], [])
theorem w68 : vrf GG [] [] 300 1 g68
  [(28, [((-2147483648), (-1)), (0, 6)], [(0, rA 28), (1, rA 4), (2, iA (0, [(1, 0)])), (3, iA (0, [])), (4, iA (0, [])), (5, iA (1, [])), (6, iA (0, [])), (7, iA (0, [(1, 1)]))], [], [], (1426, [((-212), 1)])),
  (95, [((-2147483648), (-1)), (0, 5), (1, 6)], [(0, rA 28), (1, rA 4), (2, iA (0, [(1, 0)])), (3, iA (0, [])), (4, iA (0, [])), (5, iA (1, [])), (6, iA (0, [])), (7, iA (0, [(1, 1)]))], [], [((4, 4), iA (0, [(1, 2)]))], (1359, [((-212), 1)]))] = true := by decide +kernel
theorem r68 {l : Launch} {D : va_G} {tys : List (ClassId × FieldType)} {A : Nat → Prop} {ad : Nat → Nat} (hAD : ∀ i : Nat, ad (1000 + i) = D.2 1000 i) : CRok l D tys A ad GG 2 g68 := CR_of_vrf (dep := 1) hAD (fun c hc => by cases hc) T2OK_nil w68
noncomputable def g69 : CR := (92, [(2, 28, 28), (2, 4, 4), (0, 0, 11), (0, (-2147483648), 2147483647)], [], some (0, 0, 63), [], [31])
theorem w69 : vrf GG [] [] 708 2 g69
  [(28, [(0, 11), ((-2147483648), 2147483647), ((-2147483648), 2147483647), ((-2147483648), 2147483647), (0, 63), (0, 6)], [(0, rA 28), (1, rA 4), (2, iA (0, [(1, 0)])), (3, iA (0, [(1, 1)])), (4, iA (0, [(1, 2)])), (5, iA (0, [(1, 3)])), (6, iA (0, [(1, 4)])), (7, iA (0, [(1, 5)]))], [], [], (1426, [((-212), 5)])),
  (95, [(0, 11), ((-2147483648), 2147483647), ((-2147483648), 2147483647), ((-2147483648), 2147483647), (0, 63), (0, 5), (1, 6)], [(0, rA 28), (1, rA 4), (2, iA (0, [(1, 0)])), (3, iA (0, [(1, 1)])), (4, iA (0, [(1, 2)])), (5, iA (0, [(1, 3)])), (6, iA (0, [(1, 4)])), (7, iA (0, [(1, 5)]))], [], [((4, 4), iA (0, [(1, 6)]))], (1359, [((-212), 5)]))] = true := by decide +kernel
theorem r69 {l : Launch} {D : va_G} {tys : List (ClassId × FieldType)} {A : Nat → Prop} {ad : Nat → Nat} (hAD : ∀ i : Nat, ad (1000 + i) = D.2 1000 i) : CRok l D tys A ad GG 3 g69 := CR_of_vrf (dep := 2) hAD (fun c hc => by cases hc) T2OK_nil w69
noncomputable def g70 : CR := (92, [(2, 28, 28), (2, 4, 4), (0, 12, 2147483647), (0, 0, 0)], [], some (0, 0, 0), [], [])
theorem w70 : vrf GG [] [] 300 1 g70
  [(28, [(12, 2147483647), (0, 6)], [(0, rA 28), (1, rA 4), (2, iA (0, [(1, 0)])), (3, iA (0, [])), (4, iA (0, [])), (5, iA (1, [])), (6, iA (0, [])), (7, iA (0, [(1, 1)]))], [], [], (1426, [((-212), 1)])),
  (95, [(12, 2147483647), (0, 5), (1, 6)], [(0, rA 28), (1, rA 4), (2, iA (0, [(1, 0)])), (3, iA (0, [])), (4, iA (0, [])), (5, iA (1, [])), (6, iA (0, [])), (7, iA (0, [(1, 1)]))], [], [((4, 4), iA (0, [(1, 2)]))], (1359, [((-212), 1)]))] = true := by decide +kernel
theorem r70 {l : Launch} {D : va_G} {tys : List (ClassId × FieldType)} {A : Nat → Prop} {ad : Nat → Nat} (hAD : ∀ i : Nat, ad (1000 + i) = D.2 1000 i) : CRok l D tys A ad GG 2 g70 := CR_of_vrf (dep := 1) hAD (fun c hc => by cases hc) T2OK_nil w70
noncomputable def g71 : CR := (174, [(2, 32, 32), (2, 4, 4), (2, 28, 28), (0, (-2147483648), 2147483647)], [], none, [], [31, 32, 34, 35])
theorem w71 : vrf GG [(2, g70), (2, g68), (3, g69)] [] 654 3 g71
  [] = true := by decide +kernel
theorem r71 {l : Launch} {D : va_G} {tys : List (ClassId × FieldType)} {A : Nat → Prop} {ad : Nat → Nat} (hAD : ∀ i : Nat, ad (1000 + i) = D.2 1000 i) : CRok l D tys A ad GG 4 g71 := CR_of_vrf (dep := 3) hAD (List.forall_mem_cons.mpr ⟨r70 hAD, List.forall_mem_cons.mpr ⟨r68 hAD, List.forall_mem_cons.mpr ⟨r69 hAD, fun c hc => by cases hc⟩⟩⟩) T2OK_nil w71
noncomputable def g72 : CR := (175, [(2, 32, 32), (2, 28, 28), (0, 0, 0)], [], none, [], [33])
theorem w72 : vrf GG [] [] 300 2 g72
  [(2, [(0, 6)], [(0, rA 32), (1, rA 28), (2, iA (0, [])), (3, iA (0, [(1, 0)]))], [], [], (7428, [((-1062), 0)])),
  (11, [(0, 5), (0, 6)], [(0, rA 32), (1, rA 28), (2, iA (0, [])), (3, iA (0, [(1, 0)])), (4, iA (0, [(1, 1)]))], [], [], (7230, [((-118), 1), ((-1062), 0)]))] = true := by decide +kernel
theorem r72 {l : Launch} {D : va_G} {tys : List (ClassId × FieldType)} {A : Nat → Prop} {ad : Nat → Nat} (hAD : ∀ i : Nat, ad (1000 + i) = D.2 1000 i) : CRok l D tys A ad GG 3 g72 := CR_of_vrf (dep := 2) hAD (fun c hc => by cases hc) T2OK_nil w72
noncomputable def g73 : CR := (175, [(2, 32, 32), (2, 28, 28), (0, 1, 24)], [], none, [], [33])
theorem w73 : vrf GG [] [] 300 2 g73
  [(2, [(1, 24), (0, 6)], [(0, rA 32), (1, rA 28), (2, iA (0, [(1, 0)])), (3, iA (0, [(1, 1)]))], [], [], (7428, [((-1062), 1)])),
  (11, [(1, 24), (0, 5), (0, 6)], [(0, rA 32), (1, rA 28), (2, iA (0, [(1, 0)])), (3, iA (0, [(1, 1)])), (4, iA (0, [(1, 2)]))], [], [], (7230, [((-118), 2), ((-1062), 1)]))] = true := by decide +kernel
theorem r73 {l : Launch} {D : va_G} {tys : List (ClassId × FieldType)} {A : Nat → Prop} {ad : Nat → Nat} (hAD : ∀ i : Nat, ad (1000 + i) = D.2 1000 i) : CRok l D tys A ad GG 3 g73 := CR_of_vrf (dep := 2) hAD (fun c hc => by cases hc) T2OK_nil w73
noncomputable def g74 : CR := (150, [(2, 11, 11), (2, 31, 31)], [], none, [], [31])
theorem w74 : vrf GG [] [] 300 0 g74
  [(2, [(0, 36)], [(0, rA 11), (1, rA 31), (2, iA (0, [(1, 0)]))], [], [], (2140, [((-58), 0)]))] = true := by decide +kernel
theorem r74 {l : Launch} {D : va_G} {tys : List (ClassId × FieldType)} {A : Nat → Prop} {ad : Nat → Nat} (hAD : ∀ i : Nat, ad (1000 + i) = D.2 1000 i) : CRok l D tys A ad GG 1 g74 := CR_of_vrf (dep := 0) hAD (fun c hc => by cases hc) T2OK_nil w74
noncomputable def g75 : CR := (87, [(2, 28, 28), (2, 4, 4)], [], none, [], [31])
theorem w75 : vrf GG [(1, g74)] [] 300 2 g75
  [(13, [(0, 6)], [(0, rA 28), (1, rA 4), (2, iA (0, [(1, 0)]))], [], [], (644, [((-96), 0)]))] = true := by decide +kernel
theorem r75 {l : Launch} {D : va_G} {tys : List (ClassId × FieldType)} {A : Nat → Prop} {ad : Nat → Nat} (hAD : ∀ i : Nat, ad (1000 + i) = D.2 1000 i) : CRok l D tys A ad GG 3 g75 := CR_of_vrf (dep := 2) hAD (List.forall_mem_cons.mpr ⟨r74 hAD, fun c hc => by cases hc⟩) T2OK_nil w75
noncomputable def g76 : CR := (173, [(2, 32, 32), (2, 4, 4), (2, 28, 28)], [], none, [], [31, 32, 33, 34, 35])
theorem w76 : vrf GG [(3, g75), (1, g66), (1, g67), (4, g71), (3, g72), (3, g73)] [] 300 4 g76
  [(37, [(0, 12), (0, 24)], [(0, rA 32), (1, rA 4), (2, rA 28), (3, iA (0, [(1, 0)])), (4, iA (0, [(1, 1)]))], [], [], (79424, [((-3180), 1)])),
  (46, [(0, 12), (0, 23), (1, 24)], [(0, rA 32), (1, rA 4), (2, rA 28), (3, iA (0, [(1, 0)])), (4, iA (0, [(1, 1)]))], [], [((4, 3), iA (0, [(1, 2)]))], (79050, [((-212), 0), ((-3180), 1)])),
  (88, [(0, 12), (0, 23), (1, 24), (0, 12)], [(0, rA 32), (1, rA 4), (2, rA 28), (3, iA (0, [(1, 0)])), (4, iA (0, [(1, 1)]))], [], [((4, 3), iA (0, [(1, 2)])), ((4, 5), iA (0, [(1, 3)]))], (76405, [((-3180), 1)]))] = true := by decide +kernel
theorem r76 {l : Launch} {D : va_G} {tys : List (ClassId × FieldType)} {A : Nat → Prop} {ad : Nat → Nat} (hAD : ∀ i : Nat, ad (1000 + i) = D.2 1000 i) : CRok l D tys A ad GG 5 g76 := CR_of_vrf (dep := 4) hAD (List.forall_mem_cons.mpr ⟨r75 hAD, List.forall_mem_cons.mpr ⟨r66 hAD, List.forall_mem_cons.mpr ⟨r67 hAD, List.forall_mem_cons.mpr ⟨r71 hAD, List.forall_mem_cons.mpr ⟨r72 hAD, List.forall_mem_cons.mpr ⟨r73 hAD, fun c hc => by cases hc⟩⟩⟩⟩⟩⟩) T2OK_nil w76
noncomputable def g77 : CR := (86, [(2, 4, 4), (0, (-2147483648), 2147483647), (0, (-2147483648), 2147483647)], [], some (0, 0, 63), [], [])
theorem w77 : vrf GG [] [] 633 2 g77
  [(5, [((-2147483648), 2147483647), ((-2147483648), 2147483647), (0, 63), (0, 6)], [(0, rA 4), (1, iA (0, [(1, 0)])), (2, iA (0, [(1, 1)])), (3, iA (0, [(1, 2)])), (4, iA (0, [(1, 3)]))], [], [], (730, [((-106), 3)])),
  (43, [((-2147483648), 2147483647), ((-2147483648), 2147483647), (0, 63), (0, 5), (1, 6)], [(0, rA 4), (1, iA (0, [(1, 0)])), (2, iA (0, [(1, 1)])), (3, iA (0, [(1, 2)])), (4, iA (0, [(1, 3)]))], [], [((4, 4), iA (0, [(1, 4)]))], (692, [((-106), 3)]))] = true := by decide +kernel
theorem r77 {l : Launch} {D : va_G} {tys : List (ClassId × FieldType)} {A : Nat → Prop} {ad : Nat → Nat} (hAD : ∀ i : Nat, ad (1000 + i) = D.2 1000 i) : CRok l D tys A ad GG 3 g77 := CR_of_vrf (dep := 2) hAD (fun c hc => by cases hc) T2OK_nil w77
noncomputable def g78 : CR := (85, [(2, 28, 28), (2, 4, 4)], [], none, [], [29, 30])
theorem w78 : vrf GG [(3, g77)] [] 300 3 g78
  [(4, [((-2147483648), 2147483647), (0, 24)], [(0, rA 28), (1, rA 4), (2, iA (0, [(1, 0)])), (3, iA (0, [(1, 1)]))], [], [], (84792, [((-3270), 1)])),
  (15, [((-2147483648), 2147483647), (0, 23), (0, 12), (1, 24)], [(0, rA 28), (1, rA 4), (2, iA (0, [(1, 0)])), (3, iA (0, [(1, 1)])), (4, iA (0, [(1, 2)]))], [], [((4, 3), iA (0, [(1, 3)]))], (84438, [((-218), 2), ((-3270), 1)])),
  (50, [((-2147483648), 2147483647), (0, 23), (0, 11), (1, 24), (1, 12)], [(0, rA 28), (1, rA 4), (2, iA (0, [(1, 0)])), (3, iA (0, [(1, 1)])), (4, iA (0, [(1, 2)]))], [], [((4, 3), iA (0, [(1, 3)])), ((4, 5), iA (0, [(1, 4)]))], (84403, [((-218), 2), ((-3270), 1)])),
  (64, [((-2147483648), 2147483647), (0, 12), (0, 24)], [(0, rA 28), (1, rA 4), (2, iA (0, [(1, 0)])), (3, iA (0, [(1, 1)]))], [], [((4, 3), iA (0, [(1, 2)]))], (2704, [((-218), 1)]))] = true := by decide +kernel
theorem r78 {l : Launch} {D : va_G} {tys : List (ClassId × FieldType)} {A : Nat → Prop} {ad : Nat → Nat} (hAD : ∀ i : Nat, ad (1000 + i) = D.2 1000 i) : CRok l D tys A ad GG 4 g78 := CR_of_vrf (dep := 3) hAD (List.forall_mem_cons.mpr ⟨r77 hAD, fun c hc => by cases hc⟩) T2OK_nil w78
noncomputable def g92 : CR := (10, [(2, 0, 0), (0, (-2147483648), 2147483647), (0, (-2147483648), 2147483647)], [], some (0, (-2147483648), 2147483647), [], [])
theorem w92 : vrf GG [] [] 300 2 g92
  [] = true := by decide +kernel
theorem r92 {l : Launch} {D : va_G} {tys : List (ClassId × FieldType)} {A : Nat → Prop} {ad : Nat → Nat} (hAD : ∀ i : Nat, ad (1000 + i) = D.2 1000 i) : CRok l D tys A ad GG 3 g92 := CR_of_vrf (dep := 2) hAD (fun c hc => by cases hc) T2OK_nil w92
noncomputable def g93 : CR := (248, [(2, 90, 90), (0, (-2147483648), 2147483647), (0, (-2147483648), 2147483647)], [], some (0, (-2), 63), [], [])
theorem w93 : vrf GG [] [] 300 2 g93
  [] = true := by decide +kernel
theorem r93 {l : Launch} {D : va_G} {tys : List (ClassId × FieldType)} {A : Nat → Prop} {ad : Nat → Nat} (hAD : ∀ i : Nat, ad (1000 + i) = D.2 1000 i) : CRok l D tys A ad GG 3 g93 := CR_of_vrf (dep := 2) hAD (fun c hc => by cases hc) T2OK_nil w93
noncomputable def g94 : CR := (11, [(2, 0, 0), (0, (-2147483648), 2147483647), (0, (-2147483648), 2147483647), (0, (-2147483648), 2147483647)], [], some (0, (-2147483648), 2147483647), [], [])
theorem w94 : vrf GG [] [] 300 2 g94
  [] = true := by decide +kernel
theorem r94 {l : Launch} {D : va_G} {tys : List (ClassId × FieldType)} {A : Nat → Prop} {ad : Nat → Nat} (hAD : ∀ i : Nat, ad (1000 + i) = D.2 1000 i) : CRok l D tys A ad GG 3 g94 := CR_of_vrf (dep := 2) hAD (fun c hc => by cases hc) T2OK_nil w94
noncomputable def g95 : CR := (236, [(2, 90, 90), (0, 0, 11)], [], none, [], [90, 99, 100, 101])
theorem w95 : vrf GG [] [] 544 2 g95
  [(77, [(0, 11), (0, 5), (0, 5), (0, 5), (0, 23), (0, 6), ((-2147483648), 2147483647), ((-2147483648), 2147483647)], [(0, rA 90), (1, iA (0, [(1, 0)])), (2, iA (0, [(1, 1)])), (3, iA (0, [(1, 2)])), (4, iA (0, [(1, 3)])), (5, iA (0, [(1, 4)])), (6, iA (0, [(1, 5)]))], [], [((90, 18), iA (0, [(1, 6)])), ((90, 21), iA (0, [(1, 7)]))], (2686, [((-406), 5)])),
  (173, [(0, 11), (0, 5), (0, 5), (0, 5), (0, 23), (0, 5), (0, 32), (0, 63), (0, 11), ((-2147483648), 2147483647), ((-2147483648), 2147483647), (0, 1), (1, 6)], [(0, rA 90), (1, iA (0, [(1, 0)])), (2, iA (0, [(1, 1)])), (3, iA (0, [(1, 2)])), (4, iA (0, [(1, 3)])), (5, iA (0, [(1, 4)])), (6, iA (0, [(1, 5)]))], [iA (0, [(1, 6)]), iA (0, [(1, 7)]), iA (0, [(1, 8)]), rA 101], [((90, 18), iA (0, [(1, 9)])), ((90, 21), iA (0, [(1, 10)])), ((90, 24), iA (0, [(1, 11)])), ((91, 3), iA (0, [(1, 12)]))], (2590, [((-406), 5)])),
  (194, [(0, 11), (0, 5), (0, 5), (0, 5), (0, 23), (0, 5), ((-2147483648), 2147483647), ((-2147483648), 2147483647), (1, 6)], [(0, rA 90), (1, iA (0, [(1, 0)])), (2, iA (0, [(1, 1)])), (3, iA (0, [(1, 2)])), (4, iA (0, [(1, 3)])), (5, iA (0, [(1, 4)])), (6, iA (0, [(1, 5)]))], [], [((90, 18), iA (0, [(1, 6)])), ((90, 21), iA (0, [(1, 7)])), ((91, 3), iA (0, [(1, 8)]))], (2569, [((-406), 5)]))] = true := by decide +kernel
theorem r95 {l : Launch} {D : va_G} {tys : List (ClassId × FieldType)} {A : Nat → Prop} {ad : Nat → Nat} (hAD : ∀ i : Nat, ad (1000 + i) = D.2 1000 i) : CRok l D tys A ad GG 3 g95 := CR_of_vrf (dep := 2) hAD (fun c hc => by cases hc) T2OK_nil w95
noncomputable def g96 : CR := (237, [(2, 90, 90)], [], none, [], [90, 98, 99, 100, 101])
theorem w96 : vrf GG [(3, g95)] [] 300 3 g96
  [(7, [(0, 12)], [(0, rA 90), (1, iA (0, [(1, 0)]))], [], [((90, 18), iA (0, []))], (566968, [((-374), 0)])),
  (35, [(0, 6)], [(0, rA 90), (1, iA (0, [(1, 0)]))], [], [((90, 18), iA (0, []))], (558684, [((-3366), 0)])),
  (43, [(0, 5), (0, 6)], [(0, rA 90), (1, iA (0, [(1, 0)])), (2, iA (0, [(1, 1)]))], [], [((90, 18), iA (0, []))], (558071, [((-374), 1), ((-3366), 0)])),
  (86, [(0, 5), (0, 5), (0, 63), (0, 35)], [(0, rA 90), (1, iA (0, [(1, 0)])), (2, iA (0, [(1, 1)]))], [iA (0, [(1, 2)]), iA (0, [(1, 3)]), rA 99], [((90, 18), iA (0, []))], (558028, [((-374), 1), ((-3366), 0)])),
  (101, [(0, 25)], [(0, rA 90), (1, iA (0, [(1, 0)]))], [], [], (515168, [((-19822), 0)])),
  (113, [(0, 24), (0, 36), (0, 24)], [(0, rA 90), (1, iA (0, [(1, 0)])), (2, iA (0, [(1, 1)]))], [], [((91, 2), iA (0, [(1, 2)]))], (514481, [((-374), 1), ((-19822), 0)])),
  (147, [(0, 24), (0, 12), (0, 24)], [(0, rA 90), (1, iA (0, [(1, 0)])), (2, iA (0, [(1, 1)]))], [], [((91, 2), iA (0, [(1, 2)]))], (500201, [((-374), 1), ((-19822), 0)])),
  (172, [(0, 24), (0, 11), (0, 24), (1, 12)], [(0, rA 90), (1, iA (0, [(1, 0)])), (2, iA (0, [(1, 1)]))], [], [((91, 2), iA (0, [(1, 2)])), ((91, 4), iA (0, [(1, 3)]))], (500176, [((-374), 1), ((-19822), 0)]))] = true := by decide +kernel
theorem r96 {l : Launch} {D : va_G} {tys : List (ClassId × FieldType)} {A : Nat → Prop} {ad : Nat → Nat} (hAD : ∀ i : Nat, ad (1000 + i) = D.2 1000 i) : CRok l D tys A ad GG 4 g96 := CR_of_vrf (dep := 3) hAD (List.forall_mem_cons.mpr ⟨r95 hAD, fun c hc => by cases hc⟩) T2OK_nil w96
noncomputable def g97 : CR := (249, [(2, 90, 90), (0, (-2147483648), 2147483647), (0, (-2147483648), 2147483647), (0, (-2147483648), 2147483647)], [], some (0, (-2), 63), [], [90, 98, 99, 100, 101])
theorem w97 : vrf GG [(4, g96)] [] 300 5 g97
  [] = true := by decide +kernel
theorem r97 {l : Launch} {D : va_G} {tys : List (ClassId × FieldType)} {A : Nat → Prop} {ad : Nat → Nat} (hAD : ∀ i : Nat, ad (1000 + i) = D.2 1000 i) : CRok l D tys A ad GG 6 g97 := CR_of_vrf (dep := 5) hAD (List.forall_mem_cons.mpr ⟨r96 hAD, fun c hc => by cases hc⟩) T2OK_nil w97
noncomputable def g98 : CR := (12, [(2, 0, 0), (0, (-2147483648), 2147483647)], [], some (0, (-2), 1), [], [])
theorem w98 : vrf GG [] [] 300 1 g98
  [] = true := by decide +kernel
theorem r98 {l : Launch} {D : va_G} {tys : List (ClassId × FieldType)} {A : Nat → Prop} {ad : Nat → Nat} (hAD : ∀ i : Nat, ad (1000 + i) = D.2 1000 i) : CRok l D tys A ad GG 2 g98 := CR_of_vrf (dep := 1) hAD (fun c hc => by cases hc) T2OK_nil w98
noncomputable def g99 : CR := (250, [(2, 90, 90), (0, (-2147483648), 2147483647)], [], some (0, (-2), 1), [], [90, 98, 99, 100, 101])
theorem w99 : vrf GG [(4, g96)] [] 300 5 g99
  [] = true := by decide +kernel
theorem r99 {l : Launch} {D : va_G} {tys : List (ClassId × FieldType)} {A : Nat → Prop} {ad : Nat → Nat} (hAD : ∀ i : Nat, ad (1000 + i) = D.2 1000 i) : CRok l D tys A ad GG 6 g99 := CR_of_vrf (dep := 5) hAD (List.forall_mem_cons.mpr ⟨r96 hAD, fun c hc => by cases hc⟩) T2OK_nil w99
noncomputable def g100 : CR := (13, [(2, 0, 0), (0, (-2147483648), 2147483647)], [], some (0, (-2147483648), 2147483647), [], [])
theorem w100 : vrf GG [] [] 300 1 g100
  [] = true := by decide +kernel
theorem r100 {l : Launch} {D : va_G} {tys : List (ClassId × FieldType)} {A : Nat → Prop} {ad : Nat → Nat} (hAD : ∀ i : Nat, ad (1000 + i) = D.2 1000 i) : CRok l D tys A ad GG 2 g100 := CR_of_vrf (dep := 1) hAD (fun c hc => by cases hc) T2OK_nil w100
noncomputable def g101 : CR := (251, [(2, 90, 90), (0, (-2147483648), 2147483647)], [], some (0, (-2), 63), [], [90, 98, 99, 100, 101])
theorem w101 : vrf GG [(4, g96)] [] 300 5 g101
  [] = true := by decide +kernel
theorem r101 {l : Launch} {D : va_G} {tys : List (ClassId × FieldType)} {A : Nat → Prop} {ad : Nat → Nat} (hAD : ∀ i : Nat, ad (1000 + i) = D.2 1000 i) : CRok l D tys A ad GG 6 g101 := CR_of_vrf (dep := 5) hAD (List.forall_mem_cons.mpr ⟨r96 hAD, fun c hc => by cases hc⟩) T2OK_nil w101
noncomputable def g102 : CR := (14, [(2, 0, 0), (0, (-2147483648), 2147483647)], [], some (0, (-2147483648), 2147483647), [], [])
theorem w102 : vrf GG [] [] 300 1 g102
  [] = true := by decide +kernel
theorem r102 {l : Launch} {D : va_G} {tys : List (ClassId × FieldType)} {A : Nat → Prop} {ad : Nat → Nat} (hAD : ∀ i : Nat, ad (1000 + i) = D.2 1000 i) : CRok l D tys A ad GG 2 g102 := CR_of_vrf (dep := 1) hAD (fun c hc => by cases hc) T2OK_nil w102
noncomputable def g103 : CR := (252, [(2, 90, 90), (0, (-2147483648), 2147483647)], [], some (0, (-2), 63), [], [90, 98, 99, 100, 101])
theorem w103 : vrf GG [(4, g96)] [] 300 5 g103
  [] = true := by decide +kernel
theorem r103 {l : Launch} {D : va_G} {tys : List (ClassId × FieldType)} {A : Nat → Prop} {ad : Nat → Nat} (hAD : ∀ i : Nat, ad (1000 + i) = D.2 1000 i) : CRok l D tys A ad GG 6 g103 := CR_of_vrf (dep := 5) hAD (List.forall_mem_cons.mpr ⟨r96 hAD, fun c hc => by cases hc⟩) T2OK_nil w103
noncomputable def g104 : CR := (178, [(2, 32, 32), (2, 4, 4), (0, 0, 5), (0, 0, 5)], [], some (0, (-1), 24), [], [])
theorem w104 : vrf GG [] [] 300 3 g104
  [(3, [(0, 5), (0, 5), (0, 25)], [(0, rA 32), (1, rA 4), (2, iA (0, [(1, 0)])), (3, iA (0, [(1, 1)])), (4, iA (0, [(1, 2)]))], [], [], (1916, [((-74), 2)]))] = true := by decide +kernel
theorem r104 {l : Launch} {D : va_G} {tys : List (ClassId × FieldType)} {A : Nat → Prop} {ad : Nat → Nat} (hAD : ∀ i : Nat, ad (1000 + i) = D.2 1000 i) : CRok l D tys A ad GG 4 g104 := CR_of_vrf (dep := 3) hAD (fun c hc => by cases hc) T2OK_nil w104
noncomputable def g105 : CR := (15, [(2, 0, 0), (0, (-2147483648), 2147483647), (0, (-2147483648), 2147483647)], [], some (0, (-3), 23), [], [])
theorem w105 : vrf GG [(4, g104)] [] 300 4 g105
  [] = true := by decide +kernel
theorem r105 {l : Launch} {D : va_G} {tys : List (ClassId × FieldType)} {A : Nat → Prop} {ad : Nat → Nat} (hAD : ∀ i : Nat, ad (1000 + i) = D.2 1000 i) : CRok l D tys A ad GG 5 g105 := CR_of_vrf (dep := 4) hAD (List.forall_mem_cons.mpr ⟨r104 hAD, fun c hc => by cases hc⟩) T2OK_nil w105
noncomputable def g106 : CR := (253, [(2, 90, 90), (0, 0, 5), (0, 0, 5)], [], some (0, (-3), 23), [], [])
theorem w106 : vrf GG [] [] 300 3 g106
  [(2, [(0, 5), (0, 5), (0, 25)], [(0, rA 90), (1, iA (0, [(1, 0)])), (2, iA (0, [(1, 1)])), (3, iA (0, [(1, 2)]))], [], [], (2334, [((-90), 2)])),
  (34, [(0, 5), (0, 5), (0, 24), ((-3), 23), (0, 24)], [(0, rA 90), (1, iA (0, [(1, 0)])), (2, iA (0, [(1, 1)])), (3, iA (0, [(1, 2)]))], [iA (0, [(1, 3)])], [((91, 2), iA (0, [(1, 4)]))], (2302, [((-90), 2)]))] = true := by decide +kernel
theorem r106 {l : Launch} {D : va_G} {tys : List (ClassId × FieldType)} {A : Nat → Prop} {ad : Nat → Nat} (hAD : ∀ i : Nat, ad (1000 + i) = D.2 1000 i) : CRok l D tys A ad GG 4 g106 := CR_of_vrf (dep := 3) hAD (fun c hc => by cases hc) T2OK_nil w106
noncomputable def g107 : CR := (254, [(2, 90, 90), (0, (-2147483648), 2147483647), (0, (-2147483648), 2147483647)], [], some (0, (-3), 23), [], [90, 98, 99, 100, 101])
theorem w107 : vrf GG [(4, g96), (4, g106)] [] 300 5 g107
  [] = true := by decide +kernel
theorem r107 {l : Launch} {D : va_G} {tys : List (ClassId × FieldType)} {A : Nat → Prop} {ad : Nat → Nat} (hAD : ∀ i : Nat, ad (1000 + i) = D.2 1000 i) : CRok l D tys A ad GG 6 g107 := CR_of_vrf (dep := 5) hAD (List.forall_mem_cons.mpr ⟨r96 hAD, List.forall_mem_cons.mpr ⟨r106 hAD, fun c hc => by cases hc⟩⟩) T2OK_nil w107
noncomputable def g108 : CR := (179, [(2, 32, 32), (2, 4, 4), (0, 0, 5), (0, 1, 24)], [], some (0, 0, 63), [], [])
theorem w108 : vrf GG [] [] 300 3 g108
  [(6, [(0, 5), (1, 24), (0, 63), (0, 6)], [(0, rA 32), (1, rA 4), (2, iA (0, [(1, 0)])), (3, iA (0, [(1, 1)])), (4, iA (0, [(1, 2)])), (5, iA (0, [(1, 3)]))], [], [], (728, [((-106), 3)])),
  (42, [(0, 5), (1, 24), (0, 63), (0, 5), (1, 6)], [(0, rA 32), (1, rA 4), (2, iA (0, [(1, 0)])), (3, iA (0, [(1, 1)])), (4, iA (0, [(1, 2)])), (5, iA (0, [(1, 3)]))], [], [((4, 4), iA (0, [(1, 4)]))], (692, [((-106), 3)]))] = true := by decide +kernel
theorem r108 {l : Launch} {D : va_G} {tys : List (ClassId × FieldType)} {A : Nat → Prop} {ad : Nat → Nat} (hAD : ∀ i : Nat, ad (1000 + i) = D.2 1000 i) : CRok l D tys A ad GG 4 g108 := CR_of_vrf (dep := 3) hAD (fun c hc => by cases hc) T2OK_nil w108
noncomputable def g109 : CR := (16, [(2, 0, 0), (0, (-2147483648), 2147483647), (0, (-2147483648), 2147483647)], [], some (0, (-2), 63), [], [])
theorem w109 : vrf GG [(4, g108)] [] 300 4 g109
  [] = true := by decide +kernel
theorem r109 {l : Launch} {D : va_G} {tys : List (ClassId × FieldType)} {A : Nat → Prop} {ad : Nat → Nat} (hAD : ∀ i : Nat, ad (1000 + i) = D.2 1000 i) : CRok l D tys A ad GG 5 g109 := CR_of_vrf (dep := 4) hAD (List.forall_mem_cons.mpr ⟨r108 hAD, fun c hc => by cases hc⟩) T2OK_nil w109
noncomputable def g110 : CR := (255, [(2, 90, 90), (0, 0, 5), (0, 0, 23)], [], some (0, 0, 63), [], [])
theorem w110 : vrf GG [] [] 300 3 g110
  [(5, [(0, 5), (0, 23), (0, 63), (0, 6)], [(0, rA 90), (1, iA (0, [(1, 0)])), (2, iA (0, [(1, 1)])), (3, iA (0, [(1, 2)])), (4, iA (0, [(1, 3)]))], [], [], (772, [((-112), 3)])),
  (43, [(0, 5), (0, 23), (0, 63), (0, 5), (0, 63), (1, 6)], [(0, rA 90), (1, iA (0, [(1, 0)])), (2, iA (0, [(1, 1)])), (3, iA (0, [(1, 2)])), (4, iA (0, [(1, 3)]))], [iA (0, [(1, 4)])], [((91, 3), iA (0, [(1, 5)]))], (734, [((-112), 3)])),
  (44, [(0, 5), (0, 23), (0, 63), (0, 5), (0, 32), (0, 63), (1, 6)], [(0, rA 90), (1, iA (0, [(1, 0)])), (2, iA (0, [(1, 1)])), (3, iA (0, [(1, 2)])), (4, iA (0, [(1, 3)]))], [iA (0, [(1, 4)]), iA (0, [(1, 5)])], [((91, 3), iA (0, [(1, 6)]))], (733, [((-112), 3)]))] = true := by decide +kernel
theorem r110 {l : Launch} {D : va_G} {tys : List (ClassId × FieldType)} {A : Nat → Prop} {ad : Nat → Nat} (hAD : ∀ i : Nat, ad (1000 + i) = D.2 1000 i) : CRok l D tys A ad GG 4 g110 := CR_of_vrf (dep := 3) hAD (fun c hc => by cases hc) T2OK_nil w110
noncomputable def g111 : CR := (256, [(2, 90, 90), (0, (-2147483648), 2147483647), (0, (-2147483648), 2147483647)], [], some (0, (-2), 63), [], [90, 98, 99, 100, 101])
theorem w111 : vrf GG [(4, g96), (4, g110)] [] 300 5 g111
  [] = true := by decide +kernel
theorem r111 {l : Launch} {D : va_G} {tys : List (ClassId × FieldType)} {A : Nat → Prop} {ad : Nat → Nat} (hAD : ∀ i : Nat, ad (1000 + i) = D.2 1000 i) : CRok l D tys A ad GG 6 g111 := CR_of_vrf (dep := 5) hAD (List.forall_mem_cons.mpr ⟨r96 hAD, List.forall_mem_cons.mpr ⟨r110 hAD, fun c hc => by cases hc⟩⟩) T2OK_nil w111
noncomputable def g112 : CR := (180, [(2, 32, 32), (2, 4, 4), (0, 0, 5)], [], some (0, (-1), 5), [], [])
theorem w112 : vrf GG [(4, g104)] [] 300 4 g112
  [(9, [(0, 5), ((-1), 5), (0, 25), (0, 6)], [(0, rA 32), (1, rA 4), (2, iA (0, [(1, 0)])), (3, iA (0, [(1, 1)])), (4, iA (0, [(1, 2)])), (5, iA (0, [(1, 3)]))], [], [], (1002, [((-146), 3)])),
  (63, [(0, 5), ((-1), 5), (0, 25), (0, 5), (1, 6)], [(0, rA 32), (1, rA 4), (2, iA (0, [(1, 0)])), (3, iA (0, [(1, 1)])), (4, iA (0, [(1, 2)])), (5, iA (0, [(1, 3)]))], [], [((4, 4), iA (0, [(1, 4)]))], (948, [((-146), 3)]))] = true := by decide +kernel
theorem r112 {l : Launch} {D : va_G} {tys : List (ClassId × FieldType)} {A : Nat → Prop} {ad : Nat → Nat} (hAD : ∀ i : Nat, ad (1000 + i) = D.2 1000 i) : CRok l D tys A ad GG 5 g112 := CR_of_vrf (dep := 4) hAD (List.forall_mem_cons.mpr ⟨r104 hAD, fun c hc => by cases hc⟩) T2OK_nil w112
noncomputable def g113 : CR := (17, [(2, 0, 0), (0, (-2147483648), 2147483647)], [], some (0, (-3), 23), [], [])
theorem w113 : vrf GG [(4, g104), (5, g112)] [] 300 5 g113
  [] = true := by decide +kernel
theorem r113 {l : Launch} {D : va_G} {tys : List (ClassId × FieldType)} {A : Nat → Prop} {ad : Nat → Nat} (hAD : ∀ i : Nat, ad (1000 + i) = D.2 1000 i) : CRok l D tys A ad GG 6 g113 := CR_of_vrf (dep := 5) hAD (List.forall_mem_cons.mpr ⟨r104 hAD, List.forall_mem_cons.mpr ⟨r112 hAD, fun c hc => by cases hc⟩⟩) T2OK_nil w113
noncomputable def g114 : CR := (257, [(2, 90, 90), (0, 0, 5)], [], some (0, (-1), 5), [], [])
theorem w114 : vrf GG [(4, g106)] [] 300 4 g114
  [(9, [(0, 5), ((-1), 5), ((-2), 1000000), (0, 6)], [(0, rA 90), (1, iA (0, [(1, 0)])), (2, iA (0, [(1, 1)])), (3, iA (0, [(1, 2)])), (4, iA (0, [(1, 3)]))], [], [], (1394, [((-202), 3)])),
  (74, [(0, 5), ((-1), 5), ((-2), 1000000), (0, 5), ((-3), 23), ((-2), 1000000), (1, 6)], [(0, rA 90), (1, iA (0, [(1, 0)])), (2, iA (0, [(1, 1)])), (3, iA (0, [(1, 2)])), (4, iA (0, [(1, 3)])), (5, iA (0, [(1, 4)]))], [iA (0, [(1, 5)])], [((91, 3), iA (0, [(1, 6)]))], (1329, [((-202), 3)])),
  (91, [(0, 5), ((-1), 5), ((-2), 1000000), (0, 5), (1, 6)], [(0, rA 90), (1, iA (0, [(1, 0)])), (2, iA (0, [(1, 1)])), (3, iA (0, [(1, 2)])), (4, iA (0, [(1, 3)]))], [], [((91, 3), iA (0, [(1, 4)]))], (1312, [((-202), 3)]))] = true := by decide +kernel
theorem r114 {l : Launch} {D : va_G} {tys : List (ClassId × FieldType)} {A : Nat → Prop} {ad : Nat → Nat} (hAD : ∀ i : Nat, ad (1000 + i) = D.2 1000 i) : CRok l D tys A ad GG 5 g114 := CR_of_vrf (dep := 4) hAD (List.forall_mem_cons.mpr ⟨r106 hAD, fun c hc => by cases hc⟩) T2OK_nil w114
noncomputable def g115 : CR := (258, [(2, 90, 90), (0, (-2147483648), 2147483647)], [], some (0, (-3), 23), [], [90, 98, 99, 100, 101])
theorem w115 : vrf GG [(4, g96), (4, g106), (5, g114)] [] 300 5 g115
  [] = true := by decide +kernel
theorem r115 {l : Launch} {D : va_G} {tys : List (ClassId × FieldType)} {A : Nat → Prop} {ad : Nat → Nat} (hAD : ∀ i : Nat, ad (1000 + i) = D.2 1000 i) : CRok l D tys A ad GG 6 g115 := CR_of_vrf (dep := 5) hAD (List.forall_mem_cons.mpr ⟨r96 hAD, List.forall_mem_cons.mpr ⟨r106 hAD, List.forall_mem_cons.mpr ⟨r114 hAD, fun c hc => by cases hc⟩⟩⟩) T2OK_nil w115
noncomputable def g116 : CR := (18, [(2, 0, 0), (0, (-2147483648), 2147483647)], [], some (0, (-2), 5), [], [])
theorem w116 : vrf GG [(5, g112)] [] 300 5 g116
  [] = true := by decide +kernel
theorem r116 {l : Launch} {D : va_G} {tys : List (ClassId × FieldType)} {A : Nat → Prop} {ad : Nat → Nat} (hAD : ∀ i : Nat, ad (1000 + i) = D.2 1000 i) : CRok l D tys A ad GG 6 g116 := CR_of_vrf (dep := 5) hAD (List.forall_mem_cons.mpr ⟨r112 hAD, fun c hc => by cases hc⟩) T2OK_nil w116
noncomputable def g117 : CR := (259, [(2, 90, 90), (0, (-2147483648), 2147483647)], [], some (0, (-2), 5), [], [90, 98, 99, 100, 101])
theorem w117 : vrf GG [(4, g96), (5, g114)] [] 300 5 g117
  [] = true := by decide +kernel
theorem r117 {l : Launch} {D : va_G} {tys : List (ClassId × FieldType)} {A : Nat → Prop} {ad : Nat → Nat} (hAD : ∀ i : Nat, ad (1000 + i) = D.2 1000 i) : CRok l D tys A ad GG 6 g117 := CR_of_vrf (dep := 5) hAD (List.forall_mem_cons.mpr ⟨r96 hAD, List.forall_mem_cons.mpr ⟨r114 hAD, fun c hc => by cases hc⟩⟩) T2OK_nil w117
noncomputable def g118 : CR := (19, [(2, 0, 0), (0, (-2147483648), 2147483647)], [], some (0, (-2), 63), [], [])
theorem w118 : vrf GG [(4, g108)] [] 300 4 g118
  [(18, [(0, 23), (0, 63), (0, 6), (1, 24)], [(0, rA 0), (1, iA (0, [(1, 0)])), (2, iA (0, [(1, 1)])), (3, iA (0, [(1, 2)]))], [], [((4, 3), iA (0, [(1, 3)]))], (844, [((-126), 2)])),
  (53, [(0, 23), (0, 63), (0, 5), (1, 24), (1, 6)], [(0, rA 0), (1, iA (0, [(1, 0)])), (2, iA (0, [(1, 1)])), (3, iA (0, [(1, 2)]))], [], [((4, 3), iA (0, [(1, 3)])), ((4, 4), iA (0, [(1, 4)]))], (809, [((-126), 2)]))] = true := by decide +kernel
theorem r118 {l : Launch} {D : va_G} {tys : List (ClassId × FieldType)} {A : Nat → Prop} {ad : Nat → Nat} (hAD : ∀ i : Nat, ad (1000 + i) = D.2 1000 i) : CRok l D tys A ad GG 5 g118 := CR_of_vrf (dep := 4) hAD (List.forall_mem_cons.mpr ⟨r108 hAD, fun c hc => by cases hc⟩) T2OK_nil w118
noncomputable def g119 : CR := (260, [(2, 90, 90), (0, (-2147483648), 2147483647)], [], some (0, (-2), 63), [], [90, 98, 99, 100, 101])
theorem w119 : vrf GG [(4, g96), (4, g110)] [] 300 5 g119
  [(19, [(0, 23), (0, 63), (0, 6), (1, 24)], [(0, rA 90), (1, iA (0, [(1, 0)])), (2, iA (0, [(1, 1)])), (3, iA (0, [(1, 2)]))], [], [((91, 2), iA (0, [(1, 3)]))], (772, [((-116), 2)])),
  (46, [(0, 23), (0, 63), (0, 5), (0, 32), (0, 63), (1, 24), (1, 6)], [(0, rA 90), (1, iA (0, [(1, 0)])), (2, iA (0, [(1, 1)])), (3, iA (0, [(1, 2)]))], [iA (0, [(1, 3)]), iA (0, [(1, 4)])], [((91, 2), iA (0, [(1, 5)])), ((91, 3), iA (0, [(1, 6)]))], (745, [((-116), 2)]))] = true := by decide +kernel
theorem r119 {l : Launch} {D : va_G} {tys : List (ClassId × FieldType)} {A : Nat → Prop} {ad : Nat → Nat} (hAD : ∀ i : Nat, ad (1000 + i) = D.2 1000 i) : CRok l D tys A ad GG 6 g119 := CR_of_vrf (dep := 5) hAD (List.forall_mem_cons.mpr ⟨r96 hAD, List.forall_mem_cons.mpr ⟨r110 hAD, fun c hc => by cases hc⟩⟩) T2OK_nil w119
