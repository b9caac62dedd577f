def g0 : CR := (185, [(2, 2, 2), (0, (-2147483648), 2147483647)], [], none, [], [2, 3])
theorem w0 : vrf GG [] [] 300 0 g0
  [(3, [((-2147483648), 2147483647), ((-8), 24)], [(0, rA 2), (1, iA (0, [(1, 0)])), (2, iA (0, [(1, 1)]))], [], [], (1036, [(116, 1)])),
  (49, [((-2147483648), 2147483647), (0, 24), (1, 1400)], [(0, rA 2), (1, iA (0, [(1, 0)])), (2, iA (0, [(1, 1)]))], [], [((2, 1), iA (0, [(1, 2)]))], (990, [(116, 1)]))] = true := by decide +kernel
theorem r0 {l : Launch} {D : va_G} {tys : List (ClassId × FieldType)} {A : Nat → Prop} {ad : Nat → Nat} (hAD : ∀ i : Nat, ad (1000 + i) = D.2 1000 i) : CRok l D tys A ad GG 1 g0 := CR_of_vrf (dep := 0) hAD (fun c hc => by cases hc) T2OK_nil w0
def g1 : CR := (1, [(2, 0, 0), (0, (-2147483648), 2147483647), (0, (-2147483648), 2147483647), (0, (-2147483648), 2147483647), (0, (-2147483648), 2147483647), (0, (-2147483648), 2147483647)], [], some (0, (-1), 1400), [], [2, 3])
theorem w1 : vrf GG [(1, g0)] [] 300 1 g1
  [] = true := by decide +kernel
theorem r1 {l : Launch} {D : va_G} {tys : List (ClassId × FieldType)} {A : Nat → Prop} {ad : Nat → Nat} (hAD : ∀ i : Nat, ad (1000 + i) = D.2 1000 i) : CRok l D tys A ad GG 2 g1 := CR_of_vrf (dep := 1) hAD (List.forall_mem_cons.mpr ⟨r0 hAD, fun c hc => by cases hc⟩) T2OK_nil w1
def g2 : CR := (210, [(2, 90, 90), (0, (-2147483648), 2147483647), (0, (-2147483648), 2147483647), (0, (-2147483648), 2147483647), (0, (-2147483648), 2147483647), (0, (-2147483648), 2147483647)], [], some (0, (-1), 1400), [], [90, 94, 95])
theorem w2 : vrf GG [] [] 300 0 g2
  [(55, [((-2147483648), 2147483647), ((-2147483648), 2147483647), ((-2147483648), 2147483647), ((-2147483648), 2147483647), ((-2147483648), 2147483647), (0, 20), (0, 1380), ((-2147483648), 2147483647), ((-2147483648), 2147483647), ((-2147483648), 2147483647), ((-2147483648), 2147483647), ((-2147483648), 2147483647)], [(0, rA 90), (1, iA (0, [(1, 0)])), (2, iA (0, [(1, 1)])), (3, iA (0, [(1, 2)])), (4, iA (0, [(1, 3)])), (5, iA (0, [(1, 4)])), (6, iA (0, [(1, 5)]))], [], [((90, 5), iA (0, [(1, 6)])), ((95, 0), iA (0, [(1, 7)])), ((95, 1), iA (0, [(1, 8)])), ((95, 2), iA (0, [(1, 9)])), ((95, 3), iA (0, [(1, 10)])), ((95, 4), iA (0, [(1, 11)]))], (4886, [((-238), 5)]))] = true := by decide +kernel
theorem r2 {l : Launch} {D : va_G} {tys : List (ClassId × FieldType)} {A : Nat → Prop} {ad : Nat → Nat} (hAD : ∀ i : Nat, ad (1000 + i) = D.2 1000 i) : CRok l D tys A ad GG 1 g2 := CR_of_vrf (dep := 0) hAD (fun c hc => by cases hc) T2OK_nil w2
def g3 : CR := (2, [(2, 0, 0), (0, (-2147483648), 2147483647)], [], some (0, (-1), 1400), [], [2])
theorem w3 : vrf GG [] [] 300 0 g3
  [] = true := by decide +kernel
theorem r3 {l : Launch} {D : va_G} {tys : List (ClassId × FieldType)} {A : Nat → Prop} {ad : Nat → Nat} (hAD : ∀ i : Nat, ad (1000 + i) = D.2 1000 i) : CRok l D tys A ad GG 1 g3 := CR_of_vrf (dep := 0) hAD (fun c hc => by cases hc) T2OK_nil w3
def g4 : CR := (211, [(2, 90, 90), (0, (-2147483648), 2147483647)], [], some (0, (-1), 1400), [], [90])
theorem w4 : vrf GG [] [] 300 1 g4
  [] = true := by decide +kernel
theorem r4 {l : Launch} {D : va_G} {tys : List (ClassId × FieldType)} {A : Nat → Prop} {ad : Nat → Nat} (hAD : ∀ i : Nat, ad (1000 + i) = D.2 1000 i) : CRok l D tys A ad GG 2 g4 := CR_of_vrf (dep := 1) hAD (fun c hc => by cases hc) T2OK_nil w4
def g5 : CR := (111, [(2, 16, 16)], [], none, [], [22])
theorem w5 : vrf GG [] [] 300 1 g5
  [(2, [(0, 6)], [(0, rA 16), (1, iA (0, [(1, 0)]))], [], [], (27588, [((-3942), 0)])),
  (12, [(0, 5), ((-2147483648), 2147483647), (0, 24)], [(0, rA 16), (1, iA (0, [(1, 0)])), (2, iA (0, [(1, 1)])), (3, iA (0, [(1, 2)]))], [], [], (27346, [((-146), 2), ((-3942), 0)])),
  (48, [(0, 5), ((-2147483648), 2147483647), (0, 23), (0, 143)], [(0, rA 16), (1, iA (0, [(1, 0)])), (2, iA (0, [(1, 1)])), (3, iA (0, [(1, 2)])), (4, iA (0, [(1, 3)]))], [], [], (27310, [((-146), 2), ((-3942), 0)]))] = true := by decide +kernel
theorem r5 {l : Launch} {D : va_G} {tys : List (ClassId × FieldType)} {A : Nat → Prop} {ad : Nat → Nat} (hAD : ∀ i : Nat, ad (1000 + i) = D.2 1000 i) : CRok l D tys A ad GG 2 g5 := CR_of_vrf (dep := 1) hAD (fun c hc => by cases hc) T2OK_nil w5
def g6 : CR := (189, [(2, 2, 2), (0, 0, 1399), (0, 48, 48), (0, 57, 57)], [], some (0, 0, 1400), [], [])
theorem w6 : vrf GG [] [] 300 0 g6
  [(3, [(0, 1399), (0, 1400)], [(0, rA 2), (1, iA (0, [(1, 0)])), (2, iA (48, [])), (3, iA (57, [])), (4, iA (0, [(1, 1)]))], [], [], (168112, [((-120), 1)]))] = true := by decide +kernel
theorem r6 {l : Launch} {D : va_G} {tys : List (ClassId × FieldType)} {A : Nat → Prop} {ad : Nat → Nat} (hAD : ∀ i : Nat, ad (1000 + i) = D.2 1000 i) : CRok l D tys A ad GG 1 g6 := CR_of_vrf (dep := 0) hAD (fun c hc => by cases hc) T2OK_nil w6
def g7 : CR := (189, [(2, 2, 2), (0, 0, 1399), (0, 97, 97), (0, 122, 122)], [], some (0, 0, 1400), [], [])
theorem w7 : vrf GG [] [] 300 0 g7
  [(3, [(0, 1399), (0, 1400)], [(0, rA 2), (1, iA (0, [(1, 0)])), (2, iA (97, [])), (3, iA (122, [])), (4, iA (0, [(1, 1)]))], [], [], (168112, [((-120), 1)]))] = true := by decide +kernel
theorem r7 {l : Launch} {D : va_G} {tys : List (ClassId × FieldType)} {A : Nat → Prop} {ad : Nat → Nat} (hAD : ∀ i : Nat, ad (1000 + i) = D.2 1000 i) : CRok l D tys A ad GG 1 g7 := CR_of_vrf (dep := 0) hAD (fun c hc => by cases hc) T2OK_nil w7
def g8 : CR := (189, [(2, 2, 2), (0, 1, 1398), (0, 48, 48), (0, 57, 57)], [], some (0, 1, 1400), [], [])
theorem w8 : vrf GG [] [] 300 0 g8
  [(3, [(1, 1398), (1, 1400)], [(0, rA 2), (1, iA (0, [(1, 0)])), (2, iA (48, [])), (3, iA (57, [])), (4, iA (0, [(1, 1)]))], [], [], (168112, [((-120), 1)]))] = true := by decide +kernel
theorem r8 {l : Launch} {D : va_G} {tys : List (ClassId × FieldType)} {A : Nat → Prop} {ad : Nat → Nat} (hAD : ∀ i : Nat, ad (1000 + i) = D.2 1000 i) : CRok l D tys A ad GG 1 g8 := CR_of_vrf (dep := 0) hAD (fun c hc => by cases hc) T2OK_nil w8
def g9 : CR := (189, [(2, 2, 2), (0, 1, 1398), (0, 97, 97), (0, 122, 122)], [], some (0, 1, 1400), [], [])
theorem w9 : vrf GG [] [] 300 0 g9
  [(3, [(1, 1398), (1, 1400)], [(0, rA 2), (1, iA (0, [(1, 0)])), (2, iA (97, [])), (3, iA (122, [])), (4, iA (0, [(1, 1)]))], [], [], (168112, [((-120), 1)]))] = true := by decide +kernel
theorem r9 {l : Launch} {D : va_G} {tys : List (ClassId × FieldType)} {A : Nat → Prop} {ad : Nat → Nat} (hAD : ∀ i : Nat, ad (1000 + i) = D.2 1000 i) : CRok l D tys A ad GG 1 g9 := CR_of_vrf (dep := 0) hAD (fun c hc => by cases hc) T2OK_nil w9
def g10 : CR := (190, [(2, 2, 2), (0, 0, 1400)], [], some (0, (-2147483648), 2147483647), [], [])
theorem w10 : vrf GG [] [] 300 0 g10
  [(7, [(0, 1400), ((-2147483648), 2147483647), (0, 1401), (0, 1401)], [(0, rA 2), (1, iA (0, [(1, 0)])), (2, iA (0, [(1, 1)])), (3, iA (0, [(1, 2)]))], [], [((2, 3), iA (0, [(1, 3)]))], (157008, [((-112), 2)]))] = true := by decide +kernel
theorem r10 {l : Launch} {D : va_G} {tys : List (ClassId × FieldType)} {A : Nat → Prop} {ad : Nat → Nat} (hAD : ∀ i : Nat, ad (1000 + i) = D.2 1000 i) : CRok l D tys A ad GG 1 g10 := CR_of_vrf (dep := 0) hAD (fun c hc => by cases hc) T2OK_nil w10
def g11 : CR := (190, [(2, 2, 2), (0, 1, 1400)], [], some (0, (-2147483648), 2147483647), [], [])
theorem w11 : vrf GG [] [] 300 0 g11
  [(7, [(1, 1400), ((-2147483648), 2147483647), (0, 1401), (0, 1401)], [(0, rA 2), (1, iA (0, [(1, 0)])), (2, iA (0, [(1, 1)])), (3, iA (0, [(1, 2)]))], [], [((2, 3), iA (0, [(1, 3)]))], (157008, [((-112), 2)]))] = true := by decide +kernel
theorem r11 {l : Launch} {D : va_G} {tys : List (ClassId × FieldType)} {A : Nat → Prop} {ad : Nat → Nat} (hAD : ∀ i : Nat, ad (1000 + i) = D.2 1000 i) : CRok l D tys A ad GG 1 g11 := CR_of_vrf (dep := 0) hAD (fun c hc => by cases hc) T2OK_nil w11
def g12 : CR := (188, [(2, 2, 2)], [], none, [], [2])
theorem w12 : vrf GG [(1, g8), (1, g9), (1, g6), (1, g7), (1, g11), (1, g10)] [] 963 1 g12
  [(5, [(0, 1401), (0, 1401)], [(0, rA 2), (1, iA (0, [(1, 0)]))], [], [((2, 4), iA (0, [(1, 1)]))], (476668, [((-340), 0)])),
  (33, [(0, 1399), (1, 1400), (0, 1401)], [(0, rA 2), (1, iA (0, [(1, 0)]))], [], [((2, 1), iA (0, [(1, 1)])), ((2, 4), iA (0, [(1, 2)]))], (476640, [((-340), 0)]))] = true := by decide +kernel
theorem r12 {l : Launch} {D : va_G} {tys : List (ClassId × FieldType)} {A : Nat → Prop} {ad : Nat → Nat} (hAD : ∀ i : Nat, ad (1000 + i) = D.2 1000 i) : CRok l D tys A ad GG 2 g12 := CR_of_vrf (dep := 1) hAD (List.forall_mem_cons.mpr ⟨r8 hAD, List.forall_mem_cons.mpr ⟨r9 hAD, List.forall_mem_cons.mpr ⟨r6 hAD, List.forall_mem_cons.mpr ⟨r7 hAD, List.forall_mem_cons.mpr ⟨r11 hAD, List.forall_mem_cons.mpr ⟨r10 hAD, fun c hc => by cases hc⟩⟩⟩⟩⟩⟩) T2OK_nil w12
def g13 : CR := (191, [(2, 2, 2), (2, 1007, 1007)], [], some (0, 0, 1), [], [])
theorem w13 : vrf GG [] [] 300 4 g13
  [(28, [(0, 4), (0, 1397), (4, 1401)], [(0, rA 2), (1, rA 1007), (2, iA (0, [(1, 0)]))], [], [((2, 2), iA (1, [])), ((2, 3), iA (0, [(1, 1)])), ((2, 4), iA (0, [(1, 2)]))], (602, [((-132), 0)]))] = true := by decide +kernel
theorem r13 {l : Launch} {D : va_G} {tys : List (ClassId × FieldType)} {A : Nat → Prop} {ad : Nat → Nat} (hAD : ∀ i : Nat, ad (1000 + i) = D.2 1000 i) : CRok l D tys A ad GG 5 g13 := CR_of_vrf (dep := 4) hAD (fun c hc => by cases hc) T2OK_nil w13
def g14 : CR := (191, [(2, 2, 2), (2, 1008, 1008)], [], some (0, 0, 1), [], [])
theorem w14 : vrf GG [] [] 300 4 g14
  [(28, [(0, 9), (0, 1392), (9, 1401)], [(0, rA 2), (1, rA 1008), (2, iA (0, [(1, 0)]))], [], [((2, 2), iA (1, [])), ((2, 3), iA (0, [(1, 1)])), ((2, 4), iA (0, [(1, 2)]))], (1262, [((-132), 0)]))] = true := by decide +kernel
theorem r14 {l : Launch} {D : va_G} {tys : List (ClassId × FieldType)} {A : Nat → Prop} {ad : Nat → Nat} (hAD : ∀ i : Nat, ad (1000 + i) = D.2 1000 i) : CRok l D tys A ad GG 5 g14 := CR_of_vrf (dep := 4) hAD (fun c hc => by cases hc) T2OK_nil w14
def g15 : CR := (191, [(2, 2, 2), (2, 1009, 1009)], [], some (0, 0, 1), [], [])
theorem w15 : vrf GG [] [] 300 4 g15
  [(28, [(0, 6), (0, 1395), (6, 1401)], [(0, rA 2), (1, rA 1009), (2, iA (0, [(1, 0)]))], [], [((2, 2), iA (1, [])), ((2, 3), iA (0, [(1, 1)])), ((2, 4), iA (0, [(1, 2)]))], (866, [((-132), 0)]))] = true := by decide +kernel
theorem r15 {l : Launch} {D : va_G} {tys : List (ClassId × FieldType)} {A : Nat → Prop} {ad : Nat → Nat} (hAD : ∀ i : Nat, ad (1000 + i) = D.2 1000 i) : CRok l D tys A ad GG 5 g15 := CR_of_vrf (dep := 4) hAD (fun c hc => by cases hc) T2OK_nil w15
def g16 : CR := (191, [(2, 2, 2), (2, 1010, 1010)], [], some (0, 0, 1), [], [])
theorem w16 : vrf GG [] [] 300 4 g16
  [(28, [(0, 5), (0, 1396), (5, 1401)], [(0, rA 2), (1, rA 1010), (2, iA (0, [(1, 0)]))], [], [((2, 2), iA (1, [])), ((2, 3), iA (0, [(1, 1)])), ((2, 4), iA (0, [(1, 2)]))], (734, [((-132), 0)]))] = true := by decide +kernel
theorem r16 {l : Launch} {D : va_G} {tys : List (ClassId × FieldType)} {A : Nat → Prop} {ad : Nat → Nat} (hAD : ∀ i : Nat, ad (1000 + i) = D.2 1000 i) : CRok l D tys A ad GG 5 g16 := CR_of_vrf (dep := 4) hAD (fun c hc => by cases hc) T2OK_nil w16
def g17 : CR := (135, [(2, 1, 1), (2, 16, 16)], [], none, [], [1, 2, 16])
theorem w17 : vrf GG [(2, g12), (5, g13), (5, g14), (5, g15), (5, g16)] [] 792 6 g17
  [(9, [(0, 1)], [(0, rA 1), (1, rA 16)], [iA (0, [(1, 0)])], [], (67, [])),
  (17, [], [(0, rA 1), (1, rA 16)], [], [], (59, [])),
  (23, [], [(0, rA 1), (1, rA 16)], [], [], (53, [])),
  (31, [(0, 9), (0, 3), (0, 4)], [(0, rA 1), (1, rA 16)], [iA (0, [(1, 0)]), rA 16], [((1, 1), iA (0, [(1, 1)])), ((2, 2), iA (0, [(1, 2)]))], (45, [])),
  (40, [(0, 3), (0, 9)], [(0, rA 1), (1, rA 16)], [], [((1, 1), iA (0, [(1, 0)])), ((16, 1), iA (0, [(1, 1)]))], (36, [])),
  (47, [(0, 4), (0, 3), (0, 4), (0, 9)], [(0, rA 1), (1, rA 16)], [iA (0, [(1, 0)]), rA 16], [((1, 1), iA (0, [(1, 1)])), ((2, 2), iA (0, [(1, 2)])), ((16, 1), iA (0, [(1, 3)]))], (29, [])),
  (56, [(0, 3), (0, 9), (0, 4)], [(0, rA 1), (1, rA 16)], [], [((1, 1), iA (0, [(1, 0)])), ((16, 1), iA (0, [(1, 1)])), ((16, 2), iA (0, [(1, 2)]))], (20, [])),
  (64, [(0, 24), (0, 3), (0, 4), (0, 9), (0, 4)], [(0, rA 1), (1, rA 16)], [iA (0, [(1, 0)]), rA 16], [((1, 1), iA (0, [(1, 1)])), ((2, 2), iA (0, [(1, 2)])), ((16, 1), iA (0, [(1, 3)])), ((16, 2), iA (0, [(1, 4)]))], (12, [])),
  (74, [(0, 3), (0, 9), (0, 4), (0, 24)], [(0, rA 1), (1, rA 16)], [], [((1, 1), iA (0, [(1, 0)])), ((16, 1), iA (0, [(1, 1)])), ((16, 2), iA (0, [(1, 2)])), ((16, 3), iA (0, [(1, 3)]))], (2, []))] = true := by decide +kernel
theorem r17 {l : Launch} {D : va_G} {tys : List (ClassId × FieldType)} {A : Nat → Prop} {ad : Nat → Nat} (hAD : ∀ i : Nat, ad (1000 + i) = D.2 1000 i) : CRok l D tys A ad GG 7 g17 := CR_of_vrf (dep := 6) hAD (List.forall_mem_cons.mpr ⟨r12 hAD, List.forall_mem_cons.mpr ⟨r13 hAD, List.forall_mem_cons.mpr ⟨r14 hAD, List.forall_mem_cons.mpr ⟨r15 hAD, List.forall_mem_cons.mpr ⟨r16 hAD, fun c hc => by cases hc⟩⟩⟩⟩⟩) T2OK_nil w17
def g18 : CR := (136, [(2, 1, 1), (2, 16, 16)], [], none, [], [1, 2, 16, 17, 18, 19])
theorem w18 : vrf GG [(2, g12)] [] 510 2 g18
  [(41, [(0, 5), (0, 7), (1, 6)], [(0, rA 1), (1, rA 16), (2, iA (0, [(1, 0)])), (3, iA (0, [(1, 1)]))], [], [((16, 4), iA (0, [(1, 2)]))], (2092, [((-272), 1)])),
  (77, [(0, 5), (0, 6), (1, 6)], [(0, rA 1), (1, rA 16), (2, iA (0, [(1, 0)])), (3, iA (0, [(1, 1)]))], [], [((1, 1), iA (0, [])), ((16, 4), iA (0, [(1, 2)]))], (2056, [((-272), 1)])),
  (101, [(0, 5), (0, 6), (0, 8), (0, 3), (0, 4), (0, 9), (1, 6)], [(0, rA 1), (1, rA 16), (2, iA (0, [(1, 0)])), (3, iA (0, [(1, 1)])), (4, iA (0, [(1, 2)]))], [], [((1, 1), iA (0, [(1, 3)])), ((2, 2), iA (0, [(1, 4)])), ((16, 1), iA (0, [(1, 5)])), ((16, 4), iA (0, [(1, 6)]))], (2032, [((-272), 1)]))] = true := by decide +kernel
theorem r18 {l : Launch} {D : va_G} {tys : List (ClassId × FieldType)} {A : Nat → Prop} {ad : Nat → Nat} (hAD : ∀ i : Nat, ad (1000 + i) = D.2 1000 i) : CRok l D tys A ad GG 3 g18 := CR_of_vrf (dep := 2) hAD (List.forall_mem_cons.mpr ⟨r12 hAD, fun c hc => by cases hc⟩) T2OK_nil w18
def g19 : CR := (191, [(2, 2, 2), (2, 1011, 1011)], [], some (0, 0, 1), [], [])
theorem w19 : vrf GG [] [] 300 4 g19
  [(28, [(0, 2), (0, 1399), (2, 1401)], [(0, rA 2), (1, rA 1011), (2, iA (0, [(1, 0)]))], [], [((2, 2), iA (1, [])), ((2, 3), iA (0, [(1, 1)])), ((2, 4), iA (0, [(1, 2)]))], (338, [((-132), 0)]))] = true := by decide +kernel
theorem r19 {l : Launch} {D : va_G} {tys : List (ClassId × FieldType)} {A : Nat → Prop} {ad : Nat → Nat} (hAD : ∀ i : Nat, ad (1000 + i) = D.2 1000 i) : CRok l D tys A ad GG 5 g19 := CR_of_vrf (dep := 4) hAD (fun c hc => by cases hc) T2OK_nil w19
def g20 : CR := (137, [(2, 1, 1), (2, 16, 16)], [], none, [], [1, 2, 22])
theorem w20 : vrf GG [(2, g12), (5, g19)] [] 736 6 g20
  [(5, [(0, 5), (0, 3), (0, 4), (0, 6)], [(0, rA 1), (1, rA 16)], [iA (0, [(1, 0)])], [((1, 1), iA (0, [(1, 1)])), ((2, 2), iA (0, [(1, 2)])), ((16, 4), iA (0, [(1, 3)]))], (56, [])),
  (17, [(0, 5), (0, 3), (0, 3), (0, 4), (0, 4), (0, 6)], [(0, rA 1), (1, rA 16), (2, iA (0, [(1, 0)]))], [iA (0, [(1, 1)])], [((1, 1), iA (0, [(1, 2)])), ((2, 2), iA (0, [(1, 3)])), ((16, 2), iA (0, [(1, 4)])), ((16, 4), iA (0, [(1, 5)]))], (44, [])),
  (24, [(0, 5), (0, 3), (0, 3), (0, 4), (0, 6)], [(0, rA 1), (1, rA 16), (2, iA (0, [(1, 0)])), (3, iA (0, [(1, 1)]))], [], [((1, 1), iA (0, [(1, 2)])), ((16, 2), iA (0, [(1, 3)])), ((16, 4), iA (0, [(1, 4)]))], (37, [])),
  (35, [(0, 5), (0, 3), (0, 23), (0, 3), (0, 4), (0, 4), (0, 24), (0, 6)], [(0, rA 1), (1, rA 16), (2, iA (0, [(1, 0)])), (3, iA (0, [(1, 1)]))], [iA (0, [(1, 2)])], [((1, 1), iA (0, [(1, 3)])), ((2, 2), iA (0, [(1, 4)])), ((16, 2), iA (0, [(1, 5)])), ((16, 3), iA (0, [(1, 6)])), ((16, 4), iA (0, [(1, 7)]))], (26, [])),
  (52, [(0, 5), (0, 3), (0, 23), (0, 3), (0, 4), (0, 4), (0, 24), (0, 6)], [(0, rA 1), (1, rA 16), (2, iA (0, [(1, 0)])), (3, iA (0, [(1, 1)])), (4, iA (0, [(1, 2)]))], [], [((1, 1), iA (0, [(1, 3)])), ((2, 2), iA (0, [(1, 4)])), ((16, 2), iA (0, [(1, 5)])), ((16, 3), iA (0, [(1, 6)])), ((16, 4), iA (0, [(1, 7)]))], (9, [])),
  (59, [(0, 5), (0, 3), (0, 23), (0, 3), (0, 4), (0, 24), (0, 6)], [(0, rA 1), (1, rA 16), (2, iA (0, [(1, 0)])), (3, iA (0, [(1, 1)])), (4, iA (0, [(1, 2)]))], [], [((1, 1), iA (0, [(1, 3)])), ((16, 2), iA (0, [(1, 4)])), ((16, 3), iA (0, [(1, 5)])), ((16, 4), iA (0, [(1, 6)]))], (2, []))] = true := by decide +kernel
theorem r20 {l : Launch} {D : va_G} {tys : List (ClassId × FieldType)} {A : Nat → Prop} {ad : Nat → Nat} (hAD : ∀ i : Nat, ad (1000 + i) = D.2 1000 i) : CRok l D tys A ad GG 7 g20 := CR_of_vrf (dep := 6) hAD (List.forall_mem_cons.mpr ⟨r12 hAD, List.forall_mem_cons.mpr ⟨r19 hAD, fun c hc => by cases hc⟩⟩) T2OK_nil w20
def g21 : CR := (138, [(2, 1, 1), (2, 16, 16)], [], none, [], [1, 2, 23])
theorem w21 : vrf GG [(2, g12)] [] 765 3 g21
  [(5, [(0, 5), (0, 3), (0, 4), (0, 6)], [(0, rA 1), (1, rA 16)], [iA (0, [(1, 0)])], [((1, 1), iA (0, [(1, 1)])), ((2, 2), iA (0, [(1, 2)])), ((16, 4), iA (0, [(1, 3)]))], (67, [])),
  (11, [(0, 5), (0, 5), (0, 3), (0, 4), (0, 6)], [(0, rA 1), (1, rA 16), (2, iA (0, [(1, 0)]))], [iA (0, [(1, 1)])], [((1, 1), iA (0, [(1, 2)])), ((2, 2), iA (0, [(1, 3)])), ((16, 4), iA (0, [(1, 4)]))], (61, [])),
  (18, [(0, 5), (0, 5), (0, 3), (0, 4), (0, 6)], [(0, rA 1), (1, rA 16), (2, iA (0, [(1, 0)])), (3, iA (0, [(1, 1)]))], [], [((1, 1), iA (0, [(1, 2)])), ((2, 2), iA (0, [(1, 3)])), ((16, 4), iA (0, [(1, 4)]))], (54, [])),
  (25, [(0, 5), (0, 5), (0, 7), (0, 3), (0, 4), (0, 6)], [(0, rA 1), (1, rA 16), (2, iA (0, [(1, 0)])), (3, iA (0, [(1, 1)]))], [iA (0, [(1, 2)]), iA (0, []), rA 1], [((1, 1), iA (0, [(1, 3)])), ((2, 2), iA (0, [(1, 4)])), ((16, 4), iA (0, [(1, 5)]))], (47, [])),
  (30, [(0, 5), (0, 5), (0, 6), (0, 3), (0, 4), (0, 6)], [(0, rA 1), (1, rA 16), (2, iA (0, [(1, 0)])), (3, iA (0, [(1, 1)]))], [iA (0, [(1, 2)])], [((1, 1), iA (0, [(1, 3)])), ((2, 2), iA (0, [(1, 4)])), ((16, 4), iA (0, [(1, 5)]))], (42, [])),
  (55, [(0, 5), (0, 5), (0, 6), (0, 35), ((-2147483648), 2147483647), (0, 35), (0, 3), (0, 4), (0, 6)], [(0, rA 1), (1, rA 16), (2, iA (0, [(1, 0)])), (3, iA (0, [(1, 1)])), (4, iA (0, [(1, 2)])), (5, iA (0, [(1, 3)]))], [iA (0, [(1, 4)]), iA (0, [(1, 5)]), rA 23], [((1, 1), iA (0, [(1, 6)])), ((2, 2), iA (0, [(1, 7)])), ((16, 4), iA (0, [(1, 8)]))], (17, [])),
  (63, [(0, 5), (0, 5), (0, 6), (0, 35), (0, 3), (0, 4), (0, 6)], [(0, rA 1), (1, rA 16), (2, iA (0, [(1, 0)])), (3, iA (0, [(1, 1)])), (4, iA (0, [(1, 2)])), (5, iA (0, [(1, 3)]))], [], [((1, 1), iA (0, [(1, 4)])), ((2, 2), iA (0, [(1, 5)])), ((16, 4), iA (0, [(1, 6)]))], (9, [])),
  (70, [(0, 5), (0, 5), (0, 6), (0, 35), (0, 3), (0, 6)], [(0, rA 1), (1, rA 16), (2, iA (0, [(1, 0)])), (3, iA (0, [(1, 1)])), (4, iA (0, [(1, 2)])), (5, iA (0, [(1, 3)]))], [], [((1, 1), iA (0, [(1, 4)])), ((16, 4), iA (0, [(1, 5)]))], (2, []))] = true := by decide +kernel
theorem r21 {l : Launch} {D : va_G} {tys : List (ClassId × FieldType)} {A : Nat → Prop} {ad : Nat → Nat} (hAD : ∀ i : Nat, ad (1000 + i) = D.2 1000 i) : CRok l D tys A ad GG 4 g21 := CR_of_vrf (dep := 3) hAD (List.forall_mem_cons.mpr ⟨r12 hAD, fun c hc => by cases hc⟩) T2OK_nil w21
def g22 : CR := (139, [(2, 1, 1), (2, 16, 16)], [], none, [], [1, 2, 16, 24, 25, 26, 27])
theorem w22 : vrf GG [(2, g12), (5, g19)] [] 996 6 g22
  [(14, [(1, 3)], [(0, rA 1), (1, rA 16)], [], [((1, 1), iA (0, [(1, 0)])), ((16, 5), iA (12, []))], (65, [])),
  (20, [(0, 5), (0, 3), (0, 4), (0, 6), (0, 11)], [(0, rA 1), (1, rA 16)], [iA (0, [(1, 0)])], [((1, 1), iA (0, [(1, 1)])), ((2, 2), iA (0, [(1, 2)])), ((16, 4), iA (0, [(1, 3)])), ((16, 5), iA (0, [(1, 4)]))], (59, [])),
  (26, [(0, 5), (0, 5), (0, 3), (0, 4), (0, 6), (0, 11)], [(0, rA 1), (1, rA 16), (2, iA (0, [(1, 0)]))], [iA (0, [(1, 1)])], [((1, 1), iA (0, [(1, 2)])), ((2, 2), iA (0, [(1, 3)])), ((16, 4), iA (0, [(1, 4)])), ((16, 5), iA (0, [(1, 5)]))], (53, [])),
  (34, [(0, 5), (0, 5), (0, 7), (0, 3), (0, 4), (0, 6), (0, 11)], [(0, rA 1), (1, rA 16), (2, iA (0, [(1, 0)])), (3, iA (0, [(1, 1)]))], [iA (0, [(1, 2)]), iA (0, []), rA 1], [((1, 1), iA (0, [(1, 3)])), ((2, 2), iA (0, [(1, 4)])), ((16, 4), iA (0, [(1, 5)])), ((16, 5), iA (0, [(1, 6)]))], (45, [])),
  (39, [(0, 5), (0, 5), (0, 6), (0, 3), (0, 4), (0, 6), (0, 11)], [(0, rA 1), (1, rA 16), (2, iA (0, [(1, 0)])), (3, iA (0, [(1, 1)]))], [iA (0, [(1, 2)])], [((1, 1), iA (0, [(1, 3)])), ((2, 2), iA (0, [(1, 4)])), ((16, 4), iA (0, [(1, 5)])), ((16, 5), iA (0, [(1, 6)]))], (40, [])),
  (47, [(0, 5), (0, 5), (0, 6), (0, 3), (0, 6), (0, 11)], [(0, rA 1), (1, rA 16), (2, iA (0, [(1, 0)])), (3, iA (0, [(1, 1)])), (4, iA (0, [(1, 2)]))], [], [((1, 1), iA (0, [(1, 3)])), ((16, 4), iA (0, [(1, 4)])), ((16, 5), iA (0, [(1, 5)]))], (32, [])),
  (58, [(0, 5), (0, 5), (0, 6), (0, 23), (0, 3), (0, 4), (0, 24), (0, 6), (0, 11)], [(0, rA 1), (1, rA 16), (2, iA (0, [(1, 0)])), (3, iA (0, [(1, 1)])), (4, iA (0, [(1, 2)]))], [iA (0, [(1, 3)])], [((1, 1), iA (0, [(1, 4)])), ((2, 2), iA (0, [(1, 5)])), ((16, 3), iA (0, [(1, 6)])), ((16, 4), iA (0, [(1, 7)])), ((16, 5), iA (0, [(1, 8)]))], (21, [])),
  (70, [(0, 5), (0, 5), (0, 6), (0, 23), (0, 3), (0, 4), (0, 24), (0, 6), (1, 12)], [(0, rA 1), (1, rA 16), (2, iA (0, [(1, 0)])), (3, iA (0, [(1, 1)])), (4, iA (0, [(1, 2)])), (5, iA (0, [(1, 3)]))], [], [((1, 1), iA (0, [(1, 4)])), ((2, 2), iA (0, [(1, 5)])), ((16, 3), iA (0, [(1, 6)])), ((16, 4), iA (0, [(1, 7)])), ((16, 5), iA (0, [(1, 8)]))], (9, [])),
  (77, [(0, 5), (0, 5), (0, 6), (0, 23), (0, 3), (0, 24), (0, 6), (1, 12)], [(0, rA 1), (1, rA 16), (2, iA (0, [(1, 0)])), (3, iA (0, [(1, 1)])), (4, iA (0, [(1, 2)])), (5, iA (0, [(1, 3)]))], [], [((1, 1), iA (0, [(1, 4)])), ((16, 3), iA (0, [(1, 5)])), ((16, 4), iA (0, [(1, 6)])), ((16, 5), iA (0, [(1, 7)]))], (2, []))] = true := by decide +kernel
theorem r22 {l : Launch} {D : va_G} {tys : List (ClassId × FieldType)} {A : Nat → Prop} {ad : Nat → Nat} (hAD : ∀ i : Nat, ad (1000 + i) = D.2 1000 i) : CRok l D tys A ad GG 7 g22 := CR_of_vrf (dep := 6) hAD (List.forall_mem_cons.mpr ⟨r12 hAD, List.forall_mem_cons.mpr ⟨r19 hAD, fun c hc => by cases hc⟩⟩) T2OK_nil w22
def g23 : CR := (191, [(2, 2, 2), (2, 1000, 1000)], [], some (0, 0, 1), [], [])
theorem w23 : vrf GG [] [] 300 4 g23
  [(28, [(0, 4), (0, 1397), (4, 1401)], [(0, rA 2), (1, rA 1000), (2, iA (0, [(1, 0)]))], [], [((2, 2), iA (1, [])), ((2, 3), iA (0, [(1, 1)])), ((2, 4), iA (0, [(1, 2)]))], (602, [((-132), 0)]))] = true := by decide +kernel
theorem r23 {l : Launch} {D : va_G} {tys : List (ClassId × FieldType)} {A : Nat → Prop} {ad : Nat → Nat} (hAD : ∀ i : Nat, ad (1000 + i) = D.2 1000 i) : CRok l D tys A ad GG 5 g23 := CR_of_vrf (dep := 4) hAD (fun c hc => by cases hc) T2OK_nil w23
def g24 : CR := (191, [(2, 2, 2), (2, 1001, 1001)], [], some (0, 0, 1), [], [])
theorem w24 : vrf GG [] [] 300 4 g24
  [(28, [(0, 8), (0, 1393), (8, 1401)], [(0, rA 2), (1, rA 1001), (2, iA (0, [(1, 0)]))], [], [((2, 2), iA (1, [])), ((2, 3), iA (0, [(1, 1)])), ((2, 4), iA (0, [(1, 2)]))], (1130, [((-132), 0)]))] = true := by decide +kernel
theorem r24 {l : Launch} {D : va_G} {tys : List (ClassId × FieldType)} {A : Nat → Prop} {ad : Nat → Nat} (hAD : ∀ i : Nat, ad (1000 + i) = D.2 1000 i) : CRok l D tys A ad GG 5 g24 := CR_of_vrf (dep := 4) hAD (fun c hc => by cases hc) T2OK_nil w24
def g25 : CR := (191, [(2, 2, 2), (2, 1002, 1002)], [], some (0, 0, 1), [], [])
theorem w25 : vrf GG [] [] 300 4 g25
  [(28, [(0, 4), (0, 1397), (4, 1401)], [(0, rA 2), (1, rA 1002), (2, iA (0, [(1, 0)]))], [], [((2, 2), iA (1, [])), ((2, 3), iA (0, [(1, 1)])), ((2, 4), iA (0, [(1, 2)]))], (602, [((-132), 0)]))] = true := by decide +kernel
theorem r25 {l : Launch} {D : va_G} {tys : List (ClassId × FieldType)} {A : Nat → Prop} {ad : Nat → Nat} (hAD : ∀ i : Nat, ad (1000 + i) = D.2 1000 i) : CRok l D tys A ad GG 5 g25 := CR_of_vrf (dep := 4) hAD (fun c hc => by cases hc) T2OK_nil w25
def g26 : CR := (191, [(2, 2, 2), (2, 1003, 1003)], [], some (0, 0, 1), [], [])
theorem w26 : vrf GG [] [] 300 4 g26
  [(28, [(0, 4), (0, 1397), (4, 1401)], [(0, rA 2), (1, rA 1003), (2, iA (0, [(1, 0)]))], [], [((2, 2), iA (1, [])), ((2, 3), iA (0, [(1, 1)])), ((2, 4), iA (0, [(1, 2)]))], (602, [((-132), 0)]))] = true := by decide +kernel
theorem r26 {l : Launch} {D : va_G} {tys : List (ClassId × FieldType)} {A : Nat → Prop} {ad : Nat → Nat} (hAD : ∀ i : Nat, ad (1000 + i) = D.2 1000 i) : CRok l D tys A ad GG 5 g26 := CR_of_vrf (dep := 4) hAD (fun c hc => by cases hc) T2OK_nil w26
def g27 : CR := (191, [(2, 2, 2), (2, 1004, 1004)], [], some (0, 0, 1), [], [])
theorem w27 : vrf GG [] [] 300 4 g27
  [(28, [(0, 5), (0, 1396), (5, 1401)], [(0, rA 2), (1, rA 1004), (2, iA (0, [(1, 0)]))], [], [((2, 2), iA (1, [])), ((2, 3), iA (0, [(1, 1)])), ((2, 4), iA (0, [(1, 2)]))], (734, [((-132), 0)]))] = true := by decide +kernel
theorem r27 {l : Launch} {D : va_G} {tys : List (ClassId × FieldType)} {A : Nat → Prop} {ad : Nat → Nat} (hAD : ∀ i : Nat, ad (1000 + i) = D.2 1000 i) : CRok l D tys A ad GG 5 g27 := CR_of_vrf (dep := 4) hAD (fun c hc => by cases hc) T2OK_nil w27
def g28 : CR := (191, [(2, 2, 2), (2, 1005, 1005)], [], some (0, 0, 1), [], [])
theorem w28 : vrf GG [] [] 300 4 g28
  [(28, [(0, 4), (0, 1397), (4, 1401)], [(0, rA 2), (1, rA 1005), (2, iA (0, [(1, 0)]))], [], [((2, 2), iA (1, [])), ((2, 3), iA (0, [(1, 1)])), ((2, 4), iA (0, [(1, 2)]))], (602, [((-132), 0)]))] = true := by decide +kernel
theorem r28 {l : Launch} {D : va_G} {tys : List (ClassId × FieldType)} {A : Nat → Prop} {ad : Nat → Nat} (hAD : ∀ i : Nat, ad (1000 + i) = D.2 1000 i) : CRok l D tys A ad GG 5 g28 := CR_of_vrf (dep := 4) hAD (fun c hc => by cases hc) T2OK_nil w28
def g29 : CR := (191, [(2, 2, 2), (2, 1006, 1006)], [], some (0, 0, 1), [], [])
theorem w29 : vrf GG [] [] 300 4 g29
  [(28, [(0, 3), (0, 1398), (3, 1401)], [(0, rA 2), (1, rA 1006), (2, iA (0, [(1, 0)]))], [], [((2, 2), iA (1, [])), ((2, 3), iA (0, [(1, 1)])), ((2, 4), iA (0, [(1, 2)]))], (470, [((-132), 0)]))] = true := by decide +kernel
theorem r29 {l : Launch} {D : va_G} {tys : List (ClassId × FieldType)} {A : Nat → Prop} {ad : Nat → Nat} (hAD : ∀ i : Nat, ad (1000 + i) = D.2 1000 i) : CRok l D tys A ad GG 5 g29 := CR_of_vrf (dep := 4) hAD (fun c hc => by cases hc) T2OK_nil w29
