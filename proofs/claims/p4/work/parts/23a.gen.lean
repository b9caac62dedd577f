def g0 : CR := (185, [(2, 2, 2), (0, (-2147483648), 2147483647)], [], none, [], [2, 3])
theorem w0 : vrf GG [] [] 300 0 g0
  [(3, [((-2147483648), 2147483647), ((-8), 24)], [(0, rA 2), (1, iA (0, [(1, 0)])), (2, iA (0, [(1, 1)]))], [], [], (1036, [(116, 1)])),
  (49, [((-2147483648), 2147483647), (0, 24), (1, 1400)], [(0, rA 2), (1, iA (0, [(1, 0)])), (2, iA (0, [(1, 1)]))], [], [((2, 1), iA (0, [(1, 2)]))], (990, [(116, 1)]))] = true := by decide +kernel
theorem r0 {l : Launch} {D : va_G} {tys : List (ClassId × FieldType)} {A : Nat → Prop} {ad : Nat → Nat} (hAD : ∀ i : Nat, ad (1000 + i) = D.2 1000 i) : CRok l D tys A ad GG 1 g0 := CR_of_vrf (dep := 0) hAD (fun c hc => by cases hc) T2OK_nil w0
def g5 : CR := (111, [(2, 16, 16)], [], none, [], [22])
theorem w5 : vrf GG [] [] 300 1 g5
  [(2, [(0, 6)], [(0, rA 16), (1, iA (0, [(1, 0)]))], [], [], (27588, [((-3942), 0)])),
  (12, [(0, 5), ((-2147483648), 2147483647), (0, 24)], [(0, rA 16), (1, iA (0, [(1, 0)])), (2, iA (0, [(1, 1)])), (3, iA (0, [(1, 2)]))], [], [], (27346, [((-146), 2), ((-3942), 0)])),
  (48, [(0, 5), ((-2147483648), 2147483647), (0, 23), (0, 143)], [(0, rA 16), (1, iA (0, [(1, 0)])), (2, iA (0, [(1, 1)])), (3, iA (0, [(1, 2)])), (4, iA (0, [(1, 3)]))], [], [], (27310, [((-146), 2), ((-3942), 0)]))] = true := by decide +kernel
theorem r5 {l : Launch} {D : va_G} {tys : List (ClassId × FieldType)} {A : Nat → Prop} {ad : Nat → Nat} (hAD : ∀ i : Nat, ad (1000 + i) = D.2 1000 i) : CRok l D tys A ad GG 2 g5 := CR_of_vrf (dep := 1) hAD (fun c hc => by cases hc) T2OK_nil w5
def g6 : CR := (189, [(2, 2, 2), (0, 0, 1399), (0, 48, 48), (0, 57, 57)], [], some (0, 0, 1400), [], [])
theorem w6 : vrf GG [] [] 300 0 g6
  [(3, [(0, 1399), (0, 1400)], [(0, rA 2), (1, iA (0, [(1, 0)])), (2, iA (48, [])), (3, iA (57, [])), (4, iA (0, [(1, 1)]))], [], [], (168112, [((-120), 1)]))] = true := by decide +kernel
theorem r6 {l : Launch} {D : va_G} {tys : List (ClassId × FieldType)} {A : Nat → Prop} {ad : Nat → Nat} (hAD : ∀ i : Nat, ad (1000 + i) = D.2 1000 i) : CRok l D tys A ad GG 1 g6 := CR_of_vrf (dep := 0) hAD (fun c hc => by cases hc) T2OK_nil w6
def g7 : CR := (189, [(2, 2, 2), (0, 0, 1399), (0, 97, 97), (0, 122, 122)], [], some (0, 0, 1400), [], [])
theorem w7 : vrf GG [] [] 300 0 g7
  [(3, [(0, 1399), (0, 1400)], [(0, rA 2), (1, iA (0, [(1, 0)])), (2, iA (97, [])), (3, iA (122, [])), (4, iA (0, [(1, 1)]))], [], [], (168112, [((-120), 1)]))] = true := by decide +kernel
theorem r7 {l : Launch} {D : va_G} {tys : List (ClassId × FieldType)} {A : Nat → Prop} {ad : Nat → Nat} (hAD : ∀ i : Nat, ad (1000 + i) = D.2 1000 i) : CRok l D tys A ad GG 1 g7 := CR_of_vrf (dep := 0) hAD (fun c hc => by cases hc) T2OK_nil w7
def g8 : CR := (189, [(2, 2, 2), (0, 1, 1398), (0, 48, 48), (0, 57, 57)], [], some (0, 1, 1400), [], [])
theorem w8 : vrf GG [] [] 300 0 g8
  [(3, [(1, 1398), (1, 1400)], [(0, rA 2), (1, iA (0, [(1, 0)])), (2, iA (48, [])), (3, iA (57, [])), (4, iA (0, [(1, 1)]))], [], [], (168112, [((-120), 1)]))] = true := by decide +kernel
theorem r8 {l : Launch} {D : va_G} {tys : List (ClassId × FieldType)} {A : Nat → Prop} {ad : Nat → Nat} (hAD : ∀ i : Nat, ad (1000 + i) = D.2 1000 i) : CRok l D tys A ad GG 1 g8 := CR_of_vrf (dep := 0) hAD (fun c hc => by cases hc) T2OK_nil w8
def g9 : CR := (189, [(2, 2, 2), (0, 1, 1398), (0, 97, 97), (0, 122, 122)], [], some (0, 1, 1400), [], [])
theorem w9 : vrf GG [] [] 300 0 g9
  [(3, [(1, 1398), (1, 1400)], [(0, rA 2), (1, iA (0, [(1, 0)])), (2, iA (97, [])), (3, iA (122, [])), (4, iA (0, [(1, 1)]))], [], [], (168112, [((-120), 1)]))] = true := by decide +kernel
theorem r9 {l : Launch} {D : va_G} {tys : List (ClassId × FieldType)} {A : Nat → Prop} {ad : Nat → Nat} (hAD : ∀ i : Nat, ad (1000 + i) = D.2 1000 i) : CRok l D tys A ad GG 1 g9 := CR_of_vrf (dep := 0) hAD (fun c hc => by cases hc) T2OK_nil w9
def g10 : CR := (190, [(2, 2, 2), (0, 0, 1400)], [], some (0, (-2147483648), 2147483647), [], [])
theorem w10 : vrf GG [] [] 300 0 g10
  [(7, [(0, 1400), ((-2147483648), 2147483647), (0, 1401), (0, 1401)], [(0, rA 2), (1, iA (0, [(1, 0)])), (2, iA (0, [(1, 1)])), (3, iA (0, [(1, 2)]))], [], [((2, 3), iA (0, [(1, 3)]))], (157008, [((-112), 2)]))] = true := by decide +kernel
theorem r10 {l : Launch} {D : va_G} {tys : List (ClassId × FieldType)} {A : Nat → Prop} {ad : Nat → Nat} (hAD : ∀ i : Nat, ad (1000 + i) = D.2 1000 i) : CRok l D tys A ad GG 1 g10 := CR_of_vrf (dep := 0) hAD (fun c hc => by cases hc) T2OK_nil w10
def g11 : CR := (190, [(2, 2, 2), (0, 1, 1400)], [], some (0, (-2147483648), 2147483647), [], [])
theorem w11 : vrf GG [] [] 300 0 g11
  [(7, [(1, 1400), ((-2147483648), 2147483647), (0, 1401), (0, 1401)], [(0, rA 2), (1, iA (0, [(1, 0)])), (2, iA (0, [(1, 1)])), (3, iA (0, [(1, 2)]))], [], [((2, 3), iA (0, [(1, 3)]))], (157008, [((-112), 2)]))] = true := by decide +kernel
theorem r11 {l : Launch} {D : va_G} {tys : List (ClassId × FieldType)} {A : Nat → Prop} {ad : Nat → Nat} (hAD : ∀ i : Nat, ad (1000 + i) = D.2 1000 i) : CRok l D tys A ad GG 1 g11 := CR_of_vrf (dep := 0) hAD (fun c hc => by cases hc) T2OK_nil w11
def g12 : CR := (188, [(2, 2, 2)], [], none, [], [2])
theorem w12 : vrf GG [(1, g8), (1, g9), (1, g6), (1, g7), (1, g11), (1, g10)] [] 963 1 g12
  [(5, [(0, 1401), (0, 1401)], [(0, rA 2), (1, iA (0, [(1, 0)]))], [], [((2, 4), iA (0, [(1, 1)]))], (476668, [((-340), 0)])),
  (33, [(0, 1399), (1, 1400), (0, 1401)], [(0, rA 2), (1, iA (0, [(1, 0)]))], [], [((2, 1), iA (0, [(1, 1)])), ((2, 4), iA (0, [(1, 2)]))], (476640, [((-340), 0)]))] = true := by decide +kernel
theorem r12 {l : Launch} {D : va_G} {tys : List (ClassId × FieldType)} {A : Nat → Prop} {ad : Nat → Nat} (hAD : ∀ i : Nat, ad (1000 + i) = D.2 1000 i) : CRok l D tys A ad GG 2 g12 := CR_of_vrf (dep := 1) hAD (List.forall_mem_cons.mpr ⟨r8 hAD, List.forall_mem_cons.mpr ⟨r9 hAD, List.forall_mem_cons.mpr ⟨r6 hAD, List.forall_mem_cons.mpr ⟨r7 hAD, List.forall_mem_cons.mpr ⟨r11 hAD, List.forall_mem_cons.mpr ⟨r10 hAD, fun c hc => by cases hc⟩⟩⟩⟩⟩⟩) T2OK_nil w12
def g13 : CR := (346, [(2, 1007, 1007), (0, 0, 3)], [], some (0, 0, 122), [], [])
theorem w13 : vrf GG [] [] 300 3 g13
  [] = true := by decide +kernel
theorem r13 {l : Launch} {D : va_G} {tys : List (ClassId × FieldType)} {A : Nat → Prop} {ad : Nat → Nat} (hAD : ∀ i : Nat, ad (1000 + i) = D.2 1000 i) : CRok l D tys A ad GG 4 g13 := CR_of_vrf (dep := 3) hAD (fun c hc => by cases hc) T2OK_nil w13
def g14 : CR := (191, [(2, 2, 2), (2, 1007, 1007)], [], some (0, 0, 1), [], [])
theorem w14 : vrf GG [(4, g13)] [] 300 4 g14
  [(28, [(0, 4), (0, 1397), (4, 1401)], [(0, rA 2), (1, rA 1007), (2, iA (0, [(1, 0)]))], [], [((2, 2), iA (1, [])), ((2, 3), iA (0, [(1, 1)])), ((2, 4), iA (0, [(1, 2)]))], (602, [((-132), 0)]))] = true := by decide +kernel
theorem r14 {l : Launch} {D : va_G} {tys : List (ClassId × FieldType)} {A : Nat → Prop} {ad : Nat → Nat} (hAD : ∀ i : Nat, ad (1000 + i) = D.2 1000 i) : CRok l D tys A ad GG 5 g14 := CR_of_vrf (dep := 4) hAD (List.forall_mem_cons.mpr ⟨r13 hAD, fun c hc => by cases hc⟩) T2OK_nil w14
def g15 : CR := (346, [(2, 1008, 1008), (0, 0, 8)], [], some (0, 0, 122), [], [])
theorem w15 : vrf GG [] [] 300 3 g15
  [] = true := by decide +kernel
theorem r15 {l : Launch} {D : va_G} {tys : List (ClassId × FieldType)} {A : Nat → Prop} {ad : Nat → Nat} (hAD : ∀ i : Nat, ad (1000 + i) = D.2 1000 i) : CRok l D tys A ad GG 4 g15 := CR_of_vrf (dep := 3) hAD (fun c hc => by cases hc) T2OK_nil w15
def g16 : CR := (191, [(2, 2, 2), (2, 1008, 1008)], [], some (0, 0, 1), [], [])
theorem w16 : vrf GG [(4, g15)] [] 300 4 g16
  [(28, [(0, 9), (0, 1392), (9, 1401)], [(0, rA 2), (1, rA 1008), (2, iA (0, [(1, 0)]))], [], [((2, 2), iA (1, [])), ((2, 3), iA (0, [(1, 1)])), ((2, 4), iA (0, [(1, 2)]))], (1262, [((-132), 0)]))] = true := by decide +kernel
theorem r16 {l : Launch} {D : va_G} {tys : List (ClassId × FieldType)} {A : Nat → Prop} {ad : Nat → Nat} (hAD : ∀ i : Nat, ad (1000 + i) = D.2 1000 i) : CRok l D tys A ad GG 5 g16 := CR_of_vrf (dep := 4) hAD (List.forall_mem_cons.mpr ⟨r15 hAD, fun c hc => by cases hc⟩) T2OK_nil w16
def g17 : CR := (346, [(2, 1009, 1009), (0, 0, 5)], [], some (0, 0, 122), [], [])
theorem w17 : vrf GG [] [] 300 3 g17
  [] = true := by decide +kernel
theorem r17 {l : Launch} {D : va_G} {tys : List (ClassId × FieldType)} {A : Nat → Prop} {ad : Nat → Nat} (hAD : ∀ i : Nat, ad (1000 + i) = D.2 1000 i) : CRok l D tys A ad GG 4 g17 := CR_of_vrf (dep := 3) hAD (fun c hc => by cases hc) T2OK_nil w17
def g18 : CR := (191, [(2, 2, 2), (2, 1009, 1009)], [], some (0, 0, 1), [], [])
theorem w18 : vrf GG [(4, g17)] [] 300 4 g18
  [(28, [(0, 6), (0, 1395), (6, 1401)], [(0, rA 2), (1, rA 1009), (2, iA (0, [(1, 0)]))], [], [((2, 2), iA (1, [])), ((2, 3), iA (0, [(1, 1)])), ((2, 4), iA (0, [(1, 2)]))], (866, [((-132), 0)]))] = true := by decide +kernel
theorem r18 {l : Launch} {D : va_G} {tys : List (ClassId × FieldType)} {A : Nat → Prop} {ad : Nat → Nat} (hAD : ∀ i : Nat, ad (1000 + i) = D.2 1000 i) : CRok l D tys A ad GG 5 g18 := CR_of_vrf (dep := 4) hAD (List.forall_mem_cons.mpr ⟨r17 hAD, fun c hc => by cases hc⟩) T2OK_nil w18
def g19 : CR := (346, [(2, 1010, 1010), (0, 0, 4)], [], some (0, 0, 122), [], [])
theorem w19 : vrf GG [] [] 300 3 g19
  [] = true := by decide +kernel
theorem r19 {l : Launch} {D : va_G} {tys : List (ClassId × FieldType)} {A : Nat → Prop} {ad : Nat → Nat} (hAD : ∀ i : Nat, ad (1000 + i) = D.2 1000 i) : CRok l D tys A ad GG 4 g19 := CR_of_vrf (dep := 3) hAD (fun c hc => by cases hc) T2OK_nil w19
def g20 : CR := (191, [(2, 2, 2), (2, 1010, 1010)], [], some (0, 0, 1), [], [])
theorem w20 : vrf GG [(4, g19)] [] 300 4 g20
  [(28, [(0, 5), (0, 1396), (5, 1401)], [(0, rA 2), (1, rA 1010), (2, iA (0, [(1, 0)]))], [], [((2, 2), iA (1, [])), ((2, 3), iA (0, [(1, 1)])), ((2, 4), iA (0, [(1, 2)]))], (734, [((-132), 0)]))] = true := by decide +kernel
theorem r20 {l : Launch} {D : va_G} {tys : List (ClassId × FieldType)} {A : Nat → Prop} {ad : Nat → Nat} (hAD : ∀ i : Nat, ad (1000 + i) = D.2 1000 i) : CRok l D tys A ad GG 5 g20 := CR_of_vrf (dep := 4) hAD (List.forall_mem_cons.mpr ⟨r19 hAD, fun c hc => by cases hc⟩) T2OK_nil w20
def g21 : CR := (135, [(2, 1, 1), (2, 16, 16)], [], none, [], [1, 2, 16])
theorem w21 : vrf GG [(2, g12), (5, g14), (5, g16), (5, g18), (5, g20)] [] 792 6 g21
  [(9, [(0, 1)], [(0, rA 1), (1, rA 16)], [iA (0, [(1, 0)])], [], (67, [])),
  (17, [], [(0, rA 1), (1, rA 16)], [], [], (59, [])),
  (23, [], [(0, rA 1), (1, rA 16)], [], [], (53, [])),
  (31, [(0, 9), (0, 3), (0, 4)], [(0, rA 1), (1, rA 16)], [iA (0, [(1, 0)]), rA 16], [((1, 1), iA (0, [(1, 1)])), ((2, 2), iA (0, [(1, 2)]))], (45, [])),
  (40, [(0, 3), (0, 9)], [(0, rA 1), (1, rA 16)], [], [((1, 1), iA (0, [(1, 0)])), ((16, 1), iA (0, [(1, 1)]))], (36, [])),
  (47, [(0, 4), (0, 3), (0, 4), (0, 9)], [(0, rA 1), (1, rA 16)], [iA (0, [(1, 0)]), rA 16], [((1, 1), iA (0, [(1, 1)])), ((2, 2), iA (0, [(1, 2)])), ((16, 1), iA (0, [(1, 3)]))], (29, [])),
  (56, [(0, 3), (0, 9), (0, 4)], [(0, rA 1), (1, rA 16)], [], [((1, 1), iA (0, [(1, 0)])), ((16, 1), iA (0, [(1, 1)])), ((16, 2), iA (0, [(1, 2)]))], (20, [])),
  (64, [(0, 24), (0, 3), (0, 4), (0, 9), (0, 4)], [(0, rA 1), (1, rA 16)], [iA (0, [(1, 0)]), rA 16], [((1, 1), iA (0, [(1, 1)])), ((2, 2), iA (0, [(1, 2)])), ((16, 1), iA (0, [(1, 3)])), ((16, 2), iA (0, [(1, 4)]))], (12, [])),
  (74, [(0, 3), (0, 9), (0, 4), (0, 24)], [(0, rA 1), (1, rA 16)], [], [((1, 1), iA (0, [(1, 0)])), ((16, 1), iA (0, [(1, 1)])), ((16, 2), iA (0, [(1, 2)])), ((16, 3), iA (0, [(1, 3)]))], (2, []))] = true := by decide +kernel
theorem r21 {l : Launch} {D : va_G} {tys : List (ClassId × FieldType)} {A : Nat → Prop} {ad : Nat → Nat} (hAD : ∀ i : Nat, ad (1000 + i) = D.2 1000 i) : CRok l D tys A ad GG 7 g21 := CR_of_vrf (dep := 6) hAD (List.forall_mem_cons.mpr ⟨r12 hAD, List.forall_mem_cons.mpr ⟨r14 hAD, List.forall_mem_cons.mpr ⟨r16 hAD, List.forall_mem_cons.mpr ⟨r18 hAD, List.forall_mem_cons.mpr ⟨r20 hAD, fun c hc => by cases hc⟩⟩⟩⟩⟩) T2OK_nil w21
def g22 : CR := (136, [(2, 1, 1), (2, 16, 16)], [], none, [], [1, 2, 16, 17, 18, 19])
theorem w22 : vrf GG [(2, g12)] [] 510 2 g22
  [(41, [(0, 5), (0, 7), (1, 6)], [(0, rA 1), (1, rA 16), (2, iA (0, [(1, 0)])), (3, iA (0, [(1, 1)]))], [], [((16, 4), iA (0, [(1, 2)]))], (2092, [((-272), 1)])),
  (77, [(0, 5), (0, 6), (1, 6)], [(0, rA 1), (1, rA 16), (2, iA (0, [(1, 0)])), (3, iA (0, [(1, 1)]))], [], [((1, 1), iA (0, [])), ((16, 4), iA (0, [(1, 2)]))], (2056, [((-272), 1)])),
  (101, [(0, 5), (0, 6), (0, 8), (0, 3), (0, 4), (0, 9), (1, 6)], [(0, rA 1), (1, rA 16), (2, iA (0, [(1, 0)])), (3, iA (0, [(1, 1)])), (4, iA (0, [(1, 2)]))], [], [((1, 1), iA (0, [(1, 3)])), ((2, 2), iA (0, [(1, 4)])), ((16, 1), iA (0, [(1, 5)])), ((16, 4), iA (0, [(1, 6)]))], (2032, [((-272), 1)]))] = true := by decide +kernel
theorem r22 {l : Launch} {D : va_G} {tys : List (ClassId × FieldType)} {A : Nat → Prop} {ad : Nat → Nat} (hAD : ∀ i : Nat, ad (1000 + i) = D.2 1000 i) : CRok l D tys A ad GG 3 g22 := CR_of_vrf (dep := 2) hAD (List.forall_mem_cons.mpr ⟨r12 hAD, fun c hc => by cases hc⟩) T2OK_nil w22
def g23 : CR := (346, [(2, 1011, 1011), (0, 0, 1)], [], some (0, 0, 122), [], [])
theorem w23 : vrf GG [] [] 300 3 g23
  [] = true := by decide +kernel
theorem r23 {l : Launch} {D : va_G} {tys : List (ClassId × FieldType)} {A : Nat → Prop} {ad : Nat → Nat} (hAD : ∀ i : Nat, ad (1000 + i) = D.2 1000 i) : CRok l D tys A ad GG 4 g23 := CR_of_vrf (dep := 3) hAD (fun c hc => by cases hc) T2OK_nil w23
def g24 : CR := (191, [(2, 2, 2), (2, 1011, 1011)], [], some (0, 0, 1), [], [])
theorem w24 : vrf GG [(4, g23)] [] 300 4 g24
  [(28, [(0, 2), (0, 1399), (2, 1401)], [(0, rA 2), (1, rA 1011), (2, iA (0, [(1, 0)]))], [], [((2, 2), iA (1, [])), ((2, 3), iA (0, [(1, 1)])), ((2, 4), iA (0, [(1, 2)]))], (338, [((-132), 0)]))] = true := by decide +kernel
theorem r24 {l : Launch} {D : va_G} {tys : List (ClassId × FieldType)} {A : Nat → Prop} {ad : Nat → Nat} (hAD : ∀ i : Nat, ad (1000 + i) = D.2 1000 i) : CRok l D tys A ad GG 5 g24 := CR_of_vrf (dep := 4) hAD (List.forall_mem_cons.mpr ⟨r23 hAD, fun c hc => by cases hc⟩) T2OK_nil w24
def g25 : CR := (137, [(2, 1, 1), (2, 16, 16)], [], none, [], [1, 2, 22])
theorem w25 : vrf GG [(2, g12), (5, g24)] [] 736 6 g25
  [(5, [(0, 5), (0, 3), (0, 4), (0, 6)], [(0, rA 1), (1, rA 16)], [iA (0, [(1, 0)])], [((1, 1), iA (0, [(1, 1)])), ((2, 2), iA (0, [(1, 2)])), ((16, 4), iA (0, [(1, 3)]))], (56, [])),
  (17, [(0, 5), (0, 3), (0, 3), (0, 4), (0, 4), (0, 6)], [(0, rA 1), (1, rA 16), (2, iA (0, [(1, 0)]))], [iA (0, [(1, 1)])], [((1, 1), iA (0, [(1, 2)])), ((2, 2), iA (0, [(1, 3)])), ((16, 2), iA (0, [(1, 4)])), ((16, 4), iA (0, [(1, 5)]))], (44, [])),
  (24, [(0, 5), (0, 3), (0, 3), (0, 4), (0, 6)], [(0, rA 1), (1, rA 16), (2, iA (0, [(1, 0)])), (3, iA (0, [(1, 1)]))], [], [((1, 1), iA (0, [(1, 2)])), ((16, 2), iA (0, [(1, 3)])), ((16, 4), iA (0, [(1, 4)]))], (37, [])),
  (35, [(0, 5), (0, 3), (0, 23), (0, 3), (0, 4), (0, 4), (0, 24), (0, 6)], [(0, rA 1), (1, rA 16), (2, iA (0, [(1, 0)])), (3, iA (0, [(1, 1)]))], [iA (0, [(1, 2)])], [((1, 1), iA (0, [(1, 3)])), ((2, 2), iA (0, [(1, 4)])), ((16, 2), iA (0, [(1, 5)])), ((16, 3), iA (0, [(1, 6)])), ((16, 4), iA (0, [(1, 7)]))], (26, [])),
  (52, [(0, 5), (0, 3), (0, 23), (0, 3), (0, 4), (0, 4), (0, 24), (0, 6)], [(0, rA 1), (1, rA 16), (2, iA (0, [(1, 0)])), (3, iA (0, [(1, 1)])), (4, iA (0, [(1, 2)]))], [], [((1, 1), iA (0, [(1, 3)])), ((2, 2), iA (0, [(1, 4)])), ((16, 2), iA (0, [(1, 5)])), ((16, 3), iA (0, [(1, 6)])), ((16, 4), iA (0, [(1, 7)]))], (9, [])),
  (59, [(0, 5), (0, 3), (0, 23), (0, 3), (0, 4), (0, 24), (0, 6)], [(0, rA 1), (1, rA 16), (2, iA (0, [(1, 0)])), (3, iA (0, [(1, 1)])), (4, iA (0, [(1, 2)]))], [], [((1, 1), iA (0, [(1, 3)])), ((16, 2), iA (0, [(1, 4)])), ((16, 3), iA (0, [(1, 5)])), ((16, 4), iA (0, [(1, 6)]))], (2, []))] = true := by decide +kernel
theorem r25 {l : Launch} {D : va_G} {tys : List (ClassId × FieldType)} {A : Nat → Prop} {ad : Nat → Nat} (hAD : ∀ i : Nat, ad (1000 + i) = D.2 1000 i) : CRok l D tys A ad GG 7 g25 := CR_of_vrf (dep := 6) hAD (List.forall_mem_cons.mpr ⟨r12 hAD, List.forall_mem_cons.mpr ⟨r24 hAD, fun c hc => by cases hc⟩⟩) T2OK_nil w25
def g26 : CR := (138, [(2, 1, 1), (2, 16, 16)], [], none, [], [1, 2, 23])
theorem w26 : vrf GG [(2, g12)] [] 765 3 g26
  [(5, [(0, 5), (0, 3), (0, 4), (0, 6)], [(0, rA 1), (1, rA 16)], [iA (0, [(1, 0)])], [((1, 1), iA (0, [(1, 1)])), ((2, 2), iA (0, [(1, 2)])), ((16, 4), iA (0, [(1, 3)]))], (67, [])),
  (11, [(0, 5), (0, 5), (0, 3), (0, 4), (0, 6)], [(0, rA 1), (1, rA 16), (2, iA (0, [(1, 0)]))], [iA (0, [(1, 1)])], [((1, 1), iA (0, [(1, 2)])), ((2, 2), iA (0, [(1, 3)])), ((16, 4), iA (0, [(1, 4)]))], (61, [])),
  (18, [(0, 5), (0, 5), (0, 3), (0, 4), (0, 6)], [(0, rA 1), (1, rA 16), (2, iA (0, [(1, 0)])), (3, iA (0, [(1, 1)]))], [], [((1, 1), iA (0, [(1, 2)])), ((2, 2), iA (0, [(1, 3)])), ((16, 4), iA (0, [(1, 4)]))], (54, [])),
  (25, [(0, 5), (0, 5), (0, 7), (0, 3), (0, 4), (0, 6)], [(0, rA 1), (1, rA 16), (2, iA (0, [(1, 0)])), (3, iA (0, [(1, 1)]))], [iA (0, [(1, 2)]), iA (0, []), rA 1], [((1, 1), iA (0, [(1, 3)])), ((2, 2), iA (0, [(1, 4)])), ((16, 4), iA (0, [(1, 5)]))], (47, [])),
  (30, [(0, 5), (0, 5), (0, 6), (0, 3), (0, 4), (0, 6)], [(0, rA 1), (1, rA 16), (2, iA (0, [(1, 0)])), (3, iA (0, [(1, 1)]))], [iA (0, [(1, 2)])], [((1, 1), iA (0, [(1, 3)])), ((2, 2), iA (0, [(1, 4)])), ((16, 4), iA (0, [(1, 5)]))], (42, [])),
  (55, [(0, 5), (0, 5), (0, 6), (0, 35), ((-2147483648), 2147483647), (0, 35), (0, 3), (0, 4), (0, 6)], [(0, rA 1), (1, rA 16), (2, iA (0, [(1, 0)])), (3, iA (0, [(1, 1)])), (4, iA (0, [(1, 2)])), (5, iA (0, [(1, 3)]))], [iA (0, [(1, 4)]), iA (0, [(1, 5)]), rA 23], [((1, 1), iA (0, [(1, 6)])), ((2, 2), iA (0, [(1, 7)])), ((16, 4), iA (0, [(1, 8)]))], (17, [])),
  (63, [(0, 5), (0, 5), (0, 6), (0, 35), (0, 3), (0, 4), (0, 6)], [(0, rA 1), (1, rA 16), (2, iA (0, [(1, 0)])), (3, iA (0, [(1, 1)])), (4, iA (0, [(1, 2)])), (5, iA (0, [(1, 3)]))], [], [((1, 1), iA (0, [(1, 4)])), ((2, 2), iA (0, [(1, 5)])), ((16, 4), iA (0, [(1, 6)]))], (9, [])),
  (70, [(0, 5), (0, 5), (0, 6), (0, 35), (0, 3), (0, 6)], [(0, rA 1), (1, rA 16), (2, iA (0, [(1, 0)])), (3, iA (0, [(1, 1)])), (4, iA (0, [(1, 2)])), (5, iA (0, [(1, 3)]))], [], [((1, 1), iA (0, [(1, 4)])), ((16, 4), iA (0, [(1, 5)]))], (2, []))] = true := by decide +kernel
theorem r26 {l : Launch} {D : va_G} {tys : List (ClassId × FieldType)} {A : Nat → Prop} {ad : Nat → Nat} (hAD : ∀ i : Nat, ad (1000 + i) = D.2 1000 i) : CRok l D tys A ad GG 4 g26 := CR_of_vrf (dep := 3) hAD (List.forall_mem_cons.mpr ⟨r12 hAD, fun c hc => by cases hc⟩) T2OK_nil w26
def g27 : CR := (139, [(2, 1, 1), (2, 16, 16)], [], none, [], [1, 2, 16, 24, 25, 26, 27])
theorem w27 : vrf GG [(2, g12), (5, g24)] [] 996 6 g27
  [(14, [(1, 3)], [(0, rA 1), (1, rA 16)], [], [((1, 1), iA (0, [(1, 0)])), ((16, 5), iA (12, []))], (65, [])),
  (20, [(0, 5), (0, 3), (0, 4), (0, 6), (0, 11)], [(0, rA 1), (1, rA 16)], [iA (0, [(1, 0)])], [((1, 1), iA (0, [(1, 1)])), ((2, 2), iA (0, [(1, 2)])), ((16, 4), iA (0, [(1, 3)])), ((16, 5), iA (0, [(1, 4)]))], (59, [])),
  (26, [(0, 5), (0, 5), (0, 3), (0, 4), (0, 6), (0, 11)], [(0, rA 1), (1, rA 16), (2, iA (0, [(1, 0)]))], [iA (0, [(1, 1)])], [((1, 1), iA (0, [(1, 2)])), ((2, 2), iA (0, [(1, 3)])), ((16, 4), iA (0, [(1, 4)])), ((16, 5), iA (0, [(1, 5)]))], (53, [])),
  (34, [(0, 5), (0, 5), (0, 7), (0, 3), (0, 4), (0, 6), (0, 11)], [(0, rA 1), (1, rA 16), (2, iA (0, [(1, 0)])), (3, iA (0, [(1, 1)]))], [iA (0, [(1, 2)]), iA (0, []), rA 1], [((1, 1), iA (0, [(1, 3)])), ((2, 2), iA (0, [(1, 4)])), ((16, 4), iA (0, [(1, 5)])), ((16, 5), iA (0, [(1, 6)]))], (45, [])),
  (39, [(0, 5), (0, 5), (0, 6), (0, 3), (0, 4), (0, 6), (0, 11)], [(0, rA 1), (1, rA 16), (2, iA (0, [(1, 0)])), (3, iA (0, [(1, 1)]))], [iA (0, [(1, 2)])], [((1, 1), iA (0, [(1, 3)])), ((2, 2), iA (0, [(1, 4)])), ((16, 4), iA (0, [(1, 5)])), ((16, 5), iA (0, [(1, 6)]))], (40, [])),
  (47, [(0, 5), (0, 5), (0, 6), (0, 3), (0, 6), (0, 11)], [(0, rA 1), (1, rA 16), (2, iA (0, [(1, 0)])), (3, iA (0, [(1, 1)])), (4, iA (0, [(1, 2)]))], [], [((1, 1), iA (0, [(1, 3)])), ((16, 4), iA (0, [(1, 4)])), ((16, 5), iA (0, [(1, 5)]))], (32, [])),
  (58, [(0, 5), (0, 5), (0, 6), (0, 23), (0, 3), (0, 4), (0, 24), (0, 6), (0, 11)], [(0, rA 1), (1, rA 16), (2, iA (0, [(1, 0)])), (3, iA (0, [(1, 1)])), (4, iA (0, [(1, 2)]))], [iA (0, [(1, 3)])], [((1, 1), iA (0, [(1, 4)])), ((2, 2), iA (0, [(1, 5)])), ((16, 3), iA (0, [(1, 6)])), ((16, 4), iA (0, [(1, 7)])), ((16, 5), iA (0, [(1, 8)]))], (21, [])),
  (70, [(0, 5), (0, 5), (0, 6), (0, 23), (0, 3), (0, 4), (0, 24), (0, 6), (1, 12)], [(0, rA 1), (1, rA 16), (2, iA (0, [(1, 0)])), (3, iA (0, [(1, 1)])), (4, iA (0, [(1, 2)])), (5, iA (0, [(1, 3)]))], [], [((1, 1), iA (0, [(1, 4)])), ((2, 2), iA (0, [(1, 5)])), ((16, 3), iA (0, [(1, 6)])), ((16, 4), iA (0, [(1, 7)])), ((16, 5), iA (0, [(1, 8)]))], (9, [])),
  (77, [(0, 5), (0, 5), (0, 6), (0, 23), (0, 3), (0, 24), (0, 6), (1, 12)], [(0, rA 1), (1, rA 16), (2, iA (0, [(1, 0)])), (3, iA (0, [(1, 1)])), (4, iA (0, [(1, 2)])), (5, iA (0, [(1, 3)]))], [], [((1, 1), iA (0, [(1, 4)])), ((16, 3), iA (0, [(1, 5)])), ((16, 4), iA (0, [(1, 6)])), ((16, 5), iA (0, [(1, 7)]))], (2, []))] = true := by decide +kernel
theorem r27 {l : Launch} {D : va_G} {tys : List (ClassId × FieldType)} {A : Nat → Prop} {ad : Nat → Nat} (hAD : ∀ i : Nat, ad (1000 + i) = D.2 1000 i) : CRok l D tys A ad GG 7 g27 := CR_of_vrf (dep := 6) hAD (List.forall_mem_cons.mpr ⟨r12 hAD, List.forall_mem_cons.mpr ⟨r24 hAD, fun c hc => by cases hc⟩⟩) T2OK_nil w27
def g28 : CR := (346, [(2, 1000, 1000), (0, 0, 3)], [], some (0, 0, 122), [], [])
theorem w28 : vrf GG [] [] 300 3 g28
  [] = true := by decide +kernel
theorem r28 {l : Launch} {D : va_G} {tys : List (ClassId × FieldType)} {A : Nat → Prop} {ad : Nat → Nat} (hAD : ∀ i : Nat, ad (1000 + i) = D.2 1000 i) : CRok l D tys A ad GG 4 g28 := CR_of_vrf (dep := 3) hAD (fun c hc => by cases hc) T2OK_nil w28
def g29 : CR := (191, [(2, 2, 2), (2, 1000, 1000)], [], some (0, 0, 1), [], [])
theorem w29 : vrf GG [(4, g28)] [] 300 4 g29
  [(28, [(0, 4), (0, 1397), (4, 1401)], [(0, rA 2), (1, rA 1000), (2, iA (0, [(1, 0)]))], [], [((2, 2), iA (1, [])), ((2, 3), iA (0, [(1, 1)])), ((2, 4), iA (0, [(1, 2)]))], (602, [((-132), 0)]))] = true := by decide +kernel
theorem r29 {l : Launch} {D : va_G} {tys : List (ClassId × FieldType)} {A : Nat → Prop} {ad : Nat → Nat} (hAD : ∀ i : Nat, ad (1000 + i) = D.2 1000 i) : CRok l D tys A ad GG 5 g29 := CR_of_vrf (dep := 4) hAD (List.forall_mem_cons.mpr ⟨r28 hAD, fun c hc => by cases hc⟩) T2OK_nil w29
def g30 : CR := (346, [(2, 1001, 1001), (0, 0, 7)], [], some (0, 0, 122), [], [])
theorem w30 : vrf GG [] [] 300 3 g30
  [] = true := by decide +kernel
theorem r30 {l : Launch} {D : va_G} {tys : List (ClassId × FieldType)} {A : Nat → Prop} {ad : Nat → Nat} (hAD : ∀ i : Nat, ad (1000 + i) = D.2 1000 i) : CRok l D tys A ad GG 4 g30 := CR_of_vrf (dep := 3) hAD (fun c hc => by cases hc) T2OK_nil w30
def g31 : CR := (191, [(2, 2, 2), (2, 1001, 1001)], [], some (0, 0, 1), [], [])
theorem w31 : vrf GG [(4, g30)] [] 300 4 g31
  [(28, [(0, 8), (0, 1393), (8, 1401)], [(0, rA 2), (1, rA 1001), (2, iA (0, [(1, 0)]))], [], [((2, 2), iA (1, [])), ((2, 3), iA (0, [(1, 1)])), ((2, 4), iA (0, [(1, 2)]))], (1130, [((-132), 0)]))] = true := by decide +kernel
theorem r31 {l : Launch} {D : va_G} {tys : List (ClassId × FieldType)} {A : Nat → Prop} {ad : Nat → Nat} (hAD : ∀ i : Nat, ad (1000 + i) = D.2 1000 i) : CRok l D tys A ad GG 5 g31 := CR_of_vrf (dep := 4) hAD (List.forall_mem_cons.mpr ⟨r30 hAD, fun c hc => by cases hc⟩) T2OK_nil w31
def g32 : CR := (346, [(2, 1002, 1002), (0, 0, 3)], [], some (0, 0, 122), [], [])
theorem w32 : vrf GG [] [] 300 3 g32
  [] = true := by decide +kernel
theorem r32 {l : Launch} {D : va_G} {tys : List (ClassId × FieldType)} {A : Nat → Prop} {ad : Nat → Nat} (hAD : ∀ i : Nat, ad (1000 + i) = D.2 1000 i) : CRok l D tys A ad GG 4 g32 := CR_of_vrf (dep := 3) hAD (fun c hc => by cases hc) T2OK_nil w32
def g33 : CR := (191, [(2, 2, 2), (2, 1002, 1002)], [], some (0, 0, 1), [], [])
theorem w33 : vrf GG [(4, g32)] [] 300 4 g33
  [(28, [(0, 4), (0, 1397), (4, 1401)], [(0, rA 2), (1, rA 1002), (2, iA (0, [(1, 0)]))], [], [((2, 2), iA (1, [])), ((2, 3), iA (0, [(1, 1)])), ((2, 4), iA (0, [(1, 2)]))], (602, [((-132), 0)]))] = true := by decide +kernel
theorem r33 {l : Launch} {D : va_G} {tys : List (ClassId × FieldType)} {A : Nat → Prop} {ad : Nat → Nat} (hAD : ∀ i : Nat, ad (1000 + i) = D.2 1000 i) : CRok l D tys A ad GG 5 g33 := CR_of_vrf (dep := 4) hAD (List.forall_mem_cons.mpr ⟨r32 hAD, fun c hc => by cases hc⟩) T2OK_nil w33
def g34 : CR := (346, [(2, 1003, 1003), (0, 0, 3)], [], some (0, 0, 122), [], [])
theorem w34 : vrf GG [] [] 300 3 g34
  [] = true := by decide +kernel
theorem r34 {l : Launch} {D : va_G} {tys : List (ClassId × FieldType)} {A : Nat → Prop} {ad : Nat → Nat} (hAD : ∀ i : Nat, ad (1000 + i) = D.2 1000 i) : CRok l D tys A ad GG 4 g34 := CR_of_vrf (dep := 3) hAD (fun c hc => by cases hc) T2OK_nil w34
def g35 : CR := (191, [(2, 2, 2), (2, 1003, 1003)], [], some (0, 0, 1), [], [])
theorem w35 : vrf GG [(4, g34)] [] 300 4 g35
  [(28, [(0, 4), (0, 1397), (4, 1401)], [(0, rA 2), (1, rA 1003), (2, iA (0, [(1, 0)]))], [], [((2, 2), iA (1, [])), ((2, 3), iA (0, [(1, 1)])), ((2, 4), iA (0, [(1, 2)]))], (602, [((-132), 0)]))] = true := by decide +kernel
theorem r35 {l : Launch} {D : va_G} {tys : List (ClassId × FieldType)} {A : Nat → Prop} {ad : Nat → Nat} (hAD : ∀ i : Nat, ad (1000 + i) = D.2 1000 i) : CRok l D tys A ad GG 5 g35 := CR_of_vrf (dep := 4) hAD (List.forall_mem_cons.mpr ⟨r34 hAD, fun c hc => by cases hc⟩) T2OK_nil w35
def g36 : CR := (346, [(2, 1004, 1004), (0, 0, 4)], [], some (0, 0, 122), [], [])
theorem w36 : vrf GG [] [] 300 3 g36
  [] = true := by decide +kernel
theorem r36 {l : Launch} {D : va_G} {tys : List (ClassId × FieldType)} {A : Nat → Prop} {ad : Nat → Nat} (hAD : ∀ i : Nat, ad (1000 + i) = D.2 1000 i) : CRok l D tys A ad GG 4 g36 := CR_of_vrf (dep := 3) hAD (fun c hc => by cases hc) T2OK_nil w36
def g37 : CR := (191, [(2, 2, 2), (2, 1004, 1004)], [], some (0, 0, 1), [], [])
theorem w37 : vrf GG [(4, g36)] [] 300 4 g37
  [(28, [(0, 5), (0, 1396), (5, 1401)], [(0, rA 2), (1, rA 1004), (2, iA (0, [(1, 0)]))], [], [((2, 2), iA (1, [])), ((2, 3), iA (0, [(1, 1)])), ((2, 4), iA (0, [(1, 2)]))], (734, [((-132), 0)]))] = true := by decide +kernel
theorem r37 {l : Launch} {D : va_G} {tys : List (ClassId × FieldType)} {A : Nat → Prop} {ad : Nat → Nat} (hAD : ∀ i : Nat, ad (1000 + i) = D.2 1000 i) : CRok l D tys A ad GG 5 g37 := CR_of_vrf (dep := 4) hAD (List.forall_mem_cons.mpr ⟨r36 hAD, fun c hc => by cases hc⟩) T2OK_nil w37
def g38 : CR := (346, [(2, 1005, 1005), (0, 0, 3)], [], some (0, 0, 122), [], [])
theorem w38 : vrf GG [] [] 300 3 g38
  [] = true := by decide +kernel
theorem r38 {l : Launch} {D : va_G} {tys : List (ClassId × FieldType)} {A : Nat → Prop} {ad : Nat → Nat} (hAD : ∀ i : Nat, ad (1000 + i) = D.2 1000 i) : CRok l D tys A ad GG 4 g38 := CR_of_vrf (dep := 3) hAD (fun c hc => by cases hc) T2OK_nil w38
def g39 : CR := (191, [(2, 2, 2), (2, 1005, 1005)], [], some (0, 0, 1), [], [])
theorem w39 : vrf GG [(4, g38)] [] 300 4 g39
  [(28, [(0, 4), (0, 1397), (4, 1401)], [(0, rA 2), (1, rA 1005), (2, iA (0, [(1, 0)]))], [], [((2, 2), iA (1, [])), ((2, 3), iA (0, [(1, 1)])), ((2, 4), iA (0, [(1, 2)]))], (602, [((-132), 0)]))] = true := by decide +kernel
theorem r39 {l : Launch} {D : va_G} {tys : List (ClassId × FieldType)} {A : Nat → Prop} {ad : Nat → Nat} (hAD : ∀ i : Nat, ad (1000 + i) = D.2 1000 i) : CRok l D tys A ad GG 5 g39 := CR_of_vrf (dep := 4) hAD (List.forall_mem_cons.mpr ⟨r38 hAD, fun c hc => by cases hc⟩) T2OK_nil w39
def g40 : CR := (346, [(2, 1006, 1006), (0, 0, 2)], [], some (0, 0, 122), [], [])
theorem w40 : vrf GG [] [] 300 3 g40
  [] = true := by decide +kernel
theorem r40 {l : Launch} {D : va_G} {tys : List (ClassId × FieldType)} {A : Nat → Prop} {ad : Nat → Nat} (hAD : ∀ i : Nat, ad (1000 + i) = D.2 1000 i) : CRok l D tys A ad GG 4 g40 := CR_of_vrf (dep := 3) hAD (fun c hc => by cases hc) T2OK_nil w40
def g41 : CR := (191, [(2, 2, 2), (2, 1006, 1006)], [], some (0, 0, 1), [], [])
theorem w41 : vrf GG [(4, g40)] [] 300 4 g41
  [(28, [(0, 3), (0, 1398), (3, 1401)], [(0, rA 2), (1, rA 1006), (2, iA (0, [(1, 0)]))], [], [((2, 2), iA (1, [])), ((2, 3), iA (0, [(1, 1)])), ((2, 4), iA (0, [(1, 2)]))], (470, [((-132), 0)]))] = true := by decide +kernel
theorem r41 {l : Launch} {D : va_G} {tys : List (ClassId × FieldType)} {A : Nat → Prop} {ad : Nat → Nat} (hAD : ∀ i : Nat, ad (1000 + i) = D.2 1000 i) : CRok l D tys A ad GG 5 g41 := CR_of_vrf (dep := 4) hAD (List.forall_mem_cons.mpr ⟨r40 hAD, fun c hc => by cases hc⟩) T2OK_nil w41
def g42 : CR := (134, [(2, 1, 1), (2, 16, 16)], [], none, [], [1, 2, 16, 17, 18, 19, 20, 21, 22, 23, 24, 25, 26, 27])
theorem w42 : vrf GG [(7, g21), (3, g22), (7, g25), (4, g26), (7, g27), (2, g12), (5, g29), (5, g31), (5, g33), (5, g35), (5, g37), (5, g39), (5, g41)] [] 1331 7 g42
  [(12, [], [(0, rA 1), (1, rA 16)], [], [], (235, [])),
  (24, [(0, 1), ((-2147483648), 2147483647)], [(0, rA 1), (1, rA 16)], [iA (0, [(1, 0)])], [((16, 0), iA (0, [(1, 1)]))], (223, [])),
  (32, [], [(0, rA 1), (1, rA 16)], [], [], (215, [])),
  (44, [(0, 1), ((-2147483648), 2147483647)], [(0, rA 1), (1, rA 16)], [iA (0, [(1, 0)])], [((16, 0), iA (0, [(1, 1)]))], (203, [])),
  (52, [(0, 5), (0, 3), (0, 4), ((-2147483648), 2147483647), (0, 6)], [(0, rA 1), (1, rA 16)], [iA (0, [(1, 0)])], [((1, 1), iA (0, [(1, 1)])), ((2, 2), iA (0, [(1, 2)])), ((16, 0), iA (0, [(1, 3)])), ((16, 4), iA (0, [(1, 4)]))], (195, [])),
  (64, [(0, 5), (0, 4), (0, 5), (0, 3), (0, 4), ((-2147483648), 2147483647), (0, 6)], [(0, rA 1), (1, rA 16), (2, iA (0, [(1, 0)]))], [iA (0, [(1, 1)]), iA (0, [(1, 2)]), rA 19], [((1, 1), iA (0, [(1, 3)])), ((2, 2), iA (0, [(1, 4)])), ((16, 0), iA (0, [(1, 5)])), ((16, 4), iA (0, [(1, 6)]))], (183, [])),
  (67, [(0, 5), (0, 3), (0, 4), ((-2147483648), 2147483647), (0, 6)], [(0, rA 1), (1, rA 16), (2, iA (0, [(1, 0)]))], [], [((1, 1), iA (0, [(1, 1)])), ((2, 2), iA (0, [(1, 2)])), ((16, 0), iA (0, [(1, 3)])), ((16, 4), iA (0, [(1, 4)]))], (180, [])),
  (74, [(0, 5), (0, 3), ((-2147483648), 2147483647), (0, 6)], [(0, rA 1), (1, rA 16), (2, iA (0, [(1, 0)]))], [], [((1, 1), iA (0, [(1, 1)])), ((16, 0), iA (0, [(1, 2)])), ((16, 4), iA (0, [(1, 3)]))], (173, [])),
  (86, [(0, 1), ((-2147483648), 2147483647)], [(0, rA 1), (1, rA 16)], [iA (0, [(1, 0)])], [((16, 0), iA (0, [(1, 1)]))], (161, [])),
  (94, [(0, 5), (0, 3), (0, 4), ((-2147483648), 2147483647), (0, 6)], [(0, rA 1), (1, rA 16)], [iA (0, [(1, 0)])], [((1, 1), iA (0, [(1, 1)])), ((2, 2), iA (0, [(1, 2)])), ((16, 0), iA (0, [(1, 3)])), ((16, 4), iA (0, [(1, 4)]))], (153, [])),
  (107, [(0, 5), (0, 100), (0, 5), (0, 3), (0, 4), ((-2147483648), 2147483647), (0, 6)], [(0, rA 1), (1, rA 16), (2, iA (0, [(1, 0)]))], [iA (0, [(1, 1)]), iA (0, [(1, 2)]), rA 20], [((1, 1), iA (0, [(1, 3)])), ((2, 2), iA (0, [(1, 4)])), ((16, 0), iA (0, [(1, 5)])), ((16, 4), iA (0, [(1, 6)]))], (140, [])),
  (110, [(0, 5), (0, 3), (0, 4), ((-2147483648), 2147483647), (0, 6)], [(0, rA 1), (1, rA 16), (2, iA (0, [(1, 0)]))], [], [((1, 1), iA (0, [(1, 1)])), ((2, 2), iA (0, [(1, 2)])), ((16, 0), iA (0, [(1, 3)])), ((16, 4), iA (0, [(1, 4)]))], (137, [])),
  (117, [(0, 5), (0, 3), ((-2147483648), 2147483647), (0, 6)], [(0, rA 1), (1, rA 16), (2, iA (0, [(1, 0)]))], [], [((1, 1), iA (0, [(1, 1)])), ((16, 0), iA (0, [(1, 2)])), ((16, 4), iA (0, [(1, 3)]))], (130, [])),
  (129, [(0, 1), ((-2147483648), 2147483647)], [(0, rA 1), (1, rA 16)], [iA (0, [(1, 0)])], [((16, 0), iA (0, [(1, 1)]))], (118, [])),
  (137, [((-2147483648), 2147483647)], [(0, rA 1), (1, rA 16)], [], [((16, 0), iA (0, [(1, 0)]))], (110, [])),
  (149, [(0, 1), ((-2147483648), 2147483647)], [(0, rA 1), (1, rA 16)], [iA (0, [(1, 0)])], [((16, 0), iA (0, [(1, 1)]))], (98, [])),
  (157, [((-2147483648), 2147483647)], [(0, rA 1), (1, rA 16)], [], [((16, 0), iA (0, [(1, 0)]))], (90, [])),
  (169, [(0, 1), ((-2147483648), 2147483647)], [(0, rA 1), (1, rA 16)], [iA (0, [(1, 0)])], [((16, 0), iA (0, [(1, 1)]))], (78, [])),
  (177, [], [(0, rA 1), (1, rA 16)], [], [], (70, [])),
  (189, [(0, 1), ((-2147483648), 2147483647)], [(0, rA 1), (1, rA 16)], [iA (0, [(1, 0)])], [((16, 0), iA (0, [(1, 1)]))], (58, [])),
  (197, [(0, 5), (0, 3), (0, 4), ((-2147483648), 2147483647), (0, 6)], [(0, rA 1), (1, rA 16)], [iA (0, [(1, 0)])], [((1, 1), iA (0, [(1, 1)])), ((2, 2), iA (0, [(1, 2)])), ((16, 0), iA (0, [(1, 3)])), ((16, 4), iA (0, [(1, 4)]))], (50, [])),
  (203, [(0, 5), (0, 5), (0, 3), (0, 4), ((-2147483648), 2147483647), (0, 6)], [(0, rA 1), (1, rA 16), (2, iA (0, [(1, 0)]))], [iA (0, [(1, 1)])], [((1, 1), iA (0, [(1, 2)])), ((2, 2), iA (0, [(1, 3)])), ((16, 0), iA (0, [(1, 4)])), ((16, 4), iA (0, [(1, 5)]))], (44, [])),
  (210, [(0, 5), (0, 5), (0, 3), (0, 4), ((-2147483648), 2147483647), (0, 6)], [(0, rA 1), (1, rA 16), (2, iA (0, [(1, 0)])), (3, iA (0, [(1, 1)]))], [], [((1, 1), iA (0, [(1, 2)])), ((2, 2), iA (0, [(1, 3)])), ((16, 0), iA (0, [(1, 4)])), ((16, 4), iA (0, [(1, 5)]))], (37, [])),
  (223, [(0, 5), (0, 5), ((-2147483648), 2147483647), (0, 5), (0, 3), (0, 4), ((-2147483648), 2147483647), (0, 6)], [(0, rA 1), (1, rA 16), (2, iA (0, [(1, 0)])), (3, iA (0, [(1, 1)]))], [iA (0, [(1, 2)]), iA (0, [(1, 3)]), rA 21], [((1, 1), iA (0, [(1, 4)])), ((2, 2), iA (0, [(1, 5)])), ((16, 0), iA (0, [(1, 6)])), ((16, 4), iA (0, [(1, 7)]))], (24, [])),
  (230, [(0, 5), (0, 5), (0, 3), (0, 4), ((-2147483648), 2147483647), (0, 6)], [(0, rA 1), (1, rA 16), (2, iA (0, [(1, 0)])), (3, iA (0, [(1, 1)]))], [], [((1, 1), iA (0, [(1, 2)])), ((2, 2), iA (0, [(1, 3)])), ((16, 0), iA (0, [(1, 4)])), ((16, 4), iA (0, [(1, 5)]))], (17, [])),
  (237, [(0, 5), (0, 5), (0, 3), ((-2147483648), 2147483647), (0, 6)], [(0, rA 1), (1, rA 16), (2, iA (0, [(1, 0)])), (3, iA (0, [(1, 1)]))], [], [((1, 1), iA (0, [(1, 2)])), ((16, 0), iA (0, [(1, 3)])), ((16, 4), iA (0, [(1, 4)]))], (10, [])),
  (245, [], [(0, rA 1), (1, rA 16)], [], [], (2, []))] = true := by decide +kernel
theorem r42 {l : Launch} {D : va_G} {tys : List (ClassId × FieldType)} {A : Nat → Prop} {ad : Nat → Nat} (hAD : ∀ i : Nat, ad (1000 + i) = D.2 1000 i) : CRok l D tys A ad GG 8 g42 := CR_of_vrf (dep := 7) hAD (List.forall_mem_cons.mpr ⟨r21 hAD, List.forall_mem_cons.mpr ⟨r22 hAD, List.forall_mem_cons.mpr ⟨r25 hAD, List.forall_mem_cons.mpr ⟨r26 hAD, List.forall_mem_cons.mpr ⟨r27 hAD, List.forall_mem_cons.mpr ⟨r12 hAD, List.forall_mem_cons.mpr ⟨r29 hAD, List.forall_mem_cons.mpr ⟨r31 hAD, List.forall_mem_cons.mpr ⟨r33 hAD, List.forall_mem_cons.mpr ⟨r35 hAD, List.forall_mem_cons.mpr ⟨r37 hAD, List.forall_mem_cons.mpr ⟨r39 hAD, List.forall_mem_cons.mpr ⟨r41 hAD, fun c hc => by cases hc⟩⟩⟩⟩⟩⟩⟩⟩⟩⟩⟩⟩⟩) T2OK_nil w42
def g43 : CR := (149, [(2, 17, 17), (0, 0, 0)], [], none, [], [17])
theorem w43 : vrf GG [] [] 300 0 g43
  [(2, [(0, 6)], [(0, rA 17), (1, iA (0, [])), (2, iA (0, [(1, 0)]))], [], [], (288, [((-42), 0)]))] = true := by decide +kernel
theorem r43 {l : Launch} {D : va_G} {tys : List (ClassId × FieldType)} {A : Nat → Prop} {ad : Nat → Nat} (hAD : ∀ i : Nat, ad (1000 + i) = D.2 1000 i) : CRok l D tys A ad GG 1 g43 := CR_of_vrf (dep := 0) hAD (fun c hc => by cases hc) T2OK_nil w43
def g44 : CR := (149, [(2, 18, 18), (0, 0, 0)], [], none, [], [18])
theorem w44 : vrf GG [] [] 300 0 g44
  [(2, [(0, 36)], [(0, rA 18), (1, iA (0, [])), (2, iA (0, [(1, 0)]))], [], [], (1548, [((-42), 0)]))] = true := by decide +kernel
theorem r44 {l : Launch} {D : va_G} {tys : List (ClassId × FieldType)} {A : Nat → Prop} {ad : Nat → Nat} (hAD : ∀ i : Nat, ad (1000 + i) = D.2 1000 i) : CRok l D tys A ad GG 1 g44 := CR_of_vrf (dep := 0) hAD (fun c hc => by cases hc) T2OK_nil w44
def g45 : CR := (149, [(2, 19, 19), (0, 0, 0)], [], none, [], [19])
theorem w45 : vrf GG [] [] 300 0 g45
  [(2, [(0, 6)], [(0, rA 19), (1, iA (0, [])), (2, iA (0, [(1, 0)]))], [], [], (288, [((-42), 0)]))] = true := by decide +kernel
theorem r45 {l : Launch} {D : va_G} {tys : List (ClassId × FieldType)} {A : Nat → Prop} {ad : Nat → Nat} (hAD : ∀ i : Nat, ad (1000 + i) = D.2 1000 i) : CRok l D tys A ad GG 1 g45 := CR_of_vrf (dep := 0) hAD (fun c hc => by cases hc) T2OK_nil w45
def g46 : CR := (149, [(2, 20, 20), (0, 0, 0)], [], none, [], [20])
theorem w46 : vrf GG [] [] 300 0 g46
  [(2, [(0, 6)], [(0, rA 20), (1, iA (0, [])), (2, iA (0, [(1, 0)]))], [], [], (288, [((-42), 0)]))] = true := by decide +kernel
theorem r46 {l : Launch} {D : va_G} {tys : List (ClassId × FieldType)} {A : Nat → Prop} {ad : Nat → Nat} (hAD : ∀ i : Nat, ad (1000 + i) = D.2 1000 i) : CRok l D tys A ad GG 1 g46 := CR_of_vrf (dep := 0) hAD (fun c hc => by cases hc) T2OK_nil w46
def g47 : CR := (149, [(2, 21, 21), (0, 0, 0)], [], none, [], [21])
theorem w47 : vrf GG [] [] 300 0 g47
  [(2, [(0, 6)], [(0, rA 21), (1, iA (0, [])), (2, iA (0, [(1, 0)]))], [], [], (288, [((-42), 0)]))] = true := by decide +kernel
theorem r47 {l : Launch} {D : va_G} {tys : List (ClassId × FieldType)} {A : Nat → Prop} {ad : Nat → Nat} (hAD : ∀ i : Nat, ad (1000 + i) = D.2 1000 i) : CRok l D tys A ad GG 1 g47 := CR_of_vrf (dep := 0) hAD (fun c hc => by cases hc) T2OK_nil w47
def g48 : CR := (149, [(2, 22, 22), (0, (-1), (-1))], [], none, [], [22])
theorem w48 : vrf GG [] [] 300 0 g48
  [(2, [(0, 144)], [(0, rA 22), (1, iA ((-1), [])), (2, iA (0, [(1, 0)]))], [], [], (6084, [((-42), 0)]))] = true := by decide +kernel
theorem r48 {l : Launch} {D : va_G} {tys : List (ClassId × FieldType)} {A : Nat → Prop} {ad : Nat → Nat} (hAD : ∀ i : Nat, ad (1000 + i) = D.2 1000 i) : CRok l D tys A ad GG 1 g48 := CR_of_vrf (dep := 0) hAD (fun c hc => by cases hc) T2OK_nil w48
def g49 : CR := (149, [(2, 23, 23), (0, 0, 0)], [], none, [], [23])
theorem w49 : vrf GG [] [] 300 0 g49
  [(2, [(0, 36)], [(0, rA 23), (1, iA (0, [])), (2, iA (0, [(1, 0)]))], [], [], (1548, [((-42), 0)]))] = true := by decide +kernel
theorem r49 {l : Launch} {D : va_G} {tys : List (ClassId × FieldType)} {A : Nat → Prop} {ad : Nat → Nat} (hAD : ∀ i : Nat, ad (1000 + i) = D.2 1000 i) : CRok l D tys A ad GG 1 g49 := CR_of_vrf (dep := 0) hAD (fun c hc => by cases hc) T2OK_nil w49
def g50 : CR := (149, [(2, 24, 24), (0, 0, 0)], [], none, [], [24])
theorem w50 : vrf GG [] [] 300 0 g50
  [(2, [(0, 12)], [(0, rA 24), (1, iA (0, [])), (2, iA (0, [(1, 0)]))], [], [], (540, [((-42), 0)]))] = true := by decide +kernel
theorem r50 {l : Launch} {D : va_G} {tys : List (ClassId × FieldType)} {A : Nat → Prop} {ad : Nat → Nat} (hAD : ∀ i : Nat, ad (1000 + i) = D.2 1000 i) : CRok l D tys A ad GG 1 g50 := CR_of_vrf (dep := 0) hAD (fun c hc => by cases hc) T2OK_nil w50
def g51 : CR := (149, [(2, 25, 25), (0, 0, 0)], [], none, [], [25])
theorem w51 : vrf GG [] [] 300 0 g51
  [(2, [(0, 12)], [(0, rA 25), (1, iA (0, [])), (2, iA (0, [(1, 0)]))], [], [], (540, [((-42), 0)]))] = true := by decide +kernel
theorem r51 {l : Launch} {D : va_G} {tys : List (ClassId × FieldType)} {A : Nat → Prop} {ad : Nat → Nat} (hAD : ∀ i : Nat, ad (1000 + i) = D.2 1000 i) : CRok l D tys A ad GG 1 g51 := CR_of_vrf (dep := 0) hAD (fun c hc => by cases hc) T2OK_nil w51
def g52 : CR := (149, [(2, 26, 26), (0, 0, 0)], [], none, [], [26])
theorem w52 : vrf GG [] [] 300 0 g52
  [(2, [(0, 12)], [(0, rA 26), (1, iA (0, [])), (2, iA (0, [(1, 0)]))], [], [], (540, [((-42), 0)]))] = true := by decide +kernel
theorem r52 {l : Launch} {D : va_G} {tys : List (ClassId × FieldType)} {A : Nat → Prop} {ad : Nat → Nat} (hAD : ∀ i : Nat, ad (1000 + i) = D.2 1000 i) : CRok l D tys A ad GG 1 g52 := CR_of_vrf (dep := 0) hAD (fun c hc => by cases hc) T2OK_nil w52
def g53 : CR := (149, [(2, 27, 27), (0, 0, 0)], [], none, [], [27])
theorem w53 : vrf GG [] [] 300 0 g53
  [(2, [(0, 12)], [(0, rA 27), (1, iA (0, [])), (2, iA (0, [(1, 0)]))], [], [], (540, [((-42), 0)]))] = true := by decide +kernel
theorem r53 {l : Launch} {D : va_G} {tys : List (ClassId × FieldType)} {A : Nat → Prop} {ad : Nat → Nat} (hAD : ∀ i : Nat, ad (1000 + i) = D.2 1000 i) : CRok l D tys A ad GG 1 g53 := CR_of_vrf (dep := 0) hAD (fun c hc => by cases hc) T2OK_nil w53
def g54 : CR := (133, [(2, 1, 1), (2, 16, 16)], [], none, [], [1, 2, 16, 17, 18, 19, 20, 21, 22, 23, 24, 25, 26, 27])
theorem w54 : vrf GG [(2, g5), (8, g42), (1, g43), (1, g44), (1, g45), (1, g46), (1, g47), (1, g48), (1, g49), (1, g50), (1, g51), (1, g52), (1, g53), (2, g12)] [] 300 8 g54
  [(30, [(0, 1400), ((-2147483648), 2147483647)], [(0, rA 1), (1, rA 16), (2, iA (0, [(1, 0)]))], [], [((16, 0), iA (0, [(1, 1)]))], (260524, [((-186), 0)]))] = true := by decide +kernel
theorem r54 {l : Launch} {D : va_G} {tys : List (ClassId × FieldType)} {A : Nat → Prop} {ad : Nat → Nat} (hAD : ∀ i : Nat, ad (1000 + i) = D.2 1000 i) : CRok l D tys A ad GG 9 g54 := CR_of_vrf (dep := 8) hAD (List.forall_mem_cons.mpr ⟨r5 hAD, List.forall_mem_cons.mpr ⟨r42 hAD, List.forall_mem_cons.mpr ⟨r43 hAD, List.forall_mem_cons.mpr ⟨r44 hAD, List.forall_mem_cons.mpr ⟨r45 hAD, List.forall_mem_cons.mpr ⟨r46 hAD, List.forall_mem_cons.mpr ⟨r47 hAD, List.forall_mem_cons.mpr ⟨r48 hAD, List.forall_mem_cons.mpr ⟨r49 hAD, List.forall_mem_cons.mpr ⟨r50 hAD, List.forall_mem_cons.mpr ⟨r51 hAD, List.forall_mem_cons.mpr ⟨r52 hAD, List.forall_mem_cons.mpr ⟨r53 hAD, List.forall_mem_cons.mpr ⟨r12 hAD, fun c hc => by cases hc⟩⟩⟩⟩⟩⟩⟩⟩⟩⟩⟩⟩⟩⟩) T2OK_nil w54
def g55 : CR := (150, [(2, 17, 17), (2, 5, 5)], [], none, [], [5])
theorem w55 : vrf GG [] [] 300 0 g55
  [(2, [(0, 6)], [(0, rA 17), (1, rA 5), (2, iA (0, [(1, 0)]))], [], [], (400, [((-58), 0)]))] = true := by decide +kernel
theorem r55 {l : Launch} {D : va_G} {tys : List (ClassId × FieldType)} {A : Nat → Prop} {ad : Nat → Nat} (hAD : ∀ i : Nat, ad (1000 + i) = D.2 1000 i) : CRok l D tys A ad GG 1 g55 := CR_of_vrf (dep := 0) hAD (fun c hc => by cases hc) T2OK_nil w55
def g56 : CR := (150, [(2, 18, 18), (2, 6, 6)], [], none, [], [6])
theorem w56 : vrf GG [] [] 300 0 g56
  [(2, [(0, 36)], [(0, rA 18), (1, rA 6), (2, iA (0, [(1, 0)]))], [], [], (2140, [((-58), 0)]))] = true := by decide +kernel
theorem r56 {l : Launch} {D : va_G} {tys : List (ClassId × FieldType)} {A : Nat → Prop} {ad : Nat → Nat} (hAD : ∀ i : Nat, ad (1000 + i) = D.2 1000 i) : CRok l D tys A ad GG 1 g56 := CR_of_vrf (dep := 0) hAD (fun c hc => by cases hc) T2OK_nil w56
def g57 : CR := (150, [(2, 19, 19), (2, 7, 7)], [], none, [], [7])
theorem w57 : vrf GG [] [] 300 0 g57
  [(2, [(0, 6)], [(0, rA 19), (1, rA 7), (2, iA (0, [(1, 0)]))], [], [], (400, [((-58), 0)]))] = true := by decide +kernel
theorem r57 {l : Launch} {D : va_G} {tys : List (ClassId × FieldType)} {A : Nat → Prop} {ad : Nat → Nat} (hAD : ∀ i : Nat, ad (1000 + i) = D.2 1000 i) : CRok l D tys A ad GG 1 g57 := CR_of_vrf (dep := 0) hAD (fun c hc => by cases hc) T2OK_nil w57
def g58 : CR := (150, [(2, 20, 20), (2, 8, 8)], [], none, [], [8])
theorem w58 : vrf GG [] [] 300 0 g58
  [(2, [(0, 6)], [(0, rA 20), (1, rA 8), (2, iA (0, [(1, 0)]))], [], [], (400, [((-58), 0)]))] = true := by decide +kernel
theorem r58 {l : Launch} {D : va_G} {tys : List (ClassId × FieldType)} {A : Nat → Prop} {ad : Nat → Nat} (hAD : ∀ i : Nat, ad (1000 + i) = D.2 1000 i) : CRok l D tys A ad GG 1 g58 := CR_of_vrf (dep := 0) hAD (fun c hc => by cases hc) T2OK_nil w58
def g59 : CR := (150, [(2, 21, 21), (2, 9, 9)], [], none, [], [9])
theorem w59 : vrf GG [] [] 300 0 g59
  [(2, [(0, 6)], [(0, rA 21), (1, rA 9), (2, iA (0, [(1, 0)]))], [], [], (400, [((-58), 0)]))] = true := by decide +kernel
theorem r59 {l : Launch} {D : va_G} {tys : List (ClassId × FieldType)} {A : Nat → Prop} {ad : Nat → Nat} (hAD : ∀ i : Nat, ad (1000 + i) = D.2 1000 i) : CRok l D tys A ad GG 1 g59 := CR_of_vrf (dep := 0) hAD (fun c hc => by cases hc) T2OK_nil w59
def g60 : CR := (150, [(2, 22, 22), (2, 10, 10)], [], none, [], [10])
theorem w60 : vrf GG [] [] 300 0 g60
  [(2, [(0, 144)], [(0, rA 22), (1, rA 10), (2, iA (0, [(1, 0)]))], [], [], (8404, [((-58), 0)]))] = true := by decide +kernel
theorem r60 {l : Launch} {D : va_G} {tys : List (ClassId × FieldType)} {A : Nat → Prop} {ad : Nat → Nat} (hAD : ∀ i : Nat, ad (1000 + i) = D.2 1000 i) : CRok l D tys A ad GG 1 g60 := CR_of_vrf (dep := 0) hAD (fun c hc => by cases hc) T2OK_nil w60
def g61 : CR := (150, [(2, 23, 23), (2, 11, 11)], [], none, [], [11])
theorem w61 : vrf GG [] [] 300 0 g61
  [(2, [(0, 36)], [(0, rA 23), (1, rA 11), (2, iA (0, [(1, 0)]))], [], [], (2140, [((-58), 0)]))] = true := by decide +kernel
theorem r61 {l : Launch} {D : va_G} {tys : List (ClassId × FieldType)} {A : Nat → Prop} {ad : Nat → Nat} (hAD : ∀ i : Nat, ad (1000 + i) = D.2 1000 i) : CRok l D tys A ad GG 1 g61 := CR_of_vrf (dep := 0) hAD (fun c hc => by cases hc) T2OK_nil w61
def g62 : CR := (150, [(2, 24, 24), (2, 12, 12)], [], none, [], [12])
theorem w62 : vrf GG [] [] 300 0 g62
  [(2, [(0, 12)], [(0, rA 24), (1, rA 12), (2, iA (0, [(1, 0)]))], [], [], (748, [((-58), 0)]))] = true := by decide +kernel
theorem r62 {l : Launch} {D : va_G} {tys : List (ClassId × FieldType)} {A : Nat → Prop} {ad : Nat → Nat} (hAD : ∀ i : Nat, ad (1000 + i) = D.2 1000 i) : CRok l D tys A ad GG 1 g62 := CR_of_vrf (dep := 0) hAD (fun c hc => by cases hc) T2OK_nil w62
def g63 : CR := (150, [(2, 25, 25), (2, 13, 13)], [], none, [], [13])
theorem w63 : vrf GG [] [] 300 0 g63
  [(2, [(0, 12)], [(0, rA 25), (1, rA 13), (2, iA (0, [(1, 0)]))], [], [], (748, [((-58), 0)]))] = true := by decide +kernel
theorem r63 {l : Launch} {D : va_G} {tys : List (ClassId × FieldType)} {A : Nat → Prop} {ad : Nat → Nat} (hAD : ∀ i : Nat, ad (1000 + i) = D.2 1000 i) : CRok l D tys A ad GG 1 g63 := CR_of_vrf (dep := 0) hAD (fun c hc => by cases hc) T2OK_nil w63
def g64 : CR := (150, [(2, 26, 26), (2, 14, 14)], [], none, [], [14])
theorem w64 : vrf GG [] [] 300 0 g64
  [(2, [(0, 12)], [(0, rA 26), (1, rA 14), (2, iA (0, [(1, 0)]))], [], [], (748, [((-58), 0)]))] = true := by decide +kernel
theorem r64 {l : Launch} {D : va_G} {tys : List (ClassId × FieldType)} {A : Nat → Prop} {ad : Nat → Nat} (hAD : ∀ i : Nat, ad (1000 + i) = D.2 1000 i) : CRok l D tys A ad GG 1 g64 := CR_of_vrf (dep := 0) hAD (fun c hc => by cases hc) T2OK_nil w64
def g65 : CR := (150, [(2, 27, 27), (2, 15, 15)], [], none, [], [15])
theorem w65 : vrf GG [] [] 300 0 g65
  [(2, [(0, 12)], [(0, rA 27), (1, rA 15), (2, iA (0, [(1, 0)]))], [], [], (748, [((-58), 0)]))] = true := by decide +kernel
theorem r65 {l : Launch} {D : va_G} {tys : List (ClassId × FieldType)} {A : Nat → Prop} {ad : Nat → Nat} (hAD : ∀ i : Nat, ad (1000 + i) = D.2 1000 i) : CRok l D tys A ad GG 1 g65 := CR_of_vrf (dep := 0) hAD (fun c hc => by cases hc) T2OK_nil w65
def g66 : CR := (149, [(2, 34, 34), (0, 0, 0)], [], none, [], [34])
theorem w66 : vrf GG [] [] 300 0 g66
  [(2, [(0, 12)], [(0, rA 34), (1, iA (0, [])), (2, iA (0, [(1, 0)]))], [], [], (540, [((-42), 0)]))] = true := by decide +kernel
theorem r66 {l : Launch} {D : va_G} {tys : List (ClassId × FieldType)} {A : Nat → Prop} {ad : Nat → Nat} (hAD : ∀ i : Nat, ad (1000 + i) = D.2 1000 i) : CRok l D tys A ad GG 1 g66 := CR_of_vrf (dep := 0) hAD (fun c hc => by cases hc) T2OK_nil w66
def g67 : CR := (149, [(2, 35, 35), (0, 0, 0)], [], none, [], [35])
theorem w67 : vrf GG [] [] 300 0 g67
  [(2, [(0, 12)], [(0, rA 35), (1, iA (0, [])), (2, iA (0, [(1, 0)]))], [], [], (540, [((-42), 0)]))] = true := by decide +kernel
theorem r67 {l : Launch} {D : va_G} {tys : List (ClassId × FieldType)} {A : Nat → Prop} {ad : Nat → Nat} (hAD : ∀ i : Nat, ad (1000 + i) = D.2 1000 i) : CRok l D tys A ad GG 1 g67 := CR_of_vrf (dep := 0) hAD (fun c hc => by cases hc) T2OK_nil w67
def g68 : CR := (92, [(2, 28, 28), (2, 4, 4), (0, (-2147483648), (-1)), (0, 0, 0)], [], some (0, 0, 0), [], [])
theorem w68 : vrf GG [] [] 300 1 g68
  [(28, [((-2147483648), (-1)), (0, 6)], [(0, rA 28), (1, rA 4), (2, iA (0, [(1, 0)])), (3, iA (0, [])), (4, iA (0, [])), (5, iA (1, [])), (6, iA (0, [])), (7, iA (0, [(1, 1)]))], [], [], (1426, [((-212), 1)])),
  (95, [((-2147483648), (-1)), (0, 5), (1, 6)], [(0, rA 28), (1, rA 4), (2, iA (0, [(1, 0)])), (3, iA (0, [])), (4, iA (0, [])), (5, iA (1, [])), (6, iA (0, [])), (7, iA (0, [(1, 1)]))], [], [((4, 4), iA (0, [(1, 2)]))], (1359, [((-212), 1)]))] = true := by decide +kernel
theorem r68 {l : Launch} {D : va_G} {tys : List (ClassId × FieldType)} {A : Nat → Prop} {ad : Nat → Nat} (hAD : ∀ i : Nat, ad (1000 + i) = D.2 1000 i) : CRok l D tys A ad GG 2 g68 := CR_of_vrf (dep := 1) hAD (fun c hc => by cases hc) T2OK_nil w68
def g69 : CR := (92, [(2, 28, 28), (2, 4, 4), (0, 0, 11), (0, (-2147483648), 2147483647)], [], some (0, 0, 63), [], [31])
theorem w69 : vrf GG [] [] 708 2 g69
  [(28, [(0, 11), ((-2147483648), 2147483647), ((-2147483648), 2147483647), ((-2147483648), 2147483647), (0, 63), (0, 6)], [(0, rA 28), (1, rA 4), (2, iA (0, [(1, 0)])), (3, iA (0, [(1, 1)])), (4, iA (0, [(1, 2)])), (5, iA (0, [(1, 3)])), (6, iA (0, [(1, 4)])), (7, iA (0, [(1, 5)]))], [], [], (1426, [((-212), 5)])),
  (95, [(0, 11), ((-2147483648), 2147483647), ((-2147483648), 2147483647), ((-2147483648), 2147483647), (0, 63), (0, 5), (1, 6)], [(0, rA 28), (1, rA 4), (2, iA (0, [(1, 0)])), (3, iA (0, [(1, 1)])), (4, iA (0, [(1, 2)])), (5, iA (0, [(1, 3)])), (6, iA (0, [(1, 4)])), (7, iA (0, [(1, 5)]))], [], [((4, 4), iA (0, [(1, 6)]))], (1359, [((-212), 5)]))] = true := by decide +kernel
theorem r69 {l : Launch} {D : va_G} {tys : List (ClassId × FieldType)} {A : Nat → Prop} {ad : Nat → Nat} (hAD : ∀ i : Nat, ad (1000 + i) = D.2 1000 i) : CRok l D tys A ad GG 3 g69 := CR_of_vrf (dep := 2) hAD (fun c hc => by cases hc) T2OK_nil w69
def g70 : CR := (92, [(2, 28, 28), (2, 4, 4), (0, 12, 2147483647), (0, 0, 0)], [], some (0, 0, 0), [], [])
theorem w70 : vrf GG [] [] 300 1 g70
  [(28, [(12, 2147483647), (0, 6)], [(0, rA 28), (1, rA 4), (2, iA (0, [(1, 0)])), (3, iA (0, [])), (4, iA (0, [])), (5, iA (1, [])), (6, iA (0, [])), (7, iA (0, [(1, 1)]))], [], [], (1426, [((-212), 1)])),
  (95, [(12, 2147483647), (0, 5), (1, 6)], [(0, rA 28), (1, rA 4), (2, iA (0, [(1, 0)])), (3, iA (0, [])), (4, iA (0, [])), (5, iA (1, [])), (6, iA (0, [])), (7, iA (0, [(1, 1)]))], [], [((4, 4), iA (0, [(1, 2)]))], (1359, [((-212), 1)]))] = true := by decide +kernel
theorem r70 {l : Launch} {D : va_G} {tys : List (ClassId × FieldType)} {A : Nat → Prop} {ad : Nat → Nat} (hAD : ∀ i : Nat, ad (1000 + i) = D.2 1000 i) : CRok l D tys A ad GG 2 g70 := CR_of_vrf (dep := 1) hAD (fun c hc => by cases hc) T2OK_nil w70
def g71 : CR := (174, [(2, 32, 32), (2, 4, 4), (2, 28, 28), (0, (-2147483648), 2147483647)], [], none, [], [31, 32, 34, 35])
theorem w71 : vrf GG [(2, g70), (2, g68), (3, g69)] [] 654 3 g71
  [] = true := by decide +kernel
theorem r71 {l : Launch} {D : va_G} {tys : List (ClassId × FieldType)} {A : Nat → Prop} {ad : Nat → Nat} (hAD : ∀ i : Nat, ad (1000 + i) = D.2 1000 i) : CRok l D tys A ad GG 4 g71 := CR_of_vrf (dep := 3) hAD (List.forall_mem_cons.mpr ⟨r70 hAD, List.forall_mem_cons.mpr ⟨r68 hAD, List.forall_mem_cons.mpr ⟨r69 hAD, fun c hc => by cases hc⟩⟩⟩) T2OK_nil w71
def g72 : CR := (175, [(2, 32, 32), (2, 28, 28), (0, 0, 0)], [], none, [], [33])
theorem w72 : vrf GG [] [] 300 2 g72
  [(2, [(0, 6)], [(0, rA 32), (1, rA 28), (2, iA (0, [])), (3, iA (0, [(1, 0)]))], [], [], (7428, [((-1062), 0)])),
  (11, [(0, 5), (0, 6)], [(0, rA 32), (1, rA 28), (2, iA (0, [])), (3, iA (0, [(1, 0)])), (4, iA (0, [(1, 1)]))], [], [], (7230, [((-118), 1), ((-1062), 0)]))] = true := by decide +kernel
theorem r72 {l : Launch} {D : va_G} {tys : List (ClassId × FieldType)} {A : Nat → Prop} {ad : Nat → Nat} (hAD : ∀ i : Nat, ad (1000 + i) = D.2 1000 i) : CRok l D tys A ad GG 3 g72 := CR_of_vrf (dep := 2) hAD (fun c hc => by cases hc) T2OK_nil w72
def g73 : CR := (175, [(2, 32, 32), (2, 28, 28), (0, 1, 24)], [], none, [], [33])
theorem w73 : vrf GG [] [] 300 2 g73
  [(2, [(1, 24), (0, 6)], [(0, rA 32), (1, rA 28), (2, iA (0, [(1, 0)])), (3, iA (0, [(1, 1)]))], [], [], (7428, [((-1062), 1)])),
  (11, [(1, 24), (0, 5), (0, 6)], [(0, rA 32), (1, rA 28), (2, iA (0, [(1, 0)])), (3, iA (0, [(1, 1)])), (4, iA (0, [(1, 2)]))], [], [], (7230, [((-118), 2), ((-1062), 1)]))] = true := by decide +kernel
theorem r73 {l : Launch} {D : va_G} {tys : List (ClassId × FieldType)} {A : Nat → Prop} {ad : Nat → Nat} (hAD : ∀ i : Nat, ad (1000 + i) = D.2 1000 i) : CRok l D tys A ad GG 3 g73 := CR_of_vrf (dep := 2) hAD (fun c hc => by cases hc) T2OK_nil w73
def g74 : CR := (150, [(2, 11, 11), (2, 31, 31)], [], none, [], [31])
theorem w74 : vrf GG [] [] 300 0 g74
  [(2, [(0, 36)], [(0, rA 11), (1, rA 31), (2, iA (0, [(1, 0)]))], [], [], (2140, [((-58), 0)]))] = true := by decide +kernel
theorem r74 {l : Launch} {D : va_G} {tys : List (ClassId × FieldType)} {A : Nat → Prop} {ad : Nat → Nat} (hAD : ∀ i : Nat, ad (1000 + i) = D.2 1000 i) : CRok l D tys A ad GG 1 g74 := CR_of_vrf (dep := 0) hAD (fun c hc => by cases hc) T2OK_nil w74
def g75 : CR := (87, [(2, 28, 28), (2, 4, 4)], [], none, [], [31])
theorem w75 : vrf GG [(1, g74)] [] 300 2 g75
  [(13, [(0, 6)], [(0, rA 28), (1, rA 4), (2, iA (0, [(1, 0)]))], [], [], (644, [((-96), 0)]))] = true := by decide +kernel
theorem r75 {l : Launch} {D : va_G} {tys : List (ClassId × FieldType)} {A : Nat → Prop} {ad : Nat → Nat} (hAD : ∀ i : Nat, ad (1000 + i) = D.2 1000 i) : CRok l D tys A ad GG 3 g75 := CR_of_vrf (dep := 2) hAD (List.forall_mem_cons.mpr ⟨r74 hAD, fun c hc => by cases hc⟩) T2OK_nil w75
def g76 : CR := (173, [(2, 32, 32), (2, 4, 4), (2, 28, 28)], [], none, [], [31, 32, 33, 34, 35])
theorem w76 : vrf GG [(3, g75), (1, g66), (1, g67), (4, g71), (3, g72), (3, g73)] [] 300 4 g76
  [(37, [(0, 12), (0, 24)], [(0, rA 32), (1, rA 4), (2, rA 28), (3, iA (0, [(1, 0)])), (4, iA (0, [(1, 1)]))], [], [], (79424, [((-3180), 1)])),
  (46, [(0, 12), (0, 23), (1, 24)], [(0, rA 32), (1, rA 4), (2, rA 28), (3, iA (0, [(1, 0)])), (4, iA (0, [(1, 1)]))], [], [((4, 3), iA (0, [(1, 2)]))], (79050, [((-212), 0), ((-3180), 1)])),
  (88, [(0, 12), (0, 23), (1, 24), (0, 12)], [(0, rA 32), (1, rA 4), (2, rA 28), (3, iA (0, [(1, 0)])), (4, iA (0, [(1, 1)]))], [], [((4, 3), iA (0, [(1, 2)])), ((4, 5), iA (0, [(1, 3)]))], (76405, [((-3180), 1)]))] = true := by decide +kernel
theorem r76 {l : Launch} {D : va_G} {tys : List (ClassId × FieldType)} {A : Nat → Prop} {ad : Nat → Nat} (hAD : ∀ i : Nat, ad (1000 + i) = D.2 1000 i) : CRok l D tys A ad GG 5 g76 := CR_of_vrf (dep := 4) hAD (List.forall_mem_cons.mpr ⟨r75 hAD, List.forall_mem_cons.mpr ⟨r66 hAD, List.forall_mem_cons.mpr ⟨r67 hAD, List.forall_mem_cons.mpr ⟨r71 hAD, List.forall_mem_cons.mpr ⟨r72 hAD, List.forall_mem_cons.mpr ⟨r73 hAD, fun c hc => by cases hc⟩⟩⟩⟩⟩⟩) T2OK_nil w76
def g77 : CR := (86, [(2, 4, 4), (0, (-2147483648), 2147483647), (0, (-2147483648), 2147483647)], [], some (0, 0, 63), [], [])
theorem w77 : vrf GG [] [] 633 2 g77
  [(5, [((-2147483648), 2147483647), ((-2147483648), 2147483647), (0, 63), (0, 6)], [(0, rA 4), (1, iA (0, [(1, 0)])), (2, iA (0, [(1, 1)])), (3, iA (0, [(1, 2)])), (4, iA (0, [(1, 3)]))], [], [], (730, [((-106), 3)])),
  (43, [((-2147483648), 2147483647), ((-2147483648), 2147483647), (0, 63), (0, 5), (1, 6)], [(0, rA 4), (1, iA (0, [(1, 0)])), (2, iA (0, [(1, 1)])), (3, iA (0, [(1, 2)])), (4, iA (0, [(1, 3)]))], [], [((4, 4), iA (0, [(1, 4)]))], (692, [((-106), 3)]))] = true := by decide +kernel
theorem r77 {l : Launch} {D : va_G} {tys : List (ClassId × FieldType)} {A : Nat → Prop} {ad : Nat → Nat} (hAD : ∀ i : Nat, ad (1000 + i) = D.2 1000 i) : CRok l D tys A ad GG 3 g77 := CR_of_vrf (dep := 2) hAD (fun c hc => by cases hc) T2OK_nil w77
def g78 : CR := (85, [(2, 28, 28), (2, 4, 4)], [], none, [], [29, 30])
theorem w78 : vrf GG [(3, g77)] [] 300 3 g78
  [(4, [((-2147483648), 2147483647), (0, 24)], [(0, rA 28), (1, rA 4), (2, iA (0, [(1, 0)])), (3, iA (0, [(1, 1)]))], [], [], (84792, [((-3270), 1)])),
  (15, [((-2147483648), 2147483647), (0, 23), (0, 12), (1, 24)], [(0, rA 28), (1, rA 4), (2, iA (0, [(1, 0)])), (3, iA (0, [(1, 1)])), (4, iA (0, [(1, 2)]))], [], [((4, 3), iA (0, [(1, 3)]))], (84438, [((-218), 2), ((-3270), 1)])),
  (50, [((-2147483648), 2147483647), (0, 23), (0, 11), (1, 24), (1, 12)], [(0, rA 28), (1, rA 4), (2, iA (0, [(1, 0)])), (3, iA (0, [(1, 1)])), (4, iA (0, [(1, 2)]))], [], [((4, 3), iA (0, [(1, 3)])), ((4, 5), iA (0, [(1, 4)]))], (84403, [((-218), 2), ((-3270), 1)])),
  (64, [((-2147483648), 2147483647), (0, 12), (0, 24)], [(0, rA 28), (1, rA 4), (2, iA (0, [(1, 0)])), (3, iA (0, [(1, 1)]))], [], [((4, 3), iA (0, [(1, 2)]))], (2704, [((-218), 1)]))] = true := by decide +kernel
theorem r78 {l : Launch} {D : va_G} {tys : List (ClassId × FieldType)} {A : Nat → Prop} {ad : Nat → Nat} (hAD : ∀ i : Nat, ad (1000 + i) = D.2 1000 i) : CRok l D tys A ad GG 4 g78 := CR_of_vrf (dep := 3) hAD (List.forall_mem_cons.mpr ⟨r77 hAD, fun c hc => by cases hc⟩) T2OK_nil w78
def g80 : CR := (4, [(2, 0, 0), (0, (-2147483648), 2147483647)], [], some (0, (-1), 1401), [], [])
theorem w80 : vrf GG [] [] 300 0 g80
  [] = true := by decide +kernel
theorem r80 {l : Launch} {D : va_G} {tys : List (ClassId × FieldType)} {A : Nat → Prop} {ad : Nat → Nat} (hAD : ∀ i : Nat, ad (1000 + i) = D.2 1000 i) : CRok l D tys A ad GG 1 g80 := CR_of_vrf (dep := 0) hAD (fun c hc => by cases hc) T2OK_nil w80
def g81 : CR := (221, [(2, 90, 90), (0, (-2147483648), 2147483647)], [], some (0, (-1), 1400), [], [])
theorem w81 : vrf GG [] [] 300 0 g81
  [] = true := by decide +kernel
theorem r81 {l : Launch} {D : va_G} {tys : List (ClassId × FieldType)} {A : Nat → Prop} {ad : Nat → Nat} (hAD : ∀ i : Nat, ad (1000 + i) = D.2 1000 i) : CRok l D tys A ad GG 1 g81 := CR_of_vrf (dep := 0) hAD (fun c hc => by cases hc) T2OK_nil w81
def g82 : CR := (5, [(2, 0, 0), (0, (-2147483648), 2147483647), (0, (-2147483648), 2147483647)], [], some (0, (-2147483648), 2147483647), [], [])
theorem w82 : vrf GG [] [] 300 2 g82
  [] = true := by decide +kernel
theorem r82 {l : Launch} {D : va_G} {tys : List (ClassId × FieldType)} {A : Nat → Prop} {ad : Nat → Nat} (hAD : ∀ i : Nat, ad (1000 + i) = D.2 1000 i) : CRok l D tys A ad GG 3 g82 := CR_of_vrf (dep := 2) hAD (fun c hc => by cases hc) T2OK_nil w82
def g83 : CR := (243, [(2, 90, 90), (0, (-2147483648), 2147483647), (0, (-2147483648), 2147483647)], [], some (0, (-2), 8), [], [])
theorem w83 : vrf GG [] [] 300 2 g83
  [] = true := by decide +kernel
theorem r83 {l : Launch} {D : va_G} {tys : List (ClassId × FieldType)} {A : Nat → Prop} {ad : Nat → Nat} (hAD : ∀ i : Nat, ad (1000 + i) = D.2 1000 i) : CRok l D tys A ad GG 3 g83 := CR_of_vrf (dep := 2) hAD (fun c hc => by cases hc) T2OK_nil w83
def g84 : CR := (6, [(2, 0, 0), (0, (-2147483648), 2147483647)], [], some (0, (-2), 7), [], [])
theorem w84 : vrf GG [] [] 300 1 g84
  [] = true := by decide +kernel
theorem r84 {l : Launch} {D : va_G} {tys : List (ClassId × FieldType)} {A : Nat → Prop} {ad : Nat → Nat} (hAD : ∀ i : Nat, ad (1000 + i) = D.2 1000 i) : CRok l D tys A ad GG 2 g84 := CR_of_vrf (dep := 1) hAD (fun c hc => by cases hc) T2OK_nil w84
def g85 : CR := (244, [(2, 90, 90), (0, (-2147483648), 2147483647)], [], some (0, (-2), 6), [], [])
theorem w85 : vrf GG [] [] 300 2 g85
  [] = true := by decide +kernel
theorem r85 {l : Launch} {D : va_G} {tys : List (ClassId × FieldType)} {A : Nat → Prop} {ad : Nat → Nat} (hAD : ∀ i : Nat, ad (1000 + i) = D.2 1000 i) : CRok l D tys A ad GG 3 g85 := CR_of_vrf (dep := 2) hAD (fun c hc => by cases hc) T2OK_nil w85
def g86 : CR := (7, [(2, 0, 0), (0, (-2147483648), 2147483647), (0, (-2147483648), 2147483647)], [], some (0, (-2147483648), 2147483647), [], [])
theorem w86 : vrf GG [] [] 300 1 g86
  [] = true := by decide +kernel
theorem r86 {l : Launch} {D : va_G} {tys : List (ClassId × FieldType)} {A : Nat → Prop} {ad : Nat → Nat} (hAD : ∀ i : Nat, ad (1000 + i) = D.2 1000 i) : CRok l D tys A ad GG 2 g86 := CR_of_vrf (dep := 1) hAD (fun c hc => by cases hc) T2OK_nil w86
def g87 : CR := (245, [(2, 90, 90), (0, (-2147483648), 2147483647), (0, (-2147483648), 2147483647)], [], some (0, (-2), 100), [], [])
theorem w87 : vrf GG [] [] 300 2 g87
  [] = true := by decide +kernel
theorem r87 {l : Launch} {D : va_G} {tys : List (ClassId × FieldType)} {A : Nat → Prop} {ad : Nat → Nat} (hAD : ∀ i : Nat, ad (1000 + i) = D.2 1000 i) : CRok l D tys A ad GG 3 g87 := CR_of_vrf (dep := 2) hAD (fun c hc => by cases hc) T2OK_nil w87
def g88 : CR := (8, [(2, 0, 0), (0, (-2147483648), 2147483647), (0, (-2147483648), 2147483647)], [], some (0, (-2147483648), 2147483647), [], [])
theorem w88 : vrf GG [] [] 300 2 g88
  [] = true := by decide +kernel
theorem r88 {l : Launch} {D : va_G} {tys : List (ClassId × FieldType)} {A : Nat → Prop} {ad : Nat → Nat} (hAD : ∀ i : Nat, ad (1000 + i) = D.2 1000 i) : CRok l D tys A ad GG 3 g88 := CR_of_vrf (dep := 2) hAD (fun c hc => by cases hc) T2OK_nil w88
def g89 : CR := (246, [(2, 90, 90), (0, (-2147483648), 2147483647), (0, (-2147483648), 2147483647)], [], some (0, (-2), 3), [], [])
theorem w89 : vrf GG [] [] 300 2 g89
  [] = true := by decide +kernel
theorem r89 {l : Launch} {D : va_G} {tys : List (ClassId × FieldType)} {A : Nat → Prop} {ad : Nat → Nat} (hAD : ∀ i : Nat, ad (1000 + i) = D.2 1000 i) : CRok l D tys A ad GG 3 g89 := CR_of_vrf (dep := 2) hAD (fun c hc => by cases hc) T2OK_nil w89
def g90 : CR := (9, [(2, 0, 0), (0, (-2147483648), 2147483647), (0, (-2147483648), 2147483647)], [], some (0, (-2147483648), 2147483647), [], [])
theorem w90 : vrf GG [] [] 300 1 g90
  [] = true := by decide +kernel
theorem r90 {l : Launch} {D : va_G} {tys : List (ClassId × FieldType)} {A : Nat → Prop} {ad : Nat → Nat} (hAD : ∀ i : Nat, ad (1000 + i) = D.2 1000 i) : CRok l D tys A ad GG 2 g90 := CR_of_vrf (dep := 1) hAD (fun c hc => by cases hc) T2OK_nil w90
def g91 : CR := (247, [(2, 90, 90), (0, (-2147483648), 2147483647), (0, (-2147483648), 2147483647)], [], some (0, (-2), 23), [], [])
theorem w91 : vrf GG [] [] 300 2 g91
  [] = true := by decide +kernel
theorem r91 {l : Launch} {D : va_G} {tys : List (ClassId × FieldType)} {A : Nat → Prop} {ad : Nat → Nat} (hAD : ∀ i : Nat, ad (1000 + i) = D.2 1000 i) : CRok l D tys A ad GG 3 g91 := CR_of_vrf (dep := 2) hAD (fun c hc => by cases hc) T2OK_nil w91
def g92 : CR := (10, [(2, 0, 0), (0, (-2147483648), 2147483647), (0, (-2147483648), 2147483647)], [], some (0, (-2147483648), 2147483647), [], [])
theorem w92 : vrf GG [] [] 300 2 g92
  [] = true := by decide +kernel
theorem r92 {l : Launch} {D : va_G} {tys : List (ClassId × FieldType)} {A : Nat → Prop} {ad : Nat → Nat} (hAD : ∀ i : Nat, ad (1000 + i) = D.2 1000 i) : CRok l D tys A ad GG 3 g92 := CR_of_vrf (dep := 2) hAD (fun c hc => by cases hc) T2OK_nil w92
def g93 : CR := (248, [(2, 90, 90), (0, (-2147483648), 2147483647), (0, (-2147483648), 2147483647)], [], some (0, (-2), 63), [], [])
theorem w93 : vrf GG [] [] 300 2 g93
  [] = true := by decide +kernel
theorem r93 {l : Launch} {D : va_G} {tys : List (ClassId × FieldType)} {A : Nat → Prop} {ad : Nat → Nat} (hAD : ∀ i : Nat, ad (1000 + i) = D.2 1000 i) : CRok l D tys A ad GG 3 g93 := CR_of_vrf (dep := 2) hAD (fun c hc => by cases hc) T2OK_nil w93
def g94 : CR := (11, [(2, 0, 0), (0, (-2147483648), 2147483647), (0, (-2147483648), 2147483647), (0, (-2147483648), 2147483647)], [], some (0, (-2147483648), 2147483647), [], [])
theorem w94 : vrf GG [] [] 300 2 g94
  [] = true := by decide +kernel
theorem r94 {l : Launch} {D : va_G} {tys : List (ClassId × FieldType)} {A : Nat → Prop} {ad : Nat → Nat} (hAD : ∀ i : Nat, ad (1000 + i) = D.2 1000 i) : CRok l D tys A ad GG 3 g94 := CR_of_vrf (dep := 2) hAD (fun c hc => by cases hc) T2OK_nil w94
def g95 : CR := (236, [(2, 90, 90), (0, 0, 11)], [], none, [], [90, 99, 100, 101])
theorem w95 : vrf GG [] [] 544 2 g95
  [(77, [(0, 11), (0, 5), (0, 5), (0, 5), (0, 23), (0, 6), ((-2147483648), 2147483647), ((-2147483648), 2147483647)], [(0, rA 90), (1, iA (0, [(1, 0)])), (2, iA (0, [(1, 1)])), (3, iA (0, [(1, 2)])), (4, iA (0, [(1, 3)])), (5, iA (0, [(1, 4)])), (6, iA (0, [(1, 5)]))], [], [((90, 18), iA (0, [(1, 6)])), ((90, 21), iA (0, [(1, 7)]))], (2686, [((-406), 5)])),
  (173, [(0, 11), (0, 5), (0, 5), (0, 5), (0, 23), (0, 5), (0, 32), (0, 63), (0, 11), ((-2147483648), 2147483647), ((-2147483648), 2147483647), (0, 1), (1, 6)], [(0, rA 90), (1, iA (0, [(1, 0)])), (2, iA (0, [(1, 1)])), (3, iA (0, [(1, 2)])), (4, iA (0, [(1, 3)])), (5, iA (0, [(1, 4)])), (6, iA (0, [(1, 5)]))], [iA (0, [(1, 6)]), iA (0, [(1, 7)]), iA (0, [(1, 8)]), rA 101], [((90, 18), iA (0, [(1, 9)])), ((90, 21), iA (0, [(1, 10)])), ((90, 24), iA (0, [(1, 11)])), ((91, 3), iA (0, [(1, 12)]))], (2590, [((-406), 5)])),
  (194, [(0, 11), (0, 5), (0, 5), (0, 5), (0, 23), (0, 5), ((-2147483648), 2147483647), ((-2147483648), 2147483647), (1, 6)], [(0, rA 90), (1, iA (0, [(1, 0)])), (2, iA (0, [(1, 1)])), (3, iA (0, [(1, 2)])), (4, iA (0, [(1, 3)])), (5, iA (0, [(1, 4)])), (6, iA (0, [(1, 5)]))], [], [((90, 18), iA (0, [(1, 6)])), ((90, 21), iA (0, [(1, 7)])), ((91, 3), iA (0, [(1, 8)]))], (2569, [((-406), 5)]))] = true := by decide +kernel
theorem r95 {l : Launch} {D : va_G} {tys : List (ClassId × FieldType)} {A : Nat → Prop} {ad : Nat → Nat} (hAD : ∀ i : Nat, ad (1000 + i) = D.2 1000 i) : CRok l D tys A ad GG 3 g95 := CR_of_vrf (dep := 2) hAD (fun c hc => by cases hc) T2OK_nil w95
def g96 : CR := (237, [(2, 90, 90)], [], none, [], [90, 98, 99, 100, 101])
theorem w96 : vrf GG [(3, g95)] [] 300 3 g96
  [(7, [(0, 12)], [(0, rA 90), (1, iA (0, [(1, 0)]))], [], [((90, 18), iA (0, []))], (566968, [((-374), 0)])),
  (35, [(0, 6)], [(0, rA 90), (1, iA (0, [(1, 0)]))], [], [((90, 18), iA (0, []))], (558684, [((-3366), 0)])),
  (43, [(0, 5), (0, 6)], [(0, rA 90), (1, iA (0, [(1, 0)])), (2, iA (0, [(1, 1)]))], [], [((90, 18), iA (0, []))], (558071, [((-374), 1), ((-3366), 0)])),
  (86, [(0, 5), (0, 5), (0, 63), (0, 35)], [(0, rA 90), (1, iA (0, [(1, 0)])), (2, iA (0, [(1, 1)]))], [iA (0, [(1, 2)]), iA (0, [(1, 3)]), rA 99], [((90, 18), iA (0, []))], (558028, [((-374), 1), ((-3366), 0)])),
  (101, [(0, 25)], [(0, rA 90), (1, iA (0, [(1, 0)]))], [], [], (515168, [((-19822), 0)])),
  (113, [(0, 24), (0, 36), (0, 24)], [(0, rA 90), (1, iA (0, [(1, 0)])), (2, iA (0, [(1, 1)]))], [], [((91, 2), iA (0, [(1, 2)]))], (514481, [((-374), 1), ((-19822), 0)])),
  (147, [(0, 24), (0, 12), (0, 24)], [(0, rA 90), (1, iA (0, [(1, 0)])), (2, iA (0, [(1, 1)]))], [], [((91, 2), iA (0, [(1, 2)]))], (500201, [((-374), 1), ((-19822), 0)])),
  (172, [(0, 24), (0, 11), (0, 24), (1, 12)], [(0, rA 90), (1, iA (0, [(1, 0)])), (2, iA (0, [(1, 1)]))], [], [((91, 2), iA (0, [(1, 2)])), ((91, 4), iA (0, [(1, 3)]))], (500176, [((-374), 1), ((-19822), 0)]))] = true := by decide +kernel
theorem r96 {l : Launch} {D : va_G} {tys : List (ClassId × FieldType)} {A : Nat → Prop} {ad : Nat → Nat} (hAD : ∀ i : Nat, ad (1000 + i) = D.2 1000 i) : CRok l D tys A ad GG 4 g96 := CR_of_vrf (dep := 3) hAD (List.forall_mem_cons.mpr ⟨r95 hAD, fun c hc => by cases hc⟩) T2OK_nil w96
def g97 : CR := (249, [(2, 90, 90), (0, (-2147483648), 2147483647), (0, (-2147483648), 2147483647), (0, (-2147483648), 2147483647)], [], some (0, (-2), 63), [], [90, 98, 99, 100, 101])
theorem w97 : vrf GG [(4, g96)] [] 300 5 g97
  [] = true := by decide +kernel
theorem r97 {l : Launch} {D : va_G} {tys : List (ClassId × FieldType)} {A : Nat → Prop} {ad : Nat → Nat} (hAD : ∀ i : Nat, ad (1000 + i) = D.2 1000 i) : CRok l D tys A ad GG 6 g97 := CR_of_vrf (dep := 5) hAD (List.forall_mem_cons.mpr ⟨r96 hAD, fun c hc => by cases hc⟩) T2OK_nil w97
def g98 : CR := (12, [(2, 0, 0), (0, (-2147483648), 2147483647)], [], some (0, (-2), 1), [], [])
theorem w98 : vrf GG [] [] 300 1 g98
  [] = true := by decide +kernel
theorem r98 {l : Launch} {D : va_G} {tys : List (ClassId × FieldType)} {A : Nat → Prop} {ad : Nat → Nat} (hAD : ∀ i : Nat, ad (1000 + i) = D.2 1000 i) : CRok l D tys A ad GG 2 g98 := CR_of_vrf (dep := 1) hAD (fun c hc => by cases hc) T2OK_nil w98
def g99 : CR := (250, [(2, 90, 90), (0, (-2147483648), 2147483647)], [], some (0, (-2), 1), [], [90, 98, 99, 100, 101])
theorem w99 : vrf GG [(4, g96)] [] 300 5 g99
  [] = true := by decide +kernel
theorem r99 {l : Launch} {D : va_G} {tys : List (ClassId × FieldType)} {A : Nat → Prop} {ad : Nat → Nat} (hAD : ∀ i : Nat, ad (1000 + i) = D.2 1000 i) : CRok l D tys A ad GG 6 g99 := CR_of_vrf (dep := 5) hAD (List.forall_mem_cons.mpr ⟨r96 hAD, fun c hc => by cases hc⟩) T2OK_nil w99
def g100 : CR := (13, [(2, 0, 0), (0, (-2147483648), 2147483647)], [], some (0, (-2147483648), 2147483647), [], [])
theorem w100 : vrf GG [] [] 300 1 g100
  [] = true := by decide +kernel
theorem r100 {l : Launch} {D : va_G} {tys : List (ClassId × FieldType)} {A : Nat → Prop} {ad : Nat → Nat} (hAD : ∀ i : Nat, ad (1000 + i) = D.2 1000 i) : CRok l D tys A ad GG 2 g100 := CR_of_vrf (dep := 1) hAD (fun c hc => by cases hc) T2OK_nil w100
def g101 : CR := (251, [(2, 90, 90), (0, (-2147483648), 2147483647)], [], some (0, (-2), 63), [], [90, 98, 99, 100, 101])
theorem w101 : vrf GG [(4, g96)] [] 300 5 g101
  [] = true := by decide +kernel
theorem r101 {l : Launch} {D : va_G} {tys : List (ClassId × FieldType)} {A : Nat → Prop} {ad : Nat → Nat} (hAD : ∀ i : Nat, ad (1000 + i) = D.2 1000 i) : CRok l D tys A ad GG 6 g101 := CR_of_vrf (dep := 5) hAD (List.forall_mem_cons.mpr ⟨r96 hAD, fun c hc => by cases hc⟩) T2OK_nil w101
def g102 : CR := (14, [(2, 0, 0), (0, (-2147483648), 2147483647)], [], some (0, (-2147483648), 2147483647), [], [])
theorem w102 : vrf GG [] [] 300 1 g102
  [] = true := by decide +kernel
theorem r102 {l : Launch} {D : va_G} {tys : List (ClassId × FieldType)} {A : Nat → Prop} {ad : Nat → Nat} (hAD : ∀ i : Nat, ad (1000 + i) = D.2 1000 i) : CRok l D tys A ad GG 2 g102 := CR_of_vrf (dep := 1) hAD (fun c hc => by cases hc) T2OK_nil w102
def g103 : CR := (252, [(2, 90, 90), (0, (-2147483648), 2147483647)], [], some (0, (-2), 63), [], [90, 98, 99, 100, 101])
theorem w103 : vrf GG [(4, g96)] [] 300 5 g103
  [] = true := by decide +kernel
theorem r103 {l : Launch} {D : va_G} {tys : List (ClassId × FieldType)} {A : Nat → Prop} {ad : Nat → Nat} (hAD : ∀ i : Nat, ad (1000 + i) = D.2 1000 i) : CRok l D tys A ad GG 6 g103 := CR_of_vrf (dep := 5) hAD (List.forall_mem_cons.mpr ⟨r96 hAD, fun c hc => by cases hc⟩) T2OK_nil w103
def g104 : CR := (178, [(2, 32, 32), (2, 4, 4), (0, 0, 5), (0, 0, 5)], [], some (0, (-1), 24), [], [])
theorem w104 : vrf GG [] [] 300 3 g104
  [(3, [(0, 5), (0, 5), (0, 25)], [(0, rA 32), (1, rA 4), (2, iA (0, [(1, 0)])), (3, iA (0, [(1, 1)])), (4, iA (0, [(1, 2)]))], [], [], (1916, [((-74), 2)]))] = true := by decide +kernel
theorem r104 {l : Launch} {D : va_G} {tys : List (ClassId × FieldType)} {A : Nat → Prop} {ad : Nat → Nat} (hAD : ∀ i : Nat, ad (1000 + i) = D.2 1000 i) : CRok l D tys A ad GG 4 g104 := CR_of_vrf (dep := 3) hAD (fun c hc => by cases hc) T2OK_nil w104
def g105 : CR := (15, [(2, 0, 0), (0, (-2147483648), 2147483647), (0, (-2147483648), 2147483647)], [], some (0, (-3), 23), [], [])
theorem w105 : vrf GG [(4, g104)] [] 300 4 g105
  [] = true := by decide +kernel
theorem r105 {l : Launch} {D : va_G} {tys : List (ClassId × FieldType)} {A : Nat → Prop} {ad : Nat → Nat} (hAD : ∀ i : Nat, ad (1000 + i) = D.2 1000 i) : CRok l D tys A ad GG 5 g105 := CR_of_vrf (dep := 4) hAD (List.forall_mem_cons.mpr ⟨r104 hAD, fun c hc => by cases hc⟩) T2OK_nil w105
def g106 : CR := (253, [(2, 90, 90), (0, 0, 5), (0, 0, 5)], [], some (0, (-3), 23), [], [])
theorem w106 : vrf GG [] [] 300 3 g106
  [(2, [(0, 5), (0, 5), (0, 25)], [(0, rA 90), (1, iA (0, [(1, 0)])), (2, iA (0, [(1, 1)])), (3, iA (0, [(1, 2)]))], [], [], (2334, [((-90), 2)])),
  (34, [(0, 5), (0, 5), (0, 24), ((-3), 23), (0, 24)], [(0, rA 90), (1, iA (0, [(1, 0)])), (2, iA (0, [(1, 1)])), (3, iA (0, [(1, 2)]))], [iA (0, [(1, 3)])], [((91, 2), iA (0, [(1, 4)]))], (2302, [((-90), 2)]))] = true := by decide +kernel
theorem r106 {l : Launch} {D : va_G} {tys : List (ClassId × FieldType)} {A : Nat → Prop} {ad : Nat → Nat} (hAD : ∀ i : Nat, ad (1000 + i) = D.2 1000 i) : CRok l D tys A ad GG 4 g106 := CR_of_vrf (dep := 3) hAD (fun c hc => by cases hc) T2OK_nil w106
def g107 : CR := (254, [(2, 90, 90), (0, (-2147483648), 2147483647), (0, (-2147483648), 2147483647)], [], some (0, (-3), 23), [], [90, 98, 99, 100, 101])
theorem w107 : vrf GG [(4, g96), (4, g106)] [] 300 5 g107
  [] = true := by decide +kernel
theorem r107 {l : Launch} {D : va_G} {tys : List (ClassId × FieldType)} {A : Nat → Prop} {ad : Nat → Nat} (hAD : ∀ i : Nat, ad (1000 + i) = D.2 1000 i) : CRok l D tys A ad GG 6 g107 := CR_of_vrf (dep := 5) hAD (List.forall_mem_cons.mpr ⟨r96 hAD, List.forall_mem_cons.mpr ⟨r106 hAD, fun c hc => by cases hc⟩⟩) T2OK_nil w107
def g108 : CR := (179, [(2, 32, 32), (2, 4, 4), (0, 0, 5), (0, 1, 24)], [], some (0, 0, 63), [], [])
theorem w108 : vrf GG [] [] 300 3 g108
  [(6, [(0, 5), (1, 24), (0, 63), (0, 6)], [(0, rA 32), (1, rA 4), (2, iA (0, [(1, 0)])), (3, iA (0, [(1, 1)])), (4, iA (0, [(1, 2)])), (5, iA (0, [(1, 3)]))], [], [], (728, [((-106), 3)])),
  (42, [(0, 5), (1, 24), (0, 63), (0, 5), (1, 6)], [(0, rA 32), (1, rA 4), (2, iA (0, [(1, 0)])), (3, iA (0, [(1, 1)])), (4, iA (0, [(1, 2)])), (5, iA (0, [(1, 3)]))], [], [((4, 4), iA (0, [(1, 4)]))], (692, [((-106), 3)]))] = true := by decide +kernel
theorem r108 {l : Launch} {D : va_G} {tys : List (ClassId × FieldType)} {A : Nat → Prop} {ad : Nat → Nat} (hAD : ∀ i : Nat, ad (1000 + i) = D.2 1000 i) : CRok l D tys A ad GG 4 g108 := CR_of_vrf (dep := 3) hAD (fun c hc => by cases hc) T2OK_nil w108
def g109 : CR := (16, [(2, 0, 0), (0, (-2147483648), 2147483647), (0, (-2147483648), 2147483647)], [], some (0, (-2), 63), [], [])
theorem w109 : vrf GG [(4, g108)] [] 300 4 g109
  [] = true := by decide +kernel
theorem r109 {l : Launch} {D : va_G} {tys : List (ClassId × FieldType)} {A : Nat → Prop} {ad : Nat → Nat} (hAD : ∀ i : Nat, ad (1000 + i) = D.2 1000 i) : CRok l D tys A ad GG 5 g109 := CR_of_vrf (dep := 4) hAD (List.forall_mem_cons.mpr ⟨r108 hAD, fun c hc => by cases hc⟩) T2OK_nil w109
def g110 : CR := (255, [(2, 90, 90), (0, 0, 5), (0, 0, 23)], [], some (0, 0, 63), [], [])
theorem w110 : vrf GG [] [] 300 3 g110
  [(5, [(0, 5), (0, 23), (0, 63), (0, 6)], [(0, rA 90), (1, iA (0, [(1, 0)])), (2, iA (0, [(1, 1)])), (3, iA (0, [(1, 2)])), (4, iA (0, [(1, 3)]))], [], [], (772, [((-112), 3)])),
  (43, [(0, 5), (0, 23), (0, 63), (0, 5), (0, 63), (1, 6)], [(0, rA 90), (1, iA (0, [(1, 0)])), (2, iA (0, [(1, 1)])), (3, iA (0, [(1, 2)])), (4, iA (0, [(1, 3)]))], [iA (0, [(1, 4)])], [((91, 3), iA (0, [(1, 5)]))], (734, [((-112), 3)])),
  (44, [(0, 5), (0, 23), (0, 63), (0, 5), (0, 32), (0, 63), (1, 6)], [(0, rA 90), (1, iA (0, [(1, 0)])), (2, iA (0, [(1, 1)])), (3, iA (0, [(1, 2)])), (4, iA (0, [(1, 3)]))], [iA (0, [(1, 4)]), iA (0, [(1, 5)])], [((91, 3), iA (0, [(1, 6)]))], (733, [((-112), 3)]))] = true := by decide +kernel
theorem r110 {l : Launch} {D : va_G} {tys : List (ClassId × FieldType)} {A : Nat → Prop} {ad : Nat → Nat} (hAD : ∀ i : Nat, ad (1000 + i) = D.2 1000 i) : CRok l D tys A ad GG 4 g110 := CR_of_vrf (dep := 3) hAD (fun c hc => by cases hc) T2OK_nil w110
def g111 : CR := (256, [(2, 90, 90), (0, (-2147483648), 2147483647), (0, (-2147483648), 2147483647)], [], some (0, (-2), 63), [], [90, 98, 99, 100, 101])
theorem w111 : vrf GG [(4, g96), (4, g110)] [] 300 5 g111
  [] = true := by decide +kernel
theorem r111 {l : Launch} {D : va_G} {tys : List (ClassId × FieldType)} {A : Nat → Prop} {ad : Nat → Nat} (hAD : ∀ i : Nat, ad (1000 + i) = D.2 1000 i) : CRok l D tys A ad GG 6 g111 := CR_of_vrf (dep := 5) hAD (List.forall_mem_cons.mpr ⟨r96 hAD, List.forall_mem_cons.mpr ⟨r110 hAD, fun c hc => by cases hc⟩⟩) T2OK_nil w111
def g112 : CR := (180, [(2, 32, 32), (2, 4, 4), (0, 0, 5)], [], some (0, (-1), 5), [], [])
theorem w112 : vrf GG [(4, g104)] [] 300 4 g112
  [(9, [(0, 5), ((-1), 5), (0, 25), (0, 6)], [(0, rA 32), (1, rA 4), (2, iA (0, [(1, 0)])), (3, iA (0, [(1, 1)])), (4, iA (0, [(1, 2)])), (5, iA (0, [(1, 3)]))], [], [], (1002, [((-146), 3)])),
  (63, [(0, 5), ((-1), 5), (0, 25), (0, 5), (1, 6)], [(0, rA 32), (1, rA 4), (2, iA (0, [(1, 0)])), (3, iA (0, [(1, 1)])), (4, iA (0, [(1, 2)])), (5, iA (0, [(1, 3)]))], [], [((4, 4), iA (0, [(1, 4)]))], (948, [((-146), 3)]))] = true := by decide +kernel
theorem r112 {l : Launch} {D : va_G} {tys : List (ClassId × FieldType)} {A : Nat → Prop} {ad : Nat → Nat} (hAD : ∀ i : Nat, ad (1000 + i) = D.2 1000 i) : CRok l D tys A ad GG 5 g112 := CR_of_vrf (dep := 4) hAD (List.forall_mem_cons.mpr ⟨r104 hAD, fun c hc => by cases hc⟩) T2OK_nil w112
def g113 : CR := (17, [(2, 0, 0), (0, (-2147483648), 2147483647)], [], some (0, (-3), 23), [], [])
theorem w113 : vrf GG [(4, g104), (5, g112)] [] 300 5 g113
  [] = true := by decide +kernel
theorem r113 {l : Launch} {D : va_G} {tys : List (ClassId × FieldType)} {A : Nat → Prop} {ad : Nat → Nat} (hAD : ∀ i : Nat, ad (1000 + i) = D.2 1000 i) : CRok l D tys A ad GG 6 g113 := CR_of_vrf (dep := 5) hAD (List.forall_mem_cons.mpr ⟨r104 hAD, List.forall_mem_cons.mpr ⟨r112 hAD, fun c hc => by cases hc⟩⟩) T2OK_nil w113
def g114 : CR := (257, [(2, 90, 90), (0, 0, 5)], [], some (0, (-1), 5), [], [])
theorem w114 : vrf GG [(4, g106)] [] 300 4 g114
  [(9, [(0, 5), ((-1), 5), ((-2), 1000000), (0, 6)], [(0, rA 90), (1, iA (0, [(1, 0)])), (2, iA (0, [(1, 1)])), (3, iA (0, [(1, 2)])), (4, iA (0, [(1, 3)]))], [], [], (1394, [((-202), 3)])),
  (74, [(0, 5), ((-1), 5), ((-2), 1000000), (0, 5), ((-3), 23), ((-2), 1000000), (1, 6)], [(0, rA 90), (1, iA (0, [(1, 0)])), (2, iA (0, [(1, 1)])), (3, iA (0, [(1, 2)])), (4, iA (0, [(1, 3)])), (5, iA (0, [(1, 4)]))], [iA (0, [(1, 5)])], [((91, 3), iA (0, [(1, 6)]))], (1329, [((-202), 3)])),
  (91, [(0, 5), ((-1), 5), ((-2), 1000000), (0, 5), (1, 6)], [(0, rA 90), (1, iA (0, [(1, 0)])), (2, iA (0, [(1, 1)])), (3, iA (0, [(1, 2)])), (4, iA (0, [(1, 3)]))], [], [((91, 3), iA (0, [(1, 4)]))], (1312, [((-202), 3)]))] = true := by decide +kernel
theorem r114 {l : Launch} {D : va_G} {tys : List (ClassId × FieldType)} {A : Nat → Prop} {ad : Nat → Nat} (hAD : ∀ i : Nat, ad (1000 + i) = D.2 1000 i) : CRok l D tys A ad GG 5 g114 := CR_of_vrf (dep := 4) hAD (List.forall_mem_cons.mpr ⟨r106 hAD, fun c hc => by cases hc⟩) T2OK_nil w114
def g115 : CR := (258, [(2, 90, 90), (0, (-2147483648), 2147483647)], [], some (0, (-3), 23), [], [90, 98, 99, 100, 101])
theorem w115 : vrf GG [(4, g96), (4, g106), (5, g114)] [] 300 5 g115
  [] = true := by decide +kernel
theorem r115 {l : Launch} {D : va_G} {tys : List (ClassId × FieldType)} {A : Nat → Prop} {ad : Nat → Nat} (hAD : ∀ i : Nat, ad (1000 + i) = D.2 1000 i) : CRok l D tys A ad GG 6 g115 := CR_of_vrf (dep := 5) hAD (List.forall_mem_cons.mpr ⟨r96 hAD, List.forall_mem_cons.mpr ⟨r106 hAD, List.forall_mem_cons.mpr ⟨r114 hAD, fun c hc => by cases hc⟩⟩⟩) T2OK_nil w115
def g116 : CR := (18, [(2, 0, 0), (0, (-2147483648), 2147483647)], [], some (0, (-2), 5), [], [])
theorem w116 : vrf GG [(5, g112)] [] 300 5 g116
  [] = true := by decide +kernel
theorem r116 {l : Launch} {D : va_G} {tys : List (ClassId × FieldType)} {A : Nat → Prop} {ad : Nat → Nat} (hAD : ∀ i : Nat, ad (1000 + i) = D.2 1000 i) : CRok l D tys A ad GG 6 g116 := CR_of_vrf (dep := 5) hAD (List.forall_mem_cons.mpr ⟨r112 hAD, fun c hc => by cases hc⟩) T2OK_nil w116
def g117 : CR := (259, [(2, 90, 90), (0, (-2147483648), 2147483647)], [], some (0, (-2), 5), [], [90, 98, 99, 100, 101])
theorem w117 : vrf GG [(4, g96), (5, g114)] [] 300 5 g117
  [] = true := by decide +kernel
theorem r117 {l : Launch} {D : va_G} {tys : List (ClassId × FieldType)} {A : Nat → Prop} {ad : Nat → Nat} (hAD : ∀ i : Nat, ad (1000 + i) = D.2 1000 i) : CRok l D tys A ad GG 6 g117 := CR_of_vrf (dep := 5) hAD (List.forall_mem_cons.mpr ⟨r96 hAD, List.forall_mem_cons.mpr ⟨r114 hAD, fun c hc => by cases hc⟩⟩) T2OK_nil w117
def g118 : CR := (19, [(2, 0, 0), (0, (-2147483648), 2147483647)], [], some (0, (-2), 63), [], [])
theorem w118 : vrf GG [(4, g108)] [] 300 4 g118
  [(18, [(0, 23), (0, 63), (0, 6), (1, 24)], [(0, rA 0), (1, iA (0, [(1, 0)])), (2, iA (0, [(1, 1)])), (3, iA (0, [(1, 2)]))], [], [((4, 3), iA (0, [(1, 3)]))], (844, [((-126), 2)])),
  (53, [(0, 23), (0, 63), (0, 5), (1, 24), (1, 6)], [(0, rA 0), (1, iA (0, [(1, 0)])), (2, iA (0, [(1, 1)])), (3, iA (0, [(1, 2)]))], [], [((4, 3), iA (0, [(1, 3)])), ((4, 4), iA (0, [(1, 4)]))], (809, [((-126), 2)]))] = true := by decide +kernel
theorem r118 {l : Launch} {D : va_G} {tys : List (ClassId × FieldType)} {A : Nat → Prop} {ad : Nat → Nat} (hAD : ∀ i : Nat, ad (1000 + i) = D.2 1000 i) : CRok l D tys A ad GG 5 g118 := CR_of_vrf (dep := 4) hAD (List.forall_mem_cons.mpr ⟨r108 hAD, fun c hc => by cases hc⟩) T2OK_nil w118
def g119 : CR := (260, [(2, 90, 90), (0, (-2147483648), 2147483647)], [], some (0, (-2), 63), [], [90, 98, 99, 100, 101])
theorem w119 : vrf GG [(4, g96), (4, g110)] [] 300 5 g119
  [(19, [(0, 23), (0, 63), (0, 6), (1, 24)], [(0, rA 90), (1, iA (0, [(1, 0)])), (2, iA (0, [(1, 1)])), (3, iA (0, [(1, 2)]))], [], [((91, 2), iA (0, [(1, 3)]))], (772, [((-116), 2)])),
  (46, [(0, 23), (0, 63), (0, 5), (0, 32), (0, 63), (1, 24), (1, 6)], [(0, rA 90), (1, iA (0, [(1, 0)])), (2, iA (0, [(1, 1)])), (3, iA (0, [(1, 2)]))], [iA (0, [(1, 3)]), iA (0, [(1, 4)])], [((91, 2), iA (0, [(1, 5)])), ((91, 3), iA (0, [(1, 6)]))], (745, [((-116), 2)]))] = true := by decide +kernel
theorem r119 {l : Launch} {D : va_G} {tys : List (ClassId × FieldType)} {A : Nat → Prop} {ad : Nat → Nat} (hAD : ∀ i : Nat, ad (1000 + i) = D.2 1000 i) : CRok l D tys A ad GG 6 g119 := CR_of_vrf (dep := 5) hAD (List.forall_mem_cons.mpr ⟨r96 hAD, List.forall_mem_cons.mpr ⟨r110 hAD, fun c hc => by cases hc⟩⟩) T2OK_nil w119
