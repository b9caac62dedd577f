noncomputable def g240 : CR := (301, [(2, 90, 90), (0, 1, 6), (0, 0, 3), (0, 1, 1)], [((107, 1), (0, 9, 60))], some (0, (-6), (-2)), [], [])
theorem w240 : vrf GG [] [] 300 2 g240
  [] = true := by decide +kernel
theorem r240 {l : Launch} {D : va_G} {tys : List (ClassId × FieldType)} {A : Nat → Prop} {ad : Nat → Nat} (hAD : ∀ i : Nat, ad (1000 + i) = D.2 1000 i) : CRok l D tys A ad GG 3 g240 := CR_of_vrf (dep := 2) hAD (fun c hc => by cases hc) T2OK_nil w240
noncomputable def g241 : CR := (303, [(2, 90, 90), (0, 1, 6), (0, 0, 3), (0, 1, 1)], [((107, 1), (0, 9, 60))], some (0, (-6), (-2)), [], [])
theorem w241 : vrf GG [(3, g240)] [] 300 3 g241
  [] = true := by decide +kernel
theorem r241 {l : Launch} {D : va_G} {tys : List (ClassId × FieldType)} {A : Nat → Prop} {ad : Nat → Nat} (hAD : ∀ i : Nat, ad (1000 + i) = D.2 1000 i) : CRok l D tys A ad GG 4 g241 := CR_of_vrf (dep := 3) hAD (List.forall_mem_cons.mpr ⟨r240 hAD, fun c hc => by cases hc⟩) T2OK_nil w241
noncomputable def g242 : CR := (301, [(2, 90, 90), (0, 1, 6), (0, 0, 3), (0, 2, 2)], [((107, 2), (0, (-1), (-1)))], some (0, (-6), (-6)), [], [])
theorem w242 : vrf GG [] [] 300 2 g242
  [] = true := by decide +kernel
theorem r242 {l : Launch} {D : va_G} {tys : List (ClassId × FieldType)} {A : Nat → Prop} {ad : Nat → Nat} (hAD : ∀ i : Nat, ad (1000 + i) = D.2 1000 i) : CRok l D tys A ad GG 3 g242 := CR_of_vrf (dep := 2) hAD (fun c hc => by cases hc) T2OK_nil w242
noncomputable def g243 : CR := (303, [(2, 90, 90), (0, 1, 6), (0, 0, 3), (0, 2, 2)], [((107, 2), (0, (-1), (-1)))], some (0, (-6), (-6)), [], [])
theorem w243 : vrf GG [(3, g242)] [] 300 3 g243
  [] = true := by decide +kernel
theorem r243 {l : Launch} {D : va_G} {tys : List (ClassId × FieldType)} {A : Nat → Prop} {ad : Nat → Nat} (hAD : ∀ i : Nat, ad (1000 + i) = D.2 1000 i) : CRok l D tys A ad GG 4 g243 := CR_of_vrf (dep := 3) hAD (List.forall_mem_cons.mpr ⟨r242 hAD, fun c hc => by cases hc⟩) T2OK_nil w243
noncomputable def g244 : CR := (301, [(2, 90, 90), (0, 1, 6), (0, 0, 3), (0, 2, 2)], [((107, 2), (0, 0, 8))], some (0, (-6), 0), [], [])
theorem w244 : vrf GG [] [] 300 2 g244
  [(69, [(1, 6), (0, 3), (0, 60), (0, 8)], [(0, rA 90), (1, iA (0, [(1, 0)])), (2, iA (0, [(1, 1)])), (3, iA (2, [])), (4, iA (0, [(1, 2)]))], [], [((107, 2), iA (0, [(1, 3)]))], (21160, [((-300), 2)])),
  (109, [(1, 6), (0, 3), (0, 8), (0, 8)], [(0, rA 90), (1, iA (0, [(1, 0)])), (2, iA (0, [(1, 1)])), (3, iA (2, [])), (4, iA (0, [(1, 2)]))], [], [((107, 2), iA (0, [(1, 3)]))], (2480, [((-300), 2)]))] = true := by decide +kernel
theorem r244 {l : Launch} {D : va_G} {tys : List (ClassId × FieldType)} {A : Nat → Prop} {ad : Nat → Nat} (hAD : ∀ i : Nat, ad (1000 + i) = D.2 1000 i) : CRok l D tys A ad GG 3 g244 := CR_of_vrf (dep := 2) hAD (fun c hc => by cases hc) T2OK_nil w244
noncomputable def g245 : CR := (302, [(2, 90, 90), (0, 1, 6), (0, 0, 3), (0, 2, 2)], [((107, 2), (0, 0, 8))], none, [], [102, 103, 104])
theorem w245 : vrf GG [(1, g122)] [] 300 1 g245
  [(3, [(1, 6), (0, 3), (0, 64), (0, 8)], [(0, rA 90), (1, iA (0, [(1, 0)])), (2, iA (0, [(1, 1)])), (3, iA (2, [])), (4, iA (0, [(1, 2)]))], [], [((107, 2), iA (0, [(1, 3)]))], (96870116, [((-49348), 2)])),
  (29, [(1, 6), (0, 3), (0, 63), (0, 60), (0, 8)], [(0, rA 90), (1, iA (0, [(1, 0)])), (2, iA (0, [(1, 1)])), (3, iA (2, [])), (4, iA (0, [(1, 2)])), (5, iA (0, [(1, 3)]))], [], [((107, 2), iA (0, [(1, 4)]))], (96869046, [((-676), 3), ((-49348), 2)])),
  (76, [(1, 6), (0, 3), (0, 63), (0, 59), (0, 63), (0, 8)], [(0, rA 90), (1, iA (0, [(1, 0)])), (2, iA (0, [(1, 1)])), (3, iA (2, [])), (4, iA (0, [(1, 2)])), (5, iA (0, [(1, 3)]))], [iA (0, [(1, 4)]), rA 102], [((107, 2), iA (0, [(1, 5)]))], (96868999, [((-676), 3), ((-49348), 2)])),
  (77, [(1, 6), (0, 3), (0, 63), (0, 59), (0, 1), (0, 63), (0, 8)], [(0, rA 90), (1, iA (0, [(1, 0)])), (2, iA (0, [(1, 1)])), (3, iA (2, [])), (4, iA (0, [(1, 2)])), (5, iA (0, [(1, 3)]))], [iA (0, [(1, 4)]), iA (0, [(1, 5)]), rA 102], [((107, 2), iA (0, [(1, 6)]))], (96868998, [((-676), 3), ((-49348), 2)])),
  (87, [(1, 6), (0, 3), (0, 63), (0, 8), (0, 8)], [(0, rA 90), (1, iA (0, [(1, 0)])), (2, iA (0, [(1, 1)])), (3, iA (2, [])), (4, iA (0, [(1, 2)])), (5, iA (0, [(1, 3)]))], [], [((107, 2), iA (0, [(1, 4)]))], (96827018, [((-676), 3), ((-49348), 2)])),
  (130, [(1, 6), (0, 3), (0, 63), (0, 7), (0, 128), (0, 255), (0, 63), (1, 8)], [(0, rA 90), (1, iA (0, [(1, 0)])), (2, iA (0, [(1, 1)])), (3, iA (2, [])), (4, iA (0, [(1, 2)])), (5, iA (0, [(1, 3)]))], [iA (0, [(1, 4)]), iA (0, [(1, 5)]), iA (0, [(1, 6)]), rA 103], [((107, 2), iA (0, [(1, 7)]))], (96826975, [((-676), 3), ((-49348), 2)])),
  (159, [(1, 6), (0, 3), (0, 255), (0, 256), (0, 8)], [(0, rA 90), (1, iA (0, [(1, 0)])), (2, iA (0, [(1, 1)])), (3, iA (2, [])), (4, iA (0, [(1, 2)])), (5, iA (0, [(1, 3)]))], [], [((107, 2), iA (0, [(1, 4)]))], (93661508, [((-676), 3)])),
  (192, [(1, 6), (0, 3), (0, 255), (0, 255), (0, 1000000), (256, 1791), (0, 8)], [(0, rA 90), (1, iA (0, [(1, 0)])), (2, iA (0, [(1, 1)])), (3, iA (2, [])), (4, iA (0, [(1, 2)])), (5, iA (0, [(1, 3)]))], [iA (0, [(1, 4)]), iA (0, [(1, 5)]), rA 104], [((107, 2), iA (0, [(1, 6)]))], (93661475, [((-676), 3)])),
  (204, [(1, 6), (0, 3), (0, 255), ((-1), 5), (0, 8)], [(0, rA 90), (1, iA (0, [(1, 0)])), (2, iA (0, [(1, 1)])), (3, iA (2, [])), (4, iA (0, [(1, 2)])), (5, iA (0, [(1, 3)]))], [], [((107, 2), iA (0, [(1, 4)]))], (23371614, [(11686012, 3)])),
  (212, [(1, 6), (0, 3), (0, 255), (0, 5), (0, 256), (0, 8)], [(0, rA 90), (1, iA (0, [(1, 0)])), (2, iA (0, [(1, 1)])), (3, iA (2, [])), (4, iA (0, [(1, 2)])), (5, iA (0, [(1, 3)])), (6, iA (0, [(1, 4)]))], [], [((107, 2), iA (0, [(1, 5)]))], (23325763, [((-45292), 4), (11686012, 3)])),
  (239, [(1, 6), (0, 3), (0, 255), (0, 5), (0, 255), (0, 64), (0, 8)], [(0, rA 90), (1, iA (0, [(1, 0)])), (2, iA (0, [(1, 1)])), (3, iA (2, [])), (4, iA (0, [(1, 2)])), (5, iA (0, [(1, 3)])), (6, iA (0, [(1, 4)])), (7, iA (0, [(1, 5)]))], [], [((107, 2), iA (0, [(1, 6)]))], (23324482, [((-676), 5), (11686012, 3), ((-45292), 4)])),
  (317, [(1, 6), (0, 3), (0, 255), (0, 5), (0, 255), (0, 63), (0, 8)], [(0, rA 90), (1, iA (0, [(1, 0)])), (2, iA (0, [(1, 1)])), (3, iA (2, [])), (4, iA (0, [(1, 2)])), (5, iA (0, [(1, 3)])), (6, iA (0, [(1, 4)])), (7, iA (0, [(1, 5)]))], [], [((107, 2), iA (0, [(1, 6)]))], (23324404, [((-676), 5), (11686012, 3), ((-45292), 4)]))] = true := by decide +kernel
theorem r245 {l : Launch} {D : va_G} {tys : List (ClassId × FieldType)} {A : Nat → Prop} {ad : Nat → Nat} (hAD : ∀ i : Nat, ad (1000 + i) = D.2 1000 i) : CRok l D tys A ad GG 2 g245 := CR_of_vrf (dep := 1) hAD (List.forall_mem_cons.mpr ⟨r122 hAD, fun c hc => by cases hc⟩) T2OK_nil w245
noncomputable def g246 : CR := (303, [(2, 90, 90), (0, 1, 6), (0, 0, 3), (0, 2, 2)], [((107, 2), (0, 0, 8))], some (0, (-2147483648), 999999), [], [102, 103, 104])
theorem w246 : vrf GG [(3, g244), (2, g245)] [] 300 3 g246
  [] = true := by decide +kernel
theorem r246 {l : Launch} {D : va_G} {tys : List (ClassId × FieldType)} {A : Nat → Prop} {ad : Nat → Nat} (hAD : ∀ i : Nat, ad (1000 + i) = D.2 1000 i) : CRok l D tys A ad GG 4 g246 := CR_of_vrf (dep := 3) hAD (List.forall_mem_cons.mpr ⟨r244 hAD, List.forall_mem_cons.mpr ⟨r245 hAD, fun c hc => by cases hc⟩⟩) T2OK_nil w246
noncomputable def g247 : CR := (301, [(2, 90, 90), (0, 1, 6), (0, 0, 3), (0, 2, 2)], [((107, 2), (0, 9, 60))], some (0, (-6), (-2)), [], [])
theorem w247 : vrf GG [] [] 300 2 g247
  [] = true := by decide +kernel
theorem r247 {l : Launch} {D : va_G} {tys : List (ClassId × FieldType)} {A : Nat → Prop} {ad : Nat → Nat} (hAD : ∀ i : Nat, ad (1000 + i) = D.2 1000 i) : CRok l D tys A ad GG 3 g247 := CR_of_vrf (dep := 2) hAD (fun c hc => by cases hc) T2OK_nil w247
noncomputable def g248 : CR := (303, [(2, 90, 90), (0, 1, 6), (0, 0, 3), (0, 2, 2)], [((107, 2), (0, 9, 60))], some (0, (-6), (-2)), [], [])
theorem w248 : vrf GG [(3, g247)] [] 300 3 g248
  [] = true := by decide +kernel
theorem r248 {l : Launch} {D : va_G} {tys : List (ClassId × FieldType)} {A : Nat → Prop} {ad : Nat → Nat} (hAD : ∀ i : Nat, ad (1000 + i) = D.2 1000 i) : CRok l D tys A ad GG 4 g248 := CR_of_vrf (dep := 3) hAD (List.forall_mem_cons.mpr ⟨r247 hAD, fun c hc => by cases hc⟩) T2OK_nil w248
noncomputable def g249 : CR := (301, [(2, 90, 90), (0, 1, 6), (0, 0, 3), (0, 3, 3)], [((107, 3), (0, (-1), (-1)))], some (0, (-6), (-6)), [], [])
theorem w249 : vrf GG [] [] 300 2 g249
  [] = true := by decide +kernel
theorem r249 {l : Launch} {D : va_G} {tys : List (ClassId × FieldType)} {A : Nat → Prop} {ad : Nat → Nat} (hAD : ∀ i : Nat, ad (1000 + i) = D.2 1000 i) : CRok l D tys A ad GG 3 g249 := CR_of_vrf (dep := 2) hAD (fun c hc => by cases hc) T2OK_nil w249
noncomputable def g250 : CR := (303, [(2, 90, 90), (0, 1, 6), (0, 0, 3), (0, 3, 3)], [((107, 3), (0, (-1), (-1)))], some (0, (-6), (-6)), [], [])
theorem w250 : vrf GG [(3, g249)] [] 300 3 g250
  [] = true := by decide +kernel
theorem r250 {l : Launch} {D : va_G} {tys : List (ClassId × FieldType)} {A : Nat → Prop} {ad : Nat → Nat} (hAD : ∀ i : Nat, ad (1000 + i) = D.2 1000 i) : CRok l D tys A ad GG 4 g250 := CR_of_vrf (dep := 3) hAD (List.forall_mem_cons.mpr ⟨r249 hAD, fun c hc => by cases hc⟩) T2OK_nil w250
noncomputable def g251 : CR := (301, [(2, 90, 90), (0, 1, 6), (0, 0, 3), (0, 3, 3)], [((107, 3), (0, 0, 8))], some (0, (-6), 0), [], [])
theorem w251 : vrf GG [] [] 300 2 g251
  [(69, [(1, 6), (0, 3), (0, 60), (0, 8)], [(0, rA 90), (1, iA (0, [(1, 0)])), (2, iA (0, [(1, 1)])), (3, iA (3, [])), (4, iA (0, [(1, 2)]))], [], [((107, 3), iA (0, [(1, 3)]))], (21160, [((-300), 2)])),
  (109, [(1, 6), (0, 3), (0, 8), (0, 8)], [(0, rA 90), (1, iA (0, [(1, 0)])), (2, iA (0, [(1, 1)])), (3, iA (3, [])), (4, iA (0, [(1, 2)]))], [], [((107, 3), iA (0, [(1, 3)]))], (2480, [((-300), 2)]))] = true := by decide +kernel
theorem r251 {l : Launch} {D : va_G} {tys : List (ClassId × FieldType)} {A : Nat → Prop} {ad : Nat → Nat} (hAD : ∀ i : Nat, ad (1000 + i) = D.2 1000 i) : CRok l D tys A ad GG 3 g251 := CR_of_vrf (dep := 2) hAD (fun c hc => by cases hc) T2OK_nil w251
noncomputable def g252 : CR := (302, [(2, 90, 90), (0, 1, 6), (0, 0, 3), (0, 3, 3)], [((107, 3), (0, 0, 8))], none, [], [102, 103, 104])
theorem w252 : vrf GG [(1, g122)] [] 300 1 g252
  [(3, [(1, 6), (0, 3), (0, 64), (0, 8)], [(0, rA 90), (1, iA (0, [(1, 0)])), (2, iA (0, [(1, 1)])), (3, iA (3, [])), (4, iA (0, [(1, 2)]))], [], [((107, 3), iA (0, [(1, 3)]))], (96870116, [((-49348), 2)])),
  (29, [(1, 6), (0, 3), (0, 63), (0, 60), (0, 8)], [(0, rA 90), (1, iA (0, [(1, 0)])), (2, iA (0, [(1, 1)])), (3, iA (3, [])), (4, iA (0, [(1, 2)])), (5, iA (0, [(1, 3)]))], [], [((107, 3), iA (0, [(1, 4)]))], (96869046, [((-676), 3), ((-49348), 2)])),
  (76, [(1, 6), (0, 3), (0, 63), (0, 59), (0, 63), (0, 8)], [(0, rA 90), (1, iA (0, [(1, 0)])), (2, iA (0, [(1, 1)])), (3, iA (3, [])), (4, iA (0, [(1, 2)])), (5, iA (0, [(1, 3)]))], [iA (0, [(1, 4)]), rA 102], [((107, 3), iA (0, [(1, 5)]))], (96868999, [((-676), 3), ((-49348), 2)])),
  (77, [(1, 6), (0, 3), (0, 63), (0, 59), (0, 1), (0, 63), (0, 8)], [(0, rA 90), (1, iA (0, [(1, 0)])), (2, iA (0, [(1, 1)])), (3, iA (3, [])), (4, iA (0, [(1, 2)])), (5, iA (0, [(1, 3)]))], [iA (0, [(1, 4)]), iA (0, [(1, 5)]), rA 102], [((107, 3), iA (0, [(1, 6)]))], (96868998, [((-676), 3), ((-49348), 2)])),
  (87, [(1, 6), (0, 3), (0, 63), (0, 8), (0, 8)], [(0, rA 90), (1, iA (0, [(1, 0)])), (2, iA (0, [(1, 1)])), (3, iA (3, [])), (4, iA (0, [(1, 2)])), (5, iA (0, [(1, 3)]))], [], [((107, 3), iA (0, [(1, 4)]))], (96827018, [((-676), 3), ((-49348), 2)])),
  (130, [(1, 6), (0, 3), (0, 63), (0, 7), (0, 128), (0, 255), (0, 63), (1, 8)], [(0, rA 90), (1, iA (0, [(1, 0)])), (2, iA (0, [(1, 1)])), (3, iA (3, [])), (4, iA (0, [(1, 2)])), (5, iA (0, [(1, 3)]))], [iA (0, [(1, 4)]), iA (0, [(1, 5)]), iA (0, [(1, 6)]), rA 103], [((107, 3), iA (0, [(1, 7)]))], (96826975, [((-676), 3), ((-49348), 2)])),
  (159, [(1, 6), (0, 3), (0, 255), (0, 256), (0, 8)], [(0, rA 90), (1, iA (0, [(1, 0)])), (2, iA (0, [(1, 1)])), (3, iA (3, [])), (4, iA (0, [(1, 2)])), (5, iA (0, [(1, 3)]))], [], [((107, 3), iA (0, [(1, 4)]))], (93661508, [((-676), 3)])),
  (192, [(1, 6), (0, 3), (0, 255), (0, 255), (0, 1000000), (256, 1791), (0, 8)], [(0, rA 90), (1, iA (0, [(1, 0)])), (2, iA (0, [(1, 1)])), (3, iA (3, [])), (4, iA (0, [(1, 2)])), (5, iA (0, [(1, 3)]))], [iA (0, [(1, 4)]), iA (0, [(1, 5)]), rA 104], [((107, 3), iA (0, [(1, 6)]))], (93661475, [((-676), 3)])),
  (204, [(1, 6), (0, 3), (0, 255), ((-1), 5), (0, 8)], [(0, rA 90), (1, iA (0, [(1, 0)])), (2, iA (0, [(1, 1)])), (3, iA (3, [])), (4, iA (0, [(1, 2)])), (5, iA (0, [(1, 3)]))], [], [((107, 3), iA (0, [(1, 4)]))], (23371614, [(11686012, 3)])),
  (212, [(1, 6), (0, 3), (0, 255), (0, 5), (0, 256), (0, 8)], [(0, rA 90), (1, iA (0, [(1, 0)])), (2, iA (0, [(1, 1)])), (3, iA (3, [])), (4, iA (0, [(1, 2)])), (5, iA (0, [(1, 3)])), (6, iA (0, [(1, 4)]))], [], [((107, 3), iA (0, [(1, 5)]))], (23325763, [((-45292), 4), (11686012, 3)])),
  (239, [(1, 6), (0, 3), (0, 255), (0, 5), (0, 255), (0, 64), (0, 8)], [(0, rA 90), (1, iA (0, [(1, 0)])), (2, iA (0, [(1, 1)])), (3, iA (3, [])), (4, iA (0, [(1, 2)])), (5, iA (0, [(1, 3)])), (6, iA (0, [(1, 4)])), (7, iA (0, [(1, 5)]))], [], [((107, 3), iA (0, [(1, 6)]))], (23324482, [((-676), 5), (11686012, 3), ((-45292), 4)])),
  (317, [(1, 6), (0, 3), (0, 255), (0, 5), (0, 255), (0, 63), (0, 8)], [(0, rA 90), (1, iA (0, [(1, 0)])), (2, iA (0, [(1, 1)])), (3, iA (3, [])), (4, iA (0, [(1, 2)])), (5, iA (0, [(1, 3)])), (6, iA (0, [(1, 4)])), (7, iA (0, [(1, 5)]))], [], [((107, 3), iA (0, [(1, 6)]))], (23324404, [((-676), 5), (11686012, 3), ((-45292), 4)]))] = true := by decide +kernel
theorem r252 {l : Launch} {D : va_G} {tys : List (ClassId × FieldType)} {A : Nat → Prop} {ad : Nat → Nat} (hAD : ∀ i : Nat, ad (1000 + i) = D.2 1000 i) : CRok l D tys A ad GG 2 g252 := CR_of_vrf (dep := 1) hAD (List.forall_mem_cons.mpr ⟨r122 hAD, fun c hc => by cases hc⟩) T2OK_nil w252
noncomputable def g253 : CR := (303, [(2, 90, 90), (0, 1, 6), (0, 0, 3), (0, 3, 3)], [((107, 3), (0, 0, 8))], some (0, (-2147483648), 999999), [], [102, 103, 104])
theorem w253 : vrf GG [(3, g251), (2, g252)] [] 300 3 g253
  [] = true := by decide +kernel
theorem r253 {l : Launch} {D : va_G} {tys : List (ClassId × FieldType)} {A : Nat → Prop} {ad : Nat → Nat} (hAD : ∀ i : Nat, ad (1000 + i) = D.2 1000 i) : CRok l D tys A ad GG 4 g253 := CR_of_vrf (dep := 3) hAD (List.forall_mem_cons.mpr ⟨r251 hAD, List.forall_mem_cons.mpr ⟨r252 hAD, fun c hc => by cases hc⟩⟩) T2OK_nil w253
noncomputable def g254 : CR := (301, [(2, 90, 90), (0, 1, 6), (0, 0, 3), (0, 3, 3)], [((107, 3), (0, 9, 60))], some (0, (-6), (-2)), [], [])
theorem w254 : vrf GG [] [] 300 2 g254
  [] = true := by decide +kernel
theorem r254 {l : Launch} {D : va_G} {tys : List (ClassId × FieldType)} {A : Nat → Prop} {ad : Nat → Nat} (hAD : ∀ i : Nat, ad (1000 + i) = D.2 1000 i) : CRok l D tys A ad GG 3 g254 := CR_of_vrf (dep := 2) hAD (fun c hc => by cases hc) T2OK_nil w254
noncomputable def g255 : CR := (303, [(2, 90, 90), (0, 1, 6), (0, 0, 3), (0, 3, 3)], [((107, 3), (0, 9, 60))], some (0, (-6), (-2)), [], [])
theorem w255 : vrf GG [(3, g254)] [] 300 3 g255
  [] = true := by decide +kernel
theorem r255 {l : Launch} {D : va_G} {tys : List (ClassId × FieldType)} {A : Nat → Prop} {ad : Nat → Nat} (hAD : ∀ i : Nat, ad (1000 + i) = D.2 1000 i) : CRok l D tys A ad GG 4 g255 := CR_of_vrf (dep := 3) hAD (List.forall_mem_cons.mpr ⟨r254 hAD, fun c hc => by cases hc⟩) T2OK_nil w255
noncomputable def g256 : CR := (49, [(2, 0, 0), (0, (-2147483648), 0), (0, (-2147483648), 2147483647), (0, (-2147483648), 2147483647), (0, (-2147483648), 2147483647)], [], some (0, (-2), (-2)), [], [])
theorem w256 : vrf GG [(1, g195)] [] 300 1 g256
  [] = true := by decide +kernel
theorem r256 {l : Launch} {D : va_G} {tys : List (ClassId × FieldType)} {A : Nat → Prop} {ad : Nat → Nat} (hAD : ∀ i : Nat, ad (1000 + i) = D.2 1000 i) : CRok l D tys A ad GG 2 g256 := CR_of_vrf (dep := 1) hAD (List.forall_mem_cons.mpr ⟨r195 hAD, fun c hc => by cases hc⟩) T2OK_nil w256
noncomputable def g257 : CR := (49, [(2, 0, 0), (0, 7, 2147483647), (0, (-2147483648), 2147483647), (0, (-2147483648), 2147483647), (0, (-2147483648), 2147483647)], [], some (0, (-2), (-2)), [], [])
theorem w257 : vrf GG [(1, g197)] [] 300 1 g257
  [] = true := by decide +kernel
theorem r257 {l : Launch} {D : va_G} {tys : List (ClassId × FieldType)} {A : Nat → Prop} {ad : Nat → Nat} (hAD : ∀ i : Nat, ad (1000 + i) = D.2 1000 i) : CRok l D tys A ad GG 2 g257 := CR_of_vrf (dep := 1) hAD (List.forall_mem_cons.mpr ⟨r197 hAD, fun c hc => by cases hc⟩) T2OK_nil w257
noncomputable def g258 : CR := (49, [(2, 0, 0), (0, 1, 6), (0, (-2147483648), (-1)), (0, (-2147483648), 2147483647), (0, (-2147483648), 2147483647)], [], some (0, (-2), (-2)), [], [])
theorem w258 : vrf GG [(2, g199)] [] 300 2 g258
  [] = true := by decide +kernel
theorem r258 {l : Launch} {D : va_G} {tys : List (ClassId × FieldType)} {A : Nat → Prop} {ad : Nat → Nat} (hAD : ∀ i : Nat, ad (1000 + i) = D.2 1000 i) : CRok l D tys A ad GG 3 g258 := CR_of_vrf (dep := 2) hAD (List.forall_mem_cons.mpr ⟨r199 hAD, fun c hc => by cases hc⟩) T2OK_nil w258
noncomputable def g259 : CR := (49, [(2, 0, 0), (0, 1, 6), (0, 4, 2147483647), (0, (-2147483648), 2147483647), (0, (-2147483648), 2147483647)], [], some (0, (-2), (-2)), [], [])
theorem w259 : vrf GG [(2, g201)] [] 300 2 g259
  [] = true := by decide +kernel
theorem r259 {l : Launch} {D : va_G} {tys : List (ClassId × FieldType)} {A : Nat → Prop} {ad : Nat → Nat} (hAD : ∀ i : Nat, ad (1000 + i) = D.2 1000 i) : CRok l D tys A ad GG 3 g259 := CR_of_vrf (dep := 2) hAD (List.forall_mem_cons.mpr ⟨r201 hAD, fun c hc => by cases hc⟩) T2OK_nil w259
noncomputable def g260 : CR := (49, [(2, 0, 0), (0, 1, 6), (0, 0, 3), (0, (-2147483648), (-1)), (0, (-2147483648), 2147483647)], [], some (0, (-2), (-2)), [], [])
theorem w260 : vrf GG [(2, g203)] [] 300 2 g260
  [] = true := by decide +kernel
theorem r260 {l : Launch} {D : va_G} {tys : List (ClassId × FieldType)} {A : Nat → Prop} {ad : Nat → Nat} (hAD : ∀ i : Nat, ad (1000 + i) = D.2 1000 i) : CRok l D tys A ad GG 3 g260 := CR_of_vrf (dep := 2) hAD (List.forall_mem_cons.mpr ⟨r203 hAD, fun c hc => by cases hc⟩) T2OK_nil w260
noncomputable def g261 : CR := (49, [(2, 0, 0), (0, 1, 6), (0, 0, 3), (0, 4, 2147483647), (0, (-2147483648), 2147483647)], [], some (0, (-2), (-2)), [], [])
theorem w261 : vrf GG [(2, g205)] [] 300 2 g261
  [] = true := by decide +kernel
theorem r261 {l : Launch} {D : va_G} {tys : List (ClassId × FieldType)} {A : Nat → Prop} {ad : Nat → Nat} (hAD : ∀ i : Nat, ad (1000 + i) = D.2 1000 i) : CRok l D tys A ad GG 3 g261 := CR_of_vrf (dep := 2) hAD (List.forall_mem_cons.mpr ⟨r205 hAD, fun c hc => by cases hc⟩) T2OK_nil w261
noncomputable def g262 : CR := (49, [(2, 0, 0), (0, 1, 6), (0, 0, 3), (0, 0, 3), (0, (-2147483648), 2147483647)], [], some (0, (-2147483648), 2147483647), [], [44, 45, 46])
theorem w262 : vrf GG [(5, g214), (5, g212)] [] 300 5 g262
  [] = true := by decide +kernel
theorem r262 {l : Launch} {D : va_G} {tys : List (ClassId × FieldType)} {A : Nat → Prop} {ad : Nat → Nat} (hAD : ∀ i : Nat, ad (1000 + i) = D.2 1000 i) : CRok l D tys A ad GG 6 g262 := CR_of_vrf (dep := 5) hAD (List.forall_mem_cons.mpr ⟨r214 hAD, List.forall_mem_cons.mpr ⟨r212 hAD, fun c hc => by cases hc⟩⟩) T2OK_nil w262
noncomputable def g263 : CR := (51, [(2, 0, 0), (0, (-2147483648), (-1))], [], some (0, (-2), (-2)), [], [])
theorem w263 : vrf GG [] [] 300 2 g263
  [] = true := by decide +kernel
theorem r263 {l : Launch} {D : va_G} {tys : List (ClassId × FieldType)} {A : Nat → Prop} {ad : Nat → Nat} (hAD : ∀ i : Nat, ad (1000 + i) = D.2 1000 i) : CRok l D tys A ad GG 3 g263 := CR_of_vrf (dep := 2) hAD (fun c hc => by cases hc) T2OK_nil w263
noncomputable def g264 : CR := (51, [(2, 0, 0), (0, 4, 2147483647)], [], some (0, (-2), (-2)), [], [])
theorem w264 : vrf GG [] [] 300 2 g264
  [] = true := by decide +kernel
theorem r264 {l : Launch} {D : va_G} {tys : List (ClassId × FieldType)} {A : Nat → Prop} {ad : Nat → Nat} (hAD : ∀ i : Nat, ad (1000 + i) = D.2 1000 i) : CRok l D tys A ad GG 3 g264 := CR_of_vrf (dep := 2) hAD (fun c hc => by cases hc) T2OK_nil w264
noncomputable def g265 : CR := (117, [(2, 4, 4), (0, 0, 5), (2, 39, 39), (0, 0, 3)], [], some (0, 0, 1), [], [])
theorem w265 : vrf GG [] [] 536 3 g265
  [(10, [(0, 5), (0, 3), ((-1), 60), (0, 9)], [(0, rA 4), (1, iA (0, [(1, 0)])), (2, rA 39), (3, iA (0, [(1, 1)])), (4, iA (0, [(1, 2)])), (5, iA (0, [(1, 3)]))], [], [], (15978, [((-1600), 3)])),
  (26, [(0, 5), (0, 3), ((-1), 7), (0, 8), (0, 7)], [(0, rA 4), (1, iA (0, [(1, 0)])), (2, rA 39), (3, iA (0, [(1, 1)])), (4, iA (0, [(1, 2)])), (5, iA (0, [(1, 3)])), (6, iA (0, [(1, 4)]))], [], [], (15695, [((-160), 4), ((-1600), 3)])),
  (61, [(0, 5), (0, 3), ((-1), 7), (0, 8), (0, 7)], [(0, rA 4), (1, iA (0, [(1, 0)])), (2, rA 39), (3, iA (0, [(1, 1)])), (4, iA (0, [(1, 2)])), (5, iA (0, [(1, 3)])), (6, iA (0, [(1, 4)]))], [], [], (14487, [((-1600), 3)]))] = true := by decide +kernel
theorem r265 {l : Launch} {D : va_G} {tys : List (ClassId × FieldType)} {A : Nat → Prop} {ad : Nat → Nat} (hAD : ∀ i : Nat, ad (1000 + i) = D.2 1000 i) : CRok l D tys A ad GG 4 g265 := CR_of_vrf (dep := 3) hAD (fun c hc => by cases hc) T2OK_nil w265
noncomputable def g266 : CR := (116, [(2, 47, 47), (2, 4, 4), (2, 39, 39), (0, 0, 3)], [], some (0, 0, 63), [], [])
theorem w266 : vrf GG [(4, g265)] [] 300 4 g266
  [(6, [(0, 3), (0, 63), (0, 6)], [(0, rA 47), (1, rA 4), (2, rA 39), (3, iA (0, [(1, 0)])), (4, iA (0, [(1, 1)])), (5, iA (0, [(1, 2)]))], [], [], (630, [((-92), 2)])),
  (35, [(0, 3), (0, 63), (0, 5), (1, 6)], [(0, rA 47), (1, rA 4), (2, rA 39), (3, iA (0, [(1, 0)])), (4, iA (0, [(1, 1)])), (5, iA (0, [(1, 2)]))], [], [((4, 4), iA (0, [(1, 3)]))], (601, [((-92), 2)]))] = true := by decide +kernel
theorem r266 {l : Launch} {D : va_G} {tys : List (ClassId × FieldType)} {A : Nat → Prop} {ad : Nat → Nat} (hAD : ∀ i : Nat, ad (1000 + i) = D.2 1000 i) : CRok l D tys A ad GG 5 g266 := CR_of_vrf (dep := 4) hAD (List.forall_mem_cons.mpr ⟨r265 hAD, fun c hc => by cases hc⟩) T2OK_nil w266
noncomputable def g267 : CR := (170, [(2, 39, 39), (0, 0, 3), (0, 0, 0), (0, (-1), 8)], [], some (0, 0, 1), [], [])
theorem w267 : vrf GG [] [] 455 3 g267
  [(3, [(0, 3), ((-1), 8), (0, 60)], [(0, rA 39), (1, iA (0, [(1, 0)])), (2, iA (0, [])), (3, iA (0, [(1, 1)])), (4, iA (0, [(1, 2)]))], [], [], (6214, [((-102), 2)])),
  (39, [(0, 3), ((-1), 8), (0, 59)], [(0, rA 39), (1, iA (0, [(1, 0)])), (2, iA (0, [])), (3, iA (0, [(1, 1)])), (4, iA (0, [(1, 2)]))], [], [], (6178, [((-102), 2)]))] = true := by decide +kernel
theorem r267 {l : Launch} {D : va_G} {tys : List (ClassId × FieldType)} {A : Nat → Prop} {ad : Nat → Nat} (hAD : ∀ i : Nat, ad (1000 + i) = D.2 1000 i) : CRok l D tys A ad GG 4 g267 := CR_of_vrf (dep := 3) hAD (fun c hc => by cases hc) T2OK_nil w267
noncomputable def g268 : CR := (51, [(2, 0, 0), (0, 0, 3)], [], some (0, (-6), 63), [], [])
theorem w268 : vrf GG [(5, g266), (4, g267)] [] 300 5 g268
  [] = true := by decide +kernel
theorem r268 {l : Launch} {D : va_G} {tys : List (ClassId × FieldType)} {A : Nat → Prop} {ad : Nat → Nat} (hAD : ∀ i : Nat, ad (1000 + i) = D.2 1000 i) : CRok l D tys A ad GG 6 g268 := CR_of_vrf (dep := 5) hAD (List.forall_mem_cons.mpr ⟨r266 hAD, List.forall_mem_cons.mpr ⟨r267 hAD, fun c hc => by cases hc⟩⟩) T2OK_nil w268
noncomputable def g269 : CR := (305, [(2, 90, 90), (0, (-2147483648), (-1)), (0, 1, 1)], [], some (0, (-2), (-2)), [], [])
theorem w269 : vrf GG [] [] 300 2 g269
  [] = true := by decide +kernel
theorem r269 {l : Launch} {D : va_G} {tys : List (ClassId × FieldType)} {A : Nat → Prop} {ad : Nat → Nat} (hAD : ∀ i : Nat, ad (1000 + i) = D.2 1000 i) : CRok l D tys A ad GG 3 g269 := CR_of_vrf (dep := 2) hAD (fun c hc => by cases hc) T2OK_nil w269
noncomputable def g270 : CR := (308, [(2, 90, 90), (0, (-2147483648), (-1))], [], some (0, (-2), (-2)), [], [])
theorem w270 : vrf GG [(3, g269)] [] 300 3 g270
  [] = true := by decide +kernel
theorem r270 {l : Launch} {D : va_G} {tys : List (ClassId × FieldType)} {A : Nat → Prop} {ad : Nat → Nat} (hAD : ∀ i : Nat, ad (1000 + i) = D.2 1000 i) : CRok l D tys A ad GG 4 g270 := CR_of_vrf (dep := 3) hAD (List.forall_mem_cons.mpr ⟨r269 hAD, fun c hc => by cases hc⟩) T2OK_nil w270
noncomputable def g271 : CR := (305, [(2, 90, 90), (0, 4, 2147483647), (0, 1, 1)], [], some (0, (-2), (-2)), [], [])
theorem w271 : vrf GG [] [] 300 2 g271
  [] = true := by decide +kernel
theorem r271 {l : Launch} {D : va_G} {tys : List (ClassId × FieldType)} {A : Nat → Prop} {ad : Nat → Nat} (hAD : ∀ i : Nat, ad (1000 + i) = D.2 1000 i) : CRok l D tys A ad GG 3 g271 := CR_of_vrf (dep := 2) hAD (fun c hc => by cases hc) T2OK_nil w271
noncomputable def g272 : CR := (308, [(2, 90, 90), (0, 4, 2147483647)], [], some (0, (-2), (-2)), [], [])
theorem w272 : vrf GG [(3, g271)] [] 300 3 g272
  [] = true := by decide +kernel
theorem r272 {l : Launch} {D : va_G} {tys : List (ClassId × FieldType)} {A : Nat → Prop} {ad : Nat → Nat} (hAD : ∀ i : Nat, ad (1000 + i) = D.2 1000 i) : CRok l D tys A ad GG 4 g272 := CR_of_vrf (dep := 3) hAD (List.forall_mem_cons.mpr ⟨r271 hAD, fun c hc => by cases hc⟩) T2OK_nil w272
noncomputable def g273 : CR := (305, [(2, 90, 90), (0, 0, 3), (0, 1, 1)], [], some (0, (-6), 0), [], [])
theorem w273 : vrf GG [] [] 300 2 g273
  [(36, [(0, 3), (0, 60), (1, 2147483647)], [(0, rA 90), (1, iA (0, [(1, 0)])), (2, iA (1, [])), (3, iA (0, [(1, 1)]))], [], [((91, 5), iA (0, [(1, 2)]))], (8710, [((-144), 1)]))] = true := by decide +kernel
theorem r273 {l : Launch} {D : va_G} {tys : List (ClassId × FieldType)} {A : Nat → Prop} {ad : Nat → Nat} (hAD : ∀ i : Nat, ad (1000 + i) = D.2 1000 i) : CRok l D tys A ad GG 3 g273 := CR_of_vrf (dep := 2) hAD (fun c hc => by cases hc) T2OK_nil w273
noncomputable def g274 : CR := (306, [(2, 90, 90), (0, 0, 5)], [], none, [], [90, 105])
theorem w274 : vrf GG [] [] 300 1 g274
  [(11, [(0, 5), (0, 6), (0, 6)], [(0, rA 90), (1, iA (0, [(1, 0)])), (2, iA (0, [(1, 1)]))], [], [((90, 30), iA (0, [(1, 2)]))], (536, [((-80), 1)]))] = true := by decide +kernel
theorem r274 {l : Launch} {D : va_G} {tys : List (ClassId × FieldType)} {A : Nat → Prop} {ad : Nat → Nat} (hAD : ∀ i : Nat, ad (1000 + i) = D.2 1000 i) : CRok l D tys A ad GG 2 g274 := CR_of_vrf (dep := 1) hAD (fun c hc => by cases hc) T2OK_nil w274
noncomputable def g275 : CR := (307, [(2, 90, 90), (0, 0, 0)], [((107, 0), (0, (-1), (-1)))], some (0, 1, 1), [], [])
theorem w275 : vrf GG [] [] 300 0 g275
  [(2, [], [(0, rA 90), (1, iA (0, [])), (2, iA (0, []))], [], [((107, 0), iA ((-1), []))], (510, [])),
  (22, [(0, 6)], [(0, rA 90), (1, iA (0, [])), (2, iA (0, [])), (3, iA (1, [])), (4, iA (0, []))], [], [((90, 30), iA (0, [(1, 0)])), ((107, 0), iA ((-1), []))], (209, [])),
  (70, [(0, 6)], [(0, rA 90), (1, iA (0, [])), (2, iA (0, [])), (3, iA (1, [])), (4, iA (0, []))], [], [((90, 30), iA (0, [(1, 0)])), ((107, 0), iA ((-1), []))], (98, []))] = true := by decide +kernel
theorem r275 {l : Launch} {D : va_G} {tys : List (ClassId × FieldType)} {A : Nat → Prop} {ad : Nat → Nat} (hAD : ∀ i : Nat, ad (1000 + i) = D.2 1000 i) : CRok l D tys A ad GG 1 g275 := CR_of_vrf (dep := 0) hAD (fun c hc => by cases hc) T2OK_nil w275
noncomputable def g276 : CR := (307, [(2, 90, 90), (0, 0, 0)], [((107, 0), (0, 0, 0))], some (0, 1, 1), [], [])
theorem w276 : vrf GG [] [] 300 0 g276
  [(2, [], [(0, rA 90), (1, iA (0, [])), (2, iA (0, []))], [], [((107, 0), iA (0, []))], (510, [])),
  (22, [(0, 6)], [(0, rA 90), (1, iA (0, [])), (2, iA (0, [])), (3, iA (1, [])), (4, iA (0, []))], [], [((90, 30), iA (0, [(1, 0)])), ((107, 0), iA (0, []))], (209, [])),
  (70, [(0, 6)], [(0, rA 90), (1, iA (0, [])), (2, iA (0, [])), (3, iA (1, [])), (4, iA (0, []))], [], [((90, 30), iA (0, [(1, 0)])), ((107, 0), iA (0, []))], (98, []))] = true := by decide +kernel
theorem r276 {l : Launch} {D : va_G} {tys : List (ClassId × FieldType)} {A : Nat → Prop} {ad : Nat → Nat} (hAD : ∀ i : Nat, ad (1000 + i) = D.2 1000 i) : CRok l D tys A ad GG 1 g276 := CR_of_vrf (dep := 0) hAD (fun c hc => by cases hc) T2OK_nil w276
noncomputable def g277 : CR := (307, [(2, 90, 90), (0, 0, 0)], [((107, 0), (0, 1, 1))], some (0, 0, 1), [], [])
theorem w277 : vrf GG [] [] 300 1 g277
  [(2, [(0, 6)], [(0, rA 90), (1, iA (0, [])), (2, iA (0, [(1, 0)]))], [], [((107, 0), iA (1, []))], (4810, [((-688), 0)])),
  (22, [(0, 5), (0, 1), (0, 1), (1, 6)], [(0, rA 90), (1, iA (0, [])), (2, iA (0, [(1, 0)])), (3, iA (0, [(1, 1)])), (4, iA (0, [(1, 2)]))], [], [((90, 30), iA (0, [(1, 3)])), ((107, 0), iA (1, []))], (4509, [((-172), 2), ((-688), 0)])),
  (63, [(0, 5), (0, 1), (1, 6), ((-9223372036854775808), 9223372036854775807)], [(0, rA 90), (1, iA (0, [])), (2, iA (0, [(1, 0)])), (3, iA (1, [])), (4, iA (0, []))], [iA (0, [(1, 1)])], [((90, 30), iA (0, [(1, 2)])), ((107, 0), iA (1, [])), ((109, 0), lA (0, [(1, 3)]))], (4468, [((-688), 0)])),
  (70, [(0, 5), (0, 1), (0, 1), (1, 6)], [(0, rA 90), (1, iA (0, [])), (2, iA (0, [(1, 0)])), (3, iA (0, [(1, 1)])), (4, iA (0, [(1, 2)]))], [], [((90, 30), iA (0, [(1, 3)])), ((107, 0), iA (1, []))], (4226, [((-688), 0)]))] = true := by decide +kernel
theorem r277 {l : Launch} {D : va_G} {tys : List (ClassId × FieldType)} {A : Nat → Prop} {ad : Nat → Nat} (hAD : ∀ i : Nat, ad (1000 + i) = D.2 1000 i) : CRok l D tys A ad GG 2 g277 := CR_of_vrf (dep := 1) hAD (fun c hc => by cases hc) T2OK_nil w277
noncomputable def g278 : CR := (307, [(2, 90, 90), (0, 0, 0)], [((107, 0), (0, 2, 2))], some (0, 0, 1), [], [])
theorem w278 : vrf GG [] [] 300 1 g278
  [(2, [(0, 5)], [(0, rA 90), (1, iA (0, [])), (2, iA (0, [(1, 0)]))], [], [((107, 0), iA (2, []))], (5154, [((-860), 0)])),
  (22, [(0, 4), (0, 1), (0, 2), (2, 6)], [(0, rA 90), (1, iA (0, [])), (2, iA (0, [(1, 0)])), (3, iA (0, [(1, 1)])), (4, iA (0, [(1, 2)]))], [], [((90, 30), iA (0, [(1, 3)])), ((107, 0), iA (2, []))], (4853, [((-172), 2), ((-860), 0)])),
  (63, [(0, 4), (0, 1), (0, 1), (2, 6)], [(0, rA 90), (1, iA (0, [])), (2, iA (0, [(1, 0)])), (3, iA (1, [])), (4, iA (0, [(1, 1)]))], [iA (0, [(1, 2)])], [((90, 30), iA (0, [(1, 3)])), ((107, 0), iA (2, []))], (4812, [((-172), 1), ((-860), 0)])),
  (70, [(0, 4), (0, 1), (0, 2), (2, 6)], [(0, rA 90), (1, iA (0, [])), (2, iA (0, [(1, 0)])), (3, iA (0, [(1, 1)])), (4, iA (0, [(1, 2)]))], [], [((90, 30), iA (0, [(1, 3)])), ((107, 0), iA (2, []))], (4398, [((-860), 0)]))] = true := by decide +kernel
theorem r278 {l : Launch} {D : va_G} {tys : List (ClassId × FieldType)} {A : Nat → Prop} {ad : Nat → Nat} (hAD : ∀ i : Nat, ad (1000 + i) = D.2 1000 i) : CRok l D tys A ad GG 2 g278 := CR_of_vrf (dep := 1) hAD (fun c hc => by cases hc) T2OK_nil w278
noncomputable def g279 : CR := (307, [(2, 90, 90), (0, 0, 0)], [((107, 0), (0, 3, 3))], some (0, 0, 1), [], [])
theorem w279 : vrf GG [] [] 300 1 g279
  [(2, [(0, 4)], [(0, rA 90), (1, iA (0, [])), (2, iA (0, [(1, 0)]))], [], [((107, 0), iA (3, []))], (5154, [((-1032), 0)])),
  (22, [(0, 3), (0, 1), (0, 3), (3, 6)], [(0, rA 90), (1, iA (0, [])), (2, iA (0, [(1, 0)])), (3, iA (0, [(1, 1)])), (4, iA (0, [(1, 2)]))], [], [((90, 30), iA (0, [(1, 3)])), ((107, 0), iA (3, []))], (4853, [((-172), 2), ((-1032), 0)])),
  (63, [(0, 3), (0, 2), (0, 1), (3, 6)], [(0, rA 90), (1, iA (0, [])), (2, iA (0, [(1, 0)])), (3, iA (1, [])), (4, iA (0, [(1, 1)]))], [iA (0, [(1, 2)])], [((90, 30), iA (0, [(1, 3)])), ((107, 0), iA (3, []))], (4812, [((-172), 1), ((-1032), 0)])),
  (70, [(0, 3), (0, 1), (0, 3), (3, 6)], [(0, rA 90), (1, iA (0, [])), (2, iA (0, [(1, 0)])), (3, iA (0, [(1, 1)])), (4, iA (0, [(1, 2)]))], [], [((90, 30), iA (0, [(1, 3)])), ((107, 0), iA (3, []))], (4226, [((-1032), 0)]))] = true := by decide +kernel
theorem r279 {l : Launch} {D : va_G} {tys : List (ClassId × FieldType)} {A : Nat → Prop} {ad : Nat → Nat} (hAD : ∀ i : Nat, ad (1000 + i) = D.2 1000 i) : CRok l D tys A ad GG 2 g279 := CR_of_vrf (dep := 1) hAD (fun c hc => by cases hc) T2OK_nil w279
noncomputable def g280 : CR := (307, [(2, 90, 90), (0, 0, 0)], [((107, 0), (0, 4, 4))], some (0, 0, 1), [], [])
theorem w280 : vrf GG [] [] 300 1 g280
  [(2, [(0, 3)], [(0, rA 90), (1, iA (0, [])), (2, iA (0, [(1, 0)]))], [], [((107, 0), iA (4, []))], (4810, [((-1204), 0)])),
  (22, [(0, 2), (0, 1), (0, 4), (4, 6)], [(0, rA 90), (1, iA (0, [])), (2, iA (0, [(1, 0)])), (3, iA (0, [(1, 1)])), (4, iA (0, [(1, 2)]))], [], [((90, 30), iA (0, [(1, 3)])), ((107, 0), iA (4, []))], (4509, [((-172), 2), ((-1204), 0)])),
  (63, [(0, 2), (0, 3), (0, 1), (4, 6)], [(0, rA 90), (1, iA (0, [])), (2, iA (0, [(1, 0)])), (3, iA (1, [])), (4, iA (0, [(1, 1)]))], [iA (0, [(1, 2)])], [((90, 30), iA (0, [(1, 3)])), ((107, 0), iA (4, []))], (4468, [((-172), 1), ((-1204), 0)])),
  (70, [(0, 2), (0, 1), (0, 4), (4, 6)], [(0, rA 90), (1, iA (0, [])), (2, iA (0, [(1, 0)])), (3, iA (0, [(1, 1)])), (4, iA (0, [(1, 2)]))], [], [((90, 30), iA (0, [(1, 3)])), ((107, 0), iA (4, []))], (3710, [((-1204), 0)]))] = true := by decide +kernel
theorem r280 {l : Launch} {D : va_G} {tys : List (ClassId × FieldType)} {A : Nat → Prop} {ad : Nat → Nat} (hAD : ∀ i : Nat, ad (1000 + i) = D.2 1000 i) : CRok l D tys A ad GG 2 g280 := CR_of_vrf (dep := 1) hAD (fun c hc => by cases hc) T2OK_nil w280
noncomputable def g281 : CR := (307, [(2, 90, 90), (0, 0, 0)], [((107, 0), (0, 5, 5))], some (0, 0, 1), [], [])
theorem w281 : vrf GG [] [] 300 1 g281
  [(2, [(0, 2)], [(0, rA 90), (1, iA (0, [])), (2, iA (0, [(1, 0)]))], [], [((107, 0), iA (5, []))], (4122, [((-1376), 0)])),
  (22, [(0, 1), (0, 1), (0, 5), (5, 6)], [(0, rA 90), (1, iA (0, [])), (2, iA (0, [(1, 0)])), (3, iA (0, [(1, 1)])), (4, iA (0, [(1, 2)]))], [], [((90, 30), iA (0, [(1, 3)])), ((107, 0), iA (5, []))], (3821, [((-172), 2), ((-1376), 0)])),
  (63, [(0, 1), (0, 4), (0, 1), (5, 6)], [(0, rA 90), (1, iA (0, [])), (2, iA (0, [(1, 0)])), (3, iA (1, [])), (4, iA (0, [(1, 1)]))], [iA (0, [(1, 2)])], [((90, 30), iA (0, [(1, 3)])), ((107, 0), iA (5, []))], (3780, [((-172), 1), ((-1376), 0)])),
  (70, [(0, 1), (0, 1), (0, 5), (5, 6)], [(0, rA 90), (1, iA (0, [])), (2, iA (0, [(1, 0)])), (3, iA (0, [(1, 1)])), (4, iA (0, [(1, 2)]))], [], [((90, 30), iA (0, [(1, 3)])), ((107, 0), iA (5, []))], (2850, [((-1376), 0)]))] = true := by decide +kernel
theorem r281 {l : Launch} {D : va_G} {tys : List (ClassId × FieldType)} {A : Nat → Prop} {ad : Nat → Nat} (hAD : ∀ i : Nat, ad (1000 + i) = D.2 1000 i) : CRok l D tys A ad GG 2 g281 := CR_of_vrf (dep := 1) hAD (fun c hc => by cases hc) T2OK_nil w281
noncomputable def g282 : CR := (307, [(2, 90, 90), (0, 0, 0)], [((107, 0), (0, 6, 6))], some (0, 0, 1), [], [])
theorem w282 : vrf GG [] [] 300 1 g282
  [(2, [(0, 1)], [(0, rA 90), (1, iA (0, [])), (2, iA (0, [(1, 0)]))], [], [((107, 0), iA (6, []))], (3090, [((-1548), 0)])),
  (22, [(0, 1), (0, 6)], [(0, rA 90), (1, iA (0, [])), (2, iA (0, [])), (3, iA (0, [(1, 0)])), (4, iA (0, [(1, 1)]))], [], [((90, 30), iA (6, [])), ((107, 0), iA (6, []))], (2789, [((-172), 1)])),
  (63, [(0, 5), (0, 1)], [(0, rA 90), (1, iA (0, [])), (2, iA (0, [])), (3, iA (1, [])), (4, iA (0, [(1, 0)]))], [iA (0, [(1, 1)])], [((90, 30), iA (6, [])), ((107, 0), iA (6, []))], (2748, [((-172), 0)])),
  (70, [(0, 1), (0, 6)], [(0, rA 90), (1, iA (0, [])), (2, iA (0, [])), (3, iA (0, [(1, 0)])), (4, iA (0, [(1, 1)]))], [], [((90, 30), iA (6, [])), ((107, 0), iA (6, []))], (1646, []))] = true := by decide +kernel
theorem r282 {l : Launch} {D : va_G} {tys : List (ClassId × FieldType)} {A : Nat → Prop} {ad : Nat → Nat} (hAD : ∀ i : Nat, ad (1000 + i) = D.2 1000 i) : CRok l D tys A ad GG 2 g282 := CR_of_vrf (dep := 1) hAD (fun c hc => by cases hc) T2OK_nil w282
noncomputable def g283 : CR := (307, [(2, 90, 90), (0, 0, 0)], [((107, 0), (0, 7, 60))], some (0, 0, 0), [], [])
theorem w283 : vrf GG [] [] 300 0 g283
  [(2, [(7, 60)], [(0, rA 90), (1, iA (0, [])), (2, iA (0, []))], [], [((107, 0), iA (0, [(1, 0)]))], (510, []))] = true := by decide +kernel
theorem r283 {l : Launch} {D : va_G} {tys : List (ClassId × FieldType)} {A : Nat → Prop} {ad : Nat → Nat} (hAD : ∀ i : Nat, ad (1000 + i) = D.2 1000 i) : CRok l D tys A ad GG 1 g283 := CR_of_vrf (dep := 0) hAD (fun c hc => by cases hc) T2OK_nil w283
noncomputable def g284 : CR := (307, [(2, 90, 90), (0, 1, 1)], [((107, 1), (0, (-1), (-1)))], some (0, 1, 1), [], [])
theorem w284 : vrf GG [] [] 300 0 g284
  [(2, [], [(0, rA 90), (1, iA (1, [])), (2, iA (0, []))], [], [((107, 1), iA ((-1), []))], (510, [])),
  (22, [(0, 6)], [(0, rA 90), (1, iA (1, [])), (2, iA (0, [])), (3, iA (1, [])), (4, iA (0, []))], [], [((90, 30), iA (0, [(1, 0)])), ((107, 1), iA ((-1), []))], (209, [])),
  (70, [(0, 6)], [(0, rA 90), (1, iA (1, [])), (2, iA (0, [])), (3, iA (1, [])), (4, iA (0, []))], [], [((90, 30), iA (0, [(1, 0)])), ((107, 1), iA ((-1), []))], (98, []))] = true := by decide +kernel
theorem r284 {l : Launch} {D : va_G} {tys : List (ClassId × FieldType)} {A : Nat → Prop} {ad : Nat → Nat} (hAD : ∀ i : Nat, ad (1000 + i) = D.2 1000 i) : CRok l D tys A ad GG 1 g284 := CR_of_vrf (dep := 0) hAD (fun c hc => by cases hc) T2OK_nil w284
noncomputable def g285 : CR := (307, [(2, 90, 90), (0, 1, 1)], [((107, 1), (0, 0, 0))], some (0, 1, 1), [], [])
theorem w285 : vrf GG [] [] 300 0 g285
  [(2, [], [(0, rA 90), (1, iA (1, [])), (2, iA (0, []))], [], [((107, 1), iA (0, []))], (510, [])),
  (22, [(0, 6)], [(0, rA 90), (1, iA (1, [])), (2, iA (0, [])), (3, iA (1, [])), (4, iA (0, []))], [], [((90, 30), iA (0, [(1, 0)])), ((107, 1), iA (0, []))], (209, [])),
  (70, [(0, 6)], [(0, rA 90), (1, iA (1, [])), (2, iA (0, [])), (3, iA (1, [])), (4, iA (0, []))], [], [((90, 30), iA (0, [(1, 0)])), ((107, 1), iA (0, []))], (98, []))] = true := by decide +kernel
theorem r285 {l : Launch} {D : va_G} {tys : List (ClassId × FieldType)} {A : Nat → Prop} {ad : Nat → Nat} (hAD : ∀ i : Nat, ad (1000 + i) = D.2 1000 i) : CRok l D tys A ad GG 1 g285 := CR_of_vrf (dep := 0) hAD (fun c hc => by cases hc) T2OK_nil w285
noncomputable def g286 : CR := (307, [(2, 90, 90), (0, 1, 1)], [((107, 1), (0, 1, 1))], some (0, 0, 1), [], [])
theorem w286 : vrf GG [] [] 300 1 g286
  [(2, [(0, 6)], [(0, rA 90), (1, iA (1, [])), (2, iA (0, [(1, 0)]))], [], [((107, 1), iA (1, []))], (4810, [((-688), 0)])),
  (22, [(0, 5), (0, 1), (0, 1), (1, 6)], [(0, rA 90), (1, iA (1, [])), (2, iA (0, [(1, 0)])), (3, iA (0, [(1, 1)])), (4, iA (0, [(1, 2)]))], [], [((90, 30), iA (0, [(1, 3)])), ((107, 1), iA (1, []))], (4509, [((-172), 2), ((-688), 0)])),
  (63, [(0, 5), (0, 1), (1, 6), ((-9223372036854775808), 9223372036854775807)], [(0, rA 90), (1, iA (1, [])), (2, iA (0, [(1, 0)])), (3, iA (1, [])), (4, iA (0, []))], [iA (0, [(1, 1)])], [((90, 30), iA (0, [(1, 2)])), ((107, 1), iA (1, [])), ((109, 60), lA (0, [(1, 3)]))], (4468, [((-688), 0)])),
  (70, [(0, 5), (0, 1), (0, 1), (1, 6)], [(0, rA 90), (1, iA (1, [])), (2, iA (0, [(1, 0)])), (3, iA (0, [(1, 1)])), (4, iA (0, [(1, 2)]))], [], [((90, 30), iA (0, [(1, 3)])), ((107, 1), iA (1, []))], (4226, [((-688), 0)]))] = true := by decide +kernel
theorem r286 {l : Launch} {D : va_G} {tys : List (ClassId × FieldType)} {A : Nat → Prop} {ad : Nat → Nat} (hAD : ∀ i : Nat, ad (1000 + i) = D.2 1000 i) : CRok l D tys A ad GG 2 g286 := CR_of_vrf (dep := 1) hAD (fun c hc => by cases hc) T2OK_nil w286
noncomputable def g287 : CR := (307, [(2, 90, 90), (0, 1, 1)], [((107, 1), (0, 2, 2))], some (0, 0, 1), [], [])
theorem w287 : vrf GG [] [] 300 1 g287
  [(2, [(0, 5)], [(0, rA 90), (1, iA (1, [])), (2, iA (0, [(1, 0)]))], [], [((107, 1), iA (2, []))], (5154, [((-860), 0)])),
  (22, [(0, 4), (0, 1), (0, 2), (2, 6)], [(0, rA 90), (1, iA (1, [])), (2, iA (0, [(1, 0)])), (3, iA (0, [(1, 1)])), (4, iA (0, [(1, 2)]))], [], [((90, 30), iA (0, [(1, 3)])), ((107, 1), iA (2, []))], (4853, [((-172), 2), ((-860), 0)])),
  (63, [(0, 4), (0, 1), (0, 1), (2, 6)], [(0, rA 90), (1, iA (1, [])), (2, iA (0, [(1, 0)])), (3, iA (1, [])), (4, iA (0, [(1, 1)]))], [iA (0, [(1, 2)])], [((90, 30), iA (0, [(1, 3)])), ((107, 1), iA (2, []))], (4812, [((-172), 1), ((-860), 0)])),
  (70, [(0, 4), (0, 1), (0, 2), (2, 6)], [(0, rA 90), (1, iA (1, [])), (2, iA (0, [(1, 0)])), (3, iA (0, [(1, 1)])), (4, iA (0, [(1, 2)]))], [], [((90, 30), iA (0, [(1, 3)])), ((107, 1), iA (2, []))], (4398, [((-860), 0)]))] = true := by decide +kernel
theorem r287 {l : Launch} {D : va_G} {tys : List (ClassId × FieldType)} {A : Nat → Prop} {ad : Nat → Nat} (hAD : ∀ i : Nat, ad (1000 + i) = D.2 1000 i) : CRok l D tys A ad GG 2 g287 := CR_of_vrf (dep := 1) hAD (fun c hc => by cases hc) T2OK_nil w287
noncomputable def g288 : CR := (307, [(2, 90, 90), (0, 1, 1)], [((107, 1), (0, 3, 3))], some (0, 0, 1), [], [])
theorem w288 : vrf GG [] [] 300 1 g288
  [(2, [(0, 4)], [(0, rA 90), (1, iA (1, [])), (2, iA (0, [(1, 0)]))], [], [((107, 1), iA (3, []))], (5154, [((-1032), 0)])),
  (22, [(0, 3), (0, 1), (0, 3), (3, 6)], [(0, rA 90), (1, iA (1, [])), (2, iA (0, [(1, 0)])), (3, iA (0, [(1, 1)])), (4, iA (0, [(1, 2)]))], [], [((90, 30), iA (0, [(1, 3)])), ((107, 1), iA (3, []))], (4853, [((-172), 2), ((-1032), 0)])),
  (63, [(0, 3), (0, 2), (0, 1), (3, 6)], [(0, rA 90), (1, iA (1, [])), (2, iA (0, [(1, 0)])), (3, iA (1, [])), (4, iA (0, [(1, 1)]))], [iA (0, [(1, 2)])], [((90, 30), iA (0, [(1, 3)])), ((107, 1), iA (3, []))], (4812, [((-172), 1), ((-1032), 0)])),
  (70, [(0, 3), (0, 1), (0, 3), (3, 6)], [(0, rA 90), (1, iA (1, [])), (2, iA (0, [(1, 0)])), (3, iA (0, [(1, 1)])), (4, iA (0, [(1, 2)]))], [], [((90, 30), iA (0, [(1, 3)])), ((107, 1), iA (3, []))], (4226, [((-1032), 0)]))] = true := by decide +kernel
theorem r288 {l : Launch} {D : va_G} {tys : List (ClassId × FieldType)} {A : Nat → Prop} {ad : Nat → Nat} (hAD : ∀ i : Nat, ad (1000 + i) = D.2 1000 i) : CRok l D tys A ad GG 2 g288 := CR_of_vrf (dep := 1) hAD (fun c hc => by cases hc) T2OK_nil w288
noncomputable def g289 : CR := (307, [(2, 90, 90), (0, 1, 1)], [((107, 1), (0, 4, 4))], some (0, 0, 1), [], [])
theorem w289 : vrf GG [] [] 300 1 g289
  [(2, [(0, 3)], [(0, rA 90), (1, iA (1, [])), (2, iA (0, [(1, 0)]))], [], [((107, 1), iA (4, []))], (4810, [((-1204), 0)])),
  (22, [(0, 2), (0, 1), (0, 4), (4, 6)], [(0, rA 90), (1, iA (1, [])), (2, iA (0, [(1, 0)])), (3, iA (0, [(1, 1)])), (4, iA (0, [(1, 2)]))], [], [((90, 30), iA (0, [(1, 3)])), ((107, 1), iA (4, []))], (4509, [((-172), 2), ((-1204), 0)])),
  (63, [(0, 2), (0, 3), (0, 1), (4, 6)], [(0, rA 90), (1, iA (1, [])), (2, iA (0, [(1, 0)])), (3, iA (1, [])), (4, iA (0, [(1, 1)]))], [iA (0, [(1, 2)])], [((90, 30), iA (0, [(1, 3)])), ((107, 1), iA (4, []))], (4468, [((-172), 1), ((-1204), 0)])),
  (70, [(0, 2), (0, 1), (0, 4), (4, 6)], [(0, rA 90), (1, iA (1, [])), (2, iA (0, [(1, 0)])), (3, iA (0, [(1, 1)])), (4, iA (0, [(1, 2)]))], [], [((90, 30), iA (0, [(1, 3)])), ((107, 1), iA (4, []))], (3710, [((-1204), 0)]))] = true := by decide +kernel
theorem r289 {l : Launch} {D : va_G} {tys : List (ClassId × FieldType)} {A : Nat → Prop} {ad : Nat → Nat} (hAD : ∀ i : Nat, ad (1000 + i) = D.2 1000 i) : CRok l D tys A ad GG 2 g289 := CR_of_vrf (dep := 1) hAD (fun c hc => by cases hc) T2OK_nil w289
noncomputable def g290 : CR := (307, [(2, 90, 90), (0, 1, 1)], [((107, 1), (0, 5, 5))], some (0, 0, 1), [], [])
theorem w290 : vrf GG [] [] 300 1 g290
  [(2, [(0, 2)], [(0, rA 90), (1, iA (1, [])), (2, iA (0, [(1, 0)]))], [], [((107, 1), iA (5, []))], (4122, [((-1376), 0)])),
  (22, [(0, 1), (0, 1), (0, 5), (5, 6)], [(0, rA 90), (1, iA (1, [])), (2, iA (0, [(1, 0)])), (3, iA (0, [(1, 1)])), (4, iA (0, [(1, 2)]))], [], [((90, 30), iA (0, [(1, 3)])), ((107, 1), iA (5, []))], (3821, [((-172), 2), ((-1376), 0)])),
  (63, [(0, 1), (0, 4), (0, 1), (5, 6)], [(0, rA 90), (1, iA (1, [])), (2, iA (0, [(1, 0)])), (3, iA (1, [])), (4, iA (0, [(1, 1)]))], [iA (0, [(1, 2)])], [((90, 30), iA (0, [(1, 3)])), ((107, 1), iA (5, []))], (3780, [((-172), 1), ((-1376), 0)])),
  (70, [(0, 1), (0, 1), (0, 5), (5, 6)], [(0, rA 90), (1, iA (1, [])), (2, iA (0, [(1, 0)])), (3, iA (0, [(1, 1)])), (4, iA (0, [(1, 2)]))], [], [((90, 30), iA (0, [(1, 3)])), ((107, 1), iA (5, []))], (2850, [((-1376), 0)]))] = true := by decide +kernel
theorem r290 {l : Launch} {D : va_G} {tys : List (ClassId × FieldType)} {A : Nat → Prop} {ad : Nat → Nat} (hAD : ∀ i : Nat, ad (1000 + i) = D.2 1000 i) : CRok l D tys A ad GG 2 g290 := CR_of_vrf (dep := 1) hAD (fun c hc => by cases hc) T2OK_nil w290
noncomputable def g291 : CR := (307, [(2, 90, 90), (0, 1, 1)], [((107, 1), (0, 6, 6))], some (0, 0, 1), [], [])
theorem w291 : vrf GG [] [] 300 1 g291
  [(2, [(0, 1)], [(0, rA 90), (1, iA (1, [])), (2, iA (0, [(1, 0)]))], [], [((107, 1), iA (6, []))], (3090, [((-1548), 0)])),
  (22, [(0, 1), (0, 6)], [(0, rA 90), (1, iA (1, [])), (2, iA (0, [])), (3, iA (0, [(1, 0)])), (4, iA (0, [(1, 1)]))], [], [((90, 30), iA (6, [])), ((107, 1), iA (6, []))], (2789, [((-172), 1)])),
  (63, [(0, 5), (0, 1)], [(0, rA 90), (1, iA (1, [])), (2, iA (0, [])), (3, iA (1, [])), (4, iA (0, [(1, 0)]))], [iA (0, [(1, 1)])], [((90, 30), iA (6, [])), ((107, 1), iA (6, []))], (2748, [((-172), 0)])),
  (70, [(0, 1), (0, 6)], [(0, rA 90), (1, iA (1, [])), (2, iA (0, [])), (3, iA (0, [(1, 0)])), (4, iA (0, [(1, 1)]))], [], [((90, 30), iA (6, [])), ((107, 1), iA (6, []))], (1646, []))] = true := by decide +kernel
theorem r291 {l : Launch} {D : va_G} {tys : List (ClassId × FieldType)} {A : Nat → Prop} {ad : Nat → Nat} (hAD : ∀ i : Nat, ad (1000 + i) = D.2 1000 i) : CRok l D tys A ad GG 2 g291 := CR_of_vrf (dep := 1) hAD (fun c hc => by cases hc) T2OK_nil w291
noncomputable def g292 : CR := (307, [(2, 90, 90), (0, 1, 1)], [((107, 1), (0, 7, 60))], some (0, 0, 0), [], [])
theorem w292 : vrf GG [] [] 300 0 g292
  [(2, [(7, 60)], [(0, rA 90), (1, iA (1, [])), (2, iA (0, []))], [], [((107, 1), iA (0, [(1, 0)]))], (510, []))] = true := by decide +kernel
theorem r292 {l : Launch} {D : va_G} {tys : List (ClassId × FieldType)} {A : Nat → Prop} {ad : Nat → Nat} (hAD : ∀ i : Nat, ad (1000 + i) = D.2 1000 i) : CRok l D tys A ad GG 1 g292 := CR_of_vrf (dep := 0) hAD (fun c hc => by cases hc) T2OK_nil w292
noncomputable def g293 : CR := (307, [(2, 90, 90), (0, 2, 2)], [((107, 2), (0, (-1), (-1)))], some (0, 1, 1), [], [])
theorem w293 : vrf GG [] [] 300 0 g293
  [(2, [], [(0, rA 90), (1, iA (2, [])), (2, iA (0, []))], [], [((107, 2), iA ((-1), []))], (510, [])),
  (22, [(0, 6)], [(0, rA 90), (1, iA (2, [])), (2, iA (0, [])), (3, iA (1, [])), (4, iA (0, []))], [], [((90, 30), iA (0, [(1, 0)])), ((107, 2), iA ((-1), []))], (209, [])),
  (70, [(0, 6)], [(0, rA 90), (1, iA (2, [])), (2, iA (0, [])), (3, iA (1, [])), (4, iA (0, []))], [], [((90, 30), iA (0, [(1, 0)])), ((107, 2), iA ((-1), []))], (98, []))] = true := by decide +kernel
theorem r293 {l : Launch} {D : va_G} {tys : List (ClassId × FieldType)} {A : Nat → Prop} {ad : Nat → Nat} (hAD : ∀ i : Nat, ad (1000 + i) = D.2 1000 i) : CRok l D tys A ad GG 1 g293 := CR_of_vrf (dep := 0) hAD (fun c hc => by cases hc) T2OK_nil w293
noncomputable def g294 : CR := (307, [(2, 90, 90), (0, 2, 2)], [((107, 2), (0, 0, 0))], some (0, 1, 1), [], [])
theorem w294 : vrf GG [] [] 300 0 g294
  [(2, [], [(0, rA 90), (1, iA (2, [])), (2, iA (0, []))], [], [((107, 2), iA (0, []))], (510, [])),
  (22, [(0, 6)], [(0, rA 90), (1, iA (2, [])), (2, iA (0, [])), (3, iA (1, [])), (4, iA (0, []))], [], [((90, 30), iA (0, [(1, 0)])), ((107, 2), iA (0, []))], (209, [])),
  (70, [(0, 6)], [(0, rA 90), (1, iA (2, [])), (2, iA (0, [])), (3, iA (1, [])), (4, iA (0, []))], [], [((90, 30), iA (0, [(1, 0)])), ((107, 2), iA (0, []))], (98, []))] = true := by decide +kernel
theorem r294 {l : Launch} {D : va_G} {tys : List (ClassId × FieldType)} {A : Nat → Prop} {ad : Nat → Nat} (hAD : ∀ i : Nat, ad (1000 + i) = D.2 1000 i) : CRok l D tys A ad GG 1 g294 := CR_of_vrf (dep := 0) hAD (fun c hc => by cases hc) T2OK_nil w294
noncomputable def g295 : CR := (307, [(2, 90, 90), (0, 2, 2)], [((107, 2), (0, 1, 1))], some (0, 0, 1), [], [])
theorem w295 : vrf GG [] [] 300 1 g295
  [(2, [(0, 6)], [(0, rA 90), (1, iA (2, [])), (2, iA (0, [(1, 0)]))], [], [((107, 2), iA (1, []))], (4810, [((-688), 0)])),
  (22, [(0, 5), (0, 1), (0, 1), (1, 6)], [(0, rA 90), (1, iA (2, [])), (2, iA (0, [(1, 0)])), (3, iA (0, [(1, 1)])), (4, iA (0, [(1, 2)]))], [], [((90, 30), iA (0, [(1, 3)])), ((107, 2), iA (1, []))], (4509, [((-172), 2), ((-688), 0)])),
  (63, [(0, 5), (0, 1), (1, 6), ((-9223372036854775808), 9223372036854775807)], [(0, rA 90), (1, iA (2, [])), (2, iA (0, [(1, 0)])), (3, iA (1, [])), (4, iA (0, []))], [iA (0, [(1, 1)])], [((90, 30), iA (0, [(1, 2)])), ((107, 2), iA (1, [])), ((109, 120), lA (0, [(1, 3)]))], (4468, [((-688), 0)])),
  (70, [(0, 5), (0, 1), (0, 1), (1, 6)], [(0, rA 90), (1, iA (2, [])), (2, iA (0, [(1, 0)])), (3, iA (0, [(1, 1)])), (4, iA (0, [(1, 2)]))], [], [((90, 30), iA (0, [(1, 3)])), ((107, 2), iA (1, []))], (4226, [((-688), 0)]))] = true := by decide +kernel
theorem r295 {l : Launch} {D : va_G} {tys : List (ClassId × FieldType)} {A : Nat → Prop} {ad : Nat → Nat} (hAD : ∀ i : Nat, ad (1000 + i) = D.2 1000 i) : CRok l D tys A ad GG 2 g295 := CR_of_vrf (dep := 1) hAD (fun c hc => by cases hc) T2OK_nil w295
noncomputable def g296 : CR := (307, [(2, 90, 90), (0, 2, 2)], [((107, 2), (0, 2, 2))], some (0, 0, 1), [], [])
theorem w296 : vrf GG [] [] 300 1 g296
  [(2, [(0, 5)], [(0, rA 90), (1, iA (2, [])), (2, iA (0, [(1, 0)]))], [], [((107, 2), iA (2, []))], (5154, [((-860), 0)])),
  (22, [(0, 4), (0, 1), (0, 2), (2, 6)], [(0, rA 90), (1, iA (2, [])), (2, iA (0, [(1, 0)])), (3, iA (0, [(1, 1)])), (4, iA (0, [(1, 2)]))], [], [((90, 30), iA (0, [(1, 3)])), ((107, 2), iA (2, []))], (4853, [((-172), 2), ((-860), 0)])),
  (63, [(0, 4), (0, 1), (0, 1), (2, 6)], [(0, rA 90), (1, iA (2, [])), (2, iA (0, [(1, 0)])), (3, iA (1, [])), (4, iA (0, [(1, 1)]))], [iA (0, [(1, 2)])], [((90, 30), iA (0, [(1, 3)])), ((107, 2), iA (2, []))], (4812, [((-172), 1), ((-860), 0)])),
  (70, [(0, 4), (0, 1), (0, 2), (2, 6)], [(0, rA 90), (1, iA (2, [])), (2, iA (0, [(1, 0)])), (3, iA (0, [(1, 1)])), (4, iA (0, [(1, 2)]))], [], [((90, 30), iA (0, [(1, 3)])), ((107, 2), iA (2, []))], (4398, [((-860), 0)]))] = true := by decide +kernel
theorem r296 {l : Launch} {D : va_G} {tys : List (ClassId × FieldType)} {A : Nat → Prop} {ad : Nat → Nat} (hAD : ∀ i : Nat, ad (1000 + i) = D.2 1000 i) : CRok l D tys A ad GG 2 g296 := CR_of_vrf (dep := 1) hAD (fun c hc => by cases hc) T2OK_nil w296
noncomputable def g297 : CR := (307, [(2, 90, 90), (0, 2, 2)], [((107, 2), (0, 3, 3))], some (0, 0, 1), [], [])
theorem w297 : vrf GG [] [] 300 1 g297
  [(2, [(0, 4)], [(0, rA 90), (1, iA (2, [])), (2, iA (0, [(1, 0)]))], [], [((107, 2), iA (3, []))], (5154, [((-1032), 0)])),
  (22, [(0, 3), (0, 1), (0, 3), (3, 6)], [(0, rA 90), (1, iA (2, [])), (2, iA (0, [(1, 0)])), (3, iA (0, [(1, 1)])), (4, iA (0, [(1, 2)]))], [], [((90, 30), iA (0, [(1, 3)])), ((107, 2), iA (3, []))], (4853, [((-172), 2), ((-1032), 0)])),
  (63, [(0, 3), (0, 2), (0, 1), (3, 6)], [(0, rA 90), (1, iA (2, [])), (2, iA (0, [(1, 0)])), (3, iA (1, [])), (4, iA (0, [(1, 1)]))], [iA (0, [(1, 2)])], [((90, 30), iA (0, [(1, 3)])), ((107, 2), iA (3, []))], (4812, [((-172), 1), ((-1032), 0)])),
  (70, [(0, 3), (0, 1), (0, 3), (3, 6)], [(0, rA 90), (1, iA (2, [])), (2, iA (0, [(1, 0)])), (3, iA (0, [(1, 1)])), (4, iA (0, [(1, 2)]))], [], [((90, 30), iA (0, [(1, 3)])), ((107, 2), iA (3, []))], (4226, [((-1032), 0)]))] = true := by decide +kernel
theorem r297 {l : Launch} {D : va_G} {tys : List (ClassId × FieldType)} {A : Nat → Prop} {ad : Nat → Nat} (hAD : ∀ i : Nat, ad (1000 + i) = D.2 1000 i) : CRok l D tys A ad GG 2 g297 := CR_of_vrf (dep := 1) hAD (fun c hc => by cases hc) T2OK_nil w297
noncomputable def g298 : CR := (307, [(2, 90, 90), (0, 2, 2)], [((107, 2), (0, 4, 4))], some (0, 0, 1), [], [])
theorem w298 : vrf GG [] [] 300 1 g298
  [(2, [(0, 3)], [(0, rA 90), (1, iA (2, [])), (2, iA (0, [(1, 0)]))], [], [((107, 2), iA (4, []))], (4810, [((-1204), 0)])),
  (22, [(0, 2), (0, 1), (0, 4), (4, 6)], [(0, rA 90), (1, iA (2, [])), (2, iA (0, [(1, 0)])), (3, iA (0, [(1, 1)])), (4, iA (0, [(1, 2)]))], [], [((90, 30), iA (0, [(1, 3)])), ((107, 2), iA (4, []))], (4509, [((-172), 2), ((-1204), 0)])),
  (63, [(0, 2), (0, 3), (0, 1), (4, 6)], [(0, rA 90), (1, iA (2, [])), (2, iA (0, [(1, 0)])), (3, iA (1, [])), (4, iA (0, [(1, 1)]))], [iA (0, [(1, 2)])], [((90, 30), iA (0, [(1, 3)])), ((107, 2), iA (4, []))], (4468, [((-172), 1), ((-1204), 0)])),
  (70, [(0, 2), (0, 1), (0, 4), (4, 6)], [(0, rA 90), (1, iA (2, [])), (2, iA (0, [(1, 0)])), (3, iA (0, [(1, 1)])), (4, iA (0, [(1, 2)]))], [], [((90, 30), iA (0, [(1, 3)])), ((107, 2), iA (4, []))], (3710, [((-1204), 0)]))] = true := by decide +kernel
theorem r298 {l : Launch} {D : va_G} {tys : List (ClassId × FieldType)} {A : Nat → Prop} {ad : Nat → Nat} (hAD : ∀ i : Nat, ad (1000 + i) = D.2 1000 i) : CRok l D tys A ad GG 2 g298 := CR_of_vrf (dep := 1) hAD (fun c hc => by cases hc) T2OK_nil w298
noncomputable def g299 : CR := (307, [(2, 90, 90), (0, 2, 2)], [((107, 2), (0, 5, 5))], some (0, 0, 1), [], [])
theorem w299 : vrf GG [] [] 300 1 g299
  [(2, [(0, 2)], [(0, rA 90), (1, iA (2, [])), (2, iA (0, [(1, 0)]))], [], [((107, 2), iA (5, []))], (4122, [((-1376), 0)])),
  (22, [(0, 1), (0, 1), (0, 5), (5, 6)], [(0, rA 90), (1, iA (2, [])), (2, iA (0, [(1, 0)])), (3, iA (0, [(1, 1)])), (4, iA (0, [(1, 2)]))], [], [((90, 30), iA (0, [(1, 3)])), ((107, 2), iA (5, []))], (3821, [((-172), 2), ((-1376), 0)])),
  (63, [(0, 1), (0, 4), (0, 1), (5, 6)], [(0, rA 90), (1, iA (2, [])), (2, iA (0, [(1, 0)])), (3, iA (1, [])), (4, iA (0, [(1, 1)]))], [iA (0, [(1, 2)])], [((90, 30), iA (0, [(1, 3)])), ((107, 2), iA (5, []))], (3780, [((-172), 1), ((-1376), 0)])),
  (70, [(0, 1), (0, 1), (0, 5), (5, 6)], [(0, rA 90), (1, iA (2, [])), (2, iA (0, [(1, 0)])), (3, iA (0, [(1, 1)])), (4, iA (0, [(1, 2)]))], [], [((90, 30), iA (0, [(1, 3)])), ((107, 2), iA (5, []))], (2850, [((-1376), 0)]))] = true := by decide +kernel
theorem r299 {l : Launch} {D : va_G} {tys : List (ClassId × FieldType)} {A : Nat → Prop} {ad : Nat → Nat} (hAD : ∀ i : Nat, ad (1000 + i) = D.2 1000 i) : CRok l D tys A ad GG 2 g299 := CR_of_vrf (dep := 1) hAD (fun c hc => by cases hc) T2OK_nil w299
noncomputable def g300 : CR := (307, [(2, 90, 90), (0, 2, 2)], [((107, 2), (0, 6, 6))], some (0, 0, 1), [], [])
theorem w300 : vrf GG [] [] 300 1 g300
  [(2, [(0, 1)], [(0, rA 90), (1, iA (2, [])), (2, iA (0, [(1, 0)]))], [], [((107, 2), iA (6, []))], (3090, [((-1548), 0)])),
  (22, [(0, 1), (0, 6)], [(0, rA 90), (1, iA (2, [])), (2, iA (0, [])), (3, iA (0, [(1, 0)])), (4, iA (0, [(1, 1)]))], [], [((90, 30), iA (6, [])), ((107, 2), iA (6, []))], (2789, [((-172), 1)])),
  (63, [(0, 5), (0, 1)], [(0, rA 90), (1, iA (2, [])), (2, iA (0, [])), (3, iA (1, [])), (4, iA (0, [(1, 0)]))], [iA (0, [(1, 1)])], [((90, 30), iA (6, [])), ((107, 2), iA (6, []))], (2748, [((-172), 0)])),
  (70, [(0, 1), (0, 6)], [(0, rA 90), (1, iA (2, [])), (2, iA (0, [])), (3, iA (0, [(1, 0)])), (4, iA (0, [(1, 1)]))], [], [((90, 30), iA (6, [])), ((107, 2), iA (6, []))], (1646, []))] = true := by decide +kernel
theorem r300 {l : Launch} {D : va_G} {tys : List (ClassId × FieldType)} {A : Nat → Prop} {ad : Nat → Nat} (hAD : ∀ i : Nat, ad (1000 + i) = D.2 1000 i) : CRok l D tys A ad GG 2 g300 := CR_of_vrf (dep := 1) hAD (fun c hc => by cases hc) T2OK_nil w300
noncomputable def g301 : CR := (307, [(2, 90, 90), (0, 2, 2)], [((107, 2), (0, 7, 60))], some (0, 0, 0), [], [])
theorem w301 : vrf GG [] [] 300 0 g301
  [(2, [(7, 60)], [(0, rA 90), (1, iA (2, [])), (2, iA (0, []))], [], [((107, 2), iA (0, [(1, 0)]))], (510, []))] = true := by decide +kernel
theorem r301 {l : Launch} {D : va_G} {tys : List (ClassId × FieldType)} {A : Nat → Prop} {ad : Nat → Nat} (hAD : ∀ i : Nat, ad (1000 + i) = D.2 1000 i) : CRok l D tys A ad GG 1 g301 := CR_of_vrf (dep := 0) hAD (fun c hc => by cases hc) T2OK_nil w301
noncomputable def g302 : CR := (307, [(2, 90, 90), (0, 3, 3)], [((107, 3), (0, (-1), (-1)))], some (0, 1, 1), [], [])
theorem w302 : vrf GG [] [] 300 0 g302
  [(2, [], [(0, rA 90), (1, iA (3, [])), (2, iA (0, []))], [], [((107, 3), iA ((-1), []))], (510, [])),
  (22, [(0, 6)], [(0, rA 90), (1, iA (3, [])), (2, iA (0, [])), (3, iA (1, [])), (4, iA (0, []))], [], [((90, 30), iA (0, [(1, 0)])), ((107, 3), iA ((-1), []))], (209, [])),
  (70, [(0, 6)], [(0, rA 90), (1, iA (3, [])), (2, iA (0, [])), (3, iA (1, [])), (4, iA (0, []))], [], [((90, 30), iA (0, [(1, 0)])), ((107, 3), iA ((-1), []))], (98, []))] = true := by decide +kernel
theorem r302 {l : Launch} {D : va_G} {tys : List (ClassId × FieldType)} {A : Nat → Prop} {ad : Nat → Nat} (hAD : ∀ i : Nat, ad (1000 + i) = D.2 1000 i) : CRok l D tys A ad GG 1 g302 := CR_of_vrf (dep := 0) hAD (fun c hc => by cases hc) T2OK_nil w302
noncomputable def g303 : CR := (307, [(2, 90, 90), (0, 3, 3)], [((107, 3), (0, 0, 0))], some (0, 1, 1), [], [])
theorem w303 : vrf GG [] [] 300 0 g303
  [(2, [], [(0, rA 90), (1, iA (3, [])), (2, iA (0, []))], [], [((107, 3), iA (0, []))], (510, [])),
  (22, [(0, 6)], [(0, rA 90), (1, iA (3, [])), (2, iA (0, [])), (3, iA (1, [])), (4, iA (0, []))], [], [((90, 30), iA (0, [(1, 0)])), ((107, 3), iA (0, []))], (209, [])),
  (70, [(0, 6)], [(0, rA 90), (1, iA (3, [])), (2, iA (0, [])), (3, iA (1, [])), (4, iA (0, []))], [], [((90, 30), iA (0, [(1, 0)])), ((107, 3), iA (0, []))], (98, []))] = true := by decide +kernel
theorem r303 {l : Launch} {D : va_G} {tys : List (ClassId × FieldType)} {A : Nat → Prop} {ad : Nat → Nat} (hAD : ∀ i : Nat, ad (1000 + i) = D.2 1000 i) : CRok l D tys A ad GG 1 g303 := CR_of_vrf (dep := 0) hAD (fun c hc => by cases hc) T2OK_nil w303
noncomputable def g304 : CR := (307, [(2, 90, 90), (0, 3, 3)], [((107, 3), (0, 1, 1))], some (0, 0, 1), [], [])
theorem w304 : vrf GG [] [] 300 1 g304
  [(2, [(0, 6)], [(0, rA 90), (1, iA (3, [])), (2, iA (0, [(1, 0)]))], [], [((107, 3), iA (1, []))], (4810, [((-688), 0)])),
  (22, [(0, 5), (0, 1), (0, 1), (1, 6)], [(0, rA 90), (1, iA (3, [])), (2, iA (0, [(1, 0)])), (3, iA (0, [(1, 1)])), (4, iA (0, [(1, 2)]))], [], [((90, 30), iA (0, [(1, 3)])), ((107, 3), iA (1, []))], (4509, [((-172), 2), ((-688), 0)])),
  (63, [(0, 5), (0, 1), (1, 6), ((-9223372036854775808), 9223372036854775807)], [(0, rA 90), (1, iA (3, [])), (2, iA (0, [(1, 0)])), (3, iA (1, [])), (4, iA (0, []))], [iA (0, [(1, 1)])], [((90, 30), iA (0, [(1, 2)])), ((107, 3), iA (1, [])), ((109, 180), lA (0, [(1, 3)]))], (4468, [((-688), 0)])),
  (70, [(0, 5), (0, 1), (0, 1), (1, 6)], [(0, rA 90), (1, iA (3, [])), (2, iA (0, [(1, 0)])), (3, iA (0, [(1, 1)])), (4, iA (0, [(1, 2)]))], [], [((90, 30), iA (0, [(1, 3)])), ((107, 3), iA (1, []))], (4226, [((-688), 0)]))] = true := by decide +kernel
theorem r304 {l : Launch} {D : va_G} {tys : List (ClassId × FieldType)} {A : Nat → Prop} {ad : Nat → Nat} (hAD : ∀ i : Nat, ad (1000 + i) = D.2 1000 i) : CRok l D tys A ad GG 2 g304 := CR_of_vrf (dep := 1) hAD (fun c hc => by cases hc) T2OK_nil w304
noncomputable def g305 : CR := (307, [(2, 90, 90), (0, 3, 3)], [((107, 3), (0, 2, 2))], some (0, 0, 1), [], [])
theorem w305 : vrf GG [] [] 300 1 g305
  [(2, [(0, 5)], [(0, rA 90), (1, iA (3, [])), (2, iA (0, [(1, 0)]))], [], [((107, 3), iA (2, []))], (5154, [((-860), 0)])),
  (22, [(0, 4), (0, 1), (0, 2), (2, 6)], [(0, rA 90), (1, iA (3, [])), (2, iA (0, [(1, 0)])), (3, iA (0, [(1, 1)])), (4, iA (0, [(1, 2)]))], [], [((90, 30), iA (0, [(1, 3)])), ((107, 3), iA (2, []))], (4853, [((-172), 2), ((-860), 0)])),
  (63, [(0, 4), (0, 1), (0, 1), (2, 6)], [(0, rA 90), (1, iA (3, [])), (2, iA (0, [(1, 0)])), (3, iA (1, [])), (4, iA (0, [(1, 1)]))], [iA (0, [(1, 2)])], [((90, 30), iA (0, [(1, 3)])), ((107, 3), iA (2, []))], (4812, [((-172), 1), ((-860), 0)])),
  (70, [(0, 4), (0, 1), (0, 2), (2, 6)], [(0, rA 90), (1, iA (3, [])), (2, iA (0, [(1, 0)])), (3, iA (0, [(1, 1)])), (4, iA (0, [(1, 2)]))], [], [((90, 30), iA (0, [(1, 3)])), ((107, 3), iA (2, []))], (4398, [((-860), 0)]))] = true := by decide +kernel
theorem r305 {l : Launch} {D : va_G} {tys : List (ClassId × FieldType)} {A : Nat → Prop} {ad : Nat → Nat} (hAD : ∀ i : Nat, ad (1000 + i) = D.2 1000 i) : CRok l D tys A ad GG 2 g305 := CR_of_vrf (dep := 1) hAD (fun c hc => by cases hc) T2OK_nil w305
noncomputable def g306 : CR := (307, [(2, 90, 90), (0, 3, 3)], [((107, 3), (0, 3, 3))], some (0, 0, 1), [], [])
theorem w306 : vrf GG [] [] 300 1 g306
  [(2, [(0, 4)], [(0, rA 90), (1, iA (3, [])), (2, iA (0, [(1, 0)]))], [], [((107, 3), iA (3, []))], (5154, [((-1032), 0)])),
  (22, [(0, 3), (0, 1), (0, 3), (3, 6)], [(0, rA 90), (1, iA (3, [])), (2, iA (0, [(1, 0)])), (3, iA (0, [(1, 1)])), (4, iA (0, [(1, 2)]))], [], [((90, 30), iA (0, [(1, 3)])), ((107, 3), iA (3, []))], (4853, [((-172), 2), ((-1032), 0)])),
  (63, [(0, 3), (0, 2), (0, 1), (3, 6)], [(0, rA 90), (1, iA (3, [])), (2, iA (0, [(1, 0)])), (3, iA (1, [])), (4, iA (0, [(1, 1)]))], [iA (0, [(1, 2)])], [((90, 30), iA (0, [(1, 3)])), ((107, 3), iA (3, []))], (4812, [((-172), 1), ((-1032), 0)])),
  (70, [(0, 3), (0, 1), (0, 3), (3, 6)], [(0, rA 90), (1, iA (3, [])), (2, iA (0, [(1, 0)])), (3, iA (0, [(1, 1)])), (4, iA (0, [(1, 2)]))], [], [((90, 30), iA (0, [(1, 3)])), ((107, 3), iA (3, []))], (4226, [((-1032), 0)]))] = true := by decide +kernel
theorem r306 {l : Launch} {D : va_G} {tys : List (ClassId × FieldType)} {A : Nat → Prop} {ad : Nat → Nat} (hAD : ∀ i : Nat, ad (1000 + i) = D.2 1000 i) : CRok l D tys A ad GG 2 g306 := CR_of_vrf (dep := 1) hAD (fun c hc => by cases hc) T2OK_nil w306
noncomputable def g307 : CR := (307, [(2, 90, 90), (0, 3, 3)], [((107, 3), (0, 4, 4))], some (0, 0, 1), [], [])
theorem w307 : vrf GG [] [] 300 1 g307
  [(2, [(0, 3)], [(0, rA 90), (1, iA (3, [])), (2, iA (0, [(1, 0)]))], [], [((107, 3), iA (4, []))], (4810, [((-1204), 0)])),
  (22, [(0, 2), (0, 1), (0, 4), (4, 6)], [(0, rA 90), (1, iA (3, [])), (2, iA (0, [(1, 0)])), (3, iA (0, [(1, 1)])), (4, iA (0, [(1, 2)]))], [], [((90, 30), iA (0, [(1, 3)])), ((107, 3), iA (4, []))], (4509, [((-172), 2), ((-1204), 0)])),
  (63, [(0, 2), (0, 3), (0, 1), (4, 6)], [(0, rA 90), (1, iA (3, [])), (2, iA (0, [(1, 0)])), (3, iA (1, [])), (4, iA (0, [(1, 1)]))], [iA (0, [(1, 2)])], [((90, 30), iA (0, [(1, 3)])), ((107, 3), iA (4, []))], (4468, [((-172), 1), ((-1204), 0)])),
  (70, [(0, 2), (0, 1), (0, 4), (4, 6)], [(0, rA 90), (1, iA (3, [])), (2, iA (0, [(1, 0)])), (3, iA (0, [(1, 1)])), (4, iA (0, [(1, 2)]))], [], [((90, 30), iA (0, [(1, 3)])), ((107, 3), iA (4, []))], (3710, [((-1204), 0)]))] = true := by decide +kernel
theorem r307 {l : Launch} {D : va_G} {tys : List (ClassId × FieldType)} {A : Nat → Prop} {ad : Nat → Nat} (hAD : ∀ i : Nat, ad (1000 + i) = D.2 1000 i) : CRok l D tys A ad GG 2 g307 := CR_of_vrf (dep := 1) hAD (fun c hc => by cases hc) T2OK_nil w307
noncomputable def g308 : CR := (307, [(2, 90, 90), (0, 3, 3)], [((107, 3), (0, 5, 5))], some (0, 0, 1), [], [])
theorem w308 : vrf GG [] [] 300 1 g308
  [(2, [(0, 2)], [(0, rA 90), (1, iA (3, [])), (2, iA (0, [(1, 0)]))], [], [((107, 3), iA (5, []))], (4122, [((-1376), 0)])),
  (22, [(0, 1), (0, 1), (0, 5), (5, 6)], [(0, rA 90), (1, iA (3, [])), (2, iA (0, [(1, 0)])), (3, iA (0, [(1, 1)])), (4, iA (0, [(1, 2)]))], [], [((90, 30), iA (0, [(1, 3)])), ((107, 3), iA (5, []))], (3821, [((-172), 2), ((-1376), 0)])),
  (63, [(0, 1), (0, 4), (0, 1), (5, 6)], [(0, rA 90), (1, iA (3, [])), (2, iA (0, [(1, 0)])), (3, iA (1, [])), (4, iA (0, [(1, 1)]))], [iA (0, [(1, 2)])], [((90, 30), iA (0, [(1, 3)])), ((107, 3), iA (5, []))], (3780, [((-172), 1), ((-1376), 0)])),
  (70, [(0, 1), (0, 1), (0, 5), (5, 6)], [(0, rA 90), (1, iA (3, [])), (2, iA (0, [(1, 0)])), (3, iA (0, [(1, 1)])), (4, iA (0, [(1, 2)]))], [], [((90, 30), iA (0, [(1, 3)])), ((107, 3), iA (5, []))], (2850, [((-1376), 0)]))] = true := by decide +kernel
theorem r308 {l : Launch} {D : va_G} {tys : List (ClassId × FieldType)} {A : Nat → Prop} {ad : Nat → Nat} (hAD : ∀ i : Nat, ad (1000 + i) = D.2 1000 i) : CRok l D tys A ad GG 2 g308 := CR_of_vrf (dep := 1) hAD (fun c hc => by cases hc) T2OK_nil w308
noncomputable def g309 : CR := (307, [(2, 90, 90), (0, 3, 3)], [((107, 3), (0, 6, 6))], some (0, 0, 1), [], [])
theorem w309 : vrf GG [] [] 300 1 g309
  [(2, [(0, 1)], [(0, rA 90), (1, iA (3, [])), (2, iA (0, [(1, 0)]))], [], [((107, 3), iA (6, []))], (3090, [((-1548), 0)])),
  (22, [(0, 1), (0, 6)], [(0, rA 90), (1, iA (3, [])), (2, iA (0, [])), (3, iA (0, [(1, 0)])), (4, iA (0, [(1, 1)]))], [], [((90, 30), iA (6, [])), ((107, 3), iA (6, []))], (2789, [((-172), 1)])),
  (63, [(0, 5), (0, 1)], [(0, rA 90), (1, iA (3, [])), (2, iA (0, [])), (3, iA (1, [])), (4, iA (0, [(1, 0)]))], [iA (0, [(1, 1)])], [((90, 30), iA (6, [])), ((107, 3), iA (6, []))], (2748, [((-172), 0)])),
  (70, [(0, 1), (0, 6)], [(0, rA 90), (1, iA (3, [])), (2, iA (0, [])), (3, iA (0, [(1, 0)])), (4, iA (0, [(1, 1)]))], [], [((90, 30), iA (6, [])), ((107, 3), iA (6, []))], (1646, []))] = true := by decide +kernel
theorem r309 {l : Launch} {D : va_G} {tys : List (ClassId × FieldType)} {A : Nat → Prop} {ad : Nat → Nat} (hAD : ∀ i : Nat, ad (1000 + i) = D.2 1000 i) : CRok l D tys A ad GG 2 g309 := CR_of_vrf (dep := 1) hAD (fun c hc => by cases hc) T2OK_nil w309
noncomputable def g310 : CR := (307, [(2, 90, 90), (0, 3, 3)], [((107, 3), (0, 7, 60))], some (0, 0, 0), [], [])
theorem w310 : vrf GG [] [] 300 0 g310
  [(2, [(7, 60)], [(0, rA 90), (1, iA (3, [])), (2, iA (0, []))], [], [((107, 3), iA (0, [(1, 0)]))], (510, []))] = true := by decide +kernel
theorem r310 {l : Launch} {D : va_G} {tys : List (ClassId × FieldType)} {A : Nat → Prop} {ad : Nat → Nat} (hAD : ∀ i : Nat, ad (1000 + i) = D.2 1000 i) : CRok l D tys A ad GG 1 g310 := CR_of_vrf (dep := 0) hAD (fun c hc => by cases hc) T2OK_nil w310
noncomputable def g311 : CR := (308, [(2, 90, 90), (0, 0, 3)], [], some (0, (-6), 63), [], [90, 105])
theorem w311 : vrf GG [(3, g273), (2, g274), (1, g275), (1, g276), (2, g277), (2, g278), (2, g279), (2, g280), (2, g281), (2, g282), (1, g283), (1, g284), (1, g285), (2, g286), (2, g287), (2, g288), (2, g289), (2, g290), (2, g291), (1, g292), (1, g293), (1, g294), (2, g295), (2, g296), (2, g297), (2, g298), (2, g299), (2, g300), (1, g301), (1, g302), (1, g303), (2, g304), (2, g305), (2, g306), (2, g307), (2, g308), (2, g309), (1, g310)] [] 460 3 g311
  [(18, [(0, 3), (0, 63), (0, 6)], [(0, rA 90), (1, iA (0, [(1, 0)])), (2, iA (0, [])), (3, iA (0, [(1, 1)])), (4, iA (0, [(1, 2)]))], [], [], (858, [((-128), 2)])),
  (52, [(0, 3), (0, 63), (0, 5), (0, 32), (0, 63), (1, 6)], [(0, rA 90), (1, iA (0, [(1, 0)])), (2, iA (0, [])), (3, iA (0, [(1, 1)])), (4, iA (0, [(1, 2)]))], [iA (0, [(1, 3)]), iA (0, [(1, 4)])], [((91, 3), iA (0, [(1, 5)]))], (824, [((-128), 2)]))] = true := by decide +kernel
theorem r311 {l : Launch} {D : va_G} {tys : List (ClassId × FieldType)} {A : Nat → Prop} {ad : Nat → Nat} (hAD : ∀ i : Nat, ad (1000 + i) = D.2 1000 i) : CRok l D tys A ad GG 4 g311 := CR_of_vrf (dep := 3) hAD (List.forall_mem_cons.mpr ⟨r273 hAD, List.forall_mem_cons.mpr ⟨r274 hAD, List.forall_mem_cons.mpr ⟨r275 hAD, List.forall_mem_cons.mpr ⟨r276 hAD, List.forall_mem_cons.mpr ⟨r277 hAD, List.forall_mem_cons.mpr ⟨r278 hAD, List.forall_mem_cons.mpr ⟨r279 hAD, List.forall_mem_cons.mpr ⟨r280 hAD, List.forall_mem_cons.mpr ⟨r281 hAD, List.forall_mem_cons.mpr ⟨r282 hAD, List.forall_mem_cons.mpr ⟨r283 hAD, List.forall_mem_cons.mpr ⟨r284 hAD, List.forall_mem_cons.mpr ⟨r285 hAD, List.forall_mem_cons.mpr ⟨r286 hAD, List.forall_mem_cons.mpr ⟨r287 hAD, List.forall_mem_cons.mpr ⟨r288 hAD, List.forall_mem_cons.mpr ⟨r289 hAD, List.forall_mem_cons.mpr ⟨r290 hAD, List.forall_mem_cons.mpr ⟨r291 hAD, List.forall_mem_cons.mpr ⟨r292 hAD, List.forall_mem_cons.mpr ⟨r293 hAD, List.forall_mem_cons.mpr ⟨r294 hAD, List.forall_mem_cons.mpr ⟨r295 hAD, List.forall_mem_cons.mpr ⟨r296 hAD, List.forall_mem_cons.mpr ⟨r297 hAD, List.forall_mem_cons.mpr ⟨r298 hAD, List.forall_mem_cons.mpr ⟨r299 hAD, List.forall_mem_cons.mpr ⟨r300 hAD, List.forall_mem_cons.mpr ⟨r301 hAD, List.forall_mem_cons.mpr ⟨r302 hAD, List.forall_mem_cons.mpr ⟨r303 hAD, List.forall_mem_cons.mpr ⟨r304 hAD, List.forall_mem_cons.mpr ⟨r305 hAD, List.forall_mem_cons.mpr ⟨r306 hAD, List.forall_mem_cons.mpr ⟨r307 hAD, List.forall_mem_cons.mpr ⟨r308 hAD, List.forall_mem_cons.mpr ⟨r309 hAD, List.forall_mem_cons.mpr ⟨r310 hAD, fun c hc => by cases hc⟩⟩⟩⟩⟩⟩⟩⟩⟩⟩⟩⟩⟩⟩⟩⟩⟩⟩⟩⟩⟩⟩⟩⟩⟩⟩⟩⟩⟩⟩⟩⟩⟩⟩⟩⟩⟩⟩) T2OK_nil w311
noncomputable def g352 : CR := (309, [(2, 90, 90), (0, 1, 1)], [((91, 0), (0, 0, 0))], some (0, 0, 0), [], [])
theorem w352 : vrf GG [] [] 300 0 g352
  [] = true := by decide +kernel
theorem r352 {l : Launch} {D : va_G} {tys : List (ClassId × FieldType)} {A : Nat → Prop} {ad : Nat → Nat} (hAD : ∀ i : Nat, ad (1000 + i) = D.2 1000 i) : CRok l D tys A ad GG 1 g352 := CR_of_vrf (dep := 0) hAD (fun c hc => by cases hc) T2OK_nil w352
