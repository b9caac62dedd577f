noncomputable def g391 : CR := (309, [(2, 90, 90), (0, 1, 1)], [((91, 0), (0, 1, 9))], some (0, 1, 9), [], [])
theorem w391 : vrf GG [] [] 300 0 g391
  [] = true := by decide +kernel
theorem r391 {l : Launch} {D : va_G} {tys : List (ClassId × FieldType)} {A : Nat → Prop} {ad : Nat → Nat} (hAD : ∀ i : Nat, ad (1000 + i) = D.2 1000 i) : CRok l D tys A ad GG 1 g391 := CR_of_vrf (dep := 0) hAD (fun c hc => by cases hc) T2OK_nil w391
noncomputable def g392 : CR := (310, [(2, 90, 90), (0, 0, 8), (0, 1, 1)], [((91, 0), (0, 1, 9))], none, [], [90, 105])
theorem w392 : vrf GG [] [] 300 0 g392
  [(12, [(0, 8), (0, 8), ((-1), 0), (1, 9)], [(0, rA 90), (1, iA (0, [(1, 0)])), (2, iA (1, [])), (3, iA (0, [(1, 1)])), (4, iA (0, [(1, 2)]))], [], [((90, 30), iA (1, [])), ((91, 0), iA (0, [(1, 3)]))], (174, [(100, 2)]))] = true := by decide +kernel
theorem r392 {l : Launch} {D : va_G} {tys : List (ClassId × FieldType)} {A : Nat → Prop} {ad : Nat → Nat} (hAD : ∀ i : Nat, ad (1000 + i) = D.2 1000 i) : CRok l D tys A ad GG 1 g392 := CR_of_vrf (dep := 0) hAD (fun c hc => by cases hc) T2OK_nil w392
noncomputable def g394 : CR := (309, [(2, 90, 90), (0, 2, 2)], [((91, 0), (0, 0, 0))], some (0, 0, 0), [], [])
theorem w394 : vrf GG [] [] 300 0 g394
  [] = true := by decide +kernel
theorem r394 {l : Launch} {D : va_G} {tys : List (ClassId × FieldType)} {A : Nat → Prop} {ad : Nat → Nat} (hAD : ∀ i : Nat, ad (1000 + i) = D.2 1000 i) : CRok l D tys A ad GG 1 g394 := CR_of_vrf (dep := 0) hAD (fun c hc => by cases hc) T2OK_nil w394
noncomputable def g396 : CR := (309, [(2, 90, 90), (0, 2, 2)], [((91, 0), (0, 1, 9))], some (0, (-2147483648), 2147483647), [], [])
theorem w396 : vrf GG [] [] 300 0 g396
  [] = true := by decide +kernel
theorem r396 {l : Launch} {D : va_G} {tys : List (ClassId × FieldType)} {A : Nat → Prop} {ad : Nat → Nat} (hAD : ∀ i : Nat, ad (1000 + i) = D.2 1000 i) : CRok l D tys A ad GG 1 g396 := CR_of_vrf (dep := 0) hAD (fun c hc => by cases hc) T2OK_nil w396
noncomputable def g397 : CR := (310, [(2, 90, 90), (0, (-2147483647), 2147483646), (0, 2, 2)], [((91, 0), (0, 1, 9))], none, [], [90, 105])
theorem w397 : vrf GG [] [] 300 0 g397
  [(12, [((-2147483647), 2147483646), ((-2147483647), 2147483646), ((-1), 1), (1, 9)], [(0, rA 90), (1, iA (0, [(1, 0)])), (2, iA (2, [])), (3, iA (0, [(1, 1)])), (4, iA (0, [(1, 2)]))], [], [((90, 30), iA (2, [])), ((91, 0), iA (0, [(1, 3)]))], (174, [(100, 2)]))] = true := by decide +kernel
theorem r397 {l : Launch} {D : va_G} {tys : List (ClassId × FieldType)} {A : Nat → Prop} {ad : Nat → Nat} (hAD : ∀ i : Nat, ad (1000 + i) = D.2 1000 i) : CRok l D tys A ad GG 1 g397 := CR_of_vrf (dep := 0) hAD (fun c hc => by cases hc) T2OK_nil w397
noncomputable def g399 : CR := (309, [(2, 90, 90), (0, 3, 3)], [((91, 0), (0, 0, 0))], some (0, 0, 0), [], [])
theorem w399 : vrf GG [] [] 300 0 g399
  [] = true := by decide +kernel
theorem r399 {l : Launch} {D : va_G} {tys : List (ClassId × FieldType)} {A : Nat → Prop} {ad : Nat → Nat} (hAD : ∀ i : Nat, ad (1000 + i) = D.2 1000 i) : CRok l D tys A ad GG 1 g399 := CR_of_vrf (dep := 0) hAD (fun c hc => by cases hc) T2OK_nil w399
noncomputable def g401 : CR := (309, [(2, 90, 90), (0, 3, 3)], [((91, 0), (0, 1, 9))], some (0, (-2147483648), 2147483647), [], [])
theorem w401 : vrf GG [] [] 300 0 g401
  [] = true := by decide +kernel
theorem r401 {l : Launch} {D : va_G} {tys : List (ClassId × FieldType)} {A : Nat → Prop} {ad : Nat → Nat} (hAD : ∀ i : Nat, ad (1000 + i) = D.2 1000 i) : CRok l D tys A ad GG 1 g401 := CR_of_vrf (dep := 0) hAD (fun c hc => by cases hc) T2OK_nil w401
noncomputable def g402 : CR := (310, [(2, 90, 90), (0, (-2147483647), 2147483646), (0, 3, 3)], [((91, 0), (0, 1, 9))], none, [], [90, 105])
theorem w402 : vrf GG [] [] 300 0 g402
  [(12, [((-2147483647), 2147483646), ((-2147483647), 2147483646), ((-1), 2), (1, 9)], [(0, rA 90), (1, iA (0, [(1, 0)])), (2, iA (3, [])), (3, iA (0, [(1, 1)])), (4, iA (0, [(1, 2)]))], [], [((90, 30), iA (3, [])), ((91, 0), iA (0, [(1, 3)]))], (174, [(100, 2)]))] = true := by decide +kernel
theorem r402 {l : Launch} {D : va_G} {tys : List (ClassId × FieldType)} {A : Nat → Prop} {ad : Nat → Nat} (hAD : ∀ i : Nat, ad (1000 + i) = D.2 1000 i) : CRok l D tys A ad GG 1 g402 := CR_of_vrf (dep := 0) hAD (fun c hc => by cases hc) T2OK_nil w402
noncomputable def g404 : CR := (309, [(2, 90, 90), (0, 4, 4)], [((91, 0), (0, 0, 0))], some (0, 0, 0), [], [])
theorem w404 : vrf GG [] [] 300 0 g404
  [] = true := by decide +kernel
theorem r404 {l : Launch} {D : va_G} {tys : List (ClassId × FieldType)} {A : Nat → Prop} {ad : Nat → Nat} (hAD : ∀ i : Nat, ad (1000 + i) = D.2 1000 i) : CRok l D tys A ad GG 1 g404 := CR_of_vrf (dep := 0) hAD (fun c hc => by cases hc) T2OK_nil w404
noncomputable def g406 : CR := (309, [(2, 90, 90), (0, 4, 4)], [((91, 0), (0, 1, 9))], some (0, (-2147483648), 2147483647), [], [])
theorem w406 : vrf GG [] [] 300 0 g406
  [] = true := by decide +kernel
theorem r406 {l : Launch} {D : va_G} {tys : List (ClassId × FieldType)} {A : Nat → Prop} {ad : Nat → Nat} (hAD : ∀ i : Nat, ad (1000 + i) = D.2 1000 i) : CRok l D tys A ad GG 1 g406 := CR_of_vrf (dep := 0) hAD (fun c hc => by cases hc) T2OK_nil w406
noncomputable def g407 : CR := (310, [(2, 90, 90), (0, (-2147483647), 2147483646), (0, 4, 4)], [((91, 0), (0, 1, 9))], none, [], [90, 105])
theorem w407 : vrf GG [] [] 300 0 g407
  [(12, [((-2147483647), 2147483646), ((-2147483647), 2147483646), ((-1), 3), (1, 9)], [(0, rA 90), (1, iA (0, [(1, 0)])), (2, iA (4, [])), (3, iA (0, [(1, 1)])), (4, iA (0, [(1, 2)]))], [], [((90, 30), iA (4, [])), ((91, 0), iA (0, [(1, 3)]))], (174, [(100, 2)]))] = true := by decide +kernel
theorem r407 {l : Launch} {D : va_G} {tys : List (ClassId × FieldType)} {A : Nat → Prop} {ad : Nat → Nat} (hAD : ∀ i : Nat, ad (1000 + i) = D.2 1000 i) : CRok l D tys A ad GG 1 g407 := CR_of_vrf (dep := 0) hAD (fun c hc => by cases hc) T2OK_nil w407
noncomputable def g409 : CR := (309, [(2, 90, 90), (0, 5, 5)], [((91, 0), (0, 0, 0))], some (0, 0, 0), [], [])
theorem w409 : vrf GG [] [] 300 0 g409
  [] = true := by decide +kernel
theorem r409 {l : Launch} {D : va_G} {tys : List (ClassId × FieldType)} {A : Nat → Prop} {ad : Nat → Nat} (hAD : ∀ i : Nat, ad (1000 + i) = D.2 1000 i) : CRok l D tys A ad GG 1 g409 := CR_of_vrf (dep := 0) hAD (fun c hc => by cases hc) T2OK_nil w409
noncomputable def g411 : CR := (309, [(2, 90, 90), (0, 5, 5)], [((91, 0), (0, 1, 9))], some (0, (-2147483648), 2147483647), [], [])
theorem w411 : vrf GG [] [] 300 0 g411
  [] = true := by decide +kernel
theorem r411 {l : Launch} {D : va_G} {tys : List (ClassId × FieldType)} {A : Nat → Prop} {ad : Nat → Nat} (hAD : ∀ i : Nat, ad (1000 + i) = D.2 1000 i) : CRok l D tys A ad GG 1 g411 := CR_of_vrf (dep := 0) hAD (fun c hc => by cases hc) T2OK_nil w411
noncomputable def g412 : CR := (310, [(2, 90, 90), (0, (-2147483647), 2147483646), (0, 5, 5)], [((91, 0), (0, 1, 9))], none, [], [90, 105])
theorem w412 : vrf GG [] [] 300 0 g412
  [(12, [((-2147483647), 2147483646), ((-2147483647), 2147483646), ((-1), 4), (1, 9)], [(0, rA 90), (1, iA (0, [(1, 0)])), (2, iA (5, [])), (3, iA (0, [(1, 1)])), (4, iA (0, [(1, 2)]))], [], [((90, 30), iA (5, [])), ((91, 0), iA (0, [(1, 3)]))], (174, [(100, 2)]))] = true := by decide +kernel
theorem r412 {l : Launch} {D : va_G} {tys : List (ClassId × FieldType)} {A : Nat → Prop} {ad : Nat → Nat} (hAD : ∀ i : Nat, ad (1000 + i) = D.2 1000 i) : CRok l D tys A ad GG 1 g412 := CR_of_vrf (dep := 0) hAD (fun c hc => by cases hc) T2OK_nil w412
noncomputable def g414 : CR := (309, [(2, 90, 90), (0, 6, 6)], [((91, 0), (0, 0, 0))], some (0, 0, 0), [], [])
theorem w414 : vrf GG [] [] 300 0 g414
  [] = true := by decide +kernel
theorem r414 {l : Launch} {D : va_G} {tys : List (ClassId × FieldType)} {A : Nat → Prop} {ad : Nat → Nat} (hAD : ∀ i : Nat, ad (1000 + i) = D.2 1000 i) : CRok l D tys A ad GG 1 g414 := CR_of_vrf (dep := 0) hAD (fun c hc => by cases hc) T2OK_nil w414
noncomputable def g416 : CR := (309, [(2, 90, 90), (0, 6, 6)], [((91, 0), (0, 1, 9))], some (0, (-2147483648), 2147483647), [], [])
theorem w416 : vrf GG [] [] 300 0 g416
  [] = true := by decide +kernel
theorem r416 {l : Launch} {D : va_G} {tys : List (ClassId × FieldType)} {A : Nat → Prop} {ad : Nat → Nat} (hAD : ∀ i : Nat, ad (1000 + i) = D.2 1000 i) : CRok l D tys A ad GG 1 g416 := CR_of_vrf (dep := 0) hAD (fun c hc => by cases hc) T2OK_nil w416
noncomputable def g417 : CR := (310, [(2, 90, 90), (0, (-2147483647), 2147483646), (0, 6, 6)], [((91, 0), (0, 1, 9))], none, [], [90, 105])
theorem w417 : vrf GG [] [] 300 0 g417
  [(12, [((-2147483647), 2147483646), ((-2147483647), 2147483646), ((-1), 5), (1, 9)], [(0, rA 90), (1, iA (0, [(1, 0)])), (2, iA (6, [])), (3, iA (0, [(1, 1)])), (4, iA (0, [(1, 2)]))], [], [((90, 30), iA (6, [])), ((91, 0), iA (0, [(1, 3)]))], (174, [(100, 2)]))] = true := by decide +kernel
theorem r417 {l : Launch} {D : va_G} {tys : List (ClassId × FieldType)} {A : Nat → Prop} {ad : Nat → Nat} (hAD : ∀ i : Nat, ad (1000 + i) = D.2 1000 i) : CRok l D tys A ad GG 1 g417 := CR_of_vrf (dep := 0) hAD (fun c hc => by cases hc) T2OK_nil w417
noncomputable def g419 : CR := (54, [(2, 0, 0), (0, (-2147483648), (-1))], [], some (0, (-2), (-2)), [], [])
theorem w419 : vrf GG [] [] 300 2 g419
  [] = true := by decide +kernel
theorem r419 {l : Launch} {D : va_G} {tys : List (ClassId × FieldType)} {A : Nat → Prop} {ad : Nat → Nat} (hAD : ∀ i : Nat, ad (1000 + i) = D.2 1000 i) : CRok l D tys A ad GG 3 g419 := CR_of_vrf (dep := 2) hAD (fun c hc => by cases hc) T2OK_nil w419
noncomputable def g420 : CR := (54, [(2, 0, 0), (0, 4, 2147483647)], [], some (0, (-2), (-2)), [], [])
theorem w420 : vrf GG [] [] 300 2 g420
  [] = true := by decide +kernel
theorem r420 {l : Launch} {D : va_G} {tys : List (ClassId × FieldType)} {A : Nat → Prop} {ad : Nat → Nat} (hAD : ∀ i : Nat, ad (1000 + i) = D.2 1000 i) : CRok l D tys A ad GG 3 g420 := CR_of_vrf (dep := 2) hAD (fun c hc => by cases hc) T2OK_nil w420
noncomputable def g421 : CR := (120, [(2, 47, 47), (2, 4, 4), (2, 39, 39), (0, 0, 0)], [], some (0, 0, 1), [], [])
theorem w421 : vrf GG [] [] 470 3 g421
  [(10, [((-1), 60), (0, 60), ((-1), 60)], [(0, rA 47), (1, rA 4), (2, rA 39), (3, iA (0, [])), (4, iA (0, [(1, 0)])), (5, iA (0, [(1, 1)]))], [], [((42, 0), iA (0, [(1, 2)]))], (10592, [((-174), 1)])),
  (37, [(1, 60), (0, 59), ((-1), 8), ((-1), 60)], [(0, rA 47), (1, rA 4), (2, rA 39), (3, iA (0, [])), (4, iA (0, [(1, 0)])), (5, iA (0, [(1, 1)]))], [lA (0, [(1, 2)])], [((42, 0), iA (0, [(1, 3)]))], (10565, [((-174), 1)])),
  (64, [(1, 60), (0, 59), ((-1), 8), ((-1), 60)], [(0, rA 47), (1, rA 4), (2, rA 39), (3, iA (0, [])), (4, iA (0, [(1, 0)])), (5, iA (0, [(1, 1)])), (6, lA (0, [(1, 2)]))], [], [((42, 0), iA (0, [(1, 3)]))], (10538, [((-174), 1)]))] = true := by decide +kernel
theorem r421 {l : Launch} {D : va_G} {tys : List (ClassId × FieldType)} {A : Nat → Prop} {ad : Nat → Nat} (hAD : ∀ i : Nat, ad (1000 + i) = D.2 1000 i) : CRok l D tys A ad GG 4 g421 := CR_of_vrf (dep := 3) hAD (fun c hc => by cases hc) T2OK_nil w421
noncomputable def g422 : CR := (121, [(2, 47, 47), (2, 4, 4), (2, 39, 39), (0, 0, 0)], [], some (0, 0, 63), [], [])
theorem w422 : vrf GG [] [] 741 3 g422
  [(9, [(0, 63), (0, 60), (0, 6)], [(0, rA 47), (1, rA 4), (2, rA 39), (3, iA (0, [])), (4, iA (0, [(1, 0)])), (5, iA (0, [(1, 1)]))], [], [((4, 4), iA (0, [(1, 2)]))], (102094, [((-1674), 1)])),
  (34, [(0, 63), (0, 58), ((-2147483648), 2147483647), (0, 6), (0, 6), (2, 60)], [(0, rA 47), (1, rA 4), (2, rA 39), (3, iA (0, [])), (4, iA (0, [(1, 0)])), (5, iA (0, [(1, 1)])), (6, iA (0, [(1, 2)])), (7, iA (0, [(1, 3)]))], [], [((4, 4), iA (0, [(1, 4)])), ((42, 0), iA (0, [(1, 5)]))], (101755, [((-186), 3), ((-1674), 1)])),
  (76, [(0, 63), (0, 58), ((-2147483648), 2147483647), (0, 5), (1, 6), (2, 60)], [(0, rA 47), (1, rA 4), (2, rA 39), (3, iA (0, [])), (4, iA (0, [(1, 0)])), (5, iA (0, [(1, 1)])), (6, iA (0, [(1, 2)])), (7, iA (0, [(1, 3)]))], [], [((4, 4), iA (0, [(1, 4)])), ((42, 0), iA (0, [(1, 5)]))], (101713, [((-186), 3), ((-1674), 1)]))] = true := by decide +kernel
theorem r422 {l : Launch} {D : va_G} {tys : List (ClassId × FieldType)} {A : Nat → Prop} {ad : Nat → Nat} (hAD : ∀ i : Nat, ad (1000 + i) = D.2 1000 i) : CRok l D tys A ad GG 4 g422 := CR_of_vrf (dep := 3) hAD (fun c hc => by cases hc) T2OK_nil w422
noncomputable def g423 : CR := (54, [(2, 0, 0), (0, 0, 0)], [], some (0, (-6), 63), [], [])
theorem w423 : vrf GG [(4, g421), (4, g422)] [] 300 5 g423
  [] = true := by decide +kernel
theorem r423 {l : Launch} {D : va_G} {tys : List (ClassId × FieldType)} {A : Nat → Prop} {ad : Nat → Nat} (hAD : ∀ i : Nat, ad (1000 + i) = D.2 1000 i) : CRok l D tys A ad GG 6 g423 := CR_of_vrf (dep := 5) hAD (List.forall_mem_cons.mpr ⟨r421 hAD, List.forall_mem_cons.mpr ⟨r422 hAD, fun c hc => by cases hc⟩⟩) T2OK_nil w423
noncomputable def g424 : CR := (120, [(2, 47, 47), (2, 4, 4), (2, 39, 39), (0, 1, 1)], [], some (0, 0, 1), [], [])
theorem w424 : vrf GG [] [] 470 3 g424
  [(10, [((-1), 60), (0, 60), ((-1), 60)], [(0, rA 47), (1, rA 4), (2, rA 39), (3, iA (1, [])), (4, iA (0, [(1, 0)])), (5, iA (0, [(1, 1)]))], [], [((42, 1), iA (0, [(1, 2)]))], (10592, [((-174), 1)])),
  (37, [(1, 60), (0, 59), ((-1), 8), ((-1), 60)], [(0, rA 47), (1, rA 4), (2, rA 39), (3, iA (1, [])), (4, iA (0, [(1, 0)])), (5, iA (0, [(1, 1)]))], [lA (0, [(1, 2)])], [((42, 1), iA (0, [(1, 3)]))], (10565, [((-174), 1)])),
  (64, [(1, 60), (0, 59), ((-1), 8), ((-1), 60)], [(0, rA 47), (1, rA 4), (2, rA 39), (3, iA (1, [])), (4, iA (0, [(1, 0)])), (5, iA (0, [(1, 1)])), (6, lA (0, [(1, 2)]))], [], [((42, 1), iA (0, [(1, 3)]))], (10538, [((-174), 1)]))] = true := by decide +kernel
theorem r424 {l : Launch} {D : va_G} {tys : List (ClassId × FieldType)} {A : Nat → Prop} {ad : Nat → Nat} (hAD : ∀ i : Nat, ad (1000 + i) = D.2 1000 i) : CRok l D tys A ad GG 4 g424 := CR_of_vrf (dep := 3) hAD (fun c hc => by cases hc) T2OK_nil w424
noncomputable def g425 : CR := (121, [(2, 47, 47), (2, 4, 4), (2, 39, 39), (0, 1, 1)], [], some (0, 0, 63), [], [])
theorem w425 : vrf GG [] [] 741 3 g425
  [(9, [(0, 63), (0, 60), (0, 6)], [(0, rA 47), (1, rA 4), (2, rA 39), (3, iA (1, [])), (4, iA (0, [(1, 0)])), (5, iA (0, [(1, 1)]))], [], [((4, 4), iA (0, [(1, 2)]))], (102094, [((-1674), 1)])),
  (34, [(0, 63), (0, 58), ((-2147483648), 2147483647), (0, 6), (0, 6), (2, 60)], [(0, rA 47), (1, rA 4), (2, rA 39), (3, iA (1, [])), (4, iA (0, [(1, 0)])), (5, iA (0, [(1, 1)])), (6, iA (0, [(1, 2)])), (7, iA (0, [(1, 3)]))], [], [((4, 4), iA (0, [(1, 4)])), ((42, 1), iA (0, [(1, 5)]))], (101755, [((-186), 3), ((-1674), 1)])),
  (76, [(0, 63), (0, 58), ((-2147483648), 2147483647), (0, 5), (1, 6), (2, 60)], [(0, rA 47), (1, rA 4), (2, rA 39), (3, iA (1, [])), (4, iA (0, [(1, 0)])), (5, iA (0, [(1, 1)])), (6, iA (0, [(1, 2)])), (7, iA (0, [(1, 3)]))], [], [((4, 4), iA (0, [(1, 4)])), ((42, 1), iA (0, [(1, 5)]))], (101713, [((-186), 3), ((-1674), 1)]))] = true := by decide +kernel
theorem r425 {l : Launch} {D : va_G} {tys : List (ClassId × FieldType)} {A : Nat → Prop} {ad : Nat → Nat} (hAD : ∀ i : Nat, ad (1000 + i) = D.2 1000 i) : CRok l D tys A ad GG 4 g425 := CR_of_vrf (dep := 3) hAD (fun c hc => by cases hc) T2OK_nil w425
noncomputable def g426 : CR := (54, [(2, 0, 0), (0, 1, 1)], [], some (0, (-6), 63), [], [])
theorem w426 : vrf GG [(4, g424), (4, g425)] [] 300 5 g426
  [] = true := by decide +kernel
theorem r426 {l : Launch} {D : va_G} {tys : List (ClassId × FieldType)} {A : Nat → Prop} {ad : Nat → Nat} (hAD : ∀ i : Nat, ad (1000 + i) = D.2 1000 i) : CRok l D tys A ad GG 6 g426 := CR_of_vrf (dep := 5) hAD (List.forall_mem_cons.mpr ⟨r424 hAD, List.forall_mem_cons.mpr ⟨r425 hAD, fun c hc => by cases hc⟩⟩) T2OK_nil w426
noncomputable def g427 : CR := (120, [(2, 47, 47), (2, 4, 4), (2, 39, 39), (0, 2, 2)], [], some (0, 0, 1), [], [])
theorem w427 : vrf GG [] [] 470 3 g427
  [(10, [((-1), 60), (0, 60), ((-1), 60)], [(0, rA 47), (1, rA 4), (2, rA 39), (3, iA (2, [])), (4, iA (0, [(1, 0)])), (5, iA (0, [(1, 1)]))], [], [((42, 2), iA (0, [(1, 2)]))], (10592, [((-174), 1)])),
  (37, [(1, 60), (0, 59), ((-1), 8), ((-1), 60)], [(0, rA 47), (1, rA 4), (2, rA 39), (3, iA (2, [])), (4, iA (0, [(1, 0)])), (5, iA (0, [(1, 1)]))], [lA (0, [(1, 2)])], [((42, 2), iA (0, [(1, 3)]))], (10565, [((-174), 1)])),
  (64, [(1, 60), (0, 59), ((-1), 8), ((-1), 60)], [(0, rA 47), (1, rA 4), (2, rA 39), (3, iA (2, [])), (4, iA (0, [(1, 0)])), (5, iA (0, [(1, 1)])), (6, lA (0, [(1, 2)]))], [], [((42, 2), iA (0, [(1, 3)]))], (10538, [((-174), 1)]))] = true := by decide +kernel
theorem r427 {l : Launch} {D : va_G} {tys : List (ClassId × FieldType)} {A : Nat → Prop} {ad : Nat → Nat} (hAD : ∀ i : Nat, ad (1000 + i) = D.2 1000 i) : CRok l D tys A ad GG 4 g427 := CR_of_vrf (dep := 3) hAD (fun c hc => by cases hc) T2OK_nil w427
noncomputable def g428 : CR := (121, [(2, 47, 47), (2, 4, 4), (2, 39, 39), (0, 2, 2)], [], some (0, 0, 63), [], [])
theorem w428 : vrf GG [] [] 741 3 g428
  [(9, [(0, 63), (0, 60), (0, 6)], [(0, rA 47), (1, rA 4), (2, rA 39), (3, iA (2, [])), (4, iA (0, [(1, 0)])), (5, iA (0, [(1, 1)]))], [], [((4, 4), iA (0, [(1, 2)]))], (102094, [((-1674), 1)])),
  (34, [(0, 63), (0, 58), ((-2147483648), 2147483647), (0, 6), (0, 6), (2, 60)], [(0, rA 47), (1, rA 4), (2, rA 39), (3, iA (2, [])), (4, iA (0, [(1, 0)])), (5, iA (0, [(1, 1)])), (6, iA (0, [(1, 2)])), (7, iA (0, [(1, 3)]))], [], [((4, 4), iA (0, [(1, 4)])), ((42, 2), iA (0, [(1, 5)]))], (101755, [((-186), 3), ((-1674), 1)])),
  (76, [(0, 63), (0, 58), ((-2147483648), 2147483647), (0, 5), (1, 6), (2, 60)], [(0, rA 47), (1, rA 4), (2, rA 39), (3, iA (2, [])), (4, iA (0, [(1, 0)])), (5, iA (0, [(1, 1)])), (6, iA (0, [(1, 2)])), (7, iA (0, [(1, 3)]))], [], [((4, 4), iA (0, [(1, 4)])), ((42, 2), iA (0, [(1, 5)]))], (101713, [((-186), 3), ((-1674), 1)]))] = true := by decide +kernel
theorem r428 {l : Launch} {D : va_G} {tys : List (ClassId × FieldType)} {A : Nat → Prop} {ad : Nat → Nat} (hAD : ∀ i : Nat, ad (1000 + i) = D.2 1000 i) : CRok l D tys A ad GG 4 g428 := CR_of_vrf (dep := 3) hAD (fun c hc => by cases hc) T2OK_nil w428
noncomputable def g429 : CR := (54, [(2, 0, 0), (0, 2, 2)], [], some (0, (-6), 63), [], [])
theorem w429 : vrf GG [(4, g427), (4, g428)] [] 300 5 g429
  [] = true := by decide +kernel
theorem r429 {l : Launch} {D : va_G} {tys : List (ClassId × FieldType)} {A : Nat → Prop} {ad : Nat → Nat} (hAD : ∀ i : Nat, ad (1000 + i) = D.2 1000 i) : CRok l D tys A ad GG 6 g429 := CR_of_vrf (dep := 5) hAD (List.forall_mem_cons.mpr ⟨r427 hAD, List.forall_mem_cons.mpr ⟨r428 hAD, fun c hc => by cases hc⟩⟩) T2OK_nil w429
noncomputable def g430 : CR := (120, [(2, 47, 47), (2, 4, 4), (2, 39, 39), (0, 3, 3)], [], some (0, 0, 1), [], [])
theorem w430 : vrf GG [] [] 470 3 g430
  [(10, [((-1), 60), (0, 60), ((-1), 60)], [(0, rA 47), (1, rA 4), (2, rA 39), (3, iA (3, [])), (4, iA (0, [(1, 0)])), (5, iA (0, [(1, 1)]))], [], [((42, 3), iA (0, [(1, 2)]))], (10592, [((-174), 1)])),
  (37, [(1, 60), (0, 59), ((-1), 8), ((-1), 60)], [(0, rA 47), (1, rA 4), (2, rA 39), (3, iA (3, [])), (4, iA (0, [(1, 0)])), (5, iA (0, [(1, 1)]))], [lA (0, [(1, 2)])], [((42, 3), iA (0, [(1, 3)]))], (10565, [((-174), 1)])),
  (64, [(1, 60), (0, 59), ((-1), 8), ((-1), 60)], [(0, rA 47), (1, rA 4), (2, rA 39), (3, iA (3, [])), (4, iA (0, [(1, 0)])), (5, iA (0, [(1, 1)])), (6, lA (0, [(1, 2)]))], [], [((42, 3), iA (0, [(1, 3)]))], (10538, [((-174), 1)]))] = true := by decide +kernel
theorem r430 {l : Launch} {D : va_G} {tys : List (ClassId × FieldType)} {A : Nat → Prop} {ad : Nat → Nat} (hAD : ∀ i : Nat, ad (1000 + i) = D.2 1000 i) : CRok l D tys A ad GG 4 g430 := CR_of_vrf (dep := 3) hAD (fun c hc => by cases hc) T2OK_nil w430
noncomputable def g431 : CR := (121, [(2, 47, 47), (2, 4, 4), (2, 39, 39), (0, 3, 3)], [], some (0, 0, 63), [], [])
theorem w431 : vrf GG [] [] 741 3 g431
  [(9, [(0, 63), (0, 60), (0, 6)], [(0, rA 47), (1, rA 4), (2, rA 39), (3, iA (3, [])), (4, iA (0, [(1, 0)])), (5, iA (0, [(1, 1)]))], [], [((4, 4), iA (0, [(1, 2)]))], (102094, [((-1674), 1)])),
  (34, [(0, 63), (0, 58), ((-2147483648), 2147483647), (0, 6), (0, 6), (2, 60)], [(0, rA 47), (1, rA 4), (2, rA 39), (3, iA (3, [])), (4, iA (0, [(1, 0)])), (5, iA (0, [(1, 1)])), (6, iA (0, [(1, 2)])), (7, iA (0, [(1, 3)]))], [], [((4, 4), iA (0, [(1, 4)])), ((42, 3), iA (0, [(1, 5)]))], (101755, [((-186), 3), ((-1674), 1)])),
  (76, [(0, 63), (0, 58), ((-2147483648), 2147483647), (0, 5), (1, 6), (2, 60)], [(0, rA 47), (1, rA 4), (2, rA 39), (3, iA (3, [])), (4, iA (0, [(1, 0)])), (5, iA (0, [(1, 1)])), (6, iA (0, [(1, 2)])), (7, iA (0, [(1, 3)]))], [], [((4, 4), iA (0, [(1, 4)])), ((42, 3), iA (0, [(1, 5)]))], (101713, [((-186), 3), ((-1674), 1)]))] = true := by decide +kernel
theorem r431 {l : Launch} {D : va_G} {tys : List (ClassId × FieldType)} {A : Nat → Prop} {ad : Nat → Nat} (hAD : ∀ i : Nat, ad (1000 + i) = D.2 1000 i) : CRok l D tys A ad GG 4 g431 := CR_of_vrf (dep := 3) hAD (fun c hc => by cases hc) T2OK_nil w431
noncomputable def g432 : CR := (54, [(2, 0, 0), (0, 3, 3)], [], some (0, (-6), 63), [], [])
theorem w432 : vrf GG [(4, g430), (4, g431)] [] 300 5 g432
  [] = true := by decide +kernel
theorem r432 {l : Launch} {D : va_G} {tys : List (ClassId × FieldType)} {A : Nat → Prop} {ad : Nat → Nat} (hAD : ∀ i : Nat, ad (1000 + i) = D.2 1000 i) : CRok l D tys A ad GG 6 g432 := CR_of_vrf (dep := 5) hAD (List.forall_mem_cons.mpr ⟨r430 hAD, List.forall_mem_cons.mpr ⟨r431 hAD, fun c hc => by cases hc⟩⟩) T2OK_nil w432
noncomputable def g445 : CR := (55, [(2, 0, 0), (0, (-2147483648), (-1))], [], some (0, (-2), (-2)), [], [])
theorem w445 : vrf GG [] [] 300 2 g445
  [] = true := by decide +kernel
theorem r445 {l : Launch} {D : va_G} {tys : List (ClassId × FieldType)} {A : Nat → Prop} {ad : Nat → Nat} (hAD : ∀ i : Nat, ad (1000 + i) = D.2 1000 i) : CRok l D tys A ad GG 3 g445 := CR_of_vrf (dep := 2) hAD (fun c hc => by cases hc) T2OK_nil w445
noncomputable def g446 : CR := (55, [(2, 0, 0), (0, 4, 2147483647)], [], some (0, (-2), (-2)), [], [])
theorem w446 : vrf GG [] [] 300 2 g446
  [] = true := by decide +kernel
theorem r446 {l : Launch} {D : va_G} {tys : List (ClassId × FieldType)} {A : Nat → Prop} {ad : Nat → Nat} (hAD : ∀ i : Nat, ad (1000 + i) = D.2 1000 i) : CRok l D tys A ad GG 3 g446 := CR_of_vrf (dep := 2) hAD (fun c hc => by cases hc) T2OK_nil w446
noncomputable def g447 : CR := (123, [(2, 47, 47), (2, 4, 4), (0, 0, 63), (0, 0, 5)], [], some (0, 0, 2147483647), [], [])
theorem w447 : vrf GG [] [] 300 2 g447
  [(6, [(0, 63), (0, 5), (0, 2147483647), ((-1), 9)], [(0, rA 47), (1, rA 4), (2, iA (0, [(1, 0)])), (3, iA (0, [(1, 1)])), (4, iA (0, [(1, 2)])), (5, iA (0, [(1, 3)]))], [], [], (14386, [((-1440), 3)])),
  (21, [(0, 63), (0, 5), (0, 2147483647), ((-1), 8), ((-2147483648), 2147483647), (0, 6), (0, 9)], [(0, rA 47), (1, rA 4), (2, iA (0, [(1, 0)])), (3, iA (0, [(1, 1)])), (4, iA (0, [(1, 2)])), (5, iA (0, [(1, 3)])), (6, iA (0, [(1, 4)])), (7, iA (0, [(1, 5)]))], [], [((4, 1), iA (0, [(1, 6)]))], (14109, [((-160), 5), ((-1440), 3)])),
  (54, [(0, 63), (0, 5), (0, 2147483647), ((-1), 8), ((-2147483648), 2147483647), (0, 5), (0, 9), (1, 6)], [(0, rA 47), (1, rA 4), (2, iA (0, [(1, 0)])), (3, iA (0, [(1, 1)])), (4, iA (0, [(1, 2)])), (5, iA (0, [(1, 3)])), (6, iA (0, [(1, 4)])), (7, iA (0, [(1, 5)]))], [], [((4, 1), iA (0, [(1, 6)])), ((4, 4), iA (0, [(1, 7)]))], (14076, [((-160), 5), ((-1440), 3)]))] = true := by decide +kernel
theorem r447 {l : Launch} {D : va_G} {tys : List (ClassId × FieldType)} {A : Nat → Prop} {ad : Nat → Nat} (hAD : ∀ i : Nat, ad (1000 + i) = D.2 1000 i) : CRok l D tys A ad GG 3 g447 := CR_of_vrf (dep := 2) hAD (fun c hc => by cases hc) T2OK_nil w447
noncomputable def g448 : CR := (122, [(2, 47, 47), (2, 4, 4), (0, 0, 63)], [], some (0, (-1), 5), [], [])
theorem w448 : vrf GG [(3, g447)] [] 300 3 g448
  [(11, [(0, 63), ((-1), 5), (0, 63), (0, 6)], [(0, rA 47), (1, rA 4), (2, iA (0, [(1, 0)])), (3, iA (0, [(1, 1)])), (4, iA (0, [(1, 2)])), (5, iA (0, [(1, 3)]))], [], [], (704, [((-104), 3)])),
  (42, [(0, 63), ((-1), 5), (0, 63), (0, 5), (0, 2147483647)], [(0, rA 47), (1, rA 4), (2, iA (0, [(1, 0)])), (3, iA (0, [(1, 1)])), (4, iA (0, [(1, 2)])), (5, iA (0, [(1, 3)])), (6, iA (0, [(1, 4)]))], [], [], (673, [((-104), 3)]))] = true := by decide +kernel
theorem r448 {l : Launch} {D : va_G} {tys : List (ClassId × FieldType)} {A : Nat → Prop} {ad : Nat → Nat} (hAD : ∀ i : Nat, ad (1000 + i) = D.2 1000 i) : CRok l D tys A ad GG 4 g448 := CR_of_vrf (dep := 3) hAD (List.forall_mem_cons.mpr ⟨r447 hAD, fun c hc => by cases hc⟩) T2OK_nil w448
noncomputable def g449 : CR := (55, [(2, 0, 0), (0, 0, 0)], [], some (0, (-6), 5), [], [])
theorem w449 : vrf GG [(4, g421), (4, g422), (4, g448)] [] 300 5 g449
  [] = true := by decide +kernel
theorem r449 {l : Launch} {D : va_G} {tys : List (ClassId × FieldType)} {A : Nat → Prop} {ad : Nat → Nat} (hAD : ∀ i : Nat, ad (1000 + i) = D.2 1000 i) : CRok l D tys A ad GG 6 g449 := CR_of_vrf (dep := 5) hAD (List.forall_mem_cons.mpr ⟨r421 hAD, List.forall_mem_cons.mpr ⟨r422 hAD, List.forall_mem_cons.mpr ⟨r448 hAD, fun c hc => by cases hc⟩⟩⟩) T2OK_nil w449
noncomputable def g450 : CR := (55, [(2, 0, 0), (0, 1, 1)], [], some (0, (-6), 5), [], [])
theorem w450 : vrf GG [(4, g424), (4, g425), (4, g448)] [] 300 5 g450
  [] = true := by decide +kernel
theorem r450 {l : Launch} {D : va_G} {tys : List (ClassId × FieldType)} {A : Nat → Prop} {ad : Nat → Nat} (hAD : ∀ i : Nat, ad (1000 + i) = D.2 1000 i) : CRok l D tys A ad GG 6 g450 := CR_of_vrf (dep := 5) hAD (List.forall_mem_cons.mpr ⟨r424 hAD, List.forall_mem_cons.mpr ⟨r425 hAD, List.forall_mem_cons.mpr ⟨r448 hAD, fun c hc => by cases hc⟩⟩⟩) T2OK_nil w450
noncomputable def g451 : CR := (55, [(2, 0, 0), (0, 2, 2)], [], some (0, (-6), 5), [], [])
theorem w451 : vrf GG [(4, g427), (4, g428), (4, g448)] [] 300 5 g451
  [] = true := by decide +kernel
theorem r451 {l : Launch} {D : va_G} {tys : List (ClassId × FieldType)} {A : Nat → Prop} {ad : Nat → Nat} (hAD : ∀ i : Nat, ad (1000 + i) = D.2 1000 i) : CRok l D tys A ad GG 6 g451 := CR_of_vrf (dep := 5) hAD (List.forall_mem_cons.mpr ⟨r427 hAD, List.forall_mem_cons.mpr ⟨r428 hAD, List.forall_mem_cons.mpr ⟨r448 hAD, fun c hc => by cases hc⟩⟩⟩) T2OK_nil w451
noncomputable def g452 : CR := (55, [(2, 0, 0), (0, 3, 3)], [], some (0, (-6), 5), [], [])
theorem w452 : vrf GG [(4, g430), (4, g431), (4, g448)] [] 300 5 g452
  [] = true := by decide +kernel
theorem r452 {l : Launch} {D : va_G} {tys : List (ClassId × FieldType)} {A : Nat → Prop} {ad : Nat → Nat} (hAD : ∀ i : Nat, ad (1000 + i) = D.2 1000 i) : CRok l D tys A ad GG 6 g452 := CR_of_vrf (dep := 5) hAD (List.forall_mem_cons.mpr ⟨r430 hAD, List.forall_mem_cons.mpr ⟨r431 hAD, List.forall_mem_cons.mpr ⟨r448 hAD, fun c hc => by cases hc⟩⟩⟩) T2OK_nil w452
noncomputable def g453 : CR := (316, [(2, 90, 90), (0, 0, 63), (0, 0, 5)], [], some (0, 0, 2147483647), [], [])
theorem w453 : vrf GG [] [] 300 1 g453
  [(5, [(0, 63), (0, 5), (0, 2147483647), ((-1), 9)], [(0, rA 90), (1, iA (0, [(1, 0)])), (2, iA (0, [(1, 1)])), (3, iA (0, [(1, 2)])), (4, iA (0, [(1, 3)]))], [], [], (18348, [((-1836), 3)])),
  (22, [(0, 63), (0, 5), (0, 2147483647), ((-1), 8), ((-2147483648), 2147483647), (0, 6), (0, 9)], [(0, rA 90), (1, iA (0, [(1, 0)])), (2, iA (0, [(1, 1)])), (3, iA (0, [(1, 2)])), (4, iA (0, [(1, 3)])), (5, iA (0, [(1, 4)])), (6, iA (0, [(1, 5)]))], [], [((91, 0), iA (0, [(1, 6)]))], (18002, [((-204), 5), ((-1836), 3)])),
  (66, [(0, 63), (0, 5), (0, 2147483647), ((-1), 8), ((-2147483648), 2147483647), (0, 5), ((-1), 8), ((-2147483648), 2147483647), (0, 9), (1, 6)], [(0, rA 90), (1, iA (0, [(1, 0)])), (2, iA (0, [(1, 1)])), (3, iA (0, [(1, 2)])), (4, iA (0, [(1, 3)])), (5, iA (0, [(1, 4)])), (6, iA (0, [(1, 5)]))], [iA (0, [(1, 6)]), iA (0, [(1, 7)])], [((91, 0), iA (0, [(1, 8)])), ((91, 3), iA (0, [(1, 9)]))], (17958, [((-204), 5), ((-1836), 3)])),
  (75, [(0, 63), (0, 5), (0, 2147483647), ((-1), 8), ((-2147483648), 2147483647), (0, 5), ((-2147483648), 2147483647), (0, 9), (1, 6)], [(0, rA 90), (1, iA (0, [(1, 0)])), (2, iA (0, [(1, 1)])), (3, iA (0, [(1, 2)])), (4, iA (0, [(1, 3)])), (5, iA (0, [(1, 4)])), (6, iA (0, [(1, 5)]))], [iA (0, [(1, 6)])], [((91, 0), iA (0, [(1, 7)])), ((91, 3), iA (0, [(1, 8)]))], (17949, [((-204), 5), ((-1836), 3)])),
  (76, [(0, 63), (0, 5), (0, 2147483647), ((-1), 8), ((-2147483648), 2147483647), (0, 5), (0, 1), ((-2147483648), 2147483647), (0, 9), (1, 6)], [(0, rA 90), (1, iA (0, [(1, 0)])), (2, iA (0, [(1, 1)])), (3, iA (0, [(1, 2)])), (4, iA (0, [(1, 3)])), (5, iA (0, [(1, 4)])), (6, iA (0, [(1, 5)]))], [iA (0, [(1, 6)]), iA (0, [(1, 7)])], [((91, 0), iA (0, [(1, 8)])), ((91, 3), iA (0, [(1, 9)]))], (17948, [((-204), 5), ((-1836), 3)]))] = true := by decide +kernel
theorem r453 {l : Launch} {D : va_G} {tys : List (ClassId × FieldType)} {A : Nat → Prop} {ad : Nat → Nat} (hAD : ∀ i : Nat, ad (1000 + i) = D.2 1000 i) : CRok l D tys A ad GG 2 g453 := CR_of_vrf (dep := 1) hAD (fun c hc => by cases hc) T2OK_nil w453
noncomputable def g454 : CR := (317, [(2, 90, 90), (0, 0, 63)], [], some (0, (-1), 5), [], [])
theorem w454 : vrf GG [(1, g122), (2, g453)] [] 300 2 g454
  [(10, [(0, 63), (0, 13), ((-1), 5), (0, 6)], [(0, rA 90), (1, iA (0, [(1, 0)])), (2, iA (0, [(1, 1)])), (3, iA (0, [(1, 2)])), (4, iA (0, [(1, 3)]))], [], [], (692, [((-102), 3)])),
  (41, [(0, 63), (0, 13), ((-1), 5), (0, 5), (0, 2147483647)], [(0, rA 90), (1, iA (0, [(1, 0)])), (2, iA (0, [(1, 1)])), (3, iA (0, [(1, 2)])), (4, iA (0, [(1, 3)])), (5, iA (0, [(1, 4)]))], [], [], (661, [((-102), 3)]))] = true := by decide +kernel
theorem r454 {l : Launch} {D : va_G} {tys : List (ClassId × FieldType)} {A : Nat → Prop} {ad : Nat → Nat} (hAD : ∀ i : Nat, ad (1000 + i) = D.2 1000 i) : CRok l D tys A ad GG 3 g454 := CR_of_vrf (dep := 2) hAD (List.forall_mem_cons.mpr ⟨r122 hAD, List.forall_mem_cons.mpr ⟨r453 hAD, fun c hc => by cases hc⟩⟩) T2OK_nil w454
noncomputable def g461 : CR := (56, [(2, 0, 0), (0, (-2147483648), (-1))], [], some (0, (-2), (-2)), [], [])
theorem w461 : vrf GG [] [] 300 2 g461
  [] = true := by decide +kernel
theorem r461 {l : Launch} {D : va_G} {tys : List (ClassId × FieldType)} {A : Nat → Prop} {ad : Nat → Nat} (hAD : ∀ i : Nat, ad (1000 + i) = D.2 1000 i) : CRok l D tys A ad GG 3 g461 := CR_of_vrf (dep := 2) hAD (fun c hc => by cases hc) T2OK_nil w461
noncomputable def g462 : CR := (56, [(2, 0, 0), (0, 4, 2147483647)], [], some (0, (-2), (-2)), [], [])
theorem w462 : vrf GG [] [] 300 2 g462
  [] = true := by decide +kernel
theorem r462 {l : Launch} {D : va_G} {tys : List (ClassId × FieldType)} {A : Nat → Prop} {ad : Nat → Nat} (hAD : ∀ i : Nat, ad (1000 + i) = D.2 1000 i) : CRok l D tys A ad GG 3 g462 := CR_of_vrf (dep := 2) hAD (fun c hc => by cases hc) T2OK_nil w462
noncomputable def g463 : CR := (56, [(2, 0, 0), (0, 0, 0)], [], some (0, (-6), 2147483647), [], [])
theorem w463 : vrf GG [(4, g421), (4, g422), (4, g448), (3, g447)] [] 300 5 g463
  [] = true := by decide +kernel
theorem r463 {l : Launch} {D : va_G} {tys : List (ClassId × FieldType)} {A : Nat → Prop} {ad : Nat → Nat} (hAD : ∀ i : Nat, ad (1000 + i) = D.2 1000 i) : CRok l D tys A ad GG 6 g463 := CR_of_vrf (dep := 5) hAD (List.forall_mem_cons.mpr ⟨r421 hAD, List.forall_mem_cons.mpr ⟨r422 hAD, List.forall_mem_cons.mpr ⟨r448 hAD, List.forall_mem_cons.mpr ⟨r447 hAD, fun c hc => by cases hc⟩⟩⟩⟩) T2OK_nil w463
noncomputable def g464 : CR := (56, [(2, 0, 0), (0, 1, 1)], [], some (0, (-6), 2147483647), [], [])
theorem w464 : vrf GG [(4, g424), (4, g425), (4, g448), (3, g447)] [] 300 5 g464
  [] = true := by decide +kernel
theorem r464 {l : Launch} {D : va_G} {tys : List (ClassId × FieldType)} {A : Nat → Prop} {ad : Nat → Nat} (hAD : ∀ i : Nat, ad (1000 + i) = D.2 1000 i) : CRok l D tys A ad GG 6 g464 := CR_of_vrf (dep := 5) hAD (List.forall_mem_cons.mpr ⟨r424 hAD, List.forall_mem_cons.mpr ⟨r425 hAD, List.forall_mem_cons.mpr ⟨r448 hAD, List.forall_mem_cons.mpr ⟨r447 hAD, fun c hc => by cases hc⟩⟩⟩⟩) T2OK_nil w464
noncomputable def g465 : CR := (56, [(2, 0, 0), (0, 2, 2)], [], some (0, (-6), 2147483647), [], [])
theorem w465 : vrf GG [(4, g427), (4, g428), (4, g448), (3, g447)] [] 300 5 g465
  [] = true := by decide +kernel
theorem r465 {l : Launch} {D : va_G} {tys : List (ClassId × FieldType)} {A : Nat → Prop} {ad : Nat → Nat} (hAD : ∀ i : Nat, ad (1000 + i) = D.2 1000 i) : CRok l D tys A ad GG 6 g465 := CR_of_vrf (dep := 5) hAD (List.forall_mem_cons.mpr ⟨r427 hAD, List.forall_mem_cons.mpr ⟨r428 hAD, List.forall_mem_cons.mpr ⟨r448 hAD, List.forall_mem_cons.mpr ⟨r447 hAD, fun c hc => by cases hc⟩⟩⟩⟩) T2OK_nil w465
noncomputable def g466 : CR := (56, [(2, 0, 0), (0, 3, 3)], [], some (0, (-6), 2147483647), [], [])
theorem w466 : vrf GG [(4, g430), (4, g431), (4, g448), (3, g447)] [] 300 5 g466
  [] = true := by decide +kernel
theorem r466 {l : Launch} {D : va_G} {tys : List (ClassId × FieldType)} {A : Nat → Prop} {ad : Nat → Nat} (hAD : ∀ i : Nat, ad (1000 + i) = D.2 1000 i) : CRok l D tys A ad GG 6 g466 := CR_of_vrf (dep := 5) hAD (List.forall_mem_cons.mpr ⟨r430 hAD, List.forall_mem_cons.mpr ⟨r431 hAD, List.forall_mem_cons.mpr ⟨r448 hAD, List.forall_mem_cons.mpr ⟨r447 hAD, fun c hc => by cases hc⟩⟩⟩⟩) T2OK_nil w466
noncomputable def g473 : CR := (149, [(2, 52, 52), (0, 0, 0)], [], none, [], [52])
theorem w473 : vrf GG [] [] 300 0 g473
  [(2, [(0, 7)], [(0, rA 52), (1, iA (0, [])), (2, iA (0, [(1, 0)]))], [], [], (330, [((-42), 0)]))] = true := by decide +kernel
theorem r473 {l : Launch} {D : va_G} {tys : List (ClassId × FieldType)} {A : Nat → Prop} {ad : Nat → Nat} (hAD : ∀ i : Nat, ad (1000 + i) = D.2 1000 i) : CRok l D tys A ad GG 1 g473 := CR_of_vrf (dep := 0) hAD (fun c hc => by cases hc) T2OK_nil w473
noncomputable def g474 : CR := (131, [(2, 50, 50), (0, 0, 7), (0, 0, 7), (0, 0, 6)], [], some (0, (-2147483648), 2147483647), [], [52])
theorem w474 : vrf GG [(1, g473)] [] 300 1 g474
  [(11, [(0, 7), (0, 7), (0, 6), (0, 8)], [(0, rA 50), (1, iA (0, [(1, 0)])), (2, iA (0, [(1, 1)])), (3, iA (0, [(1, 2)])), (4, iA (0, [(1, 3)]))], [], [], (24924, [((-2772), 3)])),
  (20, [(0, 7), (0, 7), (0, 6), (0, 7), (0, 8)], [(0, rA 50), (1, iA (0, [(1, 0)])), (2, iA (0, [(1, 1)])), (3, iA (0, [(1, 2)])), (4, iA (0, [(1, 3)])), (5, iA (0, [(1, 4)]))], [], [], (24516, [((-252), 4), ((-2772), 3)])),
  (51, [(0, 7), (0, 7), (0, 6), (0, 7), (0, 7), ((-2147483648), 2147483647)], [(0, rA 50), (1, iA (0, [(1, 0)])), (2, iA (0, [(1, 1)])), (3, iA (0, [(1, 2)])), (4, iA (0, [(1, 3)])), (5, iA (0, [(1, 4)])), (6, iA (0, [(1, 5)]))], [], [], (24485, [((-252), 4), ((-2772), 3)])),
  (73, [(0, 7), (0, 7), (0, 6), (0, 7), (0, 7), ((-2147483648), 2147483647), ((-2147483648), 2147483647), ((-2147483648), 2147483647)], [(0, rA 50), (1, iA (0, [(1, 0)])), (2, iA (0, [(1, 1)])), (3, iA (0, [(1, 2)])), (4, iA (0, [(1, 3)])), (5, iA (0, [(1, 4)])), (6, iA (0, [(1, 5)]))], [iA (0, [(1, 6)]), iA (0, [(1, 7)])], [], (24463, [((-252), 4), ((-2772), 3)])),
  (74, [(0, 7), (0, 7), (0, 6), (0, 7), (0, 7), ((-2147483648), 2147483647), ((-2147483648), 2147483647)], [(0, rA 50), (1, iA (0, [(1, 0)])), (2, iA (0, [(1, 1)])), (3, iA (0, [(1, 2)])), (4, iA (0, [(1, 3)])), (5, iA (0, [(1, 4)])), (6, iA (0, [(1, 5)]))], [iA (0, [(1, 6)])], [], (24462, [((-252), 4), ((-2772), 3)])),
  (100, [(0, 7), (0, 7), (0, 6), (0, 7), (0, 7), ((-2147483648), 2147483647), ((-2147483648), 2147483647), ((-2147483648), 2147483647), (0, 7)], [(0, rA 50), (1, iA (0, [(1, 0)])), (2, iA (0, [(1, 1)])), (3, iA (0, [(1, 2)])), (4, iA (0, [(1, 3)])), (5, iA (0, [(1, 4)])), (6, iA (0, [(1, 5)])), (7, iA (0, [(1, 6)]))], [iA (0, [(1, 7)]), iA (0, [(1, 8)]), rA 52], [], (24436, [((-252), 4), ((-2772), 3)]))] = true := by decide +kernel
theorem r474 {l : Launch} {D : va_G} {tys : List (ClassId × FieldType)} {A : Nat → Prop} {ad : Nat → Nat} (hAD : ∀ i : Nat, ad (1000 + i) = D.2 1000 i) : CRok l D tys A ad GG 2 g474 := CR_of_vrf (dep := 1) hAD (List.forall_mem_cons.mpr ⟨r473 hAD, fun c hc => by cases hc⟩) T2OK_nil w474
noncomputable def g475 : CR := (58, [(2, 0, 0), (0, (-2147483648), 2147483647), (0, (-2147483648), 2147483647), (0, (-2147483648), 2147483647)], [], some (0, (-2147483648), 2147483647), [], [52])
theorem w475 : vrf GG [(2, g474)] [] 300 2 g475
  [] = true := by decide +kernel
theorem r475 {l : Launch} {D : va_G} {tys : List (ClassId × FieldType)} {A : Nat → Prop} {ad : Nat → Nat} (hAD : ∀ i : Nat, ad (1000 + i) = D.2 1000 i) : CRok l D tys A ad GG 3 g475 := CR_of_vrf (dep := 2) hAD (List.forall_mem_cons.mpr ⟨r474 hAD, fun c hc => by cases hc⟩) T2OK_nil w475
noncomputable def g476 : CR := (320, [(2, 90, 90), (0, 0, 6), (0, 0, 0), (0, 6, 6)], [], some (0, 1, 1), [], [106])
theorem w476 : vrf GG [] [] 650 1 g476
  [(3, [(0, 6)], [(0, rA 90), (1, iA (0, [(1, 0)])), (2, iA (0, [])), (3, iA (6, [])), (4, iA (0, []))], [], [], (1000, [])),
  (3, [(0, 6)], [(0, rA 90), (1, iA (0, [(1, 0)])), (2, iA (0, [])), (3, iA (6, [])), (4, iA (1, [])), (5, iA (1, [])), (6, iA (1, []))], [], [((106, 0), iA (1, []))], (999, [])),
  (3, [(1, 6)], [(0, rA 90), (1, iA (0, [(1, 0)])), (2, iA (0, [])), (3, iA (6, [])), (4, iA (2, [])), (5, iA (1, [])), (6, iA (1, []))], [], [((106, 0), iA (1, [])), ((106, 7), iA (1, []))], (998, [])),
  (3, [(2, 6)], [(0, rA 90), (1, iA (0, [(1, 0)])), (2, iA (0, [])), (3, iA (6, [])), (4, iA (3, [])), (5, iA (1, [])), (6, iA (1, []))], [], [((106, 0), iA (1, [])), ((106, 7), iA (1, [])), ((106, 14), iA (1, []))], (997, [])),
  (3, [(3, 6)], [(0, rA 90), (1, iA (0, [(1, 0)])), (2, iA (0, [])), (3, iA (6, [])), (4, iA (4, [])), (5, iA (1, [])), (6, iA (1, []))], [], [((106, 0), iA (1, [])), ((106, 7), iA (1, [])), ((106, 14), iA (1, [])), ((106, 21), iA (1, []))], (996, [])),
  (3, [(4, 6)], [(0, rA 90), (1, iA (0, [(1, 0)])), (2, iA (0, [])), (3, iA (6, [])), (4, iA (5, [])), (5, iA (1, [])), (6, iA (1, []))], [], [((106, 0), iA (1, [])), ((106, 7), iA (1, [])), ((106, 14), iA (1, [])), ((106, 21), iA (1, [])), ((106, 28), iA (1, []))], (995, [])),
  (3, [(5, 6)], [(0, rA 90), (1, iA (0, [(1, 0)])), (2, iA (0, [])), (3, iA (6, [])), (4, iA (6, [])), (5, iA (1, [])), (6, iA (1, []))], [], [((106, 0), iA (1, [])), ((106, 7), iA (1, [])), ((106, 14), iA (1, [])), ((106, 21), iA (1, [])), ((106, 28), iA (1, [])), ((106, 35), iA (1, []))], (994, [])),
  (3, [], [(0, rA 90), (1, iA (6, [])), (2, iA (0, [])), (3, iA (6, [])), (4, iA (7, [])), (5, iA (1, [])), (6, iA (1, []))], [], [((106, 0), iA (1, [])), ((106, 7), iA (1, [])), ((106, 14), iA (1, [])), ((106, 21), iA (1, [])), ((106, 28), iA (1, [])), ((106, 35), iA (1, [])), ((106, 42), iA (1, []))], (993, []))] = true := by decide +kernel
theorem r476 {l : Launch} {D : va_G} {tys : List (ClassId × FieldType)} {A : Nat → Prop} {ad : Nat → Nat} (hAD : ∀ i : Nat, ad (1000 + i) = D.2 1000 i) : CRok l D tys A ad GG 2 g476 := CR_of_vrf (dep := 1) hAD (fun c hc => by cases hc) T2OK_nil w476
noncomputable def g477 : CR := (320, [(2, 90, 90), (0, 0, 6), (0, 0, 6), (0, (-2147483648), 5)], [], some (0, (-2147483648), 2147483647), [], [106])
theorem w477 : vrf GG [] [] 300 1 g477
  [(3, [(0, 6), (0, 6), ((-2147483648), 5), (0, 7)], [(0, rA 90), (1, iA (0, [(1, 0)])), (2, iA (0, [(1, 1)])), (3, iA (0, [(1, 2)])), (4, iA (0, [(1, 3)]))], [], [], (22712, [((-2840), 3)])),
  (12, [(0, 6), (0, 6), ((-2147483648), 5), (0, 6), (0, 7)], [(0, rA 90), (1, iA (0, [(1, 0)])), (2, iA (0, [(1, 1)])), (3, iA (0, [(1, 2)])), (4, iA (0, [(1, 3)])), (5, iA (0, [(1, 4)]))], [], [], (22264, [((-284), 4), ((-2840), 3)])),
  (32, [(0, 6), (0, 6), ((-2147483648), 5), (0, 6), (0, 6)], [(0, rA 90), (1, iA (0, [(1, 0)])), (2, iA (0, [(1, 1)])), (3, iA (0, [(1, 2)])), (4, iA (0, [(1, 3)])), (5, iA (0, [(1, 4)]))], [], [], (22244, [((-284), 4), ((-2840), 3)])),
  (33, [(0, 6), (0, 6), ((-2147483648), 5), (0, 6), (0, 6), (0, 1)], [(0, rA 90), (1, iA (0, [(1, 0)])), (2, iA (0, [(1, 1)])), (3, iA (0, [(1, 2)])), (4, iA (0, [(1, 3)])), (5, iA (0, [(1, 4)]))], [iA (0, [(1, 5)])], [], (22243, [((-284), 4), ((-2840), 3)])),
  (60, [(0, 6), (0, 6), ((-2147483648), 5), (0, 6), (0, 6), ((-2147483648), 2147483647)], [(0, rA 90), (1, iA (0, [(1, 0)])), (2, iA (0, [(1, 1)])), (3, iA (0, [(1, 2)])), (4, iA (0, [(1, 3)])), (5, iA (0, [(1, 4)])), (6, iA (0, [(1, 5)]))], [], [], (22216, [((-284), 4), ((-2840), 3)])),
  (85, [(0, 6), (0, 6), ((-2147483648), 5), (0, 6), (0, 6), ((-2147483648), 2147483647)], [(0, rA 90), (1, iA (0, [(1, 0)])), (2, iA (0, [(1, 1)])), (3, iA (0, [(1, 2)])), (4, iA (0, [(1, 3)])), (5, iA (0, [(1, 4)])), (6, iA (0, [(1, 5)]))], [], [], (22191, [((-284), 4), ((-2840), 3)])),
  (115, [(0, 6), (0, 6), ((-2147483648), 5), (0, 6), (0, 6), ((-2147483648), 2147483647), ((-2147483648), 2147483647), (0, 48)], [(0, rA 90), (1, iA (0, [(1, 0)])), (2, iA (0, [(1, 1)])), (3, iA (0, [(1, 2)])), (4, iA (0, [(1, 3)])), (5, iA (0, [(1, 4)])), (6, iA (0, [(1, 5)]))], [iA (0, [(1, 6)]), iA (0, [(1, 7)]), rA 106], [], (22161, [((-284), 4), ((-2840), 3)]))] = true := by decide +kernel
theorem r477 {l : Launch} {D : va_G} {tys : List (ClassId × FieldType)} {A : Nat → Prop} {ad : Nat → Nat} (hAD : ∀ i : Nat, ad (1000 + i) = D.2 1000 i) : CRok l D tys A ad GG 2 g477 := CR_of_vrf (dep := 1) hAD (fun c hc => by cases hc) T2OK_nil w477
noncomputable def g478 : CR := (320, [(2, 90, 90), (0, 0, 6), (0, 1, 1), (0, 6, 6)], [], some (0, 1, 7), [], [106])
theorem w478 : vrf GG [] [] 1054 1 g478
  [(3, [(0, 6)], [(0, rA 90), (1, iA (0, [(1, 0)])), (2, iA (1, [])), (3, iA (6, [])), (4, iA (0, []))], [], [], (1000, [])),
  (3, [(0, 6)], [(0, rA 90), (1, iA (0, [(1, 0)])), (2, iA (1, [])), (3, iA (6, [])), (4, iA (1, [])), (5, iA (2, [])), (6, iA (1, []))], [], [((106, 0), iA (1, [])), ((106, 1), iA (1, []))], (999, [])),
  (3, [(1, 6)], [(0, rA 90), (1, iA (0, [(1, 0)])), (2, iA (1, [])), (3, iA (6, [])), (4, iA (2, [])), (5, iA (2, [])), (6, iA (2, []))], [], [((106, 0), iA (1, [])), ((106, 1), iA (1, [])), ((106, 7), iA (1, [])), ((106, 8), iA (2, []))], (998, [])),
  (3, [(2, 6)], [(0, rA 90), (1, iA (0, [(1, 0)])), (2, iA (1, [])), (3, iA (6, [])), (4, iA (3, [])), (5, iA (2, [])), (6, iA (3, []))], [], [((106, 0), iA (1, [])), ((106, 1), iA (1, [])), ((106, 7), iA (1, [])), ((106, 8), iA (2, [])), ((106, 14), iA (1, [])), ((106, 15), iA (3, []))], (997, [])),
  (3, [(3, 6)], [(0, rA 90), (1, iA (0, [(1, 0)])), (2, iA (1, [])), (3, iA (6, [])), (4, iA (4, [])), (5, iA (2, [])), (6, iA (4, []))], [], [((106, 0), iA (1, [])), ((106, 1), iA (1, [])), ((106, 7), iA (1, [])), ((106, 8), iA (2, [])), ((106, 14), iA (1, [])), ((106, 15), iA (3, [])), ((106, 21), iA (1, [])), ((106, 22), iA (4, []))], (996, [])),
  (3, [(4, 6)], [(0, rA 90), (1, iA (0, [(1, 0)])), (2, iA (1, [])), (3, iA (6, [])), (4, iA (5, [])), (5, iA (2, [])), (6, iA (5, []))], [], [((106, 0), iA (1, [])), ((106, 1), iA (1, [])), ((106, 7), iA (1, [])), ((106, 8), iA (2, [])), ((106, 14), iA (1, [])), ((106, 15), iA (3, [])), ((106, 21), iA (1, [])), ((106, 22), iA (4, [])), ((106, 28), iA (1, [])), ((106, 29), iA (5, []))], (995, [])),
  (3, [(5, 6)], [(0, rA 90), (1, iA (0, [(1, 0)])), (2, iA (1, [])), (3, iA (6, [])), (4, iA (6, [])), (5, iA (2, [])), (6, iA (6, []))], [], [((106, 0), iA (1, [])), ((106, 1), iA (1, [])), ((106, 7), iA (1, [])), ((106, 8), iA (2, [])), ((106, 14), iA (1, [])), ((106, 15), iA (3, [])), ((106, 21), iA (1, [])), ((106, 22), iA (4, [])), ((106, 28), iA (1, [])), ((106, 29), iA (5, [])), ((106, 35), iA (1, [])), ((106, 36), iA (6, []))], (994, [])),
  (3, [], [(0, rA 90), (1, iA (6, [])), (2, iA (1, [])), (3, iA (6, [])), (4, iA (7, [])), (5, iA (2, [])), (6, iA (7, []))], [], [((106, 0), iA (1, [])), ((106, 1), iA (1, [])), ((106, 7), iA (1, [])), ((106, 8), iA (2, [])), ((106, 14), iA (1, [])), ((106, 15), iA (3, [])), ((106, 21), iA (1, [])), ((106, 22), iA (4, [])), ((106, 28), iA (1, [])), ((106, 29), iA (5, [])), ((106, 35), iA (1, [])), ((106, 36), iA (6, [])), ((106, 42), iA (1, [])), ((106, 43), iA (7, []))], (993, []))] = true := by decide +kernel
theorem r478 {l : Launch} {D : va_G} {tys : List (ClassId × FieldType)} {A : Nat → Prop} {ad : Nat → Nat} (hAD : ∀ i : Nat, ad (1000 + i) = D.2 1000 i) : CRok l D tys A ad GG 2 g478 := CR_of_vrf (dep := 1) hAD (fun c hc => by cases hc) T2OK_nil w478
noncomputable def g479 : CR := (320, [(2, 90, 90), (0, 0, 6), (0, 2, 2), (0, 6, 6)], [], some (0, 1, 28), [], [106])
theorem w479 : vrf GG [] [] 1460 1 g479
  [(3, [(0, 6)], [(0, rA 90), (1, iA (0, [(1, 0)])), (2, iA (2, [])), (3, iA (6, [])), (4, iA (0, []))], [], [], (1000, [])),
  (3, [(0, 6)], [(0, rA 90), (1, iA (0, [(1, 0)])), (2, iA (2, [])), (3, iA (6, [])), (4, iA (1, [])), (5, iA (3, [])), (6, iA (1, []))], [], [((106, 0), iA (1, [])), ((106, 1), iA (1, [])), ((106, 2), iA (1, []))], (999, [])),
  (3, [(1, 6)], [(0, rA 90), (1, iA (0, [(1, 0)])), (2, iA (2, [])), (3, iA (6, [])), (4, iA (2, [])), (5, iA (3, [])), (6, iA (3, []))], [], [((106, 0), iA (1, [])), ((106, 1), iA (1, [])), ((106, 2), iA (1, [])), ((106, 7), iA (1, [])), ((106, 8), iA (2, [])), ((106, 9), iA (3, []))], (998, [])),
  (3, [(2, 6)], [(0, rA 90), (1, iA (0, [(1, 0)])), (2, iA (2, [])), (3, iA (6, [])), (4, iA (3, [])), (5, iA (3, [])), (6, iA (6, []))], [], [((106, 0), iA (1, [])), ((106, 1), iA (1, [])), ((106, 2), iA (1, [])), ((106, 7), iA (1, [])), ((106, 8), iA (2, [])), ((106, 9), iA (3, [])), ((106, 14), iA (1, [])), ((106, 15), iA (3, [])), ((106, 16), iA (6, []))], (997, [])),
  (3, [(3, 6)], [(0, rA 90), (1, iA (0, [(1, 0)])), (2, iA (2, [])), (3, iA (6, [])), (4, iA (4, [])), (5, iA (3, [])), (6, iA (10, []))], [], [((106, 0), iA (1, [])), ((106, 1), iA (1, [])), ((106, 2), iA (1, [])), ((106, 7), iA (1, [])), ((106, 8), iA (2, [])), ((106, 9), iA (3, [])), ((106, 14), iA (1, [])), ((106, 15), iA (3, [])), ((106, 16), iA (6, [])), ((106, 21), iA (1, [])), ((106, 22), iA (4, [])), ((106, 23), iA (10, []))], (996, [])),
  (3, [(4, 6)], [(0, rA 90), (1, iA (0, [(1, 0)])), (2, iA (2, [])), (3, iA (6, [])), (4, iA (5, [])), (5, iA (3, [])), (6, iA (15, []))], [], [((106, 0), iA (1, [])), ((106, 1), iA (1, [])), ((106, 2), iA (1, [])), ((106, 7), iA (1, [])), ((106, 8), iA (2, [])), ((106, 9), iA (3, [])), ((106, 14), iA (1, [])), ((106, 15), iA (3, [])), ((106, 16), iA (6, [])), ((106, 21), iA (1, [])), ((106, 22), iA (4, [])), ((106, 23), iA (10, [])), ((106, 28), iA (1, [])), ((106, 29), iA (5, [])), ((106, 30), iA (15, []))], (995, [])),
  (3, [(5, 6)], [(0, rA 90), (1, iA (0, [(1, 0)])), (2, iA (2, [])), (3, iA (6, [])), (4, iA (6, [])), (5, iA (3, [])), (6, iA (21, []))], [], [((106, 0), iA (1, [])), ((106, 1), iA (1, [])), ((106, 2), iA (1, [])), ((106, 7), iA (1, [])), ((106, 8), iA (2, [])), ((106, 9), iA (3, [])), ((106, 14), iA (1, [])), ((106, 15), iA (3, [])), ((106, 16), iA (6, [])), ((106, 21), iA (1, [])), ((106, 22), iA (4, [])), ((106, 23), iA (10, [])), ((106, 28), iA (1, [])), ((106, 29), iA (5, [])), ((106, 30), iA (15, [])), ((106, 35), iA (1, [])), ((106, 36), iA (6, [])), ((106, 37), iA (21, []))], (994, [])),
  (3, [], [(0, rA 90), (1, iA (6, [])), (2, iA (2, [])), (3, iA (6, [])), (4, iA (7, [])), (5, iA (3, [])), (6, iA (28, []))], [], [((106, 0), iA (1, [])), ((106, 1), iA (1, [])), ((106, 2), iA (1, [])), ((106, 7), iA (1, [])), ((106, 8), iA (2, [])), ((106, 9), iA (3, [])), ((106, 14), iA (1, [])), ((106, 15), iA (3, [])), ((106, 16), iA (6, [])), ((106, 21), iA (1, [])), ((106, 22), iA (4, [])), ((106, 23), iA (10, [])), ((106, 28), iA (1, [])), ((106, 29), iA (5, [])), ((106, 30), iA (15, [])), ((106, 35), iA (1, [])), ((106, 36), iA (6, [])), ((106, 37), iA (21, [])), ((106, 42), iA (1, [])), ((106, 43), iA (7, [])), ((106, 44), iA (28, []))], (993, []))] = true := by decide +kernel
theorem r479 {l : Launch} {D : va_G} {tys : List (ClassId × FieldType)} {A : Nat → Prop} {ad : Nat → Nat} (hAD : ∀ i : Nat, ad (1000 + i) = D.2 1000 i) : CRok l D tys A ad GG 2 g479 := CR_of_vrf (dep := 1) hAD (fun c hc => by cases hc) T2OK_nil w479
noncomputable def g480 : CR := (320, [(2, 90, 90), (0, 0, 6), (0, 3, 3), (0, 6, 6)], [], some (0, 1, 84), [], [106])
theorem w480 : vrf GG [] [] 1868 1 g480
  [(3, [(0, 6)], [(0, rA 90), (1, iA (0, [(1, 0)])), (2, iA (3, [])), (3, iA (6, [])), (4, iA (0, []))], [], [], (1000, [])),
  (3, [(0, 6)], [(0, rA 90), (1, iA (0, [(1, 0)])), (2, iA (3, [])), (3, iA (6, [])), (4, iA (1, [])), (5, iA (4, [])), (6, iA (1, []))], [], [((106, 0), iA (1, [])), ((106, 1), iA (1, [])), ((106, 2), iA (1, [])), ((106, 3), iA (1, []))], (999, [])),
  (3, [(1, 6)], [(0, rA 90), (1, iA (0, [(1, 0)])), (2, iA (3, [])), (3, iA (6, [])), (4, iA (2, [])), (5, iA (4, [])), (6, iA (4, []))], [], [((106, 0), iA (1, [])), ((106, 1), iA (1, [])), ((106, 2), iA (1, [])), ((106, 3), iA (1, [])), ((106, 7), iA (1, [])), ((106, 8), iA (2, [])), ((106, 9), iA (3, [])), ((106, 10), iA (4, []))], (998, [])),
  (3, [(2, 6)], [(0, rA 90), (1, iA (0, [(1, 0)])), (2, iA (3, [])), (3, iA (6, [])), (4, iA (3, [])), (5, iA (4, [])), (6, iA (10, []))], [], [((106, 0), iA (1, [])), ((106, 1), iA (1, [])), ((106, 2), iA (1, [])), ((106, 3), iA (1, [])), ((106, 7), iA (1, [])), ((106, 8), iA (2, [])), ((106, 9), iA (3, [])), ((106, 10), iA (4, [])), ((106, 14), iA (1, [])), ((106, 15), iA (3, [])), ((106, 16), iA (6, [])), ((106, 17), iA (10, []))], (997, [])),
  (3, [(3, 6)], [(0, rA 90), (1, iA (0, [(1, 0)])), (2, iA (3, [])), (3, iA (6, [])), (4, iA (4, [])), (5, iA (4, [])), (6, iA (20, []))], [], [((106, 0), iA (1, [])), ((106, 1), iA (1, [])), ((106, 2), iA (1, [])), ((106, 3), iA (1, [])), ((106, 7), iA (1, [])), ((106, 8), iA (2, [])), ((106, 9), iA (3, [])), ((106, 10), iA (4, [])), ((106, 14), iA (1, [])), ((106, 15), iA (3, [])), ((106, 16), iA (6, [])), ((106, 17), iA (10, [])), ((106, 21), iA (1, [])), ((106, 22), iA (4, [])), ((106, 23), iA (10, [])), ((106, 24), iA (20, []))], (996, [])),
  (3, [(4, 6)], [(0, rA 90), (1, iA (0, [(1, 0)])), (2, iA (3, [])), (3, iA (6, [])), (4, iA (5, [])), (5, iA (4, [])), (6, iA (35, []))], [], [((106, 0), iA (1, [])), ((106, 1), iA (1, [])), ((106, 2), iA (1, [])), ((106, 3), iA (1, [])), ((106, 7), iA (1, [])), ((106, 8), iA (2, [])), ((106, 9), iA (3, [])), ((106, 10), iA (4, [])), ((106, 14), iA (1, [])), ((106, 15), iA (3, [])), ((106, 16), iA (6, [])), ((106, 17), iA (10, [])), ((106, 21), iA (1, [])), ((106, 22), iA (4, [])), ((106, 23), iA (10, [])), ((106, 24), iA (20, [])), ((106, 28), iA (1, [])), ((106, 29), iA (5, [])), ((106, 30), iA (15, [])), ((106, 31), iA (35, []))], (995, [])),
  (3, [(5, 6)], [(0, rA 90), (1, iA (0, [(1, 0)])), (2, iA (3, [])), (3, iA (6, [])), (4, iA (6, [])), (5, iA (4, [])), (6, iA (56, []))], [], [((106, 0), iA (1, [])), ((106, 1), iA (1, [])), ((106, 2), iA (1, [])), ((106, 3), iA (1, [])), ((106, 7), iA (1, [])), ((106, 8), iA (2, [])), ((106, 9), iA (3, [])), ((106, 10), iA (4, [])), ((106, 14), iA (1, [])), ((106, 15), iA (3, [])), ((106, 16), iA (6, [])), ((106, 17), iA (10, [])), ((106, 21), iA (1, [])), ((106, 22), iA (4, [])), ((106, 23), iA (10, [])), ((106, 24), iA (20, [])), ((106, 28), iA (1, [])), ((106, 29), iA (5, [])), ((106, 30), iA (15, [])), ((106, 31), iA (35, [])), ((106, 35), iA (1, [])), ((106, 36), iA (6, [])), ((106, 37), iA (21, [])), ((106, 38), iA (56, []))], (994, [])),
  (3, [], [(0, rA 90), (1, iA (6, [])), (2, iA (3, [])), (3, iA (6, [])), (4, iA (7, [])), (5, iA (4, [])), (6, iA (84, []))], [], [((106, 0), iA (1, [])), ((106, 1), iA (1, [])), ((106, 2), iA (1, [])), ((106, 3), iA (1, [])), ((106, 7), iA (1, [])), ((106, 8), iA (2, [])), ((106, 9), iA (3, [])), ((106, 10), iA (4, [])), ((106, 14), iA (1, [])), ((106, 15), iA (3, [])), ((106, 16), iA (6, [])), ((106, 17), iA (10, [])), ((106, 21), iA (1, [])), ((106, 22), iA (4, [])), ((106, 23), iA (10, [])), ((106, 24), iA (20, [])), ((106, 28), iA (1, [])), ((106, 29), iA (5, [])), ((106, 30), iA (15, [])), ((106, 31), iA (35, [])), ((106, 35), iA (1, [])), ((106, 36), iA (6, [])), ((106, 37), iA (21, [])), ((106, 38), iA (56, [])), ((106, 42), iA (1, [])), ((106, 43), iA (7, [])), ((106, 44), iA (28, [])), ((106, 45), iA (84, []))], (993, []))] = true := by decide +kernel
theorem r480 {l : Launch} {D : va_G} {tys : List (ClassId × FieldType)} {A : Nat → Prop} {ad : Nat → Nat} (hAD : ∀ i : Nat, ad (1000 + i) = D.2 1000 i) : CRok l D tys A ad GG 2 g480 := CR_of_vrf (dep := 1) hAD (fun c hc => by cases hc) T2OK_nil w480
