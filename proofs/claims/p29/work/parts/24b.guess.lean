noncomputable def cOn : CR := (312, [(2, 90, 90), (0, (-2147483648), (-1))], [], some (0, -2, -2), [], [])
theorem vcOn : vrf GG [] [] 300 3 cOn [] = true := by decide +kernel
theorem rcOn {l : Launch} {D : va_G} {tys : List (ClassId × FieldType)} {A : Nat → Prop} {ad : Nat → Nat} (hAD : ∀ i : Nat, ad (1000 + i) = D.2 1000 i) : CRok l D tys A ad GG 4 cOn := CR_of_vrf (dep := 3) hAD (fun c hc => by cases hc) T2OK_nil vcOn
noncomputable def cOp : CR := (312, [(2, 90, 90), (0, 4, 2147483647)], [], some (0, -2, -2), [], [])
theorem vcOp : vrf GG [] [] 300 3 cOp [] = true := by decide +kernel
theorem rcOp {l : Launch} {D : va_G} {tys : List (ClassId × FieldType)} {A : Nat → Prop} {ad : Nat → Nat} (hAD : ∀ i : Nat, ad (1000 + i) = D.2 1000 i) : CRok l D tys A ad GG 4 cOp := CR_of_vrf (dep := 3) hAD (fun c hc => by cases hc) T2OK_nil vcOp
theorem toA {l : Launch} {D : va_G} {tys : List (ClassId × FieldType)} {A : Nat → Prop} {ad : Nat → Nat} (hAD : ∀ i : Nat, ad (1000 + i) = D.2 1000 i) {mods : List Nat} {w0 : va_W} {q : Nat × CR} (h : CRok l D tys A ad GG q.1 q.2) : ∀ (vs : List Value) (ws : va_W), okvs ad q.2.2.1 vs → GOK ad tys GG ws → preOK ad q.2.2.2.1 ws → FRm mods w0 ws → ∃ d', d' < q.1 ∧ CT l D tys A q.2.1 d' 0 0 vs ws (CRpost ad tys GG q.2 ws) := fun vs ws a b c _ => h vs ws a b c
noncomputable def g434 : CR := (315, [(2, 90, 90), (0, (-2147483648), (-1))], [], some (0, (-2147483648), 2147483647), [], [])
theorem w434 : vrf GG [(4, cOn)] [] 400 5 g434 [] = true := by decide +kernel
theorem r434 {l : Launch} {D : va_G} {tys : List (ClassId × FieldType)} {A : Nat → Prop} {ad : Nat → Nat} (hAD : ∀ i : Nat, ad (1000 + i) = D.2 1000 i) : CRok l D tys A ad GG 6 g434 := CR_of_vrf (dep := 5) hAD (List.forall_mem_cons.mpr ⟨rcOn hAD, fun c hc => by cases hc⟩) T2OK_nil w434
noncomputable def g436 : CR := (315, [(2, 90, 90), (0, 4, 2147483647)], [], some (0, (-2147483648), 2147483647), [], [])
theorem w436 : vrf GG [(4, cOp)] [] 400 5 g436 [] = true := by decide +kernel
theorem r436 {l : Launch} {D : va_G} {tys : List (ClassId × FieldType)} {A : Nat → Prop} {ad : Nat → Nat} (hAD : ∀ i : Nat, ad (1000 + i) = D.2 1000 i) : CRok l D tys A ad GG 6 g436 := CR_of_vrf (dep := 5) hAD (List.forall_mem_cons.mpr ⟨rcOp hAD, fun c hc => by cases hc⟩) T2OK_nil w436
noncomputable def g437 : CR := (314, [(2, 90, 90), (0, 0, 0)], [], some (0, 0, 63), [], [])
theorem w437 : vrf GG [(4, cI 0)] [] 300 5 g437
  [(4, [(0, 63), (0, 6)], [(0, rA 90), (1, iA (0, [])), (2, iA (0, [(1, 0)])), (3, iA (0, [(1, 1)]))], [], [], (592, [((-86), 1)])),
  (31, [(0, 63), (0, 5), (0, 32), (0, 63), (1, 6)], [(0, rA 90), (1, iA (0, [])), (2, iA (0, [(1, 0)])), (3, iA (0, [(1, 1)]))], [iA (0, [(1, 2)]), iA (0, [(1, 3)])], [((91, 3), iA (0, [(1, 4)]))], (565, [((-86), 1)]))] = true := by decide +kernel
theorem r437 {l : Launch} {D : va_G} {tys : List (ClassId × FieldType)} {A : Nat → Prop} {ad : Nat → Nat} (hAD : ∀ i : Nat, ad (1000 + i) = D.2 1000 i) : CRokK l D tys A ad GG (PG 0) 6 g437 := CRK_of_vrf (dep := 5) hAD (fun w0 hP => List.forall_mem_cons.mpr ⟨tI hAD (by omega) (by omega) hP, fun c hc => by cases hc⟩) T2OK_nil w437
noncomputable def g438 : CR := (315, [(2, 90, 90), (0, 0, 0)], [], some (0, (-6), 63), [], [])
theorem w438 : vrf GG [(4, cA 0), (6, g437)] [] 300 7 g438
  [] = true := by decide +kernel
theorem r438 {l : Launch} {D : va_G} {tys : List (ClassId × FieldType)} {A : Nat → Prop} {ad : Nat → Nat} (hAD : ∀ i : Nat, ad (1000 + i) = D.2 1000 i) : CRokK l D tys A ad GG (PG 0) 8 g438 := CRK_of_vrf (dep := 7) hAD (fun w0 hP => List.forall_mem_cons.mpr ⟨tA hAD (by omega) (by omega), List.forall_mem_cons.mpr ⟨(fun vs ws a b c hF => r437 hAD vs ws a b c ((PG_keep hF).mpr hP)), fun c hc => by cases hc⟩⟩) T2OK_nil w438
theorem wn438 : vrf GG [(4, cN 0)] [] 300 7 g438
  [] = true := by decide +kernel
theorem rn438 {l : Launch} {D : va_G} {tys : List (ClassId × FieldType)} {A : Nat → Prop} {ad : Nat → Nat} (hAD : ∀ i : Nat, ad (1000 + i) = D.2 1000 i) : CRokK l D tys A ad GG (fun w => ¬ PG 0 w) 8 g438 := CRK_of_vrf (dep := 7) hAD (fun w0 hP => List.forall_mem_cons.mpr ⟨tN hAD (by omega) (by omega) hP, fun c hc => by cases hc⟩) T2OK_nil wn438
noncomputable def g439 : CR := (314, [(2, 90, 90), (0, 1, 1)], [], some (0, 0, 63), [], [])
theorem w439 : vrf GG [(4, cI 1)] [] 300 5 g439
  [(4, [(0, 63), (0, 6)], [(0, rA 90), (1, iA (1, [])), (2, iA (0, [(1, 0)])), (3, iA (0, [(1, 1)]))], [], [], (592, [((-86), 1)])),
  (31, [(0, 63), (0, 5), (0, 32), (0, 63), (1, 6)], [(0, rA 90), (1, iA (1, [])), (2, iA (0, [(1, 0)])), (3, iA (0, [(1, 1)]))], [iA (0, [(1, 2)]), iA (0, [(1, 3)])], [((91, 3), iA (0, [(1, 4)]))], (565, [((-86), 1)]))] = true := by decide +kernel
theorem r439 {l : Launch} {D : va_G} {tys : List (ClassId × FieldType)} {A : Nat → Prop} {ad : Nat → Nat} (hAD : ∀ i : Nat, ad (1000 + i) = D.2 1000 i) : CRokK l D tys A ad GG (PG 1) 6 g439 := CRK_of_vrf (dep := 5) hAD (fun w0 hP => List.forall_mem_cons.mpr ⟨tI hAD (by omega) (by omega) hP, fun c hc => by cases hc⟩) T2OK_nil w439
noncomputable def g440 : CR := (315, [(2, 90, 90), (0, 1, 1)], [], some (0, (-6), 63), [], [])
theorem w440 : vrf GG [(4, cA 1), (6, g439)] [] 300 7 g440
  [] = true := by decide +kernel
theorem r440 {l : Launch} {D : va_G} {tys : List (ClassId × FieldType)} {A : Nat → Prop} {ad : Nat → Nat} (hAD : ∀ i : Nat, ad (1000 + i) = D.2 1000 i) : CRokK l D tys A ad GG (PG 1) 8 g440 := CRK_of_vrf (dep := 7) hAD (fun w0 hP => List.forall_mem_cons.mpr ⟨tA hAD (by omega) (by omega), List.forall_mem_cons.mpr ⟨(fun vs ws a b c hF => r439 hAD vs ws a b c ((PG_keep hF).mpr hP)), fun c hc => by cases hc⟩⟩) T2OK_nil w440
theorem wn440 : vrf GG [(4, cN 1)] [] 300 7 g440
  [] = true := by decide +kernel
theorem rn440 {l : Launch} {D : va_G} {tys : List (ClassId × FieldType)} {A : Nat → Prop} {ad : Nat → Nat} (hAD : ∀ i : Nat, ad (1000 + i) = D.2 1000 i) : CRokK l D tys A ad GG (fun w => ¬ PG 1 w) 8 g440 := CRK_of_vrf (dep := 7) hAD (fun w0 hP => List.forall_mem_cons.mpr ⟨tN hAD (by omega) (by omega) hP, fun c hc => by cases hc⟩) T2OK_nil wn440
noncomputable def g441 : CR := (314, [(2, 90, 90), (0, 2, 2)], [], some (0, 0, 63), [], [])
theorem w441 : vrf GG [(4, cI 2)] [] 300 5 g441
  [(4, [(0, 63), (0, 6)], [(0, rA 90), (1, iA (2, [])), (2, iA (0, [(1, 0)])), (3, iA (0, [(1, 1)]))], [], [], (592, [((-86), 1)])),
  (31, [(0, 63), (0, 5), (0, 32), (0, 63), (1, 6)], [(0, rA 90), (1, iA (2, [])), (2, iA (0, [(1, 0)])), (3, iA (0, [(1, 1)]))], [iA (0, [(1, 2)]), iA (0, [(1, 3)])], [((91, 3), iA (0, [(1, 4)]))], (565, [((-86), 1)]))] = true := by decide +kernel
theorem r441 {l : Launch} {D : va_G} {tys : List (ClassId × FieldType)} {A : Nat → Prop} {ad : Nat → Nat} (hAD : ∀ i : Nat, ad (1000 + i) = D.2 1000 i) : CRokK l D tys A ad GG (PG 2) 6 g441 := CRK_of_vrf (dep := 5) hAD (fun w0 hP => List.forall_mem_cons.mpr ⟨tI hAD (by omega) (by omega) hP, fun c hc => by cases hc⟩) T2OK_nil w441
noncomputable def g442 : CR := (315, [(2, 90, 90), (0, 2, 2)], [], some (0, (-6), 63), [], [])
theorem w442 : vrf GG [(4, cA 2), (6, g441)] [] 300 7 g442
  [] = true := by decide +kernel
theorem r442 {l : Launch} {D : va_G} {tys : List (ClassId × FieldType)} {A : Nat → Prop} {ad : Nat → Nat} (hAD : ∀ i : Nat, ad (1000 + i) = D.2 1000 i) : CRokK l D tys A ad GG (PG 2) 8 g442 := CRK_of_vrf (dep := 7) hAD (fun w0 hP => List.forall_mem_cons.mpr ⟨tA hAD (by omega) (by omega), List.forall_mem_cons.mpr ⟨(fun vs ws a b c hF => r441 hAD vs ws a b c ((PG_keep hF).mpr hP)), fun c hc => by cases hc⟩⟩) T2OK_nil w442
theorem wn442 : vrf GG [(4, cN 2)] [] 300 7 g442
  [] = true := by decide +kernel
theorem rn442 {l : Launch} {D : va_G} {tys : List (ClassId × FieldType)} {A : Nat → Prop} {ad : Nat → Nat} (hAD : ∀ i : Nat, ad (1000 + i) = D.2 1000 i) : CRokK l D tys A ad GG (fun w => ¬ PG 2 w) 8 g442 := CRK_of_vrf (dep := 7) hAD (fun w0 hP => List.forall_mem_cons.mpr ⟨tN hAD (by omega) (by omega) hP, fun c hc => by cases hc⟩) T2OK_nil wn442
noncomputable def g443 : CR := (314, [(2, 90, 90), (0, 3, 3)], [], some (0, 0, 63), [], [])
theorem w443 : vrf GG [(4, cI 3)] [] 300 5 g443
  [(4, [(0, 63), (0, 6)], [(0, rA 90), (1, iA (3, [])), (2, iA (0, [(1, 0)])), (3, iA (0, [(1, 1)]))], [], [], (592, [((-86), 1)])),
  (31, [(0, 63), (0, 5), (0, 32), (0, 63), (1, 6)], [(0, rA 90), (1, iA (3, [])), (2, iA (0, [(1, 0)])), (3, iA (0, [(1, 1)]))], [iA (0, [(1, 2)]), iA (0, [(1, 3)])], [((91, 3), iA (0, [(1, 4)]))], (565, [((-86), 1)]))] = true := by decide +kernel
theorem r443 {l : Launch} {D : va_G} {tys : List (ClassId × FieldType)} {A : Nat → Prop} {ad : Nat → Nat} (hAD : ∀ i : Nat, ad (1000 + i) = D.2 1000 i) : CRokK l D tys A ad GG (PG 3) 6 g443 := CRK_of_vrf (dep := 5) hAD (fun w0 hP => List.forall_mem_cons.mpr ⟨tI hAD (by omega) (by omega) hP, fun c hc => by cases hc⟩) T2OK_nil w443
noncomputable def g444 : CR := (315, [(2, 90, 90), (0, 3, 3)], [], some (0, (-6), 63), [], [])
theorem w444 : vrf GG [(4, cA 3), (6, g443)] [] 300 7 g444
  [] = true := by decide +kernel
theorem r444 {l : Launch} {D : va_G} {tys : List (ClassId × FieldType)} {A : Nat → Prop} {ad : Nat → Nat} (hAD : ∀ i : Nat, ad (1000 + i) = D.2 1000 i) : CRokK l D tys A ad GG (PG 3) 8 g444 := CRK_of_vrf (dep := 7) hAD (fun w0 hP => List.forall_mem_cons.mpr ⟨tA hAD (by omega) (by omega), List.forall_mem_cons.mpr ⟨(fun vs ws a b c hF => r443 hAD vs ws a b c ((PG_keep hF).mpr hP)), fun c hc => by cases hc⟩⟩) T2OK_nil w444
theorem wn444 : vrf GG [(4, cN 3)] [] 300 7 g444
  [] = true := by decide +kernel
theorem rn444 {l : Launch} {D : va_G} {tys : List (ClassId × FieldType)} {A : Nat → Prop} {ad : Nat → Nat} (hAD : ∀ i : Nat, ad (1000 + i) = D.2 1000 i) : CRokK l D tys A ad GG (fun w => ¬ PG 3 w) 8 g444 := CRK_of_vrf (dep := 7) hAD (fun w0 hP => List.forall_mem_cons.mpr ⟨tN hAD (by omega) (by omega) hP, fun c hc => by cases hc⟩) T2OK_nil wn444
noncomputable def g455 : CR := (318, [(2, 90, 90), (0, (-2147483648), (-1))], [], some (0, (-2147483648), 2147483647), [], [])
theorem w455 : vrf GG [(4, cOn), (3, g454)] [] 400 5 g455 [] = true := by decide +kernel
theorem r455 {l : Launch} {D : va_G} {tys : List (ClassId × FieldType)} {A : Nat → Prop} {ad : Nat → Nat} (hAD : ∀ i : Nat, ad (1000 + i) = D.2 1000 i) : CRok l D tys A ad GG 6 g455 := CR_of_vrf (dep := 5) hAD (List.forall_mem_cons.mpr ⟨rcOn hAD, List.forall_mem_cons.mpr ⟨r454 hAD, fun c hc => by cases hc⟩⟩) T2OK_nil w455
noncomputable def g456 : CR := (318, [(2, 90, 90), (0, 4, 2147483647)], [], some (0, (-2147483648), 2147483647), [], [])
theorem w456 : vrf GG [(4, cOp), (3, g454)] [] 400 5 g456 [] = true := by decide +kernel
theorem r456 {l : Launch} {D : va_G} {tys : List (ClassId × FieldType)} {A : Nat → Prop} {ad : Nat → Nat} (hAD : ∀ i : Nat, ad (1000 + i) = D.2 1000 i) : CRok l D tys A ad GG 6 g456 := CR_of_vrf (dep := 5) hAD (List.forall_mem_cons.mpr ⟨rcOp hAD, List.forall_mem_cons.mpr ⟨r454 hAD, fun c hc => by cases hc⟩⟩) T2OK_nil w456
noncomputable def g457 : CR := (318, [(2, 90, 90), (0, 0, 0)], [], some (0, (-6), 5), [], [])
theorem w457 : vrf GG [(4, cA 0), (6, g437), (3, g454)] [] 300 7 g457
  [] = true := by decide +kernel
theorem r457 {l : Launch} {D : va_G} {tys : List (ClassId × FieldType)} {A : Nat → Prop} {ad : Nat → Nat} (hAD : ∀ i : Nat, ad (1000 + i) = D.2 1000 i) : CRokK l D tys A ad GG (PG 0) 8 g457 := CRK_of_vrf (dep := 7) hAD (fun w0 hP => List.forall_mem_cons.mpr ⟨tA hAD (by omega) (by omega), List.forall_mem_cons.mpr ⟨(fun vs ws a b c hF => r437 hAD vs ws a b c ((PG_keep hF).mpr hP)), List.forall_mem_cons.mpr ⟨toA hAD (q := (3, g454)) (r454 hAD), fun c hc => by cases hc⟩⟩⟩) T2OK_nil w457
theorem wn457 : vrf GG [(4, cN 0), (3, g454)] [] 300 7 g457
  [] = true := by decide +kernel
theorem rn457 {l : Launch} {D : va_G} {tys : List (ClassId × FieldType)} {A : Nat → Prop} {ad : Nat → Nat} (hAD : ∀ i : Nat, ad (1000 + i) = D.2 1000 i) : CRokK l D tys A ad GG (fun w => ¬ PG 0 w) 8 g457 := CRK_of_vrf (dep := 7) hAD (fun w0 hP => List.forall_mem_cons.mpr ⟨tN hAD (by omega) (by omega) hP, List.forall_mem_cons.mpr ⟨toA hAD (q := (3, g454)) (r454 hAD), fun c hc => by cases hc⟩⟩) T2OK_nil wn457
noncomputable def g458 : CR := (318, [(2, 90, 90), (0, 1, 1)], [], some (0, (-6), 5), [], [])
theorem w458 : vrf GG [(4, cA 1), (6, g439), (3, g454)] [] 300 7 g458
  [] = true := by decide +kernel
theorem r458 {l : Launch} {D : va_G} {tys : List (ClassId × FieldType)} {A : Nat → Prop} {ad : Nat → Nat} (hAD : ∀ i : Nat, ad (1000 + i) = D.2 1000 i) : CRokK l D tys A ad GG (PG 1) 8 g458 := CRK_of_vrf (dep := 7) hAD (fun w0 hP => List.forall_mem_cons.mpr ⟨tA hAD (by omega) (by omega), List.forall_mem_cons.mpr ⟨(fun vs ws a b c hF => r439 hAD vs ws a b c ((PG_keep hF).mpr hP)), List.forall_mem_cons.mpr ⟨toA hAD (q := (3, g454)) (r454 hAD), fun c hc => by cases hc⟩⟩⟩) T2OK_nil w458
theorem wn458 : vrf GG [(4, cN 1), (3, g454)] [] 300 7 g458
  [] = true := by decide +kernel
theorem rn458 {l : Launch} {D : va_G} {tys : List (ClassId × FieldType)} {A : Nat → Prop} {ad : Nat → Nat} (hAD : ∀ i : Nat, ad (1000 + i) = D.2 1000 i) : CRokK l D tys A ad GG (fun w => ¬ PG 1 w) 8 g458 := CRK_of_vrf (dep := 7) hAD (fun w0 hP => List.forall_mem_cons.mpr ⟨tN hAD (by omega) (by omega) hP, List.forall_mem_cons.mpr ⟨toA hAD (q := (3, g454)) (r454 hAD), fun c hc => by cases hc⟩⟩) T2OK_nil wn458
noncomputable def g459 : CR := (318, [(2, 90, 90), (0, 2, 2)], [], some (0, (-6), 5), [], [])
theorem w459 : vrf GG [(4, cA 2), (6, g441), (3, g454)] [] 300 7 g459
  [] = true := by decide +kernel
theorem r459 {l : Launch} {D : va_G} {tys : List (ClassId × FieldType)} {A : Nat → Prop} {ad : Nat → Nat} (hAD : ∀ i : Nat, ad (1000 + i) = D.2 1000 i) : CRokK l D tys A ad GG (PG 2) 8 g459 := CRK_of_vrf (dep := 7) hAD (fun w0 hP => List.forall_mem_cons.mpr ⟨tA hAD (by omega) (by omega), List.forall_mem_cons.mpr ⟨(fun vs ws a b c hF => r441 hAD vs ws a b c ((PG_keep hF).mpr hP)), List.forall_mem_cons.mpr ⟨toA hAD (q := (3, g454)) (r454 hAD), fun c hc => by cases hc⟩⟩⟩) T2OK_nil w459
theorem wn459 : vrf GG [(4, cN 2), (3, g454)] [] 300 7 g459
  [] = true := by decide +kernel
theorem rn459 {l : Launch} {D : va_G} {tys : List (ClassId × FieldType)} {A : Nat → Prop} {ad : Nat → Nat} (hAD : ∀ i : Nat, ad (1000 + i) = D.2 1000 i) : CRokK l D tys A ad GG (fun w => ¬ PG 2 w) 8 g459 := CRK_of_vrf (dep := 7) hAD (fun w0 hP => List.forall_mem_cons.mpr ⟨tN hAD (by omega) (by omega) hP, List.forall_mem_cons.mpr ⟨toA hAD (q := (3, g454)) (r454 hAD), fun c hc => by cases hc⟩⟩) T2OK_nil wn459
noncomputable def g460 : CR := (318, [(2, 90, 90), (0, 3, 3)], [], some (0, (-6), 5), [], [])
theorem w460 : vrf GG [(4, cA 3), (6, g443), (3, g454)] [] 300 7 g460
  [] = true := by decide +kernel
theorem r460 {l : Launch} {D : va_G} {tys : List (ClassId × FieldType)} {A : Nat → Prop} {ad : Nat → Nat} (hAD : ∀ i : Nat, ad (1000 + i) = D.2 1000 i) : CRokK l D tys A ad GG (PG 3) 8 g460 := CRK_of_vrf (dep := 7) hAD (fun w0 hP => List.forall_mem_cons.mpr ⟨tA hAD (by omega) (by omega), List.forall_mem_cons.mpr ⟨(fun vs ws a b c hF => r443 hAD vs ws a b c ((PG_keep hF).mpr hP)), List.forall_mem_cons.mpr ⟨toA hAD (q := (3, g454)) (r454 hAD), fun c hc => by cases hc⟩⟩⟩) T2OK_nil w460
theorem wn460 : vrf GG [(4, cN 3), (3, g454)] [] 300 7 g460
  [] = true := by decide +kernel
theorem rn460 {l : Launch} {D : va_G} {tys : List (ClassId × FieldType)} {A : Nat → Prop} {ad : Nat → Nat} (hAD : ∀ i : Nat, ad (1000 + i) = D.2 1000 i) : CRokK l D tys A ad GG (fun w => ¬ PG 3 w) 8 g460 := CRK_of_vrf (dep := 7) hAD (fun w0 hP => List.forall_mem_cons.mpr ⟨tN hAD (by omega) (by omega) hP, List.forall_mem_cons.mpr ⟨toA hAD (q := (3, g454)) (r454 hAD), fun c hc => by cases hc⟩⟩) T2OK_nil wn460
noncomputable def g467 : CR := (319, [(2, 90, 90), (0, (-2147483648), (-1))], [], some (0, (-2147483648), 2147483647), [], [])
theorem w467 : vrf GG [(4, cOn), (1, g122), (2, g453), (3, g454)] [] 400 5 g467 [] = true := by decide +kernel
theorem r467 {l : Launch} {D : va_G} {tys : List (ClassId × FieldType)} {A : Nat → Prop} {ad : Nat → Nat} (hAD : ∀ i : Nat, ad (1000 + i) = D.2 1000 i) : CRok l D tys A ad GG 6 g467 := CR_of_vrf (dep := 5) hAD (List.forall_mem_cons.mpr ⟨rcOn hAD, List.forall_mem_cons.mpr ⟨r122 hAD, List.forall_mem_cons.mpr ⟨r453 hAD, List.forall_mem_cons.mpr ⟨r454 hAD, fun c hc => by cases hc⟩⟩⟩⟩) T2OK_nil w467
noncomputable def g468 : CR := (319, [(2, 90, 90), (0, 4, 2147483647)], [], some (0, (-2147483648), 2147483647), [], [])
theorem w468 : vrf GG [(4, cOp), (1, g122), (2, g453), (3, g454)] [] 400 5 g468 [] = true := by decide +kernel
theorem r468 {l : Launch} {D : va_G} {tys : List (ClassId × FieldType)} {A : Nat → Prop} {ad : Nat → Nat} (hAD : ∀ i : Nat, ad (1000 + i) = D.2 1000 i) : CRok l D tys A ad GG 6 g468 := CR_of_vrf (dep := 5) hAD (List.forall_mem_cons.mpr ⟨rcOp hAD, List.forall_mem_cons.mpr ⟨r122 hAD, List.forall_mem_cons.mpr ⟨r453 hAD, List.forall_mem_cons.mpr ⟨r454 hAD, fun c hc => by cases hc⟩⟩⟩⟩) T2OK_nil w468
noncomputable def g469 : CR := (319, [(2, 90, 90), (0, 0, 0)], [], some (0, (-6), 2147483647), [], [])
theorem w469 : vrf GG [(4, cA 0), (6, g437), (1, g122), (2, g453), (3, g454)] [] 300 7 g469
  [] = true := by decide +kernel
theorem r469 {l : Launch} {D : va_G} {tys : List (ClassId × FieldType)} {A : Nat → Prop} {ad : Nat → Nat} (hAD : ∀ i : Nat, ad (1000 + i) = D.2 1000 i) : CRokK l D tys A ad GG (PG 0) 8 g469 := CRK_of_vrf (dep := 7) hAD (fun w0 hP => List.forall_mem_cons.mpr ⟨tA hAD (by omega) (by omega), List.forall_mem_cons.mpr ⟨(fun vs ws a b c hF => r437 hAD vs ws a b c ((PG_keep hF).mpr hP)), List.forall_mem_cons.mpr ⟨toA hAD (q := (1, g122)) (r122 hAD), List.forall_mem_cons.mpr ⟨toA hAD (q := (2, g453)) (r453 hAD), List.forall_mem_cons.mpr ⟨toA hAD (q := (3, g454)) (r454 hAD), fun c hc => by cases hc⟩⟩⟩⟩⟩) T2OK_nil w469
theorem wn469 : vrf GG [(4, cN 0), (1, g122), (2, g453), (3, g454)] [] 300 7 g469
  [] = true := by decide +kernel
theorem rn469 {l : Launch} {D : va_G} {tys : List (ClassId × FieldType)} {A : Nat → Prop} {ad : Nat → Nat} (hAD : ∀ i : Nat, ad (1000 + i) = D.2 1000 i) : CRokK l D tys A ad GG (fun w => ¬ PG 0 w) 8 g469 := CRK_of_vrf (dep := 7) hAD (fun w0 hP => List.forall_mem_cons.mpr ⟨tN hAD (by omega) (by omega) hP, List.forall_mem_cons.mpr ⟨toA hAD (q := (1, g122)) (r122 hAD), List.forall_mem_cons.mpr ⟨toA hAD (q := (2, g453)) (r453 hAD), List.forall_mem_cons.mpr ⟨toA hAD (q := (3, g454)) (r454 hAD), fun c hc => by cases hc⟩⟩⟩⟩) T2OK_nil wn469
noncomputable def g470 : CR := (319, [(2, 90, 90), (0, 1, 1)], [], some (0, (-6), 2147483647), [], [])
theorem w470 : vrf GG [(4, cA 1), (6, g439), (1, g122), (2, g453), (3, g454)] [] 300 7 g470
  [] = true := by decide +kernel
theorem r470 {l : Launch} {D : va_G} {tys : List (ClassId × FieldType)} {A : Nat → Prop} {ad : Nat → Nat} (hAD : ∀ i : Nat, ad (1000 + i) = D.2 1000 i) : CRokK l D tys A ad GG (PG 1) 8 g470 := CRK_of_vrf (dep := 7) hAD (fun w0 hP => List.forall_mem_cons.mpr ⟨tA hAD (by omega) (by omega), List.forall_mem_cons.mpr ⟨(fun vs ws a b c hF => r439 hAD vs ws a b c ((PG_keep hF).mpr hP)), List.forall_mem_cons.mpr ⟨toA hAD (q := (1, g122)) (r122 hAD), List.forall_mem_cons.mpr ⟨toA hAD (q := (2, g453)) (r453 hAD), List.forall_mem_cons.mpr ⟨toA hAD (q := (3, g454)) (r454 hAD), fun c hc => by cases hc⟩⟩⟩⟩⟩) T2OK_nil w470
theorem wn470 : vrf GG [(4, cN 1), (1, g122), (2, g453), (3, g454)] [] 300 7 g470
  [] = true := by decide +kernel
theorem rn470 {l : Launch} {D : va_G} {tys : List (ClassId × FieldType)} {A : Nat → Prop} {ad : Nat → Nat} (hAD : ∀ i : Nat, ad (1000 + i) = D.2 1000 i) : CRokK l D tys A ad GG (fun w => ¬ PG 1 w) 8 g470 := CRK_of_vrf (dep := 7) hAD (fun w0 hP => List.forall_mem_cons.mpr ⟨tN hAD (by omega) (by omega) hP, List.forall_mem_cons.mpr ⟨toA hAD (q := (1, g122)) (r122 hAD), List.forall_mem_cons.mpr ⟨toA hAD (q := (2, g453)) (r453 hAD), List.forall_mem_cons.mpr ⟨toA hAD (q := (3, g454)) (r454 hAD), fun c hc => by cases hc⟩⟩⟩⟩) T2OK_nil wn470
noncomputable def g471 : CR := (319, [(2, 90, 90), (0, 2, 2)], [], some (0, (-6), 2147483647), [], [])
theorem w471 : vrf GG [(4, cA 2), (6, g441), (1, g122), (2, g453), (3, g454)] [] 300 7 g471
  [] = true := by decide +kernel
theorem r471 {l : Launch} {D : va_G} {tys : List (ClassId × FieldType)} {A : Nat → Prop} {ad : Nat → Nat} (hAD : ∀ i : Nat, ad (1000 + i) = D.2 1000 i) : CRokK l D tys A ad GG (PG 2) 8 g471 := CRK_of_vrf (dep := 7) hAD (fun w0 hP => List.forall_mem_cons.mpr ⟨tA hAD (by omega) (by omega), List.forall_mem_cons.mpr ⟨(fun vs ws a b c hF => r441 hAD vs ws a b c ((PG_keep hF).mpr hP)), List.forall_mem_cons.mpr ⟨toA hAD (q := (1, g122)) (r122 hAD), List.forall_mem_cons.mpr ⟨toA hAD (q := (2, g453)) (r453 hAD), List.forall_mem_cons.mpr ⟨toA hAD (q := (3, g454)) (r454 hAD), fun c hc => by cases hc⟩⟩⟩⟩⟩) T2OK_nil w471
theorem wn471 : vrf GG [(4, cN 2), (1, g122), (2, g453), (3, g454)] [] 300 7 g471
  [] = true := by decide +kernel
theorem rn471 {l : Launch} {D : va_G} {tys : List (ClassId × FieldType)} {A : Nat → Prop} {ad : Nat → Nat} (hAD : ∀ i : Nat, ad (1000 + i) = D.2 1000 i) : CRokK l D tys A ad GG (fun w => ¬ PG 2 w) 8 g471 := CRK_of_vrf (dep := 7) hAD (fun w0 hP => List.forall_mem_cons.mpr ⟨tN hAD (by omega) (by omega) hP, List.forall_mem_cons.mpr ⟨toA hAD (q := (1, g122)) (r122 hAD), List.forall_mem_cons.mpr ⟨toA hAD (q := (2, g453)) (r453 hAD), List.forall_mem_cons.mpr ⟨toA hAD (q := (3, g454)) (r454 hAD), fun c hc => by cases hc⟩⟩⟩⟩) T2OK_nil wn471
noncomputable def g472 : CR := (319, [(2, 90, 90), (0, 3, 3)], [], some (0, (-6), 2147483647), [], [])
theorem w472 : vrf GG [(4, cA 3), (6, g443), (1, g122), (2, g453), (3, g454)] [] 300 7 g472
  [] = true := by decide +kernel
theorem r472 {l : Launch} {D : va_G} {tys : List (ClassId × FieldType)} {A : Nat → Prop} {ad : Nat → Nat} (hAD : ∀ i : Nat, ad (1000 + i) = D.2 1000 i) : CRokK l D tys A ad GG (PG 3) 8 g472 := CRK_of_vrf (dep := 7) hAD (fun w0 hP => List.forall_mem_cons.mpr ⟨tA hAD (by omega) (by omega), List.forall_mem_cons.mpr ⟨(fun vs ws a b c hF => r443 hAD vs ws a b c ((PG_keep hF).mpr hP)), List.forall_mem_cons.mpr ⟨toA hAD (q := (1, g122)) (r122 hAD), List.forall_mem_cons.mpr ⟨toA hAD (q := (2, g453)) (r453 hAD), List.forall_mem_cons.mpr ⟨toA hAD (q := (3, g454)) (r454 hAD), fun c hc => by cases hc⟩⟩⟩⟩⟩) T2OK_nil w472
theorem wn472 : vrf GG [(4, cN 3), (1, g122), (2, g453), (3, g454)] [] 300 7 g472
  [] = true := by decide +kernel
theorem rn472 {l : Launch} {D : va_G} {tys : List (ClassId × FieldType)} {A : Nat → Prop} {ad : Nat → Nat} (hAD : ∀ i : Nat, ad (1000 + i) = D.2 1000 i) : CRokK l D tys A ad GG (fun w => ¬ PG 3 w) 8 g472 := CRK_of_vrf (dep := 7) hAD (fun w0 hP => List.forall_mem_cons.mpr ⟨tN hAD (by omega) (by omega) hP, List.forall_mem_cons.mpr ⟨toA hAD (q := (1, g122)) (r122 hAD), List.forall_mem_cons.mpr ⟨toA hAD (q := (2, g453)) (r453 hAD), List.forall_mem_cons.mpr ⟨toA hAD (q := (3, g454)) (r454 hAD), fun c hc => by cases hc⟩⟩⟩⟩) T2OK_nil wn472
