noncomputable def g558 : CR := (97, [(2, 28, 28), (2, 4, 4), (1, 0, 2000000000)], [], none, [], [31])
theorem w558 : vrf GG [(3, g75), (3, g550)] [] 631 3 g558
  (uK (uC kN11 (uE kI0 kI2000000000 (uE kI0 kI2147483647 (uE kI0 kI12 uE0))) (uA kN0 (rA kI28) (uA kN1 (rA kI4) (uA kN2 (uls kN0) (uA kN4 (uls kN1) (uA kN6 (uis kN2) uA0))))) uS0 uO0 (Int.ofNat (nat_lit 34608)) (uL kJ2664 kN2 uL0))
  (uK (uC kN49 (uE kI0 kI2000000000 (uE kI0 kI2147483647 (uE kI0 kI11 (uE kJ2147483648 kI2147483647 (uE kJ2147483648 kI2147483647 (uE kI0 kI6 (uE kI1 kI12 uE0))))))) (uA kN0 (rA kI28) (uA kN1 (rA kI4) (uA kN2 (uls kN0) (uA kN4 (uls kN1) (uA kN6 (uis kN2) (uA kN7 (uis kN3) (uA kN8 (uis kN4) (uA kN9 (uis kN5) uA0)))))))) uS0 (uO kN4 kN5 (uis kN6) uO0) (Int.ofNat (nat_lit 34076)) (uL kJ296 kN5 (uL kJ2664 kN2 uL0)))
  (uK (uC kN123 (uE kI0 kI2000000000 (uE kI0 kI2147483647 (uE kI0 kI11 (uE kJ2147483648 kI2147483647 (uE kJ2147483648 kI2147483647 (uE kI0 kI5 (uE kI1 kI6 (uE kI1 kI12 uE0)))))))) (uA kN0 (rA kI28) (uA kN1 (rA kI4) (uA kN2 (uls kN0) (uA kN4 (uls kN1) (uA kN6 (uis kN2) (uA kN7 (uis kN3) (uA kN8 (uis kN4) (uA kN9 (uis kN5) uA0)))))))) uS0 (uO kN4 kN4 (uis kN6) (uO kN4 kN5 (uis kN7) uO0)) (Int.ofNat (nat_lit 34002)) (uL kJ296 kN5 (uL kJ2664 kN2 uL0)))
  (uK (uC kN139 (uE kI0 kI2000000000 (uE kI0 kI2147483647 (uE kI0 kI11 (uE kJ2147483648 kI2147483647 (uE kI1 kI12 uE0))))) (uA kN0 (rA kI28) (uA kN1 (rA kI4) (uA kN2 (uls kN0) (uA kN4 (uls kN1) (uA kN6 (uis kN2) (uA kN7 (uis kN3) uA0)))))) uS0 (uO kN4 kN5 (uis kN4) uO0) (Int.ofNat (nat_lit 32112)) (uL kJ2664 kN2 uL0))
  uK0)))) = true := by decide +kernel
theorem r558 {l : Launch} {D : va_G} {tys : List (ClassId × FieldType)} {A : Nat → Prop} {ad : Nat → Nat} (hAD : ∀ i : Nat, ad (1000 + i) = D.2 1000 i) : CRok l D tys A ad GG 4 g558 := CR_of_vrf (dep := 3) hAD (List.forall_mem_cons.mpr ⟨r75 hAD, List.forall_mem_cons.mpr ⟨r550 hAD, fun c hc => by cases hc⟩⟩) T2OK_nil w558
noncomputable def g559 : CR := (64, [(2, 0, 0), (0, (-2147483648), 2147483647), (0, (-2147483648), 2147483647), (0, (-2147483648), 2147483647)], [], some (0, (-2147483648), 2147483647), [], [31])
theorem w559 : vrf GG [(4, g558)] [] 300 4 g559
  [] = true := by decide +kernel
theorem r559 {l : Launch} {D : va_G} {tys : List (ClassId × FieldType)} {A : Nat → Prop} {ad : Nat → Nat} (hAD : ∀ i : Nat, ad (1000 + i) = D.2 1000 i) : CRok l D tys A ad GG 5 g559 := CR_of_vrf (dep := 4) hAD (List.forall_mem_cons.mpr ⟨r558 hAD, fun c hc => by cases hc⟩) T2OK_nil w559
noncomputable def g560 : CR := (333, [(2, 90, 90), (0, (-2147483648), 2147483647), (0, (-2147483648), 2147483647), (0, (-2147483648), 2147483647)], [], some (0, (-2), 63), [], [90, 98, 99, 100, 101])
theorem w560 : vrf GG [(4, g96)] [] 300 6 g560
  [] = true := by decide +kernel
theorem r560 {l : Launch} {D : va_G} {tys : List (ClassId × FieldType)} {A : Nat → Prop} {ad : Nat → Nat} (hAD : ∀ i : Nat, ad (1000 + i) = D.2 1000 i) : CRok l D tys A ad GG 7 g560 := CR_of_vrf (dep := 6) hAD (List.forall_mem_cons.mpr ⟨r96 hAD, fun c hc => by cases hc⟩) T2OK_nil w560
noncomputable def g561 : CR := (97, [(2, 28, 28), (2, 4, 4), (1, 0, 2147483647)], [], none, [], [31])
theorem w561 : vrf GG [(3, g75), (3, g550)] [] 631 3 g561
  (uK (uC kN11 (uE kI0 kI2147483647 (uE kI0 kI2147483647 (uE kI0 kI12 uE0))) (uA kN0 (rA kI28) (uA kN1 (rA kI4) (uA kN2 (uls kN0) (uA kN4 (uls kN1) (uA kN6 (uis kN2) uA0))))) uS0 uO0 (Int.ofNat (nat_lit 34608)) (uL kJ2664 kN2 uL0))
  (uK (uC kN49 (uE kI0 kI2147483647 (uE kI0 kI2147483647 (uE kI0 kI11 (uE kJ2147483648 kI2147483647 (uE kJ2147483648 kI2147483647 (uE kI0 kI6 (uE kI1 kI12 uE0))))))) (uA kN0 (rA kI28) (uA kN1 (rA kI4) (uA kN2 (uls kN0) (uA kN4 (uls kN1) (uA kN6 (uis kN2) (uA kN7 (uis kN3) (uA kN8 (uis kN4) (uA kN9 (uis kN5) uA0)))))))) uS0 (uO kN4 kN5 (uis kN6) uO0) (Int.ofNat (nat_lit 34076)) (uL kJ296 kN5 (uL kJ2664 kN2 uL0)))
  (uK (uC kN123 (uE kI0 kI2147483647 (uE kI0 kI2147483647 (uE kI0 kI11 (uE kJ2147483648 kI2147483647 (uE kJ2147483648 kI2147483647 (uE kI0 kI5 (uE kI1 kI6 (uE kI1 kI12 uE0)))))))) (uA kN0 (rA kI28) (uA kN1 (rA kI4) (uA kN2 (uls kN0) (uA kN4 (uls kN1) (uA kN6 (uis kN2) (uA kN7 (uis kN3) (uA kN8 (uis kN4) (uA kN9 (uis kN5) uA0)))))))) uS0 (uO kN4 kN4 (uis kN6) (uO kN4 kN5 (uis kN7) uO0)) (Int.ofNat (nat_lit 34002)) (uL kJ296 kN5 (uL kJ2664 kN2 uL0)))
  (uK (uC kN139 (uE kI0 kI2147483647 (uE kI0 kI2147483647 (uE kI0 kI11 (uE kJ2147483648 kI2147483647 (uE kI1 kI12 uE0))))) (uA kN0 (rA kI28) (uA kN1 (rA kI4) (uA kN2 (uls kN0) (uA kN4 (uls kN1) (uA kN6 (uis kN2) (uA kN7 (uis kN3) uA0)))))) uS0 (uO kN4 kN5 (uis kN4) uO0) (Int.ofNat (nat_lit 32112)) (uL kJ2664 kN2 uL0))
  uK0)))) = true := by decide +kernel
theorem r561 {l : Launch} {D : va_G} {tys : List (ClassId × FieldType)} {A : Nat → Prop} {ad : Nat → Nat} (hAD : ∀ i : Nat, ad (1000 + i) = D.2 1000 i) : CRok l D tys A ad GG 4 g561 := CR_of_vrf (dep := 3) hAD (List.forall_mem_cons.mpr ⟨r75 hAD, List.forall_mem_cons.mpr ⟨r550 hAD, fun c hc => by cases hc⟩⟩) T2OK_nil w561
noncomputable def g562 : CR := (65, [(2, 0, 0), (0, (-2147483648), 2147483647), (0, (-2147483648), 2147483647), (0, (-2147483648), 2147483647), (0, (-2147483648), 2147483647)], [], some (0, (-2147483648), 2147483647), [], [31])
theorem w562 : vrf GG [(4, g561)] [] 300 4 g562
  (uK (uC kN57 (uE kI0 kI2000000000 (uE kI1 kI20 (uE kI0 kI5 (uE kI0 kI5 (uE kJ2147483648 kI2147483647 (uE kI0 kI20 (uE kI1 kI6 uE0))))))) (uA kN0 (rA kI0) (uA kN1 (uis kN0) (uA kN2 (uis kN1) (uA kN3 (uis kN2) (uA kN4 (uis kN3) (uA kN5 (uis kN4) (uA kN6 (uis kN5) uA0))))))) uS0 (uO kN4 kN4 (uis kN6) uO0) (Int.ofNat (nat_lit 4756)) (uL (Int.negSucc (nat_lit 231)) kN5 uL0))
  (uK (uC kN105 (uE kI0 kI2000000000 (uE kI1 kI20 (uE kI0 kI5 (uE kI0 kI5 (uE kJ2147483648 kI2147483647 (uE kI0 kI19 (uE kI1 kI6 uE0))))))) (uA kN0 (rA kI0) (uA kN1 (uis kN0) (uA kN2 (uis kN1) (uA kN3 (uis kN2) (uA kN4 (uis kN3) (uA kN5 (uis kN4) (uA kN6 (uis kN5) uA0))))))) uS0 (uO kN4 kN4 (uis kN6) uO0) (Int.ofNat (nat_lit 4708)) (uL (Int.negSucc (nat_lit 231)) kN5 uL0))
  uK0)) = true := by decide +kernel
theorem r562 {l : Launch} {D : va_G} {tys : List (ClassId × FieldType)} {A : Nat → Prop} {ad : Nat → Nat} (hAD : ∀ i : Nat, ad (1000 + i) = D.2 1000 i) : CRok l D tys A ad GG 5 g562 := CR_of_vrf (dep := 4) hAD (List.forall_mem_cons.mpr ⟨r561 hAD, fun c hc => by cases hc⟩) T2OK_nil w562
noncomputable def g563 : CR := (334, [(2, 90, 90), (0, (-2147483648), 2147483647), (0, (-2147483648), 2147483647), (0, (-2147483648), 2147483647), (0, (-2147483648), 2147483647)], [], some (0, (-2147483648), 2147483647), [], [90, 98, 99, 100, 101])
theorem w563 : vrf GG [(4, g96)] [] 300 6 g563
  (uK (uC kN45 (uE kI0 kI2000000000 (uE kI1 kI20 (uE kI0 kI5 (uE kI0 kI5 (uE kJ2147483648 kI2147483647 (uE kI0 kI20 (uE kI1 kI6 uE0))))))) (uA kN0 (rA kI90) (uA kN1 (uis kN0) (uA kN2 (uis kN1) (uA kN3 (uis kN2) (uA kN4 (uis kN3) (uA kN5 (uis kN4) (uA kN6 (uis kN5) uA0))))))) uS0 (uO kN91 kN3 (uis kN6) uO0) (Int.ofNat (nat_lit 3772)) (uL (Int.negSucc (nat_lit 183)) kN5 uL0))
  (uK (uC kN78 (uE kI0 kI2000000000 (uE kI1 kI20 (uE kI0 kI5 (uE kI0 kI5 (uE kJ2147483648 kI2147483647 (uE kI0 kI19 (uE kI0 kI1 (uE kJ2147483648 kI2147483647 (uE kI0 kI24 (uE kI1 kI6 uE0)))))))))) (uA kN0 (rA kI90) (uA kN1 (uis kN0) (uA kN2 (uis kN1) (uA kN3 (uis kN2) (uA kN4 (uis kN3) (uA kN5 (uis kN4) (uA kN6 (uis kN5) uA0))))))) (uS (uis kN6) (uS (uis kN7) uS0)) (uO kN90 kN24 (uic kI0) (uO kN91 kN2 (uis kN8) (uO kN91 kN3 (uis kN9) uO0))) (Int.ofNat (nat_lit 3739)) (uL (Int.negSucc (nat_lit 183)) kN5 uL0))
  uK0)) = true := by decide +kernel
theorem r563 {l : Launch} {D : va_G} {tys : List (ClassId × FieldType)} {A : Nat → Prop} {ad : Nat → Nat} (hAD : ∀ i : Nat, ad (1000 + i) = D.2 1000 i) : CRok l D tys A ad GG 7 g563 := CR_of_vrf (dep := 6) hAD (List.forall_mem_cons.mpr ⟨r96 hAD, fun c hc => by cases hc⟩) T2OK_nil w563
noncomputable def g566 : CR := (171, [(2, 39, 39)], [], some (0, (-2147483648), 2147483647), [], [])
theorem w566 : vrf GG [] [] 300 3 g566
  (uK (uC kN4 (uE kJ2147483648 kI2147483647 (uE kI0 kI4 uE0)) (uA kN0 (rA kI39) (uA kN1 (uis kN0) (uA kN2 (uis kN1) uA0))) uS0 uO0 kI290 (uL kJ60 kN1 uL0))
  (uK (uC kN20 (uE kJ2147483648 kI2147483647 (uE kI0 kI3 uE0)) (uA kN0 (rA kI39) (uA kN1 (uis kN0) (uA kN2 (uis kN1) uA0))) uS0 uO0 kI274 (uL kJ60 kN1 uL0))
  uK0)) = true := by decide +kernel
theorem r566 {l : Launch} {D : va_G} {tys : List (ClassId × FieldType)} {A : Nat → Prop} {ad : Nat → Nat} (hAD : ∀ i : Nat, ad (1000 + i) = D.2 1000 i) : CRok l D tys A ad GG 4 g566 := CR_of_vrf (dep := 3) hAD (fun c hc => by cases hc) T2OK_nil w566
noncomputable def g567 : CR := (66, [(2, 0, 0), (0, (-2147483648), 2147483647)], [], some (0, (-2147483648), 2147483647), [], [])
theorem w567 : vrf GG [(4, g566)] [] 300 4 g567
  [] = true := by decide +kernel
theorem r567 {l : Launch} {D : va_G} {tys : List (ClassId × FieldType)} {A : Nat → Prop} {ad : Nat → Nat} (hAD : ∀ i : Nat, ad (1000 + i) = D.2 1000 i) : CRok l D tys A ad GG 5 g567 := CR_of_vrf (dep := 4) hAD (List.forall_mem_cons.mpr ⟨r566 hAD, fun c hc => by cases hc⟩) T2OK_nil w567
noncomputable def g568 : CR := (335, [(2, 90, 90), (0, (-2147483648), 2147483647)], [], some (0, (-2147483648), 2147483647), [], [])
theorem w568 : vrf GG [] [] 300 0 g568
  (uK (uC kN97 (uE kJ2147483648 kI2147483647 (uE kI0 kI4 uE0)) (uA kN0 (rA kI90) (uA kN1 (uic kI7) (uA kN2 (uis kN0) (uA kN3 (uis kN1) uA0)))) uS0 uO0 (Int.ofNat (nat_lit 1124)) (uL (Int.negSucc (nat_lit 263)) kN1 uL0))
  (uK (uC kN118 (uE kJ2147483648 kI2147483647 (uE kI0 kI3 (uE kI0 kI1 (uE kJ2147483648 kI2147483647 uE0)))) (uA kN0 (rA kI90) (uA kN1 (uic kI7) (uA kN2 (uis kN0) (uA kN3 (uis kN1) uA0)))) (uS (uis kN2) (uS (uis kN3) uS0)) uO0 (Int.ofNat (nat_lit 1103)) (uL (Int.negSucc (nat_lit 263)) kN1 uL0))
  uK0)) = true := by decide +kernel
theorem r568 {l : Launch} {D : va_G} {tys : List (ClassId × FieldType)} {A : Nat → Prop} {ad : Nat → Nat} (hAD : ∀ i : Nat, ad (1000 + i) = D.2 1000 i) : CRok l D tys A ad GG 1 g568 := CR_of_vrf (dep := 0) hAD (fun c hc => by cases hc) T2OK_nil w568
noncomputable def g655 : CR := (70, [(2, 0, 0), (0, (-2147483648), (-1)), (0, (-2147483648), 2147483647), (0, (-2147483648), 2147483647)], [], some (0, (-2), (-2)), [], [])
theorem w655 : vrf GG [] [] 300 1 g655
  [] = true := by decide +kernel
theorem r655 {l : Launch} {D : va_G} {tys : List (ClassId × FieldType)} {A : Nat → Prop} {ad : Nat → Nat} (hAD : ∀ i : Nat, ad (1000 + i) = D.2 1000 i) : CRok l D tys A ad GG 2 g655 := CR_of_vrf (dep := 1) hAD (fun c hc => by cases hc) T2OK_nil w655
noncomputable def g656 : CR := (70, [(2, 0, 0), (0, 4, 2147483647), (0, (-2147483648), 2147483647), (0, (-2147483648), 2147483647)], [], some (0, (-2), (-2)), [], [])
theorem w656 : vrf GG [] [] 300 1 g656
  [] = true := by decide +kernel
theorem r656 {l : Launch} {D : va_G} {tys : List (ClassId × FieldType)} {A : Nat → Prop} {ad : Nat → Nat} (hAD : ∀ i : Nat, ad (1000 + i) = D.2 1000 i) : CRok l D tys A ad GG 2 g656 := CR_of_vrf (dep := 1) hAD (fun c hc => by cases hc) T2OK_nil w656
noncomputable def g657 : CR := (70, [(2, 0, 0), (0, 0, 3), (0, (-2147483648), (-1)), (0, (-2147483648), 2147483647)], [], some (0, (-2), (-2)), [], [])
theorem w657 : vrf GG [] [] 300 1 g657
  [] = true := by decide +kernel
theorem r657 {l : Launch} {D : va_G} {tys : List (ClassId × FieldType)} {A : Nat → Prop} {ad : Nat → Nat} (hAD : ∀ i : Nat, ad (1000 + i) = D.2 1000 i) : CRok l D tys A ad GG 2 g657 := CR_of_vrf (dep := 1) hAD (fun c hc => by cases hc) T2OK_nil w657
noncomputable def g658 : CR := (70, [(2, 0, 0), (0, 0, 3), (0, 4, 2147483647), (0, (-2147483648), 2147483647)], [], some (0, (-2), (-2)), [], [])
theorem w658 : vrf GG [] [] 300 1 g658
  [] = true := by decide +kernel
theorem r658 {l : Launch} {D : va_G} {tys : List (ClassId × FieldType)} {A : Nat → Prop} {ad : Nat → Nat} (hAD : ∀ i : Nat, ad (1000 + i) = D.2 1000 i) : CRok l D tys A ad GG 2 g658 := CR_of_vrf (dep := 1) hAD (fun c hc => by cases hc) T2OK_nil w658
noncomputable def g659 : CR := (70, [(2, 0, 0), (0, 0, 3), (0, 0, 3), (0, 61, 2147483647)], [], some (0, (-2), (-2)), [], [])
theorem w659 : vrf GG [] [] 300 1 g659
  [] = true := by decide +kernel
theorem r659 {l : Launch} {D : va_G} {tys : List (ClassId × FieldType)} {A : Nat → Prop} {ad : Nat → Nat} (hAD : ∀ i : Nat, ad (1000 + i) = D.2 1000 i) : CRok l D tys A ad GG 2 g659 := CR_of_vrf (dep := 1) hAD (fun c hc => by cases hc) T2OK_nil w659
noncomputable def g660 : CR := (70, [(2, 0, 0), (0, 0, 3), (0, 0, 3), (0, (-2147483648), (-1))], [], some (0, (-3), (-3)), [], [])
theorem w660 : vrf GG [] [] 300 1 g660
  [] = true := by decide +kernel
theorem r660 {l : Launch} {D : va_G} {tys : List (ClassId × FieldType)} {A : Nat → Prop} {ad : Nat → Nat} (hAD : ∀ i : Nat, ad (1000 + i) = D.2 1000 i) : CRok l D tys A ad GG 2 g660 := CR_of_vrf (dep := 1) hAD (fun c hc => by cases hc) T2OK_nil w660
noncomputable def g661 : CR := (166, [(2, 39, 39), (0, 0, 3), (0, 0, 59), (1, 0, 0)], [], none, [], [40])
theorem w661 : vrf GG [] [] 300 2 g661
  [] = true := by decide +kernel
theorem r661 {l : Launch} {D : va_G} {tys : List (ClassId × FieldType)} {A : Nat → Prop} {ad : Nat → Nat} (hAD : ∀ i : Nat, ad (1000 + i) = D.2 1000 i) : CRok l D tys A ad GG 3 g661 := CR_of_vrf (dep := 2) hAD (fun c hc => by cases hc) T2OK_nil w661
noncomputable def g662 : CR := (165, [(2, 39, 39), (0, 0, 3), (0, 0, 3), (0, 0, 60)], [], none, [], [40, 41, 42])
theorem w662 : vrf GG [(3, g661)] [] 300 3 g662
  (uK (uC kN21 (uE kI0 kI3 (uE kI0 kI3 (uE kI0 kI60 (uE kI0 kI60 uE0)))) (uA kN0 (rA kI39) (uA kN1 (uis kN0) (uA kN2 (uis kN1) (uA kN3 (uis kN2) (uA kN4 (uis kN3) uA0))))) uS0 uO0 (Int.ofNat (nat_lit 5324)) (uL kJ88 kN3 uL0))
  uK0) = true := by decide +kernel
theorem r662 {l : Launch} {D : va_G} {tys : List (ClassId × FieldType)} {A : Nat → Prop} {ad : Nat → Nat} (hAD : ∀ i : Nat, ad (1000 + i) = D.2 1000 i) : CRok l D tys A ad GG 4 g662 := CR_of_vrf (dep := 3) hAD (List.forall_mem_cons.mpr ⟨r661 hAD, fun c hc => by cases hc⟩) T2OK_nil w662
noncomputable def g663 : CR := (70, [(2, 0, 0), (0, 0, 3), (0, 0, 3), (0, 0, 60)], [], some (0, 0, 0), [], [40, 41, 42])
theorem w663 : vrf GG [(4, g662)] [] 300 4 g663
  [] = true := by decide +kernel
theorem r663 {l : Launch} {D : va_G} {tys : List (ClassId × FieldType)} {A : Nat → Prop} {ad : Nat → Nat} (hAD : ∀ i : Nat, ad (1000 + i) = D.2 1000 i) : CRok l D tys A ad GG 5 g663 := CR_of_vrf (dep := 4) hAD (List.forall_mem_cons.mpr ⟨r662 hAD, fun c hc => by cases hc⟩) T2OK_nil w663
noncomputable def g664 : CR := (338, [(2, 90, 90), (0, (-2147483648), (-1)), (0, (-2147483648), 2147483647), (0, (-2147483648), 2147483647)], [], some (0, (-2), (-2)), [], [])
theorem w664 : vrf GG [] [] 300 2 g664
  [] = true := by decide +kernel
theorem r664 {l : Launch} {D : va_G} {tys : List (ClassId × FieldType)} {A : Nat → Prop} {ad : Nat → Nat} (hAD : ∀ i : Nat, ad (1000 + i) = D.2 1000 i) : CRok l D tys A ad GG 3 g664 := CR_of_vrf (dep := 2) hAD (fun c hc => by cases hc) T2OK_nil w664
noncomputable def g665 : CR := (338, [(2, 90, 90), (0, 4, 2147483647), (0, (-2147483648), 2147483647), (0, (-2147483648), 2147483647)], [], some (0, (-2), (-2)), [], [])
theorem w665 : vrf GG [] [] 300 2 g665
  [] = true := by decide +kernel
theorem r665 {l : Launch} {D : va_G} {tys : List (ClassId × FieldType)} {A : Nat → Prop} {ad : Nat → Nat} (hAD : ∀ i : Nat, ad (1000 + i) = D.2 1000 i) : CRok l D tys A ad GG 3 g665 := CR_of_vrf (dep := 2) hAD (fun c hc => by cases hc) T2OK_nil w665
noncomputable def g666 : CR := (338, [(2, 90, 90), (0, 0, 3), (0, (-2147483648), (-1)), (0, (-2147483648), 2147483647)], [], some (0, (-2), (-2)), [], [])
theorem w666 : vrf GG [] [] 300 2 g666
  [] = true := by decide +kernel
theorem r666 {l : Launch} {D : va_G} {tys : List (ClassId × FieldType)} {A : Nat → Prop} {ad : Nat → Nat} (hAD : ∀ i : Nat, ad (1000 + i) = D.2 1000 i) : CRok l D tys A ad GG 3 g666 := CR_of_vrf (dep := 2) hAD (fun c hc => by cases hc) T2OK_nil w666
noncomputable def g667 : CR := (338, [(2, 90, 90), (0, 0, 3), (0, 4, 2147483647), (0, (-2147483648), 2147483647)], [], some (0, (-2), (-2)), [], [])
theorem w667 : vrf GG [] [] 300 2 g667
  [] = true := by decide +kernel
theorem r667 {l : Launch} {D : va_G} {tys : List (ClassId × FieldType)} {A : Nat → Prop} {ad : Nat → Nat} (hAD : ∀ i : Nat, ad (1000 + i) = D.2 1000 i) : CRok l D tys A ad GG 3 g667 := CR_of_vrf (dep := 2) hAD (fun c hc => by cases hc) T2OK_nil w667
noncomputable def g668 : CR := (338, [(2, 90, 90), (0, 0, 3), (0, 0, 3), (0, 61, 2147483647)], [], some (0, (-2), (-2)), [], [])
theorem w668 : vrf GG [] [] 300 2 g668
  [] = true := by decide +kernel
theorem r668 {l : Launch} {D : va_G} {tys : List (ClassId × FieldType)} {A : Nat → Prop} {ad : Nat → Nat} (hAD : ∀ i : Nat, ad (1000 + i) = D.2 1000 i) : CRok l D tys A ad GG 3 g668 := CR_of_vrf (dep := 2) hAD (fun c hc => by cases hc) T2OK_nil w668
noncomputable def g669 : CR := (338, [(2, 90, 90), (0, 0, 3), (0, 0, 3), (0, (-2147483648), (-1))], [], some (0, (-3), (-3)), [], [])
theorem w669 : vrf GG [] [] 300 2 g669
  [] = true := by decide +kernel
theorem r669 {l : Launch} {D : va_G} {tys : List (ClassId × FieldType)} {A : Nat → Prop} {ad : Nat → Nat} (hAD : ∀ i : Nat, ad (1000 + i) = D.2 1000 i) : CRok l D tys A ad GG 3 g669 := CR_of_vrf (dep := 2) hAD (fun c hc => by cases hc) T2OK_nil w669
noncomputable def g670 : CR := (338, [(2, 90, 90), (0, 0, 3), (0, 0, 3), (0, 0, 60)], [], some (0, 0, 0), [], [107, 108, 109])
theorem w670 : vrf GG [] [] 300 2 g670
  (uK (uC kN52 (uE kI0 kI3 (uE kI0 kI3 (uE kI0 kI60 (uE kI0 kI60 uE0)))) (uA kN0 (rA kI90) (uA kN1 (uis kN0) (uA kN2 (uis kN1) (uA kN3 (uis kN2) (uA kN4 (uis kN3) uA0))))) uS0 uO0 (Int.ofNat (nat_lit 9898)) (uL (Int.negSucc (nat_lit 163)) kN3 uL0))
  uK0) = true := by decide +kernel
theorem r670 {l : Launch} {D : va_G} {tys : List (ClassId × FieldType)} {A : Nat → Prop} {ad : Nat → Nat} (hAD : ∀ i : Nat, ad (1000 + i) = D.2 1000 i) : CRok l D tys A ad GG 3 g670 := CR_of_vrf (dep := 2) hAD (fun c hc => by cases hc) T2OK_nil w670
noncomputable def g671 : CR := (71, [(2, 0, 0), (0, (-2147483648), (-1)), (0, (-2147483648), 2147483647), (1, (-9223372036854775808), 9223372036854775807)], [], some (0, (-2), (-2)), [], [])
theorem w671 : vrf GG [] [] 300 1 g671
  [] = true := by decide +kernel
theorem r671 {l : Launch} {D : va_G} {tys : List (ClassId × FieldType)} {A : Nat → Prop} {ad : Nat → Nat} (hAD : ∀ i : Nat, ad (1000 + i) = D.2 1000 i) : CRok l D tys A ad GG 2 g671 := CR_of_vrf (dep := 1) hAD (fun c hc => by cases hc) T2OK_nil w671
noncomputable def g672 : CR := (71, [(2, 0, 0), (0, 4, 2147483647), (0, (-2147483648), 2147483647), (1, (-9223372036854775808), 9223372036854775807)], [], some (0, (-2), (-2)), [], [])
theorem w672 : vrf GG [] [] 300 1 g672
  [] = true := by decide +kernel
theorem r672 {l : Launch} {D : va_G} {tys : List (ClassId × FieldType)} {A : Nat → Prop} {ad : Nat → Nat} (hAD : ∀ i : Nat, ad (1000 + i) = D.2 1000 i) : CRok l D tys A ad GG 2 g672 := CR_of_vrf (dep := 1) hAD (fun c hc => by cases hc) T2OK_nil w672
noncomputable def g673 : CR := (166, [(2, 39, 39), (0, 0, 3), (0, 0, 59), (1, (-9223372036854775808), 9223372036854775807)], [], none, [], [40])
theorem w673 : vrf GG [] [] 300 2 g673
  [] = true := by decide +kernel
theorem r673 {l : Launch} {D : va_G} {tys : List (ClassId × FieldType)} {A : Nat → Prop} {ad : Nat → Nat} (hAD : ∀ i : Nat, ad (1000 + i) = D.2 1000 i) : CRok l D tys A ad GG 3 g673 := CR_of_vrf (dep := 2) hAD (fun c hc => by cases hc) T2OK_nil w673
noncomputable def g674 : CR := (71, [(2, 0, 0), (0, 0, 3), (0, (-2147483648), 2147483647), (1, (-9223372036854775808), 9223372036854775807)], [], some (0, (-7), 0), [], [40])
theorem w674 : vrf GG [(3, g673)] [] 300 3 g674
  [] = true := by decide +kernel
theorem r674 {l : Launch} {D : va_G} {tys : List (ClassId × FieldType)} {A : Nat → Prop} {ad : Nat → Nat} (hAD : ∀ i : Nat, ad (1000 + i) = D.2 1000 i) : CRok l D tys A ad GG 4 g674 := CR_of_vrf (dep := 3) hAD (List.forall_mem_cons.mpr ⟨r673 hAD, fun c hc => by cases hc⟩) T2OK_nil w674
noncomputable def g675 : CR := (339, [(2, 90, 90), (0, (-2147483648), (-1)), (0, (-2147483648), 2147483647), (1, (-9223372036854775808), 9223372036854775807)], [], some (0, (-2), (-2)), [], [])
theorem w675 : vrf GG [] [] 300 2 g675
  [] = true := by decide +kernel
theorem r675 {l : Launch} {D : va_G} {tys : List (ClassId × FieldType)} {A : Nat → Prop} {ad : Nat → Nat} (hAD : ∀ i : Nat, ad (1000 + i) = D.2 1000 i) : CRok l D tys A ad GG 3 g675 := CR_of_vrf (dep := 2) hAD (fun c hc => by cases hc) T2OK_nil w675
noncomputable def g676 : CR := (339, [(2, 90, 90), (0, 4, 2147483647), (0, (-2147483648), 2147483647), (1, (-9223372036854775808), 9223372036854775807)], [], some (0, (-2), (-2)), [], [])
theorem w676 : vrf GG [] [] 300 2 g676
  [] = true := by decide +kernel
theorem r676 {l : Launch} {D : va_G} {tys : List (ClassId × FieldType)} {A : Nat → Prop} {ad : Nat → Nat} (hAD : ∀ i : Nat, ad (1000 + i) = D.2 1000 i) : CRok l D tys A ad GG 3 g676 := CR_of_vrf (dep := 2) hAD (fun c hc => by cases hc) T2OK_nil w676
noncomputable def g677 : CR := (339, [(2, 90, 90), (0, 0, 3), (0, (-2147483648), 2147483647), (1, (-9223372036854775808), 9223372036854775807)], [], some (0, (-7), 0), [], [109])
theorem w677 : vrf GG [] [] 300 2 g677
  [] = true := by decide +kernel
theorem r677 {l : Launch} {D : va_G} {tys : List (ClassId × FieldType)} {A : Nat → Prop} {ad : Nat → Nat} (hAD : ∀ i : Nat, ad (1000 + i) = D.2 1000 i) : CRok l D tys A ad GG 3 g677 := CR_of_vrf (dep := 2) hAD (fun c hc => by cases hc) T2OK_nil w677
