def g827 : CR := (229, [(2, 90, 90)], [], none, [], [90, 96])
theorem w827 : vrf GG [(2, hAdv)] [] 2012 5 g827
  [] = true := by decide +kernel
theorem r827 {l : Launch} {D : va_G} {tys : List (ClassId × FieldType)} {A : Nat → Prop} {ad : Nat → Nat} (hAD : ∀ i : Nat, ad (1000 + i) = D.2 1000 i) : CRok l D tys A ad GG 6 g827 := CR_of_vrf (dep := 5) hAD (List.forall_mem_cons.mpr ⟨HAdv_ok hAD, fun c hc => by cases hc⟩) T2OK_nil w827
def g828 : CR := (226, [(2, 90, 90)], [((96, 0), (0, 0, 0)), ((96, 3), (0, 0, 5))], none, [], [90])
theorem w828 : vrf GG [] [] 547 3 g828
  [(9, [(0, 5), (0, 5)], [(0, rA 90), (1, iA (0, [(1, 0)])), (2, iA (0, []))], [], [((96, 0), iA (0, [])), ((96, 3), iA (0, [(1, 1)]))], (248, []))] = true := by decide +kernel
theorem r828 {l : Launch} {D : va_G} {tys : List (ClassId × FieldType)} {A : Nat → Prop} {ad : Nat → Nat} (hAD : ∀ i : Nat, ad (1000 + i) = D.2 1000 i) : CRok l D tys A ad GG 4 g828 := CR_of_vrf (dep := 3) hAD (fun c hc => by cases hc) T2OK_nil w828
def g829 : CR := (226, [(2, 90, 90)], [((96, 0), (0, 1, 1)), ((96, 3), (0, 0, 5))], none, [], [90, 96])
theorem w829 : vrf GG [(2, hAdv)] [] 789 3 g829
  [(9, [(0, 5), (0, 6), (0, 5)], [(0, rA 90), (1, iA (0, [(1, 0)])), (2, iA (0, [(1, 1)]))], [], [((96, 0), iA (1, [])), ((96, 3), iA (0, [(1, 2)]))], (1856, [((-268), 1)]))] = true := by decide +kernel
theorem r829 {l : Launch} {D : va_G} {tys : List (ClassId × FieldType)} {A : Nat → Prop} {ad : Nat → Nat} (hAD : ∀ i : Nat, ad (1000 + i) = D.2 1000 i) : CRok l D tys A ad GG 4 g829 := CR_of_vrf (dep := 3) hAD (List.forall_mem_cons.mpr ⟨HAdv_ok hAD, fun c hc => by cases hc⟩) T2OK_nil w829
def g830 : CR := (226, [(2, 90, 90)], [((96, 0), (0, 2, 2)), ((96, 3), (0, 0, 5))], none, [], [90, 96])
theorem w830 : vrf GG [(2, hAdv)] [] 789 3 g830
  [(9, [(0, 5), (0, 6), (0, 5)], [(0, rA 90), (1, iA (0, [(1, 0)])), (2, iA (0, [(1, 1)]))], [], [((96, 0), iA (2, [])), ((96, 3), iA (0, [(1, 2)]))], (1856, [((-268), 1)]))] = true := by decide +kernel
theorem r830 {l : Launch} {D : va_G} {tys : List (ClassId × FieldType)} {A : Nat → Prop} {ad : Nat → Nat} (hAD : ∀ i : Nat, ad (1000 + i) = D.2 1000 i) : CRok l D tys A ad GG 4 g830 := CR_of_vrf (dep := 3) hAD (List.forall_mem_cons.mpr ⟨HAdv_ok hAD, fun c hc => by cases hc⟩) T2OK_nil w830
def g831 : CR := (226, [(2, 90, 90)], [((96, 0), (0, 3, 3)), ((96, 3), (0, 0, 5))], none, [], [90, 96])
theorem w831 : vrf GG [(2, hAdv)] [] 789 3 g831
  [(9, [(0, 5), (0, 6), (0, 5)], [(0, rA 90), (1, iA (0, [(1, 0)])), (2, iA (0, [(1, 1)]))], [], [((96, 0), iA (3, [])), ((96, 3), iA (0, [(1, 2)]))], (1856, [((-268), 1)]))] = true := by decide +kernel
theorem r831 {l : Launch} {D : va_G} {tys : List (ClassId × FieldType)} {A : Nat → Prop} {ad : Nat → Nat} (hAD : ∀ i : Nat, ad (1000 + i) = D.2 1000 i) : CRok l D tys A ad GG 4 g831 := CR_of_vrf (dep := 3) hAD (List.forall_mem_cons.mpr ⟨HAdv_ok hAD, fun c hc => by cases hc⟩) T2OK_nil w831
def g832 : CR := (226, [(2, 90, 90)], [((96, 0), (0, 4, 4)), ((96, 3), (0, 0, 5))], none, [], [90, 96])
theorem w832 : vrf GG [(2, hAdv)] [] 789 3 g832
  [(9, [(0, 5), (0, 6), (0, 5)], [(0, rA 90), (1, iA (0, [(1, 0)])), (2, iA (0, [(1, 1)]))], [], [((96, 0), iA (4, [])), ((96, 3), iA (0, [(1, 2)]))], (1856, [((-268), 1)]))] = true := by decide +kernel
theorem r832 {l : Launch} {D : va_G} {tys : List (ClassId × FieldType)} {A : Nat → Prop} {ad : Nat → Nat} (hAD : ∀ i : Nat, ad (1000 + i) = D.2 1000 i) : CRok l D tys A ad GG 4 g832 := CR_of_vrf (dep := 3) hAD (List.forall_mem_cons.mpr ⟨HAdv_ok hAD, fun c hc => by cases hc⟩) T2OK_nil w832
def g833 : CR := (226, [(2, 90, 90)], [((96, 0), (0, 5, 5)), ((96, 3), (0, 0, 5))], none, [], [90, 96])
theorem w833 : vrf GG [(2, hAdv)] [] 789 3 g833
  [(9, [(0, 5), (0, 6), (0, 5)], [(0, rA 90), (1, iA (0, [(1, 0)])), (2, iA (0, [(1, 1)]))], [], [((96, 0), iA (5, [])), ((96, 3), iA (0, [(1, 2)]))], (1856, [((-268), 1)]))] = true := by decide +kernel
theorem r833 {l : Launch} {D : va_G} {tys : List (ClassId × FieldType)} {A : Nat → Prop} {ad : Nat → Nat} (hAD : ∀ i : Nat, ad (1000 + i) = D.2 1000 i) : CRok l D tys A ad GG 4 g833 := CR_of_vrf (dep := 3) hAD (List.forall_mem_cons.mpr ⟨HAdv_ok hAD, fun c hc => by cases hc⟩) T2OK_nil w833
def g834 : CR := (226, [(2, 90, 90)], [((96, 0), (0, 6, 6)), ((96, 3), (0, 0, 5))], none, [], [90, 96])
theorem w834 : vrf GG [(2, hAdv)] [] 789 3 g834
  [(9, [(0, 5), (0, 6), (0, 5)], [(0, rA 90), (1, iA (0, [(1, 0)])), (2, iA (0, [(1, 1)]))], [], [((96, 0), iA (6, [])), ((96, 3), iA (0, [(1, 2)]))], (1856, [((-268), 1)]))] = true := by decide +kernel
theorem r834 {l : Launch} {D : va_G} {tys : List (ClassId × FieldType)} {A : Nat → Prop} {ad : Nat → Nat} (hAD : ∀ i : Nat, ad (1000 + i) = D.2 1000 i) : CRok l D tys A ad GG 4 g834 := CR_of_vrf (dep := 3) hAD (List.forall_mem_cons.mpr ⟨HAdv_ok hAD, fun c hc => by cases hc⟩) T2OK_nil w834
def g835 : CR := (226, [(2, 90, 90)], [((96, 0), (0, 7, 7)), ((96, 3), (0, 0, 5))], none, [], [90, 96])
theorem w835 : vrf GG [(2, hAdv)] [] 789 3 g835
  [(9, [(0, 5), (0, 6), (0, 5)], [(0, rA 90), (1, iA (0, [(1, 0)])), (2, iA (0, [(1, 1)]))], [], [((96, 0), iA (7, [])), ((96, 3), iA (0, [(1, 2)]))], (1856, [((-268), 1)]))] = true := by decide +kernel
theorem r835 {l : Launch} {D : va_G} {tys : List (ClassId × FieldType)} {A : Nat → Prop} {ad : Nat → Nat} (hAD : ∀ i : Nat, ad (1000 + i) = D.2 1000 i) : CRok l D tys A ad GG 4 g835 := CR_of_vrf (dep := 3) hAD (List.forall_mem_cons.mpr ⟨HAdv_ok hAD, fun c hc => by cases hc⟩) T2OK_nil w835
def g836 : CR := (226, [(2, 90, 90)], [((96, 0), (0, 8, 8)), ((96, 3), (0, 0, 5))], none, [], [90, 96])
theorem w836 : vrf GG [(2, hAdv)] [] 789 3 g836
  [(9, [(0, 5), (0, 6), (0, 5)], [(0, rA 90), (1, iA (0, [(1, 0)])), (2, iA (0, [(1, 1)]))], [], [((96, 0), iA (8, [])), ((96, 3), iA (0, [(1, 2)]))], (1856, [((-268), 1)]))] = true := by decide +kernel
theorem r836 {l : Launch} {D : va_G} {tys : List (ClassId × FieldType)} {A : Nat → Prop} {ad : Nat → Nat} (hAD : ∀ i : Nat, ad (1000 + i) = D.2 1000 i) : CRok l D tys A ad GG 4 g836 := CR_of_vrf (dep := 3) hAD (List.forall_mem_cons.mpr ⟨HAdv_ok hAD, fun c hc => by cases hc⟩) T2OK_nil w836
def g837 : CR := (226, [(2, 90, 90)], [((96, 0), (0, 9, 9)), ((96, 3), (0, 0, 5))], none, [], [90, 96])
theorem w837 : vrf GG [(2, hAdv)] [] 789 3 g837
  [(9, [(0, 5), (0, 6), (0, 5)], [(0, rA 90), (1, iA (0, [(1, 0)])), (2, iA (0, [(1, 1)]))], [], [((96, 0), iA (9, [])), ((96, 3), iA (0, [(1, 2)]))], (1856, [((-268), 1)]))] = true := by decide +kernel
theorem r837 {l : Launch} {D : va_G} {tys : List (ClassId × FieldType)} {A : Nat → Prop} {ad : Nat → Nat} (hAD : ∀ i : Nat, ad (1000 + i) = D.2 1000 i) : CRok l D tys A ad GG 4 g837 := CR_of_vrf (dep := 3) hAD (List.forall_mem_cons.mpr ⟨HAdv_ok hAD, fun c hc => by cases hc⟩) T2OK_nil w837
def g838 : CR := (216, [(2, 90, 90), (2, 1016, 1016)], [((96, 3), (0, 1, 6)), ((96, 4), (0, 0, 11))], some (0, 0, 1), [], [])
theorem w838 : vrf GG [] [] 562 4 g838
  [] = true := by decide +kernel
theorem r838 {l : Launch} {D : va_G} {tys : List (ClassId × FieldType)} {A : Nat → Prop} {ad : Nat → Nat} (hAD : ∀ i : Nat, ad (1000 + i) = D.2 1000 i) : CRok l D tys A ad GG 5 g838 := CR_of_vrf (dep := 4) hAD (fun c hc => by cases hc) T2OK_nil w838
def g839 : CR := (216, [(2, 90, 90), (2, 1016, 1016)], [((96, 4), (0, 0, 11))], some (0, 0, 1), [], [])
theorem w839 : vrf GG [] [] 562 4 g839
  [] = true := by decide +kernel
theorem r839 {l : Launch} {D : va_G} {tys : List (ClassId × FieldType)} {A : Nat → Prop} {ad : Nat → Nat} (hAD : ∀ i : Nat, ad (1000 + i) = D.2 1000 i) : CRok l D tys A ad GG 5 g839 := CR_of_vrf (dep := 4) hAD (fun c hc => by cases hc) T2OK_nil w839
