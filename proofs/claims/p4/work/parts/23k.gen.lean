def g837 : CR := (346, [(2, 1014, 1014), (0, 0, 5)], [], some (0, 0, 122), [], [])
theorem w837 : vrf GG [] [] 300 3 g837
  [] = true := by decide +kernel
theorem r837 {l : Launch} {D : va_G} {tys : List (ClassId × FieldType)} {A : Nat → Prop} {ad : Nat → Nat} (hAD : ∀ i : Nat, ad (1000 + i) = D.2 1000 i) : CRok l D tys A ad GG 4 g837 := CR_of_vrf (dep := 3) hAD (fun c hc => by cases hc) T2OK_nil w837
def g838 : CR := (216, [(2, 90, 90), (2, 1014, 1014)], [], some (0, 0, 1), [], [])
theorem w838 : vrf GG [(4, g837)] [] 722 4 g838
  [] = true := by decide +kernel
theorem r838 {l : Launch} {D : va_G} {tys : List (ClassId × FieldType)} {A : Nat → Prop} {ad : Nat → Nat} (hAD : ∀ i : Nat, ad (1000 + i) = D.2 1000 i) : CRok l D tys A ad GG 5 g838 := CR_of_vrf (dep := 4) hAD (List.forall_mem_cons.mpr ⟨r837 hAD, fun c hc => by cases hc⟩) T2OK_nil w838
def g839 : CR := (220, [(2, 90, 90), (2, 1014, 1014), (0, 1, 1), (0, 4, 4)], [], some (0, 0, 4), [], [90])
theorem w839 : vrf GG [(2, g831), (5, g838)] [] 543 7 g839
  [] = true := by decide +kernel
theorem r839 {l : Launch} {D : va_G} {tys : List (ClassId × FieldType)} {A : Nat → Prop} {ad : Nat → Nat} (hAD : ∀ i : Nat, ad (1000 + i) = D.2 1000 i) : CRok l D tys A ad GG 8 g839 := CR_of_vrf (dep := 7) hAD (List.forall_mem_cons.mpr ⟨r831 hAD, List.forall_mem_cons.mpr ⟨r838 hAD, fun c hc => by cases hc⟩⟩) T2OK_nil w839
def g840 : CR := (346, [(2, 1015, 1015), (0, 0, 4)], [], some (0, 0, 122), [], [])
theorem w840 : vrf GG [] [] 300 3 g840
  [] = true := by decide +kernel
theorem r840 {l : Launch} {D : va_G} {tys : List (ClassId × FieldType)} {A : Nat → Prop} {ad : Nat → Nat} (hAD : ∀ i : Nat, ad (1000 + i) = D.2 1000 i) : CRok l D tys A ad GG 4 g840 := CR_of_vrf (dep := 3) hAD (fun c hc => by cases hc) T2OK_nil w840
def g841 : CR := (216, [(2, 90, 90), (2, 1015, 1015)], [], some (0, 0, 1), [], [])
theorem w841 : vrf GG [(4, g840)] [] 662 4 g841
  [] = true := by decide +kernel
theorem r841 {l : Launch} {D : va_G} {tys : List (ClassId × FieldType)} {A : Nat → Prop} {ad : Nat → Nat} (hAD : ∀ i : Nat, ad (1000 + i) = D.2 1000 i) : CRok l D tys A ad GG 5 g841 := CR_of_vrf (dep := 4) hAD (List.forall_mem_cons.mpr ⟨r840 hAD, fun c hc => by cases hc⟩) T2OK_nil w841
def g842 : CR := (220, [(2, 90, 90), (2, 1015, 1015), (0, 1, 1), (0, 24, 24)], [], some (0, 0, 24), [], [90])
theorem w842 : vrf GG [(2, g831), (5, g841)] [] 543 7 g842
  [] = true := by decide +kernel
theorem r842 {l : Launch} {D : va_G} {tys : List (ClassId × FieldType)} {A : Nat → Prop} {ad : Nat → Nat} (hAD : ∀ i : Nat, ad (1000 + i) = D.2 1000 i) : CRok l D tys A ad GG 8 g842 := CR_of_vrf (dep := 7) hAD (List.forall_mem_cons.mpr ⟨r831 hAD, List.forall_mem_cons.mpr ⟨r841 hAD, fun c hc => by cases hc⟩⟩) T2OK_nil w842
def g843 : CR := (225, [(2, 90, 90)], [], none, [], [90, 96])
theorem w843 : vrf GG [(2, g831), (5, g833), (8, g836), (8, g839), (8, g842)] [] 300 8 g843
  [] = true := by decide +kernel
theorem r843 {l : Launch} {D : va_G} {tys : List (ClassId × FieldType)} {A : Nat → Prop} {ad : Nat → Nat} (hAD : ∀ i : Nat, ad (1000 + i) = D.2 1000 i) : CRok l D tys A ad GG 9 g843 := CR_of_vrf (dep := 8) hAD (List.forall_mem_cons.mpr ⟨r831 hAD, List.forall_mem_cons.mpr ⟨r833 hAD, List.forall_mem_cons.mpr ⟨r836 hAD, List.forall_mem_cons.mpr ⟨r839 hAD, List.forall_mem_cons.mpr ⟨r842 hAD, fun c hc => by cases hc⟩⟩⟩⟩⟩) T2OK_nil w843
def g844 : CR := (346, [(2, 1016, 1016), (0, 0, 1)], [], some (0, 0, 122), [], [])
theorem w844 : vrf GG [] [] 300 3 g844
  [] = true := by decide +kernel
theorem r844 {l : Launch} {D : va_G} {tys : List (ClassId × FieldType)} {A : Nat → Prop} {ad : Nat → Nat} (hAD : ∀ i : Nat, ad (1000 + i) = D.2 1000 i) : CRok l D tys A ad GG 4 g844 := CR_of_vrf (dep := 3) hAD (fun c hc => by cases hc) T2OK_nil w844
def g845 : CR := (216, [(2, 90, 90), (2, 1016, 1016)], [], some (0, 0, 1), [], [])
theorem w845 : vrf GG [(4, g844)] [] 482 4 g845
  [] = true := by decide +kernel
theorem r845 {l : Launch} {D : va_G} {tys : List (ClassId × FieldType)} {A : Nat → Prop} {ad : Nat → Nat} (hAD : ∀ i : Nat, ad (1000 + i) = D.2 1000 i) : CRok l D tys A ad GG 5 g845 := CR_of_vrf (dep := 4) hAD (List.forall_mem_cons.mpr ⟨r844 hAD, fun c hc => by cases hc⟩) T2OK_nil w845
def g846 : CR := (228, [(2, 90, 90)], [], none, [], [90, 97])
theorem w846 : vrf GG [(2, g831), (5, g845)] [] 987 7 g846
  [(4, [(0, 5), (0, 6)], [(0, rA 90)], [iA (0, [(1, 0)])], [((96, 3), iA (0, [(1, 1)]))], (47, [])),
  (18, [(0, 5), (0, 3), (0, 4), (0, 6)], [(0, rA 90), (1, iA (0, [(1, 0)]))], [iA (0, [(1, 1)])], [((96, 1), iA (0, [(1, 2)])), ((96, 3), iA (0, [(1, 3)]))], (33, [])),
  (25, [(0, 5), (0, 3), (0, 4), (0, 6)], [(0, rA 90), (1, iA (0, [(1, 0)])), (2, iA (0, [(1, 1)]))], [], [((96, 1), iA (0, [(1, 2)])), ((96, 3), iA (0, [(1, 3)]))], (26, [])),
  (29, [(0, 5), (0, 3), (0, 23), (0, 4), (0, 24), (0, 6)], [(0, rA 90), (1, iA (0, [(1, 0)])), (2, iA (0, [(1, 1)]))], [iA (0, [(1, 2)])], [((96, 1), iA (0, [(1, 3)])), ((96, 2), iA (0, [(1, 4)])), ((96, 3), iA (0, [(1, 5)]))], (22, [])),
  (34, [(0, 5), (0, 3), (0, 23), (0, 1), (0, 3), (0, 4), (0, 24), (0, 6)], [(0, rA 90), (1, iA (0, [(1, 0)])), (2, iA (0, [(1, 1)])), (3, iA (0, [(1, 2)]))], [iA (0, [(1, 3)])], [((90, 12), iA (0, [(1, 4)])), ((96, 1), iA (0, [(1, 5)])), ((96, 2), iA (0, [(1, 6)])), ((96, 3), iA (0, [(1, 7)]))], (17, []))] = true := by decide +kernel
theorem r846 {l : Launch} {D : va_G} {tys : List (ClassId × FieldType)} {A : Nat → Prop} {ad : Nat → Nat} (hAD : ∀ i : Nat, ad (1000 + i) = D.2 1000 i) : CRok l D tys A ad GG 8 g846 := CR_of_vrf (dep := 7) hAD (List.forall_mem_cons.mpr ⟨r831 hAD, List.forall_mem_cons.mpr ⟨r845 hAD, fun c hc => by cases hc⟩⟩) T2OK_nil w846
def g847 : CR := (229, [(2, 90, 90)], [], none, [], [90, 96])
theorem w847 : vrf GG [(2, g831)] [] 1112 5 g847
  [(4, [(0, 5), (0, 6)], [(0, rA 90)], [iA (0, [(1, 0)])], [((96, 3), iA (0, [(1, 1)]))], (42, [])),
  (10, [(0, 5), (0, 5), (0, 6)], [(0, rA 90), (1, iA (0, [(1, 0)]))], [iA (0, [(1, 1)])], [((96, 3), iA (0, [(1, 2)]))], (36, [])),
  (16, [(0, 5), (0, 5), (0, 5), (0, 6)], [(0, rA 90), (1, iA (0, [(1, 0)])), (2, iA (0, [(1, 1)]))], [iA (0, [(1, 2)])], [((96, 3), iA (0, [(1, 3)]))], (30, [])),
  (21, [(0, 5), (0, 5), (0, 5), (0, 1), (0, 3), (0, 6)], [(0, rA 90), (1, iA (0, [(1, 0)])), (2, iA (0, [(1, 1)])), (3, iA (0, [(1, 2)]))], [iA (0, [(1, 3)])], [((90, 12), iA (0, [(1, 4)])), ((96, 3), iA (0, [(1, 5)]))], (25, []))] = true := by decide +kernel
theorem r847 {l : Launch} {D : va_G} {tys : List (ClassId × FieldType)} {A : Nat → Prop} {ad : Nat → Nat} (hAD : ∀ i : Nat, ad (1000 + i) = D.2 1000 i) : CRok l D tys A ad GG 6 g847 := CR_of_vrf (dep := 5) hAD (List.forall_mem_cons.mpr ⟨r831 hAD, fun c hc => by cases hc⟩) T2OK_nil w847
def g849 : CR := (226, [(2, 90, 90)], [((96, 0), (0, 0, 0)), ((96, 3), (0, 0, 5))], none, [], [90])
theorem w849 : vrf GG [] [] 547 3 g849
  [(9, [(0, 5), (0, 5)], [(0, rA 90), (1, iA (0, [(1, 0)])), (2, iA (0, []))], [], [((96, 0), iA (0, [])), ((96, 3), iA (0, [(1, 1)]))], (248, []))] = true := by decide +kernel
theorem r849 {l : Launch} {D : va_G} {tys : List (ClassId × FieldType)} {A : Nat → Prop} {ad : Nat → Nat} (hAD : ∀ i : Nat, ad (1000 + i) = D.2 1000 i) : CRok l D tys A ad GG 4 g849 := CR_of_vrf (dep := 3) hAD (fun c hc => by cases hc) T2OK_nil w849
def g850 : CR := (226, [(2, 90, 90)], [((96, 0), (0, 1, 1)), ((96, 3), (0, 0, 5))], none, [], [90, 96])
theorem w850 : vrf GG [(2, g831)] [] 789 3 g850
  [(9, [(0, 5), (0, 6), (0, 5)], [(0, rA 90), (1, iA (0, [(1, 0)])), (2, iA (0, [(1, 1)]))], [], [((96, 0), iA (1, [])), ((96, 3), iA (0, [(1, 2)]))], (1856, [((-268), 1)]))] = true := by decide +kernel
theorem r850 {l : Launch} {D : va_G} {tys : List (ClassId × FieldType)} {A : Nat → Prop} {ad : Nat → Nat} (hAD : ∀ i : Nat, ad (1000 + i) = D.2 1000 i) : CRok l D tys A ad GG 4 g850 := CR_of_vrf (dep := 3) hAD (List.forall_mem_cons.mpr ⟨r831 hAD, fun c hc => by cases hc⟩) T2OK_nil w850
def g851 : CR := (226, [(2, 90, 90)], [((96, 0), (0, 2, 2)), ((96, 3), (0, 0, 5))], none, [], [90, 96])
theorem w851 : vrf GG [(2, g831)] [] 789 3 g851
  [(9, [(0, 5), (0, 6), (0, 5)], [(0, rA 90), (1, iA (0, [(1, 0)])), (2, iA (0, [(1, 1)]))], [], [((96, 0), iA (2, [])), ((96, 3), iA (0, [(1, 2)]))], (1856, [((-268), 1)]))] = true := by decide +kernel
theorem r851 {l : Launch} {D : va_G} {tys : List (ClassId × FieldType)} {A : Nat → Prop} {ad : Nat → Nat} (hAD : ∀ i : Nat, ad (1000 + i) = D.2 1000 i) : CRok l D tys A ad GG 4 g851 := CR_of_vrf (dep := 3) hAD (List.forall_mem_cons.mpr ⟨r831 hAD, fun c hc => by cases hc⟩) T2OK_nil w851
def g852 : CR := (226, [(2, 90, 90)], [((96, 0), (0, 3, 3)), ((96, 3), (0, 0, 5))], none, [], [90, 96])
theorem w852 : vrf GG [(2, g831)] [] 789 3 g852
  [(9, [(0, 5), (0, 6), (0, 5)], [(0, rA 90), (1, iA (0, [(1, 0)])), (2, iA (0, [(1, 1)]))], [], [((96, 0), iA (3, [])), ((96, 3), iA (0, [(1, 2)]))], (1856, [((-268), 1)]))] = true := by decide +kernel
theorem r852 {l : Launch} {D : va_G} {tys : List (ClassId × FieldType)} {A : Nat → Prop} {ad : Nat → Nat} (hAD : ∀ i : Nat, ad (1000 + i) = D.2 1000 i) : CRok l D tys A ad GG 4 g852 := CR_of_vrf (dep := 3) hAD (List.forall_mem_cons.mpr ⟨r831 hAD, fun c hc => by cases hc⟩) T2OK_nil w852
def g853 : CR := (226, [(2, 90, 90)], [((96, 0), (0, 4, 4)), ((96, 3), (0, 0, 5))], none, [], [90, 96])
theorem w853 : vrf GG [(2, g831)] [] 789 3 g853
  [(9, [(0, 5), (0, 6), (0, 5)], [(0, rA 90), (1, iA (0, [(1, 0)])), (2, iA (0, [(1, 1)]))], [], [((96, 0), iA (4, [])), ((96, 3), iA (0, [(1, 2)]))], (1856, [((-268), 1)]))] = true := by decide +kernel
theorem r853 {l : Launch} {D : va_G} {tys : List (ClassId × FieldType)} {A : Nat → Prop} {ad : Nat → Nat} (hAD : ∀ i : Nat, ad (1000 + i) = D.2 1000 i) : CRok l D tys A ad GG 4 g853 := CR_of_vrf (dep := 3) hAD (List.forall_mem_cons.mpr ⟨r831 hAD, fun c hc => by cases hc⟩) T2OK_nil w853
def g854 : CR := (226, [(2, 90, 90)], [((96, 0), (0, 5, 5)), ((96, 3), (0, 0, 5))], none, [], [90, 96])
theorem w854 : vrf GG [(2, g831)] [] 789 3 g854
  [(9, [(0, 5), (0, 6), (0, 5)], [(0, rA 90), (1, iA (0, [(1, 0)])), (2, iA (0, [(1, 1)]))], [], [((96, 0), iA (5, [])), ((96, 3), iA (0, [(1, 2)]))], (1856, [((-268), 1)]))] = true := by decide +kernel
theorem r854 {l : Launch} {D : va_G} {tys : List (ClassId × FieldType)} {A : Nat → Prop} {ad : Nat → Nat} (hAD : ∀ i : Nat, ad (1000 + i) = D.2 1000 i) : CRok l D tys A ad GG 4 g854 := CR_of_vrf (dep := 3) hAD (List.forall_mem_cons.mpr ⟨r831 hAD, fun c hc => by cases hc⟩) T2OK_nil w854
def g855 : CR := (226, [(2, 90, 90)], [((96, 0), (0, 6, 6)), ((96, 3), (0, 0, 5))], none, [], [90, 96])
theorem w855 : vrf GG [(2, g831)] [] 789 3 g855
  [(9, [(0, 5), (0, 6), (0, 5)], [(0, rA 90), (1, iA (0, [(1, 0)])), (2, iA (0, [(1, 1)]))], [], [((96, 0), iA (6, [])), ((96, 3), iA (0, [(1, 2)]))], (1856, [((-268), 1)]))] = true := by decide +kernel
theorem r855 {l : Launch} {D : va_G} {tys : List (ClassId × FieldType)} {A : Nat → Prop} {ad : Nat → Nat} (hAD : ∀ i : Nat, ad (1000 + i) = D.2 1000 i) : CRok l D tys A ad GG 4 g855 := CR_of_vrf (dep := 3) hAD (List.forall_mem_cons.mpr ⟨r831 hAD, fun c hc => by cases hc⟩) T2OK_nil w855
def g856 : CR := (226, [(2, 90, 90)], [((96, 0), (0, 7, 7)), ((96, 3), (0, 0, 5))], none, [], [90, 96])
theorem w856 : vrf GG [(2, g831)] [] 789 3 g856
  [(9, [(0, 5), (0, 6), (0, 5)], [(0, rA 90), (1, iA (0, [(1, 0)])), (2, iA (0, [(1, 1)]))], [], [((96, 0), iA (7, [])), ((96, 3), iA (0, [(1, 2)]))], (1856, [((-268), 1)]))] = true := by decide +kernel
theorem r856 {l : Launch} {D : va_G} {tys : List (ClassId × FieldType)} {A : Nat → Prop} {ad : Nat → Nat} (hAD : ∀ i : Nat, ad (1000 + i) = D.2 1000 i) : CRok l D tys A ad GG 4 g856 := CR_of_vrf (dep := 3) hAD (List.forall_mem_cons.mpr ⟨r831 hAD, fun c hc => by cases hc⟩) T2OK_nil w856
def g857 : CR := (226, [(2, 90, 90)], [((96, 0), (0, 8, 8)), ((96, 3), (0, 0, 5))], none, [], [90, 96])
theorem w857 : vrf GG [(2, g831)] [] 789 3 g857
  [(9, [(0, 5), (0, 6), (0, 5)], [(0, rA 90), (1, iA (0, [(1, 0)])), (2, iA (0, [(1, 1)]))], [], [((96, 0), iA (8, [])), ((96, 3), iA (0, [(1, 2)]))], (1856, [((-268), 1)]))] = true := by decide +kernel
theorem r857 {l : Launch} {D : va_G} {tys : List (ClassId × FieldType)} {A : Nat → Prop} {ad : Nat → Nat} (hAD : ∀ i : Nat, ad (1000 + i) = D.2 1000 i) : CRok l D tys A ad GG 4 g857 := CR_of_vrf (dep := 3) hAD (List.forall_mem_cons.mpr ⟨r831 hAD, fun c hc => by cases hc⟩) T2OK_nil w857
def g858 : CR := (226, [(2, 90, 90)], [((96, 0), (0, 9, 9)), ((96, 3), (0, 0, 5))], none, [], [90, 96])
theorem w858 : vrf GG [(2, g831)] [] 789 3 g858
  [(9, [(0, 5), (0, 6), (0, 5)], [(0, rA 90), (1, iA (0, [(1, 0)])), (2, iA (0, [(1, 1)]))], [], [((96, 0), iA (9, [])), ((96, 3), iA (0, [(1, 2)]))], (1856, [((-268), 1)]))] = true := by decide +kernel
theorem r858 {l : Launch} {D : va_G} {tys : List (ClassId × FieldType)} {A : Nat → Prop} {ad : Nat → Nat} (hAD : ∀ i : Nat, ad (1000 + i) = D.2 1000 i) : CRok l D tys A ad GG 4 g858 := CR_of_vrf (dep := 3) hAD (List.forall_mem_cons.mpr ⟨r831 hAD, fun c hc => by cases hc⟩) T2OK_nil w858
def g859 : CR := (230, [(2, 90, 90)], [((96, 4), (0, 0, 0))], none, [], [90, 96])
theorem w859 : vrf GG [(2, g831), (5, g845)] [] 1278 7 g859
  [(17, [(0, 5), (0, 6)], [(0, rA 90), (1, iA (246, []))], [iA (0, [(1, 0)])], [((96, 3), iA (0, [(1, 1)])), ((96, 4), iA (0, []))], (83, [])),
  (22, [(0, 5), (0, 5), (0, 6)], [(0, rA 90), (1, iA (246, [])), (2, iA (0, [(1, 0)]))], [iA (0, [(1, 1)])], [((96, 3), iA (0, [(1, 2)])), ((96, 4), iA (0, []))], (78, [])),
  (28, [(0, 5), (0, 5), (0, 5), (0, 6)], [(0, rA 90), (1, iA (246, [])), (2, iA (0, [(1, 0)])), (3, iA (0, [(1, 1)]))], [iA (0, [(1, 2)])], [((96, 3), iA (0, [(1, 3)])), ((96, 4), iA (0, []))], (72, [])),
  (36, [(0, 5), (0, 5), (0, 5), (0, 6)], [(0, rA 90), (1, iA (246, [])), (2, iA (0, [(1, 0)])), (3, iA (0, [(1, 1)])), (4, iA (0, [(1, 2)]))], [], [((96, 3), iA (0, [(1, 3)])), ((96, 4), iA (0, []))], (64, [])),
  (40, [(0, 5), (0, 5), (0, 5), (0, 23), (0, 24), (0, 6)], [(0, rA 90), (1, iA (246, [])), (2, iA (0, [(1, 0)])), (3, iA (0, [(1, 1)])), (4, iA (0, [(1, 2)]))], [iA (0, [(1, 3)])], [((96, 2), iA (0, [(1, 4)])), ((96, 3), iA (0, [(1, 5)])), ((96, 4), iA (0, []))], (60, [])),
  (46, [(0, 5), (0, 5), (0, 5), (0, 23), (0, 1), (0, 3), (0, 24), (0, 6)], [(0, rA 90), (1, iA (246, [])), (2, iA (0, [(1, 0)])), (3, iA (0, [(1, 1)])), (4, iA (0, [(1, 2)])), (5, iA (0, [(1, 3)]))], [iA (0, [(1, 4)])], [((90, 12), iA (0, [(1, 5)])), ((96, 2), iA (0, [(1, 6)])), ((96, 3), iA (0, [(1, 7)])), ((96, 4), iA (0, []))], (54, []))] = true := by decide +kernel
theorem r859 {l : Launch} {D : va_G} {tys : List (ClassId × FieldType)} {A : Nat → Prop} {ad : Nat → Nat} (hAD : ∀ i : Nat, ad (1000 + i) = D.2 1000 i) : CRok l D tys A ad GG 8 g859 := CR_of_vrf (dep := 7) hAD (List.forall_mem_cons.mpr ⟨r831 hAD, List.forall_mem_cons.mpr ⟨r845 hAD, fun c hc => by cases hc⟩⟩) T2OK_nil w859
def g860 : CR := (230, [(2, 90, 90)], [((96, 4), (0, 1, 1))], none, [], [90, 96])
theorem w860 : vrf GG [(2, g831), (5, g845)] [] 1278 7 g860
  [(17, [(0, 5), (0, 6)], [(0, rA 90), (1, iA (250, []))], [iA (0, [(1, 0)])], [((96, 3), iA (0, [(1, 1)])), ((96, 4), iA (1, []))], (83, [])),
  (22, [(0, 5), (0, 5), (0, 6)], [(0, rA 90), (1, iA (250, [])), (2, iA (0, [(1, 0)]))], [iA (0, [(1, 1)])], [((96, 3), iA (0, [(1, 2)])), ((96, 4), iA (1, []))], (78, [])),
  (28, [(0, 5), (0, 5), (0, 5), (0, 6)], [(0, rA 90), (1, iA (250, [])), (2, iA (0, [(1, 0)])), (3, iA (0, [(1, 1)]))], [iA (0, [(1, 2)])], [((96, 3), iA (0, [(1, 3)])), ((96, 4), iA (1, []))], (72, [])),
  (36, [(0, 5), (0, 5), (0, 5), (0, 6)], [(0, rA 90), (1, iA (250, [])), (2, iA (0, [(1, 0)])), (3, iA (0, [(1, 1)])), (4, iA (0, [(1, 2)]))], [], [((96, 3), iA (0, [(1, 3)])), ((96, 4), iA (1, []))], (64, [])),
  (40, [(0, 5), (0, 5), (0, 5), (0, 23), (0, 24), (0, 6)], [(0, rA 90), (1, iA (250, [])), (2, iA (0, [(1, 0)])), (3, iA (0, [(1, 1)])), (4, iA (0, [(1, 2)]))], [iA (0, [(1, 3)])], [((96, 2), iA (0, [(1, 4)])), ((96, 3), iA (0, [(1, 5)])), ((96, 4), iA (1, []))], (60, [])),
  (46, [(0, 5), (0, 5), (0, 5), (0, 23), (0, 1), (0, 3), (0, 24), (0, 6)], [(0, rA 90), (1, iA (250, [])), (2, iA (0, [(1, 0)])), (3, iA (0, [(1, 1)])), (4, iA (0, [(1, 2)])), (5, iA (0, [(1, 3)]))], [iA (0, [(1, 4)])], [((90, 12), iA (0, [(1, 5)])), ((96, 2), iA (0, [(1, 6)])), ((96, 3), iA (0, [(1, 7)])), ((96, 4), iA (1, []))], (54, []))] = true := by decide +kernel
theorem r860 {l : Launch} {D : va_G} {tys : List (ClassId × FieldType)} {A : Nat → Prop} {ad : Nat → Nat} (hAD : ∀ i : Nat, ad (1000 + i) = D.2 1000 i) : CRok l D tys A ad GG 8 g860 := CR_of_vrf (dep := 7) hAD (List.forall_mem_cons.mpr ⟨r831 hAD, List.forall_mem_cons.mpr ⟨r845 hAD, fun c hc => by cases hc⟩⟩) T2OK_nil w860
def g861 : CR := (230, [(2, 90, 90)], [((96, 4), (0, 2, 2))], none, [], [90, 96])
theorem w861 : vrf GG [(2, g831), (5, g845)] [] 1278 7 g861
  [(17, [(0, 5), (0, 6)], [(0, rA 90), (1, iA (254, []))], [iA (0, [(1, 0)])], [((96, 3), iA (0, [(1, 1)])), ((96, 4), iA (2, []))], (83, [])),
  (22, [(0, 5), (0, 5), (0, 6)], [(0, rA 90), (1, iA (254, [])), (2, iA (0, [(1, 0)]))], [iA (0, [(1, 1)])], [((96, 3), iA (0, [(1, 2)])), ((96, 4), iA (2, []))], (78, [])),
  (28, [(0, 5), (0, 5), (0, 5), (0, 6)], [(0, rA 90), (1, iA (254, [])), (2, iA (0, [(1, 0)])), (3, iA (0, [(1, 1)]))], [iA (0, [(1, 2)])], [((96, 3), iA (0, [(1, 3)])), ((96, 4), iA (2, []))], (72, [])),
  (36, [(0, 5), (0, 5), (0, 5), (0, 6)], [(0, rA 90), (1, iA (254, [])), (2, iA (0, [(1, 0)])), (3, iA (0, [(1, 1)])), (4, iA (0, [(1, 2)]))], [], [((96, 3), iA (0, [(1, 3)])), ((96, 4), iA (2, []))], (64, [])),
  (40, [(0, 5), (0, 5), (0, 5), (0, 23), (0, 24), (0, 6)], [(0, rA 90), (1, iA (254, [])), (2, iA (0, [(1, 0)])), (3, iA (0, [(1, 1)])), (4, iA (0, [(1, 2)]))], [iA (0, [(1, 3)])], [((96, 2), iA (0, [(1, 4)])), ((96, 3), iA (0, [(1, 5)])), ((96, 4), iA (2, []))], (60, [])),
  (46, [(0, 5), (0, 5), (0, 5), (0, 23), (0, 1), (0, 3), (0, 24), (0, 6)], [(0, rA 90), (1, iA (254, [])), (2, iA (0, [(1, 0)])), (3, iA (0, [(1, 1)])), (4, iA (0, [(1, 2)])), (5, iA (0, [(1, 3)]))], [iA (0, [(1, 4)])], [((90, 12), iA (0, [(1, 5)])), ((96, 2), iA (0, [(1, 6)])), ((96, 3), iA (0, [(1, 7)])), ((96, 4), iA (2, []))], (54, []))] = true := by decide +kernel
theorem r861 {l : Launch} {D : va_G} {tys : List (ClassId × FieldType)} {A : Nat → Prop} {ad : Nat → Nat} (hAD : ∀ i : Nat, ad (1000 + i) = D.2 1000 i) : CRok l D tys A ad GG 8 g861 := CR_of_vrf (dep := 7) hAD (List.forall_mem_cons.mpr ⟨r831 hAD, List.forall_mem_cons.mpr ⟨r845 hAD, fun c hc => by cases hc⟩⟩) T2OK_nil w861
def g862 : CR := (230, [(2, 90, 90)], [((96, 4), (0, 3, 3))], none, [], [90, 96])
theorem w862 : vrf GG [(2, g831), (5, g845)] [] 1278 7 g862
  [(17, [(0, 5), (0, 6)], [(0, rA 90), (1, iA (258, []))], [iA (0, [(1, 0)])], [((96, 3), iA (0, [(1, 1)])), ((96, 4), iA (3, []))], (83, [])),
  (22, [(0, 5), (0, 5), (0, 6)], [(0, rA 90), (1, iA (258, [])), (2, iA (0, [(1, 0)]))], [iA (0, [(1, 1)])], [((96, 3), iA (0, [(1, 2)])), ((96, 4), iA (3, []))], (78, [])),
  (28, [(0, 5), (0, 5), (0, 5), (0, 6)], [(0, rA 90), (1, iA (258, [])), (2, iA (0, [(1, 0)])), (3, iA (0, [(1, 1)]))], [iA (0, [(1, 2)])], [((96, 3), iA (0, [(1, 3)])), ((96, 4), iA (3, []))], (72, [])),
  (36, [(0, 5), (0, 5), (0, 5), (0, 6)], [(0, rA 90), (1, iA (258, [])), (2, iA (0, [(1, 0)])), (3, iA (0, [(1, 1)])), (4, iA (0, [(1, 2)]))], [], [((96, 3), iA (0, [(1, 3)])), ((96, 4), iA (3, []))], (64, [])),
  (40, [(0, 5), (0, 5), (0, 5), (0, 23), (0, 24), (0, 6)], [(0, rA 90), (1, iA (258, [])), (2, iA (0, [(1, 0)])), (3, iA (0, [(1, 1)])), (4, iA (0, [(1, 2)]))], [iA (0, [(1, 3)])], [((96, 2), iA (0, [(1, 4)])), ((96, 3), iA (0, [(1, 5)])), ((96, 4), iA (3, []))], (60, [])),
  (46, [(0, 5), (0, 5), (0, 5), (0, 23), (0, 1), (0, 3), (0, 24), (0, 6)], [(0, rA 90), (1, iA (258, [])), (2, iA (0, [(1, 0)])), (3, iA (0, [(1, 1)])), (4, iA (0, [(1, 2)])), (5, iA (0, [(1, 3)]))], [iA (0, [(1, 4)])], [((90, 12), iA (0, [(1, 5)])), ((96, 2), iA (0, [(1, 6)])), ((96, 3), iA (0, [(1, 7)])), ((96, 4), iA (3, []))], (54, []))] = true := by decide +kernel
theorem r862 {l : Launch} {D : va_G} {tys : List (ClassId × FieldType)} {A : Nat → Prop} {ad : Nat → Nat} (hAD : ∀ i : Nat, ad (1000 + i) = D.2 1000 i) : CRok l D tys A ad GG 8 g862 := CR_of_vrf (dep := 7) hAD (List.forall_mem_cons.mpr ⟨r831 hAD, List.forall_mem_cons.mpr ⟨r845 hAD, fun c hc => by cases hc⟩⟩) T2OK_nil w862
