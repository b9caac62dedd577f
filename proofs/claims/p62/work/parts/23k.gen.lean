def g821 : CR := (216, [(2, 90, 90), (2, 1013, 1013)], [], some (0, 0, 1), [], [])
theorem w821 : vrf GG [] [] 1262 4 g821
  [] = true := by decide +kernel
theorem r821 {l : Launch} {D : va_G} {tys : List (ClassId × FieldType)} {A : Nat → Prop} {ad : Nat → Nat} (hAD : ∀ i : Nat, ad (1000 + i) = D.2 1000 i) : CRok l D tys A ad GG 5 g821 := CR_of_vrf (dep := 4) hAD (fun c hc => by cases hc) T2OK_nil w821
def g822 : CR := (220, [(2, 90, 90), (2, 1013, 1013), (0, 2, 2), (0, 9, 9)], [], some (0, 0, 9), [], [90])
theorem w822 : vrf GG [(2, g819), (5, g821)] [] 543 7 g822
  [] = true := by decide +kernel
theorem r822 {l : Launch} {D : va_G} {tys : List (ClassId × FieldType)} {A : Nat → Prop} {ad : Nat → Nat} (hAD : ∀ i : Nat, ad (1000 + i) = D.2 1000 i) : CRok l D tys A ad GG 8 g822 := CR_of_vrf (dep := 7) hAD (List.forall_mem_cons.mpr ⟨r819 hAD, List.forall_mem_cons.mpr ⟨r821 hAD, fun c hc => by cases hc⟩⟩) T2OK_nil w822
def g823 : CR := (216, [(2, 90, 90), (2, 1014, 1014)], [], some (0, 0, 1), [], [])
theorem w823 : vrf GG [] [] 962 4 g823
  [] = true := by decide +kernel
theorem r823 {l : Launch} {D : va_G} {tys : List (ClassId × FieldType)} {A : Nat → Prop} {ad : Nat → Nat} (hAD : ∀ i : Nat, ad (1000 + i) = D.2 1000 i) : CRok l D tys A ad GG 5 g823 := CR_of_vrf (dep := 4) hAD (fun c hc => by cases hc) T2OK_nil w823
def g824 : CR := (220, [(2, 90, 90), (2, 1014, 1014), (0, 1, 1), (0, 4, 4)], [], some (0, 0, 4), [], [90])
theorem w824 : vrf GG [(2, g819), (5, g823)] [] 543 7 g824
  [] = true := by decide +kernel
theorem r824 {l : Launch} {D : va_G} {tys : List (ClassId × FieldType)} {A : Nat → Prop} {ad : Nat → Nat} (hAD : ∀ i : Nat, ad (1000 + i) = D.2 1000 i) : CRok l D tys A ad GG 8 g824 := CR_of_vrf (dep := 7) hAD (List.forall_mem_cons.mpr ⟨r819 hAD, List.forall_mem_cons.mpr ⟨r823 hAD, fun c hc => by cases hc⟩⟩) T2OK_nil w824
def g825 : CR := (216, [(2, 90, 90), (2, 1015, 1015)], [], some (0, 0, 1), [], [])
theorem w825 : vrf GG [] [] 862 4 g825
  [] = true := by decide +kernel
theorem r825 {l : Launch} {D : va_G} {tys : List (ClassId × FieldType)} {A : Nat → Prop} {ad : Nat → Nat} (hAD : ∀ i : Nat, ad (1000 + i) = D.2 1000 i) : CRok l D tys A ad GG 5 g825 := CR_of_vrf (dep := 4) hAD (fun c hc => by cases hc) T2OK_nil w825
def g826 : CR := (220, [(2, 90, 90), (2, 1015, 1015), (0, 1, 1), (0, 24, 24)], [], some (0, 0, 24), [], [90])
theorem w826 : vrf GG [(2, g819), (5, g825)] [] 543 7 g826
  [] = true := by decide +kernel
theorem r826 {l : Launch} {D : va_G} {tys : List (ClassId × FieldType)} {A : Nat → Prop} {ad : Nat → Nat} (hAD : ∀ i : Nat, ad (1000 + i) = D.2 1000 i) : CRok l D tys A ad GG 8 g826 := CR_of_vrf (dep := 7) hAD (List.forall_mem_cons.mpr ⟨r819 hAD, List.forall_mem_cons.mpr ⟨r825 hAD, fun c hc => by cases hc⟩⟩) T2OK_nil w826
def g827 : CR := (225, [(2, 90, 90)], [], none, [], [90, 96])
theorem w827 : vrf GG [(2, g819), (5, g820), (8, g822), (8, g824), (8, g826)] [] 300 8 g827
  [] = true := by decide +kernel
theorem r827 {l : Launch} {D : va_G} {tys : List (ClassId × FieldType)} {A : Nat → Prop} {ad : Nat → Nat} (hAD : ∀ i : Nat, ad (1000 + i) = D.2 1000 i) : CRok l D tys A ad GG 9 g827 := CR_of_vrf (dep := 8) hAD (List.forall_mem_cons.mpr ⟨r819 hAD, List.forall_mem_cons.mpr ⟨r820 hAD, List.forall_mem_cons.mpr ⟨r822 hAD, List.forall_mem_cons.mpr ⟨r824 hAD, List.forall_mem_cons.mpr ⟨r826 hAD, fun c hc => by cases hc⟩⟩⟩⟩⟩) T2OK_nil w827
def g828 : CR := (216, [(2, 90, 90), (2, 1016, 1016)], [], some (0, 0, 1), [], [])
theorem w828 : vrf GG [] [] 562 4 g828
  [] = true := by decide +kernel
theorem r828 {l : Launch} {D : va_G} {tys : List (ClassId × FieldType)} {A : Nat → Prop} {ad : Nat → Nat} (hAD : ∀ i : Nat, ad (1000 + i) = D.2 1000 i) : CRok l D tys A ad GG 5 g828 := CR_of_vrf (dep := 4) hAD (fun c hc => by cases hc) T2OK_nil w828
def g829 : CR := (228, [(2, 90, 90)], [], none, [], [90, 97])
theorem w829 : vrf GG [(2, g819), (5, g828)] [] 987 7 g829
  [(4, [(0, 5), (0, 6)], [(0, rA 90)], [iA (0, [(1, 0)])], [((96, 3), iA (0, [(1, 1)]))], (47, [])),
  (18, [(0, 5), (0, 3), (0, 4), (0, 6)], [(0, rA 90), (1, iA (0, [(1, 0)]))], [iA (0, [(1, 1)])], [((96, 1), iA (0, [(1, 2)])), ((96, 3), iA (0, [(1, 3)]))], (33, [])),
  (25, [(0, 5), (0, 3), (0, 4), (0, 6)], [(0, rA 90), (1, iA (0, [(1, 0)])), (2, iA (0, [(1, 1)]))], [], [((96, 1), iA (0, [(1, 2)])), ((96, 3), iA (0, [(1, 3)]))], (26, [])),
  (29, [(0, 5), (0, 3), (0, 23), (0, 4), (0, 24), (0, 6)], [(0, rA 90), (1, iA (0, [(1, 0)])), (2, iA (0, [(1, 1)]))], [iA (0, [(1, 2)])], [((96, 1), iA (0, [(1, 3)])), ((96, 2), iA (0, [(1, 4)])), ((96, 3), iA (0, [(1, 5)]))], (22, [])),
  (34, [(0, 5), (0, 3), (0, 23), (0, 1), (0, 3), (0, 4), (0, 24), (0, 6)], [(0, rA 90), (1, iA (0, [(1, 0)])), (2, iA (0, [(1, 1)])), (3, iA (0, [(1, 2)]))], [iA (0, [(1, 3)])], [((90, 12), iA (0, [(1, 4)])), ((96, 1), iA (0, [(1, 5)])), ((96, 2), iA (0, [(1, 6)])), ((96, 3), iA (0, [(1, 7)]))], (17, []))] = true := by decide +kernel
theorem r829 {l : Launch} {D : va_G} {tys : List (ClassId × FieldType)} {A : Nat → Prop} {ad : Nat → Nat} (hAD : ∀ i : Nat, ad (1000 + i) = D.2 1000 i) : CRok l D tys A ad GG 8 g829 := CR_of_vrf (dep := 7) hAD (List.forall_mem_cons.mpr ⟨r819 hAD, List.forall_mem_cons.mpr ⟨r828 hAD, fun c hc => by cases hc⟩⟩) T2OK_nil w829
def g830 : CR := (229, [(2, 90, 90)], [], none, [], [90, 96])
theorem w830 : vrf GG [(2, g819)] [] 1112 5 g830
  [(4, [(0, 5), (0, 6)], [(0, rA 90)], [iA (0, [(1, 0)])], [((96, 3), iA (0, [(1, 1)]))], (42, [])),
  (10, [(0, 5), (0, 5), (0, 6)], [(0, rA 90), (1, iA (0, [(1, 0)]))], [iA (0, [(1, 1)])], [((96, 3), iA (0, [(1, 2)]))], (36, [])),
  (16, [(0, 5), (0, 5), (0, 5), (0, 6)], [(0, rA 90), (1, iA (0, [(1, 0)])), (2, iA (0, [(1, 1)]))], [iA (0, [(1, 2)])], [((96, 3), iA (0, [(1, 3)]))], (30, [])),
  (21, [(0, 5), (0, 5), (0, 5), (0, 1), (0, 3), (0, 6)], [(0, rA 90), (1, iA (0, [(1, 0)])), (2, iA (0, [(1, 1)])), (3, iA (0, [(1, 2)]))], [iA (0, [(1, 3)])], [((90, 12), iA (0, [(1, 4)])), ((96, 3), iA (0, [(1, 5)]))], (25, []))] = true := by decide +kernel
theorem r830 {l : Launch} {D : va_G} {tys : List (ClassId × FieldType)} {A : Nat → Prop} {ad : Nat → Nat} (hAD : ∀ i : Nat, ad (1000 + i) = D.2 1000 i) : CRok l D tys A ad GG 6 g830 := CR_of_vrf (dep := 5) hAD (List.forall_mem_cons.mpr ⟨r819 hAD, fun c hc => by cases hc⟩) T2OK_nil w830
def g832 : CR := (226, [(2, 90, 90)], [((96, 0), (0, 0, 0)), ((96, 3), (0, 0, 5))], none, [], [90])
theorem w832 : vrf GG [] [] 547 3 g832
  [(9, [(0, 5), (0, 5)], [(0, rA 90), (1, iA (0, [(1, 0)])), (2, iA (0, []))], [], [((96, 0), iA (0, [])), ((96, 3), iA (0, [(1, 1)]))], (248, []))] = true := by decide +kernel
theorem r832 {l : Launch} {D : va_G} {tys : List (ClassId × FieldType)} {A : Nat → Prop} {ad : Nat → Nat} (hAD : ∀ i : Nat, ad (1000 + i) = D.2 1000 i) : CRok l D tys A ad GG 4 g832 := CR_of_vrf (dep := 3) hAD (fun c hc => by cases hc) T2OK_nil w832
def g833 : CR := (226, [(2, 90, 90)], [((96, 0), (0, 1, 1)), ((96, 3), (0, 0, 5))], none, [], [90, 96])
theorem w833 : vrf GG [(2, g819)] [] 789 3 g833
  [(9, [(0, 5), (0, 6), (0, 5)], [(0, rA 90), (1, iA (0, [(1, 0)])), (2, iA (0, [(1, 1)]))], [], [((96, 0), iA (1, [])), ((96, 3), iA (0, [(1, 2)]))], (1856, [((-268), 1)]))] = true := by decide +kernel
theorem r833 {l : Launch} {D : va_G} {tys : List (ClassId × FieldType)} {A : Nat → Prop} {ad : Nat → Nat} (hAD : ∀ i : Nat, ad (1000 + i) = D.2 1000 i) : CRok l D tys A ad GG 4 g833 := CR_of_vrf (dep := 3) hAD (List.forall_mem_cons.mpr ⟨r819 hAD, fun c hc => by cases hc⟩) T2OK_nil w833
def g834 : CR := (226, [(2, 90, 90)], [((96, 0), (0, 2, 2)), ((96, 3), (0, 0, 5))], none, [], [90, 96])
theorem w834 : vrf GG [(2, g819)] [] 789 3 g834
  [(9, [(0, 5), (0, 6), (0, 5)], [(0, rA 90), (1, iA (0, [(1, 0)])), (2, iA (0, [(1, 1)]))], [], [((96, 0), iA (2, [])), ((96, 3), iA (0, [(1, 2)]))], (1856, [((-268), 1)]))] = true := by decide +kernel
theorem r834 {l : Launch} {D : va_G} {tys : List (ClassId × FieldType)} {A : Nat → Prop} {ad : Nat → Nat} (hAD : ∀ i : Nat, ad (1000 + i) = D.2 1000 i) : CRok l D tys A ad GG 4 g834 := CR_of_vrf (dep := 3) hAD (List.forall_mem_cons.mpr ⟨r819 hAD, fun c hc => by cases hc⟩) T2OK_nil w834
def g835 : CR := (226, [(2, 90, 90)], [((96, 0), (0, 3, 3)), ((96, 3), (0, 0, 5))], none, [], [90, 96])
theorem w835 : vrf GG [(2, g819)] [] 789 3 g835
  [(9, [(0, 5), (0, 6), (0, 5)], [(0, rA 90), (1, iA (0, [(1, 0)])), (2, iA (0, [(1, 1)]))], [], [((96, 0), iA (3, [])), ((96, 3), iA (0, [(1, 2)]))], (1856, [((-268), 1)]))] = true := by decide +kernel
theorem r835 {l : Launch} {D : va_G} {tys : List (ClassId × FieldType)} {A : Nat → Prop} {ad : Nat → Nat} (hAD : ∀ i : Nat, ad (1000 + i) = D.2 1000 i) : CRok l D tys A ad GG 4 g835 := CR_of_vrf (dep := 3) hAD (List.forall_mem_cons.mpr ⟨r819 hAD, fun c hc => by cases hc⟩) T2OK_nil w835
def g836 : CR := (226, [(2, 90, 90)], [((96, 0), (0, 4, 4)), ((96, 3), (0, 0, 5))], none, [], [90, 96])
theorem w836 : vrf GG [(2, g819)] [] 789 3 g836
  [(9, [(0, 5), (0, 6), (0, 5)], [(0, rA 90), (1, iA (0, [(1, 0)])), (2, iA (0, [(1, 1)]))], [], [((96, 0), iA (4, [])), ((96, 3), iA (0, [(1, 2)]))], (1856, [((-268), 1)]))] = true := by decide +kernel
theorem r836 {l : Launch} {D : va_G} {tys : List (ClassId × FieldType)} {A : Nat → Prop} {ad : Nat → Nat} (hAD : ∀ i : Nat, ad (1000 + i) = D.2 1000 i) : CRok l D tys A ad GG 4 g836 := CR_of_vrf (dep := 3) hAD (List.forall_mem_cons.mpr ⟨r819 hAD, fun c hc => by cases hc⟩) T2OK_nil w836
def g837 : CR := (226, [(2, 90, 90)], [((96, 0), (0, 5, 5)), ((96, 3), (0, 0, 5))], none, [], [90, 96])
theorem w837 : vrf GG [(2, g819)] [] 789 3 g837
  [(9, [(0, 5), (0, 6), (0, 5)], [(0, rA 90), (1, iA (0, [(1, 0)])), (2, iA (0, [(1, 1)]))], [], [((96, 0), iA (5, [])), ((96, 3), iA (0, [(1, 2)]))], (1856, [((-268), 1)]))] = true := by decide +kernel
theorem r837 {l : Launch} {D : va_G} {tys : List (ClassId × FieldType)} {A : Nat → Prop} {ad : Nat → Nat} (hAD : ∀ i : Nat, ad (1000 + i) = D.2 1000 i) : CRok l D tys A ad GG 4 g837 := CR_of_vrf (dep := 3) hAD (List.forall_mem_cons.mpr ⟨r819 hAD, fun c hc => by cases hc⟩) T2OK_nil w837
def g838 : CR := (226, [(2, 90, 90)], [((96, 0), (0, 6, 6)), ((96, 3), (0, 0, 5))], none, [], [90, 96])
theorem w838 : vrf GG [(2, g819)] [] 789 3 g838
  [(9, [(0, 5), (0, 6), (0, 5)], [(0, rA 90), (1, iA (0, [(1, 0)])), (2, iA (0, [(1, 1)]))], [], [((96, 0), iA (6, [])), ((96, 3), iA (0, [(1, 2)]))], (1856, [((-268), 1)]))] = true := by decide +kernel
theorem r838 {l : Launch} {D : va_G} {tys : List (ClassId × FieldType)} {A : Nat → Prop} {ad : Nat → Nat} (hAD : ∀ i : Nat, ad (1000 + i) = D.2 1000 i) : CRok l D tys A ad GG 4 g838 := CR_of_vrf (dep := 3) hAD (List.forall_mem_cons.mpr ⟨r819 hAD, fun c hc => by cases hc⟩) T2OK_nil w838
def g839 : CR := (226, [(2, 90, 90)], [((96, 0), (0, 7, 7)), ((96, 3), (0, 0, 5))], none, [], [90, 96])
theorem w839 : vrf GG [(2, g819)] [] 789 3 g839
  [(9, [(0, 5), (0, 6), (0, 5)], [(0, rA 90), (1, iA (0, [(1, 0)])), (2, iA (0, [(1, 1)]))], [], [((96, 0), iA (7, [])), ((96, 3), iA (0, [(1, 2)]))], (1856, [((-268), 1)]))] = true := by decide +kernel
theorem r839 {l : Launch} {D : va_G} {tys : List (ClassId × FieldType)} {A : Nat → Prop} {ad : Nat → Nat} (hAD : ∀ i : Nat, ad (1000 + i) = D.2 1000 i) : CRok l D tys A ad GG 4 g839 := CR_of_vrf (dep := 3) hAD (List.forall_mem_cons.mpr ⟨r819 hAD, fun c hc => by cases hc⟩) T2OK_nil w839
def g840 : CR := (226, [(2, 90, 90)], [((96, 0), (0, 8, 8)), ((96, 3), (0, 0, 5))], none, [], [90, 96])
theorem w840 : vrf GG [(2, g819)] [] 789 3 g840
  [(9, [(0, 5), (0, 6), (0, 5)], [(0, rA 90), (1, iA (0, [(1, 0)])), (2, iA (0, [(1, 1)]))], [], [((96, 0), iA (8, [])), ((96, 3), iA (0, [(1, 2)]))], (1856, [((-268), 1)]))] = true := by decide +kernel
theorem r840 {l : Launch} {D : va_G} {tys : List (ClassId × FieldType)} {A : Nat → Prop} {ad : Nat → Nat} (hAD : ∀ i : Nat, ad (1000 + i) = D.2 1000 i) : CRok l D tys A ad GG 4 g840 := CR_of_vrf (dep := 3) hAD (List.forall_mem_cons.mpr ⟨r819 hAD, fun c hc => by cases hc⟩) T2OK_nil w840
def g841 : CR := (226, [(2, 90, 90)], [((96, 0), (0, 9, 9)), ((96, 3), (0, 0, 5))], none, [], [90, 96])
theorem w841 : vrf GG [(2, g819)] [] 789 3 g841
  [(9, [(0, 5), (0, 6), (0, 5)], [(0, rA 90), (1, iA (0, [(1, 0)])), (2, iA (0, [(1, 1)]))], [], [((96, 0), iA (9, [])), ((96, 3), iA (0, [(1, 2)]))], (1856, [((-268), 1)]))] = true := by decide +kernel
theorem r841 {l : Launch} {D : va_G} {tys : List (ClassId × FieldType)} {A : Nat → Prop} {ad : Nat → Nat} (hAD : ∀ i : Nat, ad (1000 + i) = D.2 1000 i) : CRok l D tys A ad GG 4 g841 := CR_of_vrf (dep := 3) hAD (List.forall_mem_cons.mpr ⟨r819 hAD, fun c hc => by cases hc⟩) T2OK_nil w841
def g842 : CR := (230, [(2, 90, 90)], [((96, 4), (0, 0, 0))], none, [], [90, 96])
theorem w842 : vrf GG [(2, g819), (5, g828)] [] 1278 7 g842
  [(17, [(0, 5), (0, 6)], [(0, rA 90), (1, iA (246, []))], [iA (0, [(1, 0)])], [((96, 3), iA (0, [(1, 1)])), ((96, 4), iA (0, []))], (83, [])),
  (22, [(0, 5), (0, 5), (0, 6)], [(0, rA 90), (1, iA (246, [])), (2, iA (0, [(1, 0)]))], [iA (0, [(1, 1)])], [((96, 3), iA (0, [(1, 2)])), ((96, 4), iA (0, []))], (78, [])),
  (28, [(0, 5), (0, 5), (0, 5), (0, 6)], [(0, rA 90), (1, iA (246, [])), (2, iA (0, [(1, 0)])), (3, iA (0, [(1, 1)]))], [iA (0, [(1, 2)])], [((96, 3), iA (0, [(1, 3)])), ((96, 4), iA (0, []))], (72, [])),
  (36, [(0, 5), (0, 5), (0, 5), (0, 6)], [(0, rA 90), (1, iA (246, [])), (2, iA (0, [(1, 0)])), (3, iA (0, [(1, 1)])), (4, iA (0, [(1, 2)]))], [], [((96, 3), iA (0, [(1, 3)])), ((96, 4), iA (0, []))], (64, [])),
  (40, [(0, 5), (0, 5), (0, 5), (0, 23), (0, 24), (0, 6)], [(0, rA 90), (1, iA (246, [])), (2, iA (0, [(1, 0)])), (3, iA (0, [(1, 1)])), (4, iA (0, [(1, 2)]))], [iA (0, [(1, 3)])], [((96, 2), iA (0, [(1, 4)])), ((96, 3), iA (0, [(1, 5)])), ((96, 4), iA (0, []))], (60, [])),
  (46, [(0, 5), (0, 5), (0, 5), (0, 23), (0, 1), (0, 3), (0, 24), (0, 6)], [(0, rA 90), (1, iA (246, [])), (2, iA (0, [(1, 0)])), (3, iA (0, [(1, 1)])), (4, iA (0, [(1, 2)])), (5, iA (0, [(1, 3)]))], [iA (0, [(1, 4)])], [((90, 12), iA (0, [(1, 5)])), ((96, 2), iA (0, [(1, 6)])), ((96, 3), iA (0, [(1, 7)])), ((96, 4), iA (0, []))], (54, []))] = true := by decide +kernel
theorem r842 {l : Launch} {D : va_G} {tys : List (ClassId × FieldType)} {A : Nat → Prop} {ad : Nat → Nat} (hAD : ∀ i : Nat, ad (1000 + i) = D.2 1000 i) : CRok l D tys A ad GG 8 g842 := CR_of_vrf (dep := 7) hAD (List.forall_mem_cons.mpr ⟨r819 hAD, List.forall_mem_cons.mpr ⟨r828 hAD, fun c hc => by cases hc⟩⟩) T2OK_nil w842
def g843 : CR := (230, [(2, 90, 90)], [((96, 4), (0, 1, 1))], none, [], [90, 96])
theorem w843 : vrf GG [(2, g819), (5, g828)] [] 1278 7 g843
  [(17, [(0, 5), (0, 6)], [(0, rA 90), (1, iA (250, []))], [iA (0, [(1, 0)])], [((96, 3), iA (0, [(1, 1)])), ((96, 4), iA (1, []))], (83, [])),
  (22, [(0, 5), (0, 5), (0, 6)], [(0, rA 90), (1, iA (250, [])), (2, iA (0, [(1, 0)]))], [iA (0, [(1, 1)])], [((96, 3), iA (0, [(1, 2)])), ((96, 4), iA (1, []))], (78, [])),
  (28, [(0, 5), (0, 5), (0, 5), (0, 6)], [(0, rA 90), (1, iA (250, [])), (2, iA (0, [(1, 0)])), (3, iA (0, [(1, 1)]))], [iA (0, [(1, 2)])], [((96, 3), iA (0, [(1, 3)])), ((96, 4), iA (1, []))], (72, [])),
  (36, [(0, 5), (0, 5), (0, 5), (0, 6)], [(0, rA 90), (1, iA (250, [])), (2, iA (0, [(1, 0)])), (3, iA (0, [(1, 1)])), (4, iA (0, [(1, 2)]))], [], [((96, 3), iA (0, [(1, 3)])), ((96, 4), iA (1, []))], (64, [])),
  (40, [(0, 5), (0, 5), (0, 5), (0, 23), (0, 24), (0, 6)], [(0, rA 90), (1, iA (250, [])), (2, iA (0, [(1, 0)])), (3, iA (0, [(1, 1)])), (4, iA (0, [(1, 2)]))], [iA (0, [(1, 3)])], [((96, 2), iA (0, [(1, 4)])), ((96, 3), iA (0, [(1, 5)])), ((96, 4), iA (1, []))], (60, [])),
  (46, [(0, 5), (0, 5), (0, 5), (0, 23), (0, 1), (0, 3), (0, 24), (0, 6)], [(0, rA 90), (1, iA (250, [])), (2, iA (0, [(1, 0)])), (3, iA (0, [(1, 1)])), (4, iA (0, [(1, 2)])), (5, iA (0, [(1, 3)]))], [iA (0, [(1, 4)])], [((90, 12), iA (0, [(1, 5)])), ((96, 2), iA (0, [(1, 6)])), ((96, 3), iA (0, [(1, 7)])), ((96, 4), iA (1, []))], (54, []))] = true := by decide +kernel
theorem r843 {l : Launch} {D : va_G} {tys : List (ClassId × FieldType)} {A : Nat → Prop} {ad : Nat → Nat} (hAD : ∀ i : Nat, ad (1000 + i) = D.2 1000 i) : CRok l D tys A ad GG 8 g843 := CR_of_vrf (dep := 7) hAD (List.forall_mem_cons.mpr ⟨r819 hAD, List.forall_mem_cons.mpr ⟨r828 hAD, fun c hc => by cases hc⟩⟩) T2OK_nil w843
