def g803 : CR := (340, [(2, 90, 90), (0, 0, 3), (0, (-2147483648), 2147483647), (0, 0, 3), (0, (-2147483648), 2147483647), (0, 48, 48)], [], some (0, (-8), 0), [], [109, 110])
theorem w803 : vrf GG [] [] 300 2 g803
  [(113, [(0, 3), (0, 12), (0, 3), (0, 12), (0, 48)], [(0, rA 90), (1, iA (0, [(1, 0)])), (2, iA (0, [(1, 1)])), (3, iA (0, [(1, 2)])), (4, iA (0, [(1, 3)])), (5, iA (48, [])), (6, iA (0, [(1, 4)]))], [], [], (37194, [((-378), 4)])),
  (150, [(0, 3), (0, 12), (0, 3), (0, 12), (0, 48)], [(0, rA 90), (1, iA (0, [(1, 0)])), (2, iA (0, [(1, 1)])), (3, iA (0, [(1, 2)])), (4, iA (0, [(1, 3)])), (5, iA (48, [])), (6, iA (0, [(1, 4)]))], [], [], (18220, [((-378), 4)]))] = true := by decide +kernel
theorem r803 {l : Launch} {D : va_G} {tys : List (ClassId × FieldType)} {A : Nat → Prop} {ad : Nat → Nat} (hAD : ∀ i : Nat, ad (1000 + i) = D.2 1000 i) : CRok l D tys A ad GG 3 g803 := CR_of_vrf (dep := 2) hAD (fun c hc => by cases hc) T2OK_nil w803
def g804 : CR := (340, [(2, 90, 90), (0, 0, 3), (0, (-2147483648), 2147483647), (0, 0, 3), (0, (-2147483648), 2147483647), (0, 49, 49)], [], some (0, (-8), 0), [], [109, 110])
theorem w804 : vrf GG [] [] 300 2 g804
  [(113, [(0, 3), (0, 11), (0, 3), (0, 11), (0, 49)], [(0, rA 90), (1, iA (0, [(1, 0)])), (2, iA (0, [(1, 1)])), (3, iA (0, [(1, 2)])), (4, iA (0, [(1, 3)])), (5, iA (49, [])), (6, iA (0, [(1, 4)]))], [], [], (37950, [((-378), 4)])),
  (150, [(0, 3), (0, 11), (0, 3), (0, 11), (0, 49)], [(0, rA 90), (1, iA (0, [(1, 0)])), (2, iA (0, [(1, 1)])), (3, iA (0, [(1, 2)])), (4, iA (0, [(1, 3)])), (5, iA (49, [])), (6, iA (0, [(1, 4)]))], [], [], (18598, [((-378), 4)]))] = true := by decide +kernel
theorem r804 {l : Launch} {D : va_G} {tys : List (ClassId × FieldType)} {A : Nat → Prop} {ad : Nat → Nat} (hAD : ∀ i : Nat, ad (1000 + i) = D.2 1000 i) : CRok l D tys A ad GG 3 g804 := CR_of_vrf (dep := 2) hAD (fun c hc => by cases hc) T2OK_nil w804
def g805 : CR := (340, [(2, 90, 90), (0, 0, 3), (0, (-2147483648), 2147483647), (0, 0, 3), (0, (-2147483648), 2147483647), (0, 50, 50)], [], some (0, (-8), 0), [], [109, 110])
theorem w805 : vrf GG [] [] 300 2 g805
  [(113, [(0, 3), (0, 10), (0, 3), (0, 10), (0, 50)], [(0, rA 90), (1, iA (0, [(1, 0)])), (2, iA (0, [(1, 1)])), (3, iA (0, [(1, 2)])), (4, iA (0, [(1, 3)])), (5, iA (50, [])), (6, iA (0, [(1, 4)]))], [], [], (38706, [((-378), 4)])),
  (150, [(0, 3), (0, 10), (0, 3), (0, 10), (0, 50)], [(0, rA 90), (1, iA (0, [(1, 0)])), (2, iA (0, [(1, 1)])), (3, iA (0, [(1, 2)])), (4, iA (0, [(1, 3)])), (5, iA (50, [])), (6, iA (0, [(1, 4)]))], [], [], (18976, [((-378), 4)]))] = true := by decide +kernel
theorem r805 {l : Launch} {D : va_G} {tys : List (ClassId × FieldType)} {A : Nat → Prop} {ad : Nat → Nat} (hAD : ∀ i : Nat, ad (1000 + i) = D.2 1000 i) : CRok l D tys A ad GG 3 g805 := CR_of_vrf (dep := 2) hAD (fun c hc => by cases hc) T2OK_nil w805
def g806 : CR := (340, [(2, 90, 90), (0, 0, 3), (0, (-2147483648), 2147483647), (0, 0, 3), (0, (-2147483648), 2147483647), (0, 51, 51)], [], some (0, (-8), 0), [], [109, 110])
theorem w806 : vrf GG [] [] 300 2 g806
  [(113, [(0, 3), (0, 9), (0, 3), (0, 9), (0, 51)], [(0, rA 90), (1, iA (0, [(1, 0)])), (2, iA (0, [(1, 1)])), (3, iA (0, [(1, 2)])), (4, iA (0, [(1, 3)])), (5, iA (51, [])), (6, iA (0, [(1, 4)]))], [], [], (39462, [((-378), 4)])),
  (150, [(0, 3), (0, 9), (0, 3), (0, 9), (0, 51)], [(0, rA 90), (1, iA (0, [(1, 0)])), (2, iA (0, [(1, 1)])), (3, iA (0, [(1, 2)])), (4, iA (0, [(1, 3)])), (5, iA (51, [])), (6, iA (0, [(1, 4)]))], [], [], (19354, [((-378), 4)]))] = true := by decide +kernel
theorem r806 {l : Launch} {D : va_G} {tys : List (ClassId × FieldType)} {A : Nat → Prop} {ad : Nat → Nat} (hAD : ∀ i : Nat, ad (1000 + i) = D.2 1000 i) : CRok l D tys A ad GG 3 g806 := CR_of_vrf (dep := 2) hAD (fun c hc => by cases hc) T2OK_nil w806
def g807 : CR := (340, [(2, 90, 90), (0, 0, 3), (0, (-2147483648), 2147483647), (0, 0, 3), (0, (-2147483648), 2147483647), (0, 52, 52)], [], some (0, (-8), 0), [], [109, 110])
theorem w807 : vrf GG [] [] 300 2 g807
  [(113, [(0, 3), (0, 8), (0, 3), (0, 8), (0, 52)], [(0, rA 90), (1, iA (0, [(1, 0)])), (2, iA (0, [(1, 1)])), (3, iA (0, [(1, 2)])), (4, iA (0, [(1, 3)])), (5, iA (52, [])), (6, iA (0, [(1, 4)]))], [], [], (40218, [((-378), 4)])),
  (150, [(0, 3), (0, 8), (0, 3), (0, 8), (0, 52)], [(0, rA 90), (1, iA (0, [(1, 0)])), (2, iA (0, [(1, 1)])), (3, iA (0, [(1, 2)])), (4, iA (0, [(1, 3)])), (5, iA (52, [])), (6, iA (0, [(1, 4)]))], [], [], (19732, [((-378), 4)]))] = true := by decide +kernel
theorem r807 {l : Launch} {D : va_G} {tys : List (ClassId × FieldType)} {A : Nat → Prop} {ad : Nat → Nat} (hAD : ∀ i : Nat, ad (1000 + i) = D.2 1000 i) : CRok l D tys A ad GG 3 g807 := CR_of_vrf (dep := 2) hAD (fun c hc => by cases hc) T2OK_nil w807
def g808 : CR := (340, [(2, 90, 90), (0, 0, 3), (0, (-2147483648), 2147483647), (0, 0, 3), (0, (-2147483648), 2147483647), (0, 53, 53)], [], some (0, (-8), 0), [], [109, 110])
theorem w808 : vrf GG [] [] 300 2 g808
  [(113, [(0, 3), (0, 7), (0, 3), (0, 7), (0, 53)], [(0, rA 90), (1, iA (0, [(1, 0)])), (2, iA (0, [(1, 1)])), (3, iA (0, [(1, 2)])), (4, iA (0, [(1, 3)])), (5, iA (53, [])), (6, iA (0, [(1, 4)]))], [], [], (40974, [((-378), 4)])),
  (150, [(0, 3), (0, 7), (0, 3), (0, 7), (0, 53)], [(0, rA 90), (1, iA (0, [(1, 0)])), (2, iA (0, [(1, 1)])), (3, iA (0, [(1, 2)])), (4, iA (0, [(1, 3)])), (5, iA (53, [])), (6, iA (0, [(1, 4)]))], [], [], (20110, [((-378), 4)]))] = true := by decide +kernel
theorem r808 {l : Launch} {D : va_G} {tys : List (ClassId × FieldType)} {A : Nat → Prop} {ad : Nat → Nat} (hAD : ∀ i : Nat, ad (1000 + i) = D.2 1000 i) : CRok l D tys A ad GG 3 g808 := CR_of_vrf (dep := 2) hAD (fun c hc => by cases hc) T2OK_nil w808
def g809 : CR := (340, [(2, 90, 90), (0, 0, 3), (0, (-2147483648), 2147483647), (0, 0, 3), (0, (-2147483648), 2147483647), (0, 54, 54)], [], some (0, (-8), 0), [], [109, 110])
theorem w809 : vrf GG [] [] 300 2 g809
  [(113, [(0, 3), (0, 6), (0, 3), (0, 6), (0, 54)], [(0, rA 90), (1, iA (0, [(1, 0)])), (2, iA (0, [(1, 1)])), (3, iA (0, [(1, 2)])), (4, iA (0, [(1, 3)])), (5, iA (54, [])), (6, iA (0, [(1, 4)]))], [], [], (41730, [((-378), 4)])),
  (150, [(0, 3), (0, 6), (0, 3), (0, 6), (0, 54)], [(0, rA 90), (1, iA (0, [(1, 0)])), (2, iA (0, [(1, 1)])), (3, iA (0, [(1, 2)])), (4, iA (0, [(1, 3)])), (5, iA (54, [])), (6, iA (0, [(1, 4)]))], [], [], (20488, [((-378), 4)]))] = true := by decide +kernel
theorem r809 {l : Launch} {D : va_G} {tys : List (ClassId × FieldType)} {A : Nat → Prop} {ad : Nat → Nat} (hAD : ∀ i : Nat, ad (1000 + i) = D.2 1000 i) : CRok l D tys A ad GG 3 g809 := CR_of_vrf (dep := 2) hAD (fun c hc => by cases hc) T2OK_nil w809
def g810 : CR := (340, [(2, 90, 90), (0, 0, 3), (0, (-2147483648), 2147483647), (0, 0, 3), (0, (-2147483648), 2147483647), (0, 55, 55)], [], some (0, (-8), 0), [], [109, 110])
theorem w810 : vrf GG [] [] 300 2 g810
  [(113, [(0, 3), (0, 5), (0, 3), (0, 5), (0, 55)], [(0, rA 90), (1, iA (0, [(1, 0)])), (2, iA (0, [(1, 1)])), (3, iA (0, [(1, 2)])), (4, iA (0, [(1, 3)])), (5, iA (55, [])), (6, iA (0, [(1, 4)]))], [], [], (42486, [((-378), 4)])),
  (150, [(0, 3), (0, 5), (0, 3), (0, 5), (0, 55)], [(0, rA 90), (1, iA (0, [(1, 0)])), (2, iA (0, [(1, 1)])), (3, iA (0, [(1, 2)])), (4, iA (0, [(1, 3)])), (5, iA (55, [])), (6, iA (0, [(1, 4)]))], [], [], (20866, [((-378), 4)]))] = true := by decide +kernel
theorem r810 {l : Launch} {D : va_G} {tys : List (ClassId × FieldType)} {A : Nat → Prop} {ad : Nat → Nat} (hAD : ∀ i : Nat, ad (1000 + i) = D.2 1000 i) : CRok l D tys A ad GG 3 g810 := CR_of_vrf (dep := 2) hAD (fun c hc => by cases hc) T2OK_nil w810
def g811 : CR := (340, [(2, 90, 90), (0, 0, 3), (0, (-2147483648), 2147483647), (0, 0, 3), (0, (-2147483648), 2147483647), (0, 56, 56)], [], some (0, (-8), 0), [], [109, 110])
theorem w811 : vrf GG [] [] 300 2 g811
  [(113, [(0, 3), (0, 4), (0, 3), (0, 4), (0, 56)], [(0, rA 90), (1, iA (0, [(1, 0)])), (2, iA (0, [(1, 1)])), (3, iA (0, [(1, 2)])), (4, iA (0, [(1, 3)])), (5, iA (56, [])), (6, iA (0, [(1, 4)]))], [], [], (43242, [((-378), 4)])),
  (150, [(0, 3), (0, 4), (0, 3), (0, 4), (0, 56)], [(0, rA 90), (1, iA (0, [(1, 0)])), (2, iA (0, [(1, 1)])), (3, iA (0, [(1, 2)])), (4, iA (0, [(1, 3)])), (5, iA (56, [])), (6, iA (0, [(1, 4)]))], [], [], (21244, [((-378), 4)]))] = true := by decide +kernel
theorem r811 {l : Launch} {D : va_G} {tys : List (ClassId × FieldType)} {A : Nat → Prop} {ad : Nat → Nat} (hAD : ∀ i : Nat, ad (1000 + i) = D.2 1000 i) : CRok l D tys A ad GG 3 g811 := CR_of_vrf (dep := 2) hAD (fun c hc => by cases hc) T2OK_nil w811
def g812 : CR := (340, [(2, 90, 90), (0, 0, 3), (0, (-2147483648), 2147483647), (0, 0, 3), (0, (-2147483648), 2147483647), (0, 57, 57)], [], some (0, (-8), 0), [], [109, 110])
theorem w812 : vrf GG [] [] 300 2 g812
  [(113, [(0, 3), (0, 3), (0, 3), (0, 3), (0, 57)], [(0, rA 90), (1, iA (0, [(1, 0)])), (2, iA (0, [(1, 1)])), (3, iA (0, [(1, 2)])), (4, iA (0, [(1, 3)])), (5, iA (57, [])), (6, iA (0, [(1, 4)]))], [], [], (43998, [((-378), 4)])),
  (150, [(0, 3), (0, 3), (0, 3), (0, 3), (0, 57)], [(0, rA 90), (1, iA (0, [(1, 0)])), (2, iA (0, [(1, 1)])), (3, iA (0, [(1, 2)])), (4, iA (0, [(1, 3)])), (5, iA (57, [])), (6, iA (0, [(1, 4)]))], [], [], (21622, [((-378), 4)]))] = true := by decide +kernel
theorem r812 {l : Launch} {D : va_G} {tys : List (ClassId × FieldType)} {A : Nat → Prop} {ad : Nat → Nat} (hAD : ∀ i : Nat, ad (1000 + i) = D.2 1000 i) : CRok l D tys A ad GG 3 g812 := CR_of_vrf (dep := 2) hAD (fun c hc => by cases hc) T2OK_nil w812
def g813 : CR := (340, [(2, 90, 90), (0, 0, 3), (0, (-2147483648), 2147483647), (0, 0, 3), (0, (-2147483648), 2147483647), (0, 58, 58)], [], some (0, (-8), 0), [], [109, 110])
theorem w813 : vrf GG [] [] 300 2 g813
  [(113, [(0, 3), (0, 2), (0, 3), (0, 2), (0, 58)], [(0, rA 90), (1, iA (0, [(1, 0)])), (2, iA (0, [(1, 1)])), (3, iA (0, [(1, 2)])), (4, iA (0, [(1, 3)])), (5, iA (58, [])), (6, iA (0, [(1, 4)]))], [], [], (44754, [((-378), 4)])),
  (150, [(0, 3), (0, 2), (0, 3), (0, 2), (0, 58)], [(0, rA 90), (1, iA (0, [(1, 0)])), (2, iA (0, [(1, 1)])), (3, iA (0, [(1, 2)])), (4, iA (0, [(1, 3)])), (5, iA (58, [])), (6, iA (0, [(1, 4)]))], [], [], (22000, [((-378), 4)]))] = true := by decide +kernel
theorem r813 {l : Launch} {D : va_G} {tys : List (ClassId × FieldType)} {A : Nat → Prop} {ad : Nat → Nat} (hAD : ∀ i : Nat, ad (1000 + i) = D.2 1000 i) : CRok l D tys A ad GG 3 g813 := CR_of_vrf (dep := 2) hAD (fun c hc => by cases hc) T2OK_nil w813
def g814 : CR := (340, [(2, 90, 90), (0, 0, 3), (0, (-2147483648), 2147483647), (0, 0, 3), (0, (-2147483648), 2147483647), (0, 59, 59)], [], some (0, (-8), 0), [], [109, 110])
theorem w814 : vrf GG [] [] 300 2 g814
  [(113, [(0, 3), (0, 1), (0, 3), (0, 1), (0, 59)], [(0, rA 90), (1, iA (0, [(1, 0)])), (2, iA (0, [(1, 1)])), (3, iA (0, [(1, 2)])), (4, iA (0, [(1, 3)])), (5, iA (59, [])), (6, iA (0, [(1, 4)]))], [], [], (45510, [((-378), 4)])),
  (150, [(0, 3), (0, 1), (0, 3), (0, 1), (0, 59)], [(0, rA 90), (1, iA (0, [(1, 0)])), (2, iA (0, [(1, 1)])), (3, iA (0, [(1, 2)])), (4, iA (0, [(1, 3)])), (5, iA (59, [])), (6, iA (0, [(1, 4)]))], [], [], (22378, [((-378), 4)]))] = true := by decide +kernel
theorem r814 {l : Launch} {D : va_G} {tys : List (ClassId × FieldType)} {A : Nat → Prop} {ad : Nat → Nat} (hAD : ∀ i : Nat, ad (1000 + i) = D.2 1000 i) : CRok l D tys A ad GG 3 g814 := CR_of_vrf (dep := 2) hAD (fun c hc => by cases hc) T2OK_nil w814
def g815 : CR := (340, [(2, 90, 90), (0, 0, 3), (0, (-2147483648), 2147483647), (0, 0, 3), (0, (-2147483648), 2147483647), (0, 60, 60)], [], some (0, (-8), 0), [], [109, 110])
theorem w815 : vrf GG [] [] 300 2 g815
  [(113, [(0, 3), (0, 3), (0, 60)], [(0, rA 90), (1, iA (0, [(1, 0)])), (2, iA (0, [])), (3, iA (0, [(1, 1)])), (4, iA (0, [])), (5, iA (60, [])), (6, iA (0, [(1, 2)]))], [], [], (46266, [((-378), 2)])),
  (150, [(0, 3), (0, 3), (0, 60)], [(0, rA 90), (1, iA (0, [(1, 0)])), (2, iA (0, [])), (3, iA (0, [(1, 1)])), (4, iA (0, [])), (5, iA (60, [])), (6, iA (0, [(1, 2)]))], [], [], (22756, [((-378), 2)]))] = true := by decide +kernel
theorem r815 {l : Launch} {D : va_G} {tys : List (ClassId × FieldType)} {A : Nat → Prop} {ad : Nat → Nat} (hAD : ∀ i : Nat, ad (1000 + i) = D.2 1000 i) : CRok l D tys A ad GG 3 g815 := CR_of_vrf (dep := 2) hAD (fun c hc => by cases hc) T2OK_nil w815
def g816 : CR := (216, [(2, 90, 90), (2, 1012, 1012)], [], some (0, 0, 1), [], [])
theorem w816 : vrf GG [] [] 762 4 g816
  [] = true := by decide +kernel
theorem r816 {l : Launch} {D : va_G} {tys : List (ClassId × FieldType)} {A : Nat → Prop} {ad : Nat → Nat} (hAD : ∀ i : Nat, ad (1000 + i) = D.2 1000 i) : CRok l D tys A ad GG 5 g816 := CR_of_vrf (dep := 4) hAD (fun c hc => by cases hc) T2OK_nil w816
def g817 : CR := (216, [(2, 90, 90), (2, 1013, 1013)], [], some (0, 0, 1), [], [])
theorem w817 : vrf GG [] [] 1262 4 g817
  [] = true := by decide +kernel
theorem r817 {l : Launch} {D : va_G} {tys : List (ClassId × FieldType)} {A : Nat → Prop} {ad : Nat → Nat} (hAD : ∀ i : Nat, ad (1000 + i) = D.2 1000 i) : CRok l D tys A ad GG 5 g817 := CR_of_vrf (dep := 4) hAD (fun c hc => by cases hc) T2OK_nil w817
def g818 : CR := (220, [(2, 90, 90), (2, 1013, 1013), (0, 2, 2), (0, 9, 9)], [], some (0, 0, 9), [], [90])
theorem w818 : vrf GG [(5, g817), (2, hAdv)] [] 543 7 g818
  [] = true := by decide +kernel
theorem r818 {l : Launch} {D : va_G} {tys : List (ClassId × FieldType)} {A : Nat → Prop} {ad : Nat → Nat} (hAD : ∀ i : Nat, ad (1000 + i) = D.2 1000 i) : CRok l D tys A ad GG 8 g818 := CR_of_vrf (dep := 7) hAD (List.forall_mem_cons.mpr ⟨r817 hAD, List.forall_mem_cons.mpr ⟨HAdv_ok hAD, fun c hc => by cases hc⟩⟩) T2OK_nil w818
def g819 : CR := (216, [(2, 90, 90), (2, 1014, 1014)], [], some (0, 0, 1), [], [])
theorem w819 : vrf GG [] [] 962 4 g819
  [] = true := by decide +kernel
theorem r819 {l : Launch} {D : va_G} {tys : List (ClassId × FieldType)} {A : Nat → Prop} {ad : Nat → Nat} (hAD : ∀ i : Nat, ad (1000 + i) = D.2 1000 i) : CRok l D tys A ad GG 5 g819 := CR_of_vrf (dep := 4) hAD (fun c hc => by cases hc) T2OK_nil w819
def g820 : CR := (220, [(2, 90, 90), (2, 1014, 1014), (0, 1, 1), (0, 4, 4)], [], some (0, 0, 4), [], [90])
theorem w820 : vrf GG [(5, g819), (2, hAdv)] [] 543 7 g820
  [] = true := by decide +kernel
theorem r820 {l : Launch} {D : va_G} {tys : List (ClassId × FieldType)} {A : Nat → Prop} {ad : Nat → Nat} (hAD : ∀ i : Nat, ad (1000 + i) = D.2 1000 i) : CRok l D tys A ad GG 8 g820 := CR_of_vrf (dep := 7) hAD (List.forall_mem_cons.mpr ⟨r819 hAD, List.forall_mem_cons.mpr ⟨HAdv_ok hAD, fun c hc => by cases hc⟩⟩) T2OK_nil w820
def g821 : CR := (216, [(2, 90, 90), (2, 1015, 1015)], [], some (0, 0, 1), [], [])
theorem w821 : vrf GG [] [] 862 4 g821
  [] = true := by decide +kernel
theorem r821 {l : Launch} {D : va_G} {tys : List (ClassId × FieldType)} {A : Nat → Prop} {ad : Nat → Nat} (hAD : ∀ i : Nat, ad (1000 + i) = D.2 1000 i) : CRok l D tys A ad GG 5 g821 := CR_of_vrf (dep := 4) hAD (fun c hc => by cases hc) T2OK_nil w821
def g822 : CR := (220, [(2, 90, 90), (2, 1015, 1015), (0, 1, 1), (0, 24, 24)], [], some (0, 0, 24), [], [90])
theorem w822 : vrf GG [(5, g821), (2, hAdv)] [] 543 7 g822
  [] = true := by decide +kernel
theorem r822 {l : Launch} {D : va_G} {tys : List (ClassId × FieldType)} {A : Nat → Prop} {ad : Nat → Nat} (hAD : ∀ i : Nat, ad (1000 + i) = D.2 1000 i) : CRok l D tys A ad GG 8 g822 := CR_of_vrf (dep := 7) hAD (List.forall_mem_cons.mpr ⟨r821 hAD, List.forall_mem_cons.mpr ⟨HAdv_ok hAD, fun c hc => by cases hc⟩⟩) T2OK_nil w822
def g823 : CR := (225, [(2, 90, 90)], [], none, [], [90, 96])
theorem w823 : vrf GG [(5, g816), (8, g818), (8, g820), (8, g822), (2, hAdv)] [] 300 8 g823
  [] = true := by decide +kernel
theorem r823 {l : Launch} {D : va_G} {tys : List (ClassId × FieldType)} {A : Nat → Prop} {ad : Nat → Nat} (hAD : ∀ i : Nat, ad (1000 + i) = D.2 1000 i) : CRok l D tys A ad GG 9 g823 := CR_of_vrf (dep := 8) hAD (List.forall_mem_cons.mpr ⟨r816 hAD, List.forall_mem_cons.mpr ⟨r818 hAD, List.forall_mem_cons.mpr ⟨r820 hAD, List.forall_mem_cons.mpr ⟨r822 hAD, List.forall_mem_cons.mpr ⟨HAdv_ok hAD, fun c hc => by cases hc⟩⟩⟩⟩⟩) T2OK_nil w823
def g824 : CR := (216, [(2, 90, 90), (2, 1016, 1016)], [((96, 3), (0, 1, 6))], some (0, 0, 1), [], [])
theorem w824 : vrf GG [] [] 562 4 g824
  [] = true := by decide +kernel
theorem r824 {l : Launch} {D : va_G} {tys : List (ClassId × FieldType)} {A : Nat → Prop} {ad : Nat → Nat} (hAD : ∀ i : Nat, ad (1000 + i) = D.2 1000 i) : CRok l D tys A ad GG 5 g824 := CR_of_vrf (dep := 4) hAD (fun c hc => by cases hc) T2OK_nil w824
def g825 : CR := (216, [(2, 90, 90), (2, 1016, 1016)], [], some (0, 0, 1), [], [])
theorem w825 : vrf GG [] [] 562 4 g825
  [] = true := by decide +kernel
theorem r825 {l : Launch} {D : va_G} {tys : List (ClassId × FieldType)} {A : Nat → Prop} {ad : Nat → Nat} (hAD : ∀ i : Nat, ad (1000 + i) = D.2 1000 i) : CRok l D tys A ad GG 5 g825 := CR_of_vrf (dep := 4) hAD (fun c hc => by cases hc) T2OK_nil w825
def g826 : CR := (228, [(2, 90, 90)], [], none, [], [90, 97])
theorem w826 : vrf GG [(5, g824), (5, g825), (2, hAdv)] [] 5294 7 g826
  [] = true := by decide +kernel
theorem r826 {l : Launch} {D : va_G} {tys : List (ClassId × FieldType)} {A : Nat → Prop} {ad : Nat → Nat} (hAD : ∀ i : Nat, ad (1000 + i) = D.2 1000 i) : CRok l D tys A ad GG 8 g826 := CR_of_vrf (dep := 7) hAD (List.forall_mem_cons.mpr ⟨r824 hAD, List.forall_mem_cons.mpr ⟨r825 hAD, List.forall_mem_cons.mpr ⟨HAdv_ok hAD, fun c hc => by cases hc⟩⟩⟩) T2OK_nil w826
