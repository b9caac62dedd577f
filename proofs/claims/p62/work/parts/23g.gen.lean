def g666 : CR := (72, [(2, 0, 0), (0, (-2147483648), (-1)), (0, (-2147483648), 2147483647), (0, (-2147483648), 2147483647), (0, (-2147483648), 2147483647), (0, (-2147483648), 2147483647)], [], some (0, (-2), (-2)), [], [])
theorem w666 : vrf GG [] [] 300 1 g666
  [] = true := by decide +kernel
theorem r666 {l : Launch} {D : va_G} {tys : List (ClassId × FieldType)} {A : Nat → Prop} {ad : Nat → Nat} (hAD : ∀ i : Nat, ad (1000 + i) = D.2 1000 i) : CRok l D tys A ad GG 2 g666 := CR_of_vrf (dep := 1) hAD (fun c hc => by cases hc) T2OK_nil w666
def g667 : CR := (72, [(2, 0, 0), (0, 4, 2147483647), (0, (-2147483648), 2147483647), (0, (-2147483648), 2147483647), (0, (-2147483648), 2147483647), (0, (-2147483648), 2147483647)], [], some (0, (-2), (-2)), [], [])
theorem w667 : vrf GG [] [] 300 1 g667
  [] = true := by decide +kernel
theorem r667 {l : Launch} {D : va_G} {tys : List (ClassId × FieldType)} {A : Nat → Prop} {ad : Nat → Nat} (hAD : ∀ i : Nat, ad (1000 + i) = D.2 1000 i) : CRok l D tys A ad GG 2 g667 := CR_of_vrf (dep := 1) hAD (fun c hc => by cases hc) T2OK_nil w667
def g668 : CR := (72, [(2, 0, 0), (0, 0, 3), (0, (-2147483648), 2147483647), (0, (-2147483648), (-1)), (0, (-2147483648), 2147483647), (0, (-2147483648), 2147483647)], [], some (0, (-2), (-2)), [], [])
theorem w668 : vrf GG [] [] 300 1 g668
  [] = true := by decide +kernel
theorem r668 {l : Launch} {D : va_G} {tys : List (ClassId × FieldType)} {A : Nat → Prop} {ad : Nat → Nat} (hAD : ∀ i : Nat, ad (1000 + i) = D.2 1000 i) : CRok l D tys A ad GG 2 g668 := CR_of_vrf (dep := 1) hAD (fun c hc => by cases hc) T2OK_nil w668
def g669 : CR := (72, [(2, 0, 0), (0, 0, 3), (0, (-2147483648), 2147483647), (0, 4, 2147483647), (0, (-2147483648), 2147483647), (0, (-2147483648), 2147483647)], [], some (0, (-2), (-2)), [], [])
theorem w669 : vrf GG [] [] 300 1 g669
  [] = true := by decide +kernel
theorem r669 {l : Launch} {D : va_G} {tys : List (ClassId × FieldType)} {A : Nat → Prop} {ad : Nat → Nat} (hAD : ∀ i : Nat, ad (1000 + i) = D.2 1000 i) : CRok l D tys A ad GG 2 g669 := CR_of_vrf (dep := 1) hAD (fun c hc => by cases hc) T2OK_nil w669
def g670 : CR := (72, [(2, 0, 0), (0, 0, 3), (0, (-2147483648), 2147483647), (0, 0, 3), (0, (-2147483648), 2147483647), (0, (-2147483648), (-1))], [], some (0, (-8), (-6)), [], [])
theorem w670 : vrf GG [] [] 300 3 g670
  [] = true := by decide +kernel
theorem r670 {l : Launch} {D : va_G} {tys : List (ClassId × FieldType)} {A : Nat → Prop} {ad : Nat → Nat} (hAD : ∀ i : Nat, ad (1000 + i) = D.2 1000 i) : CRok l D tys A ad GG 4 g670 := CR_of_vrf (dep := 3) hAD (fun c hc => by cases hc) T2OK_nil w670
def g671 : CR := (72, [(2, 0, 0), (0, 0, 3), (0, (-2147483648), 2147483647), (0, 0, 3), (0, (-2147483648), 2147483647), (0, 61, 2147483647)], [], some (0, (-8), (-6)), [], [])
theorem w671 : vrf GG [] [] 548 3 g671
  [] = true := by decide +kernel
theorem r671 {l : Launch} {D : va_G} {tys : List (ClassId × FieldType)} {A : Nat → Prop} {ad : Nat → Nat} (hAD : ∀ i : Nat, ad (1000 + i) = D.2 1000 i) : CRok l D tys A ad GG 4 g671 := CR_of_vrf (dep := 3) hAD (fun c hc => by cases hc) T2OK_nil w671
def g672 : CR := (169, [(2, 39, 39), (0, 0, 3), (0, 0, 60), (0, 0, 3), (0, 0, 60), (0, 0, 0)], [], none, [], [])
theorem w672 : vrf GG [] [] 300 0 g672
  [(3, [(0, 3), (0, 60), (0, 3), (0, 60)], [(0, rA 39), (1, iA (0, [(1, 0)])), (2, iA (0, [(1, 1)])), (3, iA (0, [(1, 2)])), (4, iA (0, [(1, 3)])), (5, iA (0, [])), (6, iA (0, []))], [], [], (108, []))] = true := by decide +kernel
theorem r672 {l : Launch} {D : va_G} {tys : List (ClassId × FieldType)} {A : Nat → Prop} {ad : Nat → Nat} (hAD : ∀ i : Nat, ad (1000 + i) = D.2 1000 i) : CRok l D tys A ad GG 1 g672 := CR_of_vrf (dep := 0) hAD (fun c hc => by cases hc) T2OK_nil w672
def g673 : CR := (72, [(2, 0, 0), (0, 0, 3), (0, (-2147483648), 2147483647), (0, 0, 3), (0, (-2147483648), 2147483647), (0, 0, 0)], [], some (0, (-8), 0), [], [])
theorem w673 : vrf GG [(1, g672)] [] 782 3 g673
  [] = true := by decide +kernel
theorem r673 {l : Launch} {D : va_G} {tys : List (ClassId × FieldType)} {A : Nat → Prop} {ad : Nat → Nat} (hAD : ∀ i : Nat, ad (1000 + i) = D.2 1000 i) : CRok l D tys A ad GG 4 g673 := CR_of_vrf (dep := 3) hAD (List.forall_mem_cons.mpr ⟨r672 hAD, fun c hc => by cases hc⟩) T2OK_nil w673
def g674 : CR := (169, [(2, 39, 39), (0, 0, 3), (0, 0, 59), (0, 0, 3), (0, 0, 59), (0, 1, 1)], [], none, [], [40])
theorem w674 : vrf GG [(3, g649), (3, g661)] [] 300 3 g674
  [(3, [(0, 3), (0, 59), (0, 3), (0, 59), (0, 1)], [(0, rA 39), (1, iA (0, [(1, 0)])), (2, iA (0, [(1, 1)])), (3, iA (0, [(1, 2)])), (4, iA (0, [(1, 3)])), (5, iA (1, [])), (6, iA (0, [(1, 4)]))], [], [], (224, [((-116), 4)])),
  (28, [(0, 3), (0, 59), (0, 3), (0, 59)], [(0, rA 39), (1, iA (0, [(1, 0)])), (2, iA (0, [(1, 1)])), (3, iA (0, [(1, 2)])), (4, iA (0, [(1, 3)])), (5, iA (1, [])), (6, iA (0, []))], [iA (0, [])], [], (199, []))] = true := by decide +kernel
theorem r674 {l : Launch} {D : va_G} {tys : List (ClassId × FieldType)} {A : Nat → Prop} {ad : Nat → Nat} (hAD : ∀ i : Nat, ad (1000 + i) = D.2 1000 i) : CRok l D tys A ad GG 4 g674 := CR_of_vrf (dep := 3) hAD (List.forall_mem_cons.mpr ⟨r649 hAD, List.forall_mem_cons.mpr ⟨r661 hAD, fun c hc => by cases hc⟩⟩) T2OK_nil w674
def g675 : CR := (72, [(2, 0, 0), (0, 0, 3), (0, (-2147483648), 2147483647), (0, 0, 3), (0, (-2147483648), 2147483647), (0, 1, 1)], [], some (0, (-8), 0), [], [40])
theorem w675 : vrf GG [(4, g674)] [] 782 4 g675
  [] = true := by decide +kernel
theorem r675 {l : Launch} {D : va_G} {tys : List (ClassId × FieldType)} {A : Nat → Prop} {ad : Nat → Nat} (hAD : ∀ i : Nat, ad (1000 + i) = D.2 1000 i) : CRok l D tys A ad GG 5 g675 := CR_of_vrf (dep := 4) hAD (List.forall_mem_cons.mpr ⟨r674 hAD, fun c hc => by cases hc⟩) T2OK_nil w675
def g676 : CR := (169, [(2, 39, 39), (0, 0, 3), (0, 0, 58), (0, 0, 3), (0, 0, 58), (0, 2, 2)], [], none, [], [40])
theorem w676 : vrf GG [(3, g649), (3, g661)] [] 300 3 g676
  [(3, [(0, 3), (0, 58), (0, 3), (0, 58), (0, 2)], [(0, rA 39), (1, iA (0, [(1, 0)])), (2, iA (0, [(1, 1)])), (3, iA (0, [(1, 2)])), (4, iA (0, [(1, 3)])), (5, iA (2, [])), (6, iA (0, [(1, 4)]))], [], [], (340, [((-116), 4)])),
  (28, [(0, 3), (0, 58), (0, 3), (0, 58), (0, 1), (0, 1)], [(0, rA 39), (1, iA (0, [(1, 0)])), (2, iA (0, [(1, 1)])), (3, iA (0, [(1, 2)])), (4, iA (0, [(1, 3)])), (5, iA (2, [])), (6, iA (0, [(1, 4)]))], [iA (0, [(1, 5)])], [], (315, [((-116), 4)]))] = true := by decide +kernel
theorem r676 {l : Launch} {D : va_G} {tys : List (ClassId × FieldType)} {A : Nat → Prop} {ad : Nat → Nat} (hAD : ∀ i : Nat, ad (1000 + i) = D.2 1000 i) : CRok l D tys A ad GG 4 g676 := CR_of_vrf (dep := 3) hAD (List.forall_mem_cons.mpr ⟨r649 hAD, List.forall_mem_cons.mpr ⟨r661 hAD, fun c hc => by cases hc⟩⟩) T2OK_nil w676
def g677 : CR := (72, [(2, 0, 0), (0, 0, 3), (0, (-2147483648), 2147483647), (0, 0, 3), (0, (-2147483648), 2147483647), (0, 2, 2)], [], some (0, (-8), 0), [], [40])
theorem w677 : vrf GG [(4, g676)] [] 782 4 g677
  [] = true := by decide +kernel
theorem r677 {l : Launch} {D : va_G} {tys : List (ClassId × FieldType)} {A : Nat → Prop} {ad : Nat → Nat} (hAD : ∀ i : Nat, ad (1000 + i) = D.2 1000 i) : CRok l D tys A ad GG 5 g677 := CR_of_vrf (dep := 4) hAD (List.forall_mem_cons.mpr ⟨r676 hAD, fun c hc => by cases hc⟩) T2OK_nil w677
def g678 : CR := (169, [(2, 39, 39), (0, 0, 3), (0, 0, 57), (0, 0, 3), (0, 0, 57), (0, 3, 3)], [], none, [], [40])
theorem w678 : vrf GG [(3, g649), (3, g661)] [] 300 3 g678
  [(3, [(0, 3), (0, 57), (0, 3), (0, 57), (0, 3)], [(0, rA 39), (1, iA (0, [(1, 0)])), (2, iA (0, [(1, 1)])), (3, iA (0, [(1, 2)])), (4, iA (0, [(1, 3)])), (5, iA (3, [])), (6, iA (0, [(1, 4)]))], [], [], (456, [((-116), 4)])),
  (28, [(0, 3), (0, 57), (0, 3), (0, 57), (0, 2), (0, 2)], [(0, rA 39), (1, iA (0, [(1, 0)])), (2, iA (0, [(1, 1)])), (3, iA (0, [(1, 2)])), (4, iA (0, [(1, 3)])), (5, iA (3, [])), (6, iA (0, [(1, 4)]))], [iA (0, [(1, 5)])], [], (431, [((-116), 4)]))] = true := by decide +kernel
theorem r678 {l : Launch} {D : va_G} {tys : List (ClassId × FieldType)} {A : Nat → Prop} {ad : Nat → Nat} (hAD : ∀ i : Nat, ad (1000 + i) = D.2 1000 i) : CRok l D tys A ad GG 4 g678 := CR_of_vrf (dep := 3) hAD (List.forall_mem_cons.mpr ⟨r649 hAD, List.forall_mem_cons.mpr ⟨r661 hAD, fun c hc => by cases hc⟩⟩) T2OK_nil w678
def g679 : CR := (72, [(2, 0, 0), (0, 0, 3), (0, (-2147483648), 2147483647), (0, 0, 3), (0, (-2147483648), 2147483647), (0, 3, 3)], [], some (0, (-8), 0), [], [40])
theorem w679 : vrf GG [(4, g678)] [] 782 4 g679
  [] = true := by decide +kernel
theorem r679 {l : Launch} {D : va_G} {tys : List (ClassId × FieldType)} {A : Nat → Prop} {ad : Nat → Nat} (hAD : ∀ i : Nat, ad (1000 + i) = D.2 1000 i) : CRok l D tys A ad GG 5 g679 := CR_of_vrf (dep := 4) hAD (List.forall_mem_cons.mpr ⟨r678 hAD, fun c hc => by cases hc⟩) T2OK_nil w679
def g680 : CR := (169, [(2, 39, 39), (0, 0, 3), (0, 0, 56), (0, 0, 3), (0, 0, 56), (0, 4, 4)], [], none, [], [40])
theorem w680 : vrf GG [(3, g649), (3, g661)] [] 300 3 g680
  [(3, [(0, 3), (0, 56), (0, 3), (0, 56), (0, 4)], [(0, rA 39), (1, iA (0, [(1, 0)])), (2, iA (0, [(1, 1)])), (3, iA (0, [(1, 2)])), (4, iA (0, [(1, 3)])), (5, iA (4, [])), (6, iA (0, [(1, 4)]))], [], [], (572, [((-116), 4)])),
  (28, [(0, 3), (0, 56), (0, 3), (0, 56), (0, 3), (0, 3)], [(0, rA 39), (1, iA (0, [(1, 0)])), (2, iA (0, [(1, 1)])), (3, iA (0, [(1, 2)])), (4, iA (0, [(1, 3)])), (5, iA (4, [])), (6, iA (0, [(1, 4)]))], [iA (0, [(1, 5)])], [], (547, [((-116), 4)]))] = true := by decide +kernel
theorem r680 {l : Launch} {D : va_G} {tys : List (ClassId × FieldType)} {A : Nat → Prop} {ad : Nat → Nat} (hAD : ∀ i : Nat, ad (1000 + i) = D.2 1000 i) : CRok l D tys A ad GG 4 g680 := CR_of_vrf (dep := 3) hAD (List.forall_mem_cons.mpr ⟨r649 hAD, List.forall_mem_cons.mpr ⟨r661 hAD, fun c hc => by cases hc⟩⟩) T2OK_nil w680
def g681 : CR := (72, [(2, 0, 0), (0, 0, 3), (0, (-2147483648), 2147483647), (0, 0, 3), (0, (-2147483648), 2147483647), (0, 4, 4)], [], some (0, (-8), 0), [], [40])
theorem w681 : vrf GG [(4, g680)] [] 782 4 g681
  [] = true := by decide +kernel
theorem r681 {l : Launch} {D : va_G} {tys : List (ClassId × FieldType)} {A : Nat → Prop} {ad : Nat → Nat} (hAD : ∀ i : Nat, ad (1000 + i) = D.2 1000 i) : CRok l D tys A ad GG 5 g681 := CR_of_vrf (dep := 4) hAD (List.forall_mem_cons.mpr ⟨r680 hAD, fun c hc => by cases hc⟩) T2OK_nil w681
def g682 : CR := (169, [(2, 39, 39), (0, 0, 3), (0, 0, 55), (0, 0, 3), (0, 0, 55), (0, 5, 5)], [], none, [], [40])
theorem w682 : vrf GG [(3, g649), (3, g661)] [] 300 3 g682
  [(3, [(0, 3), (0, 55), (0, 3), (0, 55), (0, 5)], [(0, rA 39), (1, iA (0, [(1, 0)])), (2, iA (0, [(1, 1)])), (3, iA (0, [(1, 2)])), (4, iA (0, [(1, 3)])), (5, iA (5, [])), (6, iA (0, [(1, 4)]))], [], [], (688, [((-116), 4)])),
  (28, [(0, 3), (0, 55), (0, 3), (0, 55), (0, 4), (0, 4)], [(0, rA 39), (1, iA (0, [(1, 0)])), (2, iA (0, [(1, 1)])), (3, iA (0, [(1, 2)])), (4, iA (0, [(1, 3)])), (5, iA (5, [])), (6, iA (0, [(1, 4)]))], [iA (0, [(1, 5)])], [], (663, [((-116), 4)]))] = true := by decide +kernel
theorem r682 {l : Launch} {D : va_G} {tys : List (ClassId × FieldType)} {A : Nat → Prop} {ad : Nat → Nat} (hAD : ∀ i : Nat, ad (1000 + i) = D.2 1000 i) : CRok l D tys A ad GG 4 g682 := CR_of_vrf (dep := 3) hAD (List.forall_mem_cons.mpr ⟨r649 hAD, List.forall_mem_cons.mpr ⟨r661 hAD, fun c hc => by cases hc⟩⟩) T2OK_nil w682
def g683 : CR := (72, [(2, 0, 0), (0, 0, 3), (0, (-2147483648), 2147483647), (0, 0, 3), (0, (-2147483648), 2147483647), (0, 5, 5)], [], some (0, (-8), 0), [], [40])
theorem w683 : vrf GG [(4, g682)] [] 782 4 g683
  [] = true := by decide +kernel
theorem r683 {l : Launch} {D : va_G} {tys : List (ClassId × FieldType)} {A : Nat → Prop} {ad : Nat → Nat} (hAD : ∀ i : Nat, ad (1000 + i) = D.2 1000 i) : CRok l D tys A ad GG 5 g683 := CR_of_vrf (dep := 4) hAD (List.forall_mem_cons.mpr ⟨r682 hAD, fun c hc => by cases hc⟩) T2OK_nil w683
def g684 : CR := (169, [(2, 39, 39), (0, 0, 3), (0, 0, 54), (0, 0, 3), (0, 0, 54), (0, 6, 6)], [], none, [], [40])
theorem w684 : vrf GG [(3, g649), (3, g661)] [] 300 3 g684
  [(3, [(0, 3), (0, 54), (0, 3), (0, 54), (0, 6)], [(0, rA 39), (1, iA (0, [(1, 0)])), (2, iA (0, [(1, 1)])), (3, iA (0, [(1, 2)])), (4, iA (0, [(1, 3)])), (5, iA (6, [])), (6, iA (0, [(1, 4)]))], [], [], (804, [((-116), 4)])),
  (28, [(0, 3), (0, 54), (0, 3), (0, 54), (0, 5), (0, 5)], [(0, rA 39), (1, iA (0, [(1, 0)])), (2, iA (0, [(1, 1)])), (3, iA (0, [(1, 2)])), (4, iA (0, [(1, 3)])), (5, iA (6, [])), (6, iA (0, [(1, 4)]))], [iA (0, [(1, 5)])], [], (779, [((-116), 4)]))] = true := by decide +kernel
theorem r684 {l : Launch} {D : va_G} {tys : List (ClassId × FieldType)} {A : Nat → Prop} {ad : Nat → Nat} (hAD : ∀ i : Nat, ad (1000 + i) = D.2 1000 i) : CRok l D tys A ad GG 4 g684 := CR_of_vrf (dep := 3) hAD (List.forall_mem_cons.mpr ⟨r649 hAD, List.forall_mem_cons.mpr ⟨r661 hAD, fun c hc => by cases hc⟩⟩) T2OK_nil w684
def g685 : CR := (72, [(2, 0, 0), (0, 0, 3), (0, (-2147483648), 2147483647), (0, 0, 3), (0, (-2147483648), 2147483647), (0, 6, 6)], [], some (0, (-8), 0), [], [40])
theorem w685 : vrf GG [(4, g684)] [] 782 4 g685
  [] = true := by decide +kernel
theorem r685 {l : Launch} {D : va_G} {tys : List (ClassId × FieldType)} {A : Nat → Prop} {ad : Nat → Nat} (hAD : ∀ i : Nat, ad (1000 + i) = D.2 1000 i) : CRok l D tys A ad GG 5 g685 := CR_of_vrf (dep := 4) hAD (List.forall_mem_cons.mpr ⟨r684 hAD, fun c hc => by cases hc⟩) T2OK_nil w685
def g686 : CR := (169, [(2, 39, 39), (0, 0, 3), (0, 0, 53), (0, 0, 3), (0, 0, 53), (0, 7, 7)], [], none, [], [40])
theorem w686 : vrf GG [(3, g649), (3, g661)] [] 300 3 g686
  [(3, [(0, 3), (0, 53), (0, 3), (0, 53), (0, 7)], [(0, rA 39), (1, iA (0, [(1, 0)])), (2, iA (0, [(1, 1)])), (3, iA (0, [(1, 2)])), (4, iA (0, [(1, 3)])), (5, iA (7, [])), (6, iA (0, [(1, 4)]))], [], [], (920, [((-116), 4)])),
  (28, [(0, 3), (0, 53), (0, 3), (0, 53), (0, 6), (0, 6)], [(0, rA 39), (1, iA (0, [(1, 0)])), (2, iA (0, [(1, 1)])), (3, iA (0, [(1, 2)])), (4, iA (0, [(1, 3)])), (5, iA (7, [])), (6, iA (0, [(1, 4)]))], [iA (0, [(1, 5)])], [], (895, [((-116), 4)]))] = true := by decide +kernel
theorem r686 {l : Launch} {D : va_G} {tys : List (ClassId × FieldType)} {A : Nat → Prop} {ad : Nat → Nat} (hAD : ∀ i : Nat, ad (1000 + i) = D.2 1000 i) : CRok l D tys A ad GG 4 g686 := CR_of_vrf (dep := 3) hAD (List.forall_mem_cons.mpr ⟨r649 hAD, List.forall_mem_cons.mpr ⟨r661 hAD, fun c hc => by cases hc⟩⟩) T2OK_nil w686
def g687 : CR := (72, [(2, 0, 0), (0, 0, 3), (0, (-2147483648), 2147483647), (0, 0, 3), (0, (-2147483648), 2147483647), (0, 7, 7)], [], some (0, (-8), 0), [], [40])
theorem w687 : vrf GG [(4, g686)] [] 782 4 g687
  [] = true := by decide +kernel
theorem r687 {l : Launch} {D : va_G} {tys : List (ClassId × FieldType)} {A : Nat → Prop} {ad : Nat → Nat} (hAD : ∀ i : Nat, ad (1000 + i) = D.2 1000 i) : CRok l D tys A ad GG 5 g687 := CR_of_vrf (dep := 4) hAD (List.forall_mem_cons.mpr ⟨r686 hAD, fun c hc => by cases hc⟩) T2OK_nil w687
def g688 : CR := (169, [(2, 39, 39), (0, 0, 3), (0, 0, 52), (0, 0, 3), (0, 0, 52), (0, 8, 8)], [], none, [], [40])
theorem w688 : vrf GG [(3, g649), (3, g661)] [] 300 3 g688
  [(3, [(0, 3), (0, 52), (0, 3), (0, 52), (0, 8)], [(0, rA 39), (1, iA (0, [(1, 0)])), (2, iA (0, [(1, 1)])), (3, iA (0, [(1, 2)])), (4, iA (0, [(1, 3)])), (5, iA (8, [])), (6, iA (0, [(1, 4)]))], [], [], (1036, [((-116), 4)])),
  (28, [(0, 3), (0, 52), (0, 3), (0, 52), (0, 7), (0, 7)], [(0, rA 39), (1, iA (0, [(1, 0)])), (2, iA (0, [(1, 1)])), (3, iA (0, [(1, 2)])), (4, iA (0, [(1, 3)])), (5, iA (8, [])), (6, iA (0, [(1, 4)]))], [iA (0, [(1, 5)])], [], (1011, [((-116), 4)]))] = true := by decide +kernel
theorem r688 {l : Launch} {D : va_G} {tys : List (ClassId × FieldType)} {A : Nat → Prop} {ad : Nat → Nat} (hAD : ∀ i : Nat, ad (1000 + i) = D.2 1000 i) : CRok l D tys A ad GG 4 g688 := CR_of_vrf (dep := 3) hAD (List.forall_mem_cons.mpr ⟨r649 hAD, List.forall_mem_cons.mpr ⟨r661 hAD, fun c hc => by cases hc⟩⟩) T2OK_nil w688
def g689 : CR := (72, [(2, 0, 0), (0, 0, 3), (0, (-2147483648), 2147483647), (0, 0, 3), (0, (-2147483648), 2147483647), (0, 8, 8)], [], some (0, (-8), 0), [], [40])
theorem w689 : vrf GG [(4, g688)] [] 782 4 g689
  [] = true := by decide +kernel
theorem r689 {l : Launch} {D : va_G} {tys : List (ClassId × FieldType)} {A : Nat → Prop} {ad : Nat → Nat} (hAD : ∀ i : Nat, ad (1000 + i) = D.2 1000 i) : CRok l D tys A ad GG 5 g689 := CR_of_vrf (dep := 4) hAD (List.forall_mem_cons.mpr ⟨r688 hAD, fun c hc => by cases hc⟩) T2OK_nil w689
def g690 : CR := (169, [(2, 39, 39), (0, 0, 3), (0, 0, 51), (0, 0, 3), (0, 0, 51), (0, 9, 9)], [], none, [], [40])
theorem w690 : vrf GG [(3, g649), (3, g661)] [] 300 3 g690
  [(3, [(0, 3), (0, 51), (0, 3), (0, 51), (0, 9)], [(0, rA 39), (1, iA (0, [(1, 0)])), (2, iA (0, [(1, 1)])), (3, iA (0, [(1, 2)])), (4, iA (0, [(1, 3)])), (5, iA (9, [])), (6, iA (0, [(1, 4)]))], [], [], (1152, [((-116), 4)])),
  (28, [(0, 3), (0, 51), (0, 3), (0, 51), (0, 8), (0, 8)], [(0, rA 39), (1, iA (0, [(1, 0)])), (2, iA (0, [(1, 1)])), (3, iA (0, [(1, 2)])), (4, iA (0, [(1, 3)])), (5, iA (9, [])), (6, iA (0, [(1, 4)]))], [iA (0, [(1, 5)])], [], (1127, [((-116), 4)]))] = true := by decide +kernel
theorem r690 {l : Launch} {D : va_G} {tys : List (ClassId × FieldType)} {A : Nat → Prop} {ad : Nat → Nat} (hAD : ∀ i : Nat, ad (1000 + i) = D.2 1000 i) : CRok l D tys A ad GG 4 g690 := CR_of_vrf (dep := 3) hAD (List.forall_mem_cons.mpr ⟨r649 hAD, List.forall_mem_cons.mpr ⟨r661 hAD, fun c hc => by cases hc⟩⟩) T2OK_nil w690
def g691 : CR := (72, [(2, 0, 0), (0, 0, 3), (0, (-2147483648), 2147483647), (0, 0, 3), (0, (-2147483648), 2147483647), (0, 9, 9)], [], some (0, (-8), 0), [], [40])
theorem w691 : vrf GG [(4, g690)] [] 782 4 g691
  [] = true := by decide +kernel
theorem r691 {l : Launch} {D : va_G} {tys : List (ClassId × FieldType)} {A : Nat → Prop} {ad : Nat → Nat} (hAD : ∀ i : Nat, ad (1000 + i) = D.2 1000 i) : CRok l D tys A ad GG 5 g691 := CR_of_vrf (dep := 4) hAD (List.forall_mem_cons.mpr ⟨r690 hAD, fun c hc => by cases hc⟩) T2OK_nil w691
def g692 : CR := (169, [(2, 39, 39), (0, 0, 3), (0, 0, 50), (0, 0, 3), (0, 0, 50), (0, 10, 10)], [], none, [], [40])
theorem w692 : vrf GG [(3, g649), (3, g661)] [] 300 3 g692
  [(3, [(0, 3), (0, 50), (0, 3), (0, 50), (0, 10)], [(0, rA 39), (1, iA (0, [(1, 0)])), (2, iA (0, [(1, 1)])), (3, iA (0, [(1, 2)])), (4, iA (0, [(1, 3)])), (5, iA (10, [])), (6, iA (0, [(1, 4)]))], [], [], (1268, [((-116), 4)])),
  (28, [(0, 3), (0, 50), (0, 3), (0, 50), (0, 9), (0, 9)], [(0, rA 39), (1, iA (0, [(1, 0)])), (2, iA (0, [(1, 1)])), (3, iA (0, [(1, 2)])), (4, iA (0, [(1, 3)])), (5, iA (10, [])), (6, iA (0, [(1, 4)]))], [iA (0, [(1, 5)])], [], (1243, [((-116), 4)]))] = true := by decide +kernel
theorem r692 {l : Launch} {D : va_G} {tys : List (ClassId × FieldType)} {A : Nat → Prop} {ad : Nat → Nat} (hAD : ∀ i : Nat, ad (1000 + i) = D.2 1000 i) : CRok l D tys A ad GG 4 g692 := CR_of_vrf (dep := 3) hAD (List.forall_mem_cons.mpr ⟨r649 hAD, List.forall_mem_cons.mpr ⟨r661 hAD, fun c hc => by cases hc⟩⟩) T2OK_nil w692
def g693 : CR := (72, [(2, 0, 0), (0, 0, 3), (0, (-2147483648), 2147483647), (0, 0, 3), (0, (-2147483648), 2147483647), (0, 10, 10)], [], some (0, (-8), 0), [], [40])
theorem w693 : vrf GG [(4, g692)] [] 782 4 g693
  [] = true := by decide +kernel
theorem r693 {l : Launch} {D : va_G} {tys : List (ClassId × FieldType)} {A : Nat → Prop} {ad : Nat → Nat} (hAD : ∀ i : Nat, ad (1000 + i) = D.2 1000 i) : CRok l D tys A ad GG 5 g693 := CR_of_vrf (dep := 4) hAD (List.forall_mem_cons.mpr ⟨r692 hAD, fun c hc => by cases hc⟩) T2OK_nil w693
def g694 : CR := (169, [(2, 39, 39), (0, 0, 3), (0, 0, 49), (0, 0, 3), (0, 0, 49), (0, 11, 11)], [], none, [], [40])
theorem w694 : vrf GG [(3, g649), (3, g661)] [] 300 3 g694
  [(3, [(0, 3), (0, 49), (0, 3), (0, 49), (0, 11)], [(0, rA 39), (1, iA (0, [(1, 0)])), (2, iA (0, [(1, 1)])), (3, iA (0, [(1, 2)])), (4, iA (0, [(1, 3)])), (5, iA (11, [])), (6, iA (0, [(1, 4)]))], [], [], (1384, [((-116), 4)])),
  (28, [(0, 3), (0, 49), (0, 3), (0, 49), (0, 10), (0, 10)], [(0, rA 39), (1, iA (0, [(1, 0)])), (2, iA (0, [(1, 1)])), (3, iA (0, [(1, 2)])), (4, iA (0, [(1, 3)])), (5, iA (11, [])), (6, iA (0, [(1, 4)]))], [iA (0, [(1, 5)])], [], (1359, [((-116), 4)]))] = true := by decide +kernel
theorem r694 {l : Launch} {D : va_G} {tys : List (ClassId × FieldType)} {A : Nat → Prop} {ad : Nat → Nat} (hAD : ∀ i : Nat, ad (1000 + i) = D.2 1000 i) : CRok l D tys A ad GG 4 g694 := CR_of_vrf (dep := 3) hAD (List.forall_mem_cons.mpr ⟨r649 hAD, List.forall_mem_cons.mpr ⟨r661 hAD, fun c hc => by cases hc⟩⟩) T2OK_nil w694
def g695 : CR := (72, [(2, 0, 0), (0, 0, 3), (0, (-2147483648), 2147483647), (0, 0, 3), (0, (-2147483648), 2147483647), (0, 11, 11)], [], some (0, (-8), 0), [], [40])
theorem w695 : vrf GG [(4, g694)] [] 782 4 g695
  [] = true := by decide +kernel
theorem r695 {l : Launch} {D : va_G} {tys : List (ClassId × FieldType)} {A : Nat → Prop} {ad : Nat → Nat} (hAD : ∀ i : Nat, ad (1000 + i) = D.2 1000 i) : CRok l D tys A ad GG 5 g695 := CR_of_vrf (dep := 4) hAD (List.forall_mem_cons.mpr ⟨r694 hAD, fun c hc => by cases hc⟩) T2OK_nil w695
def g696 : CR := (169, [(2, 39, 39), (0, 0, 3), (0, 0, 48), (0, 0, 3), (0, 0, 48), (0, 12, 12)], [], none, [], [40])
theorem w696 : vrf GG [(3, g649), (3, g661)] [] 300 3 g696
  [(3, [(0, 3), (0, 48), (0, 3), (0, 48), (0, 12)], [(0, rA 39), (1, iA (0, [(1, 0)])), (2, iA (0, [(1, 1)])), (3, iA (0, [(1, 2)])), (4, iA (0, [(1, 3)])), (5, iA (12, [])), (6, iA (0, [(1, 4)]))], [], [], (1500, [((-116), 4)])),
  (28, [(0, 3), (0, 48), (0, 3), (0, 48), (0, 11), (0, 11)], [(0, rA 39), (1, iA (0, [(1, 0)])), (2, iA (0, [(1, 1)])), (3, iA (0, [(1, 2)])), (4, iA (0, [(1, 3)])), (5, iA (12, [])), (6, iA (0, [(1, 4)]))], [iA (0, [(1, 5)])], [], (1475, [((-116), 4)]))] = true := by decide +kernel
theorem r696 {l : Launch} {D : va_G} {tys : List (ClassId × FieldType)} {A : Nat → Prop} {ad : Nat → Nat} (hAD : ∀ i : Nat, ad (1000 + i) = D.2 1000 i) : CRok l D tys A ad GG 4 g696 := CR_of_vrf (dep := 3) hAD (List.forall_mem_cons.mpr ⟨r649 hAD, List.forall_mem_cons.mpr ⟨r661 hAD, fun c hc => by cases hc⟩⟩) T2OK_nil w696
def g697 : CR := (72, [(2, 0, 0), (0, 0, 3), (0, (-2147483648), 2147483647), (0, 0, 3), (0, (-2147483648), 2147483647), (0, 12, 12)], [], some (0, (-8), 0), [], [40])
theorem w697 : vrf GG [(4, g696)] [] 782 4 g697
  [] = true := by decide +kernel
theorem r697 {l : Launch} {D : va_G} {tys : List (ClassId × FieldType)} {A : Nat → Prop} {ad : Nat → Nat} (hAD : ∀ i : Nat, ad (1000 + i) = D.2 1000 i) : CRok l D tys A ad GG 5 g697 := CR_of_vrf (dep := 4) hAD (List.forall_mem_cons.mpr ⟨r696 hAD, fun c hc => by cases hc⟩) T2OK_nil w697
def g698 : CR := (169, [(2, 39, 39), (0, 0, 3), (0, 0, 47), (0, 0, 3), (0, 0, 47), (0, 13, 13)], [], none, [], [40])
theorem w698 : vrf GG [(3, g649), (3, g661)] [] 300 3 g698
  [(3, [(0, 3), (0, 47), (0, 3), (0, 47), (0, 13)], [(0, rA 39), (1, iA (0, [(1, 0)])), (2, iA (0, [(1, 1)])), (3, iA (0, [(1, 2)])), (4, iA (0, [(1, 3)])), (5, iA (13, [])), (6, iA (0, [(1, 4)]))], [], [], (1616, [((-116), 4)])),
  (28, [(0, 3), (0, 47), (0, 3), (0, 47), (0, 12), (0, 12)], [(0, rA 39), (1, iA (0, [(1, 0)])), (2, iA (0, [(1, 1)])), (3, iA (0, [(1, 2)])), (4, iA (0, [(1, 3)])), (5, iA (13, [])), (6, iA (0, [(1, 4)]))], [iA (0, [(1, 5)])], [], (1591, [((-116), 4)]))] = true := by decide +kernel
theorem r698 {l : Launch} {D : va_G} {tys : List (ClassId × FieldType)} {A : Nat → Prop} {ad : Nat → Nat} (hAD : ∀ i : Nat, ad (1000 + i) = D.2 1000 i) : CRok l D tys A ad GG 4 g698 := CR_of_vrf (dep := 3) hAD (List.forall_mem_cons.mpr ⟨r649 hAD, List.forall_mem_cons.mpr ⟨r661 hAD, fun c hc => by cases hc⟩⟩) T2OK_nil w698
def g699 : CR := (72, [(2, 0, 0), (0, 0, 3), (0, (-2147483648), 2147483647), (0, 0, 3), (0, (-2147483648), 2147483647), (0, 13, 13)], [], some (0, (-8), 0), [], [40])
theorem w699 : vrf GG [(4, g698)] [] 782 4 g699
  [] = true := by decide +kernel
theorem r699 {l : Launch} {D : va_G} {tys : List (ClassId × FieldType)} {A : Nat → Prop} {ad : Nat → Nat} (hAD : ∀ i : Nat, ad (1000 + i) = D.2 1000 i) : CRok l D tys A ad GG 5 g699 := CR_of_vrf (dep := 4) hAD (List.forall_mem_cons.mpr ⟨r698 hAD, fun c hc => by cases hc⟩) T2OK_nil w699
def g700 : CR := (169, [(2, 39, 39), (0, 0, 3), (0, 0, 46), (0, 0, 3), (0, 0, 46), (0, 14, 14)], [], none, [], [40])
theorem w700 : vrf GG [(3, g649), (3, g661)] [] 300 3 g700
  [(3, [(0, 3), (0, 46), (0, 3), (0, 46), (0, 14)], [(0, rA 39), (1, iA (0, [(1, 0)])), (2, iA (0, [(1, 1)])), (3, iA (0, [(1, 2)])), (4, iA (0, [(1, 3)])), (5, iA (14, [])), (6, iA (0, [(1, 4)]))], [], [], (1732, [((-116), 4)])),
  (28, [(0, 3), (0, 46), (0, 3), (0, 46), (0, 13), (0, 13)], [(0, rA 39), (1, iA (0, [(1, 0)])), (2, iA (0, [(1, 1)])), (3, iA (0, [(1, 2)])), (4, iA (0, [(1, 3)])), (5, iA (14, [])), (6, iA (0, [(1, 4)]))], [iA (0, [(1, 5)])], [], (1707, [((-116), 4)]))] = true := by decide +kernel
theorem r700 {l : Launch} {D : va_G} {tys : List (ClassId × FieldType)} {A : Nat → Prop} {ad : Nat → Nat} (hAD : ∀ i : Nat, ad (1000 + i) = D.2 1000 i) : CRok l D tys A ad GG 4 g700 := CR_of_vrf (dep := 3) hAD (List.forall_mem_cons.mpr ⟨r649 hAD, List.forall_mem_cons.mpr ⟨r661 hAD, fun c hc => by cases hc⟩⟩) T2OK_nil w700
def g701 : CR := (72, [(2, 0, 0), (0, 0, 3), (0, (-2147483648), 2147483647), (0, 0, 3), (0, (-2147483648), 2147483647), (0, 14, 14)], [], some (0, (-8), 0), [], [40])
theorem w701 : vrf GG [(4, g700)] [] 782 4 g701
  [] = true := by decide +kernel
theorem r701 {l : Launch} {D : va_G} {tys : List (ClassId × FieldType)} {A : Nat → Prop} {ad : Nat → Nat} (hAD : ∀ i : Nat, ad (1000 + i) = D.2 1000 i) : CRok l D tys A ad GG 5 g701 := CR_of_vrf (dep := 4) hAD (List.forall_mem_cons.mpr ⟨r700 hAD, fun c hc => by cases hc⟩) T2OK_nil w701
def g702 : CR := (169, [(2, 39, 39), (0, 0, 3), (0, 0, 45), (0, 0, 3), (0, 0, 45), (0, 15, 15)], [], none, [], [40])
theorem w702 : vrf GG [(3, g649), (3, g661)] [] 300 3 g702
  [(3, [(0, 3), (0, 45), (0, 3), (0, 45), (0, 15)], [(0, rA 39), (1, iA (0, [(1, 0)])), (2, iA (0, [(1, 1)])), (3, iA (0, [(1, 2)])), (4, iA (0, [(1, 3)])), (5, iA (15, [])), (6, iA (0, [(1, 4)]))], [], [], (1848, [((-116), 4)])),
  (28, [(0, 3), (0, 45), (0, 3), (0, 45), (0, 14), (0, 14)], [(0, rA 39), (1, iA (0, [(1, 0)])), (2, iA (0, [(1, 1)])), (3, iA (0, [(1, 2)])), (4, iA (0, [(1, 3)])), (5, iA (15, [])), (6, iA (0, [(1, 4)]))], [iA (0, [(1, 5)])], [], (1823, [((-116), 4)]))] = true := by decide +kernel
theorem r702 {l : Launch} {D : va_G} {tys : List (ClassId × FieldType)} {A : Nat → Prop} {ad : Nat → Nat} (hAD : ∀ i : Nat, ad (1000 + i) = D.2 1000 i) : CRok l D tys A ad GG 4 g702 := CR_of_vrf (dep := 3) hAD (List.forall_mem_cons.mpr ⟨r649 hAD, List.forall_mem_cons.mpr ⟨r661 hAD, fun c hc => by cases hc⟩⟩) T2OK_nil w702
def g703 : CR := (72, [(2, 0, 0), (0, 0, 3), (0, (-2147483648), 2147483647), (0, 0, 3), (0, (-2147483648), 2147483647), (0, 15, 15)], [], some (0, (-8), 0), [], [40])
theorem w703 : vrf GG [(4, g702)] [] 782 4 g703
  [] = true := by decide +kernel
theorem r703 {l : Launch} {D : va_G} {tys : List (ClassId × FieldType)} {A : Nat → Prop} {ad : Nat → Nat} (hAD : ∀ i : Nat, ad (1000 + i) = D.2 1000 i) : CRok l D tys A ad GG 5 g703 := CR_of_vrf (dep := 4) hAD (List.forall_mem_cons.mpr ⟨r702 hAD, fun c hc => by cases hc⟩) T2OK_nil w703
def g704 : CR := (169, [(2, 39, 39), (0, 0, 3), (0, 0, 44), (0, 0, 3), (0, 0, 44), (0, 16, 16)], [], none, [], [40])
theorem w704 : vrf GG [(3, g649), (3, g661)] [] 300 3 g704
  [(3, [(0, 3), (0, 44), (0, 3), (0, 44), (0, 16)], [(0, rA 39), (1, iA (0, [(1, 0)])), (2, iA (0, [(1, 1)])), (3, iA (0, [(1, 2)])), (4, iA (0, [(1, 3)])), (5, iA (16, [])), (6, iA (0, [(1, 4)]))], [], [], (1964, [((-116), 4)])),
  (28, [(0, 3), (0, 44), (0, 3), (0, 44), (0, 15), (0, 15)], [(0, rA 39), (1, iA (0, [(1, 0)])), (2, iA (0, [(1, 1)])), (3, iA (0, [(1, 2)])), (4, iA (0, [(1, 3)])), (5, iA (16, [])), (6, iA (0, [(1, 4)]))], [iA (0, [(1, 5)])], [], (1939, [((-116), 4)]))] = true := by decide +kernel
theorem r704 {l : Launch} {D : va_G} {tys : List (ClassId × FieldType)} {A : Nat → Prop} {ad : Nat → Nat} (hAD : ∀ i : Nat, ad (1000 + i) = D.2 1000 i) : CRok l D tys A ad GG 4 g704 := CR_of_vrf (dep := 3) hAD (List.forall_mem_cons.mpr ⟨r649 hAD, List.forall_mem_cons.mpr ⟨r661 hAD, fun c hc => by cases hc⟩⟩) T2OK_nil w704
def g705 : CR := (72, [(2, 0, 0), (0, 0, 3), (0, (-2147483648), 2147483647), (0, 0, 3), (0, (-2147483648), 2147483647), (0, 16, 16)], [], some (0, (-8), 0), [], [40])
theorem w705 : vrf GG [(4, g704)] [] 782 4 g705
  [] = true := by decide +kernel
theorem r705 {l : Launch} {D : va_G} {tys : List (ClassId × FieldType)} {A : Nat → Prop} {ad : Nat → Nat} (hAD : ∀ i : Nat, ad (1000 + i) = D.2 1000 i) : CRok l D tys A ad GG 5 g705 := CR_of_vrf (dep := 4) hAD (List.forall_mem_cons.mpr ⟨r704 hAD, fun c hc => by cases hc⟩) T2OK_nil w705
def g706 : CR := (166, [(2, 39, 39), (0, 0, 3), (0, (-2147483648), 255), (1, (-9223372036854775808), 9223372036854775807)], [], none, [], [40])
theorem w706 : vrf GG [] [] 300 2 g706
  [] = true := by decide +kernel
theorem r706 {l : Launch} {D : va_G} {tys : List (ClassId × FieldType)} {A : Nat → Prop} {ad : Nat → Nat} (hAD : ∀ i : Nat, ad (1000 + i) = D.2 1000 i) : CRok l D tys A ad GG 3 g706 := CR_of_vrf (dep := 2) hAD (fun c hc => by cases hc) T2OK_nil w706
def g707 : CR := (169, [(2, 39, 39), (0, 0, 3), (0, 0, 44), (0, 0, 3), (0, 0, 44), (0, 16, 60)], [], none, [], [40])
theorem w707 : vrf GG [(3, g706)] [] 300 3 g707
  [(3, [(0, 3), (0, 44), (0, 3), (0, 44), (16, 60), (0, 60)], [(0, rA 39), (1, iA (0, [(1, 0)])), (2, iA (0, [(1, 1)])), (3, iA (0, [(1, 2)])), (4, iA (0, [(1, 3)])), (5, iA (0, [(1, 4)])), (6, iA (0, [(1, 5)]))], [], [], (7068, [((-116), 5)])),
  (28, [(0, 3), (0, 44), (0, 3), (0, 44), (16, 60), (0, 59), ((-44), 59)], [(0, rA 39), (1, iA (0, [(1, 0)])), (2, iA (0, [(1, 1)])), (3, iA (0, [(1, 2)])), (4, iA (0, [(1, 3)])), (5, iA (0, [(1, 4)])), (6, iA (0, [(1, 5)]))], [iA (0, [(1, 6)])], [], (7043, [((-116), 5)]))] = true := by decide +kernel
theorem r707 {l : Launch} {D : va_G} {tys : List (ClassId × FieldType)} {A : Nat → Prop} {ad : Nat → Nat} (hAD : ∀ i : Nat, ad (1000 + i) = D.2 1000 i) : CRok l D tys A ad GG 4 g707 := CR_of_vrf (dep := 3) hAD (List.forall_mem_cons.mpr ⟨r706 hAD, fun c hc => by cases hc⟩) T2OK_nil w707
def g708 : CR := (72, [(2, 0, 0), (0, 0, 3), (0, (-2147483648), 2147483647), (0, 0, 3), (0, (-2147483648), 2147483647), (0, 17, 17)], [], some (0, (-8), 0), [], [40])
theorem w708 : vrf GG [(4, g707)] [] 782 4 g708
  [] = true := by decide +kernel
theorem r708 {l : Launch} {D : va_G} {tys : List (ClassId × FieldType)} {A : Nat → Prop} {ad : Nat → Nat} (hAD : ∀ i : Nat, ad (1000 + i) = D.2 1000 i) : CRok l D tys A ad GG 5 g708 := CR_of_vrf (dep := 4) hAD (List.forall_mem_cons.mpr ⟨r707 hAD, fun c hc => by cases hc⟩) T2OK_nil w708
def g709 : CR := (72, [(2, 0, 0), (0, 0, 3), (0, (-2147483648), 2147483647), (0, 0, 3), (0, (-2147483648), 2147483647), (0, 18, 18)], [], some (0, (-8), 0), [], [40])
theorem w709 : vrf GG [(4, g707)] [] 782 4 g709
  [] = true := by decide +kernel
theorem r709 {l : Launch} {D : va_G} {tys : List (ClassId × FieldType)} {A : Nat → Prop} {ad : Nat → Nat} (hAD : ∀ i : Nat, ad (1000 + i) = D.2 1000 i) : CRok l D tys A ad GG 5 g709 := CR_of_vrf (dep := 4) hAD (List.forall_mem_cons.mpr ⟨r707 hAD, fun c hc => by cases hc⟩) T2OK_nil w709
def g710 : CR := (72, [(2, 0, 0), (0, 0, 3), (0, (-2147483648), 2147483647), (0, 0, 3), (0, (-2147483648), 2147483647), (0, 19, 19)], [], some (0, (-8), 0), [], [40])
theorem w710 : vrf GG [(4, g707)] [] 782 4 g710
  [] = true := by decide +kernel
theorem r710 {l : Launch} {D : va_G} {tys : List (ClassId × FieldType)} {A : Nat → Prop} {ad : Nat → Nat} (hAD : ∀ i : Nat, ad (1000 + i) = D.2 1000 i) : CRok l D tys A ad GG 5 g710 := CR_of_vrf (dep := 4) hAD (List.forall_mem_cons.mpr ⟨r707 hAD, fun c hc => by cases hc⟩) T2OK_nil w710
