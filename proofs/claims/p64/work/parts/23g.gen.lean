def g678 : CR := (72, [(2, 0, 0), (0, (-2147483648), (-1)), (0, (-2147483648), 2147483647), (0, (-2147483648), 2147483647), (0, (-2147483648), 2147483647), (0, (-2147483648), 2147483647)], [], some (0, (-2), (-2)), [], [])
theorem w678 : vrf GG [] [] 300 1 g678
  [] = true := by decide +kernel
theorem r678 {l : Launch} {D : va_G} {tys : List (ClassId × FieldType)} {A : Nat → Prop} {ad : Nat → Nat} (hAD : ∀ i : Nat, ad (1000 + i) = D.2 1000 i) : CRok l D tys A ad GG 2 g678 := CR_of_vrf (dep := 1) hAD (fun c hc => by cases hc) T2OK_nil w678
def g679 : CR := (72, [(2, 0, 0), (0, 4, 2147483647), (0, (-2147483648), 2147483647), (0, (-2147483648), 2147483647), (0, (-2147483648), 2147483647), (0, (-2147483648), 2147483647)], [], some (0, (-2), (-2)), [], [])
theorem w679 : vrf GG [] [] 300 1 g679
  [] = true := by decide +kernel
theorem r679 {l : Launch} {D : va_G} {tys : List (ClassId × FieldType)} {A : Nat → Prop} {ad : Nat → Nat} (hAD : ∀ i : Nat, ad (1000 + i) = D.2 1000 i) : CRok l D tys A ad GG 2 g679 := CR_of_vrf (dep := 1) hAD (fun c hc => by cases hc) T2OK_nil w679
def g680 : CR := (72, [(2, 0, 0), (0, 0, 3), (0, (-2147483648), 2147483647), (0, (-2147483648), (-1)), (0, (-2147483648), 2147483647), (0, (-2147483648), 2147483647)], [], some (0, (-2), (-2)), [], [])
theorem w680 : vrf GG [] [] 300 1 g680
  [] = true := by decide +kernel
theorem r680 {l : Launch} {D : va_G} {tys : List (ClassId × FieldType)} {A : Nat → Prop} {ad : Nat → Nat} (hAD : ∀ i : Nat, ad (1000 + i) = D.2 1000 i) : CRok l D tys A ad GG 2 g680 := CR_of_vrf (dep := 1) hAD (fun c hc => by cases hc) T2OK_nil w680
def g681 : CR := (72, [(2, 0, 0), (0, 0, 3), (0, (-2147483648), 2147483647), (0, 4, 2147483647), (0, (-2147483648), 2147483647), (0, (-2147483648), 2147483647)], [], some (0, (-2), (-2)), [], [])
theorem w681 : vrf GG [] [] 300 1 g681
  [] = true := by decide +kernel
theorem r681 {l : Launch} {D : va_G} {tys : List (ClassId × FieldType)} {A : Nat → Prop} {ad : Nat → Nat} (hAD : ∀ i : Nat, ad (1000 + i) = D.2 1000 i) : CRok l D tys A ad GG 2 g681 := CR_of_vrf (dep := 1) hAD (fun c hc => by cases hc) T2OK_nil w681
def g682 : CR := (72, [(2, 0, 0), (0, 0, 3), (0, (-2147483648), 2147483647), (0, 0, 3), (0, (-2147483648), 2147483647), (0, (-2147483648), (-1))], [], some (0, (-8), (-6)), [], [])
theorem w682 : vrf GG [] [] 300 3 g682
  [] = true := by decide +kernel
theorem r682 {l : Launch} {D : va_G} {tys : List (ClassId × FieldType)} {A : Nat → Prop} {ad : Nat → Nat} (hAD : ∀ i : Nat, ad (1000 + i) = D.2 1000 i) : CRok l D tys A ad GG 4 g682 := CR_of_vrf (dep := 3) hAD (fun c hc => by cases hc) T2OK_nil w682
def g683 : CR := (72, [(2, 0, 0), (0, 0, 3), (0, (-2147483648), 2147483647), (0, 0, 3), (0, (-2147483648), 2147483647), (0, 61, 2147483647)], [], some (0, (-8), (-6)), [], [])
theorem w683 : vrf GG [] [] 548 3 g683
  [] = true := by decide +kernel
theorem r683 {l : Launch} {D : va_G} {tys : List (ClassId × FieldType)} {A : Nat → Prop} {ad : Nat → Nat} (hAD : ∀ i : Nat, ad (1000 + i) = D.2 1000 i) : CRok l D tys A ad GG 4 g683 := CR_of_vrf (dep := 3) hAD (fun c hc => by cases hc) T2OK_nil w683
def g684 : CR := (169, [(2, 39, 39), (0, 0, 3), (0, 0, 60), (0, 0, 3), (0, 0, 60), (0, 0, 0)], [], none, [], [])
theorem w684 : vrf GG [] [] 300 0 g684
  [(3, [(0, 3), (0, 60), (0, 3), (0, 60)], [(0, rA 39), (1, iA (0, [(1, 0)])), (2, iA (0, [(1, 1)])), (3, iA (0, [(1, 2)])), (4, iA (0, [(1, 3)])), (5, iA (0, [])), (6, iA (0, []))], [], [], (108, []))] = true := by decide +kernel
theorem r684 {l : Launch} {D : va_G} {tys : List (ClassId × FieldType)} {A : Nat → Prop} {ad : Nat → Nat} (hAD : ∀ i : Nat, ad (1000 + i) = D.2 1000 i) : CRok l D tys A ad GG 1 g684 := CR_of_vrf (dep := 0) hAD (fun c hc => by cases hc) T2OK_nil w684
def g685 : CR := (72, [(2, 0, 0), (0, 0, 3), (0, (-2147483648), 2147483647), (0, 0, 3), (0, (-2147483648), 2147483647), (0, 0, 0)], [], some (0, (-8), 0), [], [])
theorem w685 : vrf GG [(1, g684)] [] 782 3 g685
  [] = true := by decide +kernel
theorem r685 {l : Launch} {D : va_G} {tys : List (ClassId × FieldType)} {A : Nat → Prop} {ad : Nat → Nat} (hAD : ∀ i : Nat, ad (1000 + i) = D.2 1000 i) : CRok l D tys A ad GG 4 g685 := CR_of_vrf (dep := 3) hAD (List.forall_mem_cons.mpr ⟨r684 hAD, fun c hc => by cases hc⟩) T2OK_nil w685
def g686 : CR := (169, [(2, 39, 39), (0, 0, 3), (0, 0, 59), (0, 0, 3), (0, 0, 59), (0, 1, 1)], [], none, [], [40])
theorem w686 : vrf GG [(3, g661), (3, g673)] [] 300 3 g686
  [(3, [(0, 3), (0, 59), (0, 3), (0, 59), (0, 1)], [(0, rA 39), (1, iA (0, [(1, 0)])), (2, iA (0, [(1, 1)])), (3, iA (0, [(1, 2)])), (4, iA (0, [(1, 3)])), (5, iA (1, [])), (6, iA (0, [(1, 4)]))], [], [], (224, [((-116), 4)])),
  (28, [(0, 3), (0, 59), (0, 3), (0, 59)], [(0, rA 39), (1, iA (0, [(1, 0)])), (2, iA (0, [(1, 1)])), (3, iA (0, [(1, 2)])), (4, iA (0, [(1, 3)])), (5, iA (1, [])), (6, iA (0, []))], [iA (0, [])], [], (199, []))] = true := by decide +kernel
theorem r686 {l : Launch} {D : va_G} {tys : List (ClassId × FieldType)} {A : Nat → Prop} {ad : Nat → Nat} (hAD : ∀ i : Nat, ad (1000 + i) = D.2 1000 i) : CRok l D tys A ad GG 4 g686 := CR_of_vrf (dep := 3) hAD (List.forall_mem_cons.mpr ⟨r661 hAD, List.forall_mem_cons.mpr ⟨r673 hAD, fun c hc => by cases hc⟩⟩) T2OK_nil w686
def g687 : CR := (72, [(2, 0, 0), (0, 0, 3), (0, (-2147483648), 2147483647), (0, 0, 3), (0, (-2147483648), 2147483647), (0, 1, 1)], [], some (0, (-8), 0), [], [40])
theorem w687 : vrf GG [(4, g686)] [] 782 4 g687
  [] = true := by decide +kernel
theorem r687 {l : Launch} {D : va_G} {tys : List (ClassId × FieldType)} {A : Nat → Prop} {ad : Nat → Nat} (hAD : ∀ i : Nat, ad (1000 + i) = D.2 1000 i) : CRok l D tys A ad GG 5 g687 := CR_of_vrf (dep := 4) hAD (List.forall_mem_cons.mpr ⟨r686 hAD, fun c hc => by cases hc⟩) T2OK_nil w687
def g688 : CR := (169, [(2, 39, 39), (0, 0, 3), (0, 0, 58), (0, 0, 3), (0, 0, 58), (0, 2, 2)], [], none, [], [40])
theorem w688 : vrf GG [(3, g661), (3, g673)] [] 300 3 g688
  [(3, [(0, 3), (0, 58), (0, 3), (0, 58), (0, 2)], [(0, rA 39), (1, iA (0, [(1, 0)])), (2, iA (0, [(1, 1)])), (3, iA (0, [(1, 2)])), (4, iA (0, [(1, 3)])), (5, iA (2, [])), (6, iA (0, [(1, 4)]))], [], [], (340, [((-116), 4)])),
  (28, [(0, 3), (0, 58), (0, 3), (0, 58), (0, 1), (0, 1)], [(0, rA 39), (1, iA (0, [(1, 0)])), (2, iA (0, [(1, 1)])), (3, iA (0, [(1, 2)])), (4, iA (0, [(1, 3)])), (5, iA (2, [])), (6, iA (0, [(1, 4)]))], [iA (0, [(1, 5)])], [], (315, [((-116), 4)]))] = true := by decide +kernel
theorem r688 {l : Launch} {D : va_G} {tys : List (ClassId × FieldType)} {A : Nat → Prop} {ad : Nat → Nat} (hAD : ∀ i : Nat, ad (1000 + i) = D.2 1000 i) : CRok l D tys A ad GG 4 g688 := CR_of_vrf (dep := 3) hAD (List.forall_mem_cons.mpr ⟨r661 hAD, List.forall_mem_cons.mpr ⟨r673 hAD, fun c hc => by cases hc⟩⟩) T2OK_nil w688
def g689 : CR := (72, [(2, 0, 0), (0, 0, 3), (0, (-2147483648), 2147483647), (0, 0, 3), (0, (-2147483648), 2147483647), (0, 2, 2)], [], some (0, (-8), 0), [], [40])
theorem w689 : vrf GG [(4, g688)] [] 782 4 g689
  [] = true := by decide +kernel
theorem r689 {l : Launch} {D : va_G} {tys : List (ClassId × FieldType)} {A : Nat → Prop} {ad : Nat → Nat} (hAD : ∀ i : Nat, ad (1000 + i) = D.2 1000 i) : CRok l D tys A ad GG 5 g689 := CR_of_vrf (dep := 4) hAD (List.forall_mem_cons.mpr ⟨r688 hAD, fun c hc => by cases hc⟩) T2OK_nil w689
def g690 : CR := (169, [(2, 39, 39), (0, 0, 3), (0, 0, 57), (0, 0, 3), (0, 0, 57), (0, 3, 3)], [], none, [], [40])
theorem w690 : vrf GG [(3, g661), (3, g673)] [] 300 3 g690
  [(3, [(0, 3), (0, 57), (0, 3), (0, 57), (0, 3)], [(0, rA 39), (1, iA (0, [(1, 0)])), (2, iA (0, [(1, 1)])), (3, iA (0, [(1, 2)])), (4, iA (0, [(1, 3)])), (5, iA (3, [])), (6, iA (0, [(1, 4)]))], [], [], (456, [((-116), 4)])),
  (28, [(0, 3), (0, 57), (0, 3), (0, 57), (0, 2), (0, 2)], [(0, rA 39), (1, iA (0, [(1, 0)])), (2, iA (0, [(1, 1)])), (3, iA (0, [(1, 2)])), (4, iA (0, [(1, 3)])), (5, iA (3, [])), (6, iA (0, [(1, 4)]))], [iA (0, [(1, 5)])], [], (431, [((-116), 4)]))] = true := by decide +kernel
theorem r690 {l : Launch} {D : va_G} {tys : List (ClassId × FieldType)} {A : Nat → Prop} {ad : Nat → Nat} (hAD : ∀ i : Nat, ad (1000 + i) = D.2 1000 i) : CRok l D tys A ad GG 4 g690 := CR_of_vrf (dep := 3) hAD (List.forall_mem_cons.mpr ⟨r661 hAD, List.forall_mem_cons.mpr ⟨r673 hAD, fun c hc => by cases hc⟩⟩) T2OK_nil w690
def g691 : CR := (72, [(2, 0, 0), (0, 0, 3), (0, (-2147483648), 2147483647), (0, 0, 3), (0, (-2147483648), 2147483647), (0, 3, 3)], [], some (0, (-8), 0), [], [40])
theorem w691 : vrf GG [(4, g690)] [] 782 4 g691
  [] = true := by decide +kernel
theorem r691 {l : Launch} {D : va_G} {tys : List (ClassId × FieldType)} {A : Nat → Prop} {ad : Nat → Nat} (hAD : ∀ i : Nat, ad (1000 + i) = D.2 1000 i) : CRok l D tys A ad GG 5 g691 := CR_of_vrf (dep := 4) hAD (List.forall_mem_cons.mpr ⟨r690 hAD, fun c hc => by cases hc⟩) T2OK_nil w691
def g692 : CR := (169, [(2, 39, 39), (0, 0, 3), (0, 0, 56), (0, 0, 3), (0, 0, 56), (0, 4, 4)], [], none, [], [40])
theorem w692 : vrf GG [(3, g661), (3, g673)] [] 300 3 g692
  [(3, [(0, 3), (0, 56), (0, 3), (0, 56), (0, 4)], [(0, rA 39), (1, iA (0, [(1, 0)])), (2, iA (0, [(1, 1)])), (3, iA (0, [(1, 2)])), (4, iA (0, [(1, 3)])), (5, iA (4, [])), (6, iA (0, [(1, 4)]))], [], [], (572, [((-116), 4)])),
  (28, [(0, 3), (0, 56), (0, 3), (0, 56), (0, 3), (0, 3)], [(0, rA 39), (1, iA (0, [(1, 0)])), (2, iA (0, [(1, 1)])), (3, iA (0, [(1, 2)])), (4, iA (0, [(1, 3)])), (5, iA (4, [])), (6, iA (0, [(1, 4)]))], [iA (0, [(1, 5)])], [], (547, [((-116), 4)]))] = true := by decide +kernel
theorem r692 {l : Launch} {D : va_G} {tys : List (ClassId × FieldType)} {A : Nat → Prop} {ad : Nat → Nat} (hAD : ∀ i : Nat, ad (1000 + i) = D.2 1000 i) : CRok l D tys A ad GG 4 g692 := CR_of_vrf (dep := 3) hAD (List.forall_mem_cons.mpr ⟨r661 hAD, List.forall_mem_cons.mpr ⟨r673 hAD, fun c hc => by cases hc⟩⟩) T2OK_nil w692
def g693 : CR := (72, [(2, 0, 0), (0, 0, 3), (0, (-2147483648), 2147483647), (0, 0, 3), (0, (-2147483648), 2147483647), (0, 4, 4)], [], some (0, (-8), 0), [], [40])
theorem w693 : vrf GG [(4, g692)] [] 782 4 g693
  [] = true := by decide +kernel
theorem r693 {l : Launch} {D : va_G} {tys : List (ClassId × FieldType)} {A : Nat → Prop} {ad : Nat → Nat} (hAD : ∀ i : Nat, ad (1000 + i) = D.2 1000 i) : CRok l D tys A ad GG 5 g693 := CR_of_vrf (dep := 4) hAD (List.forall_mem_cons.mpr ⟨r692 hAD, fun c hc => by cases hc⟩) T2OK_nil w693
def g694 : CR := (169, [(2, 39, 39), (0, 0, 3), (0, 0, 55), (0, 0, 3), (0, 0, 55), (0, 5, 5)], [], none, [], [40])
theorem w694 : vrf GG [(3, g661), (3, g673)] [] 300 3 g694
  [(3, [(0, 3), (0, 55), (0, 3), (0, 55), (0, 5)], [(0, rA 39), (1, iA (0, [(1, 0)])), (2, iA (0, [(1, 1)])), (3, iA (0, [(1, 2)])), (4, iA (0, [(1, 3)])), (5, iA (5, [])), (6, iA (0, [(1, 4)]))], [], [], (688, [((-116), 4)])),
  (28, [(0, 3), (0, 55), (0, 3), (0, 55), (0, 4), (0, 4)], [(0, rA 39), (1, iA (0, [(1, 0)])), (2, iA (0, [(1, 1)])), (3, iA (0, [(1, 2)])), (4, iA (0, [(1, 3)])), (5, iA (5, [])), (6, iA (0, [(1, 4)]))], [iA (0, [(1, 5)])], [], (663, [((-116), 4)]))] = true := by decide +kernel
theorem r694 {l : Launch} {D : va_G} {tys : List (ClassId × FieldType)} {A : Nat → Prop} {ad : Nat → Nat} (hAD : ∀ i : Nat, ad (1000 + i) = D.2 1000 i) : CRok l D tys A ad GG 4 g694 := CR_of_vrf (dep := 3) hAD (List.forall_mem_cons.mpr ⟨r661 hAD, List.forall_mem_cons.mpr ⟨r673 hAD, fun c hc => by cases hc⟩⟩) T2OK_nil w694
def g695 : CR := (72, [(2, 0, 0), (0, 0, 3), (0, (-2147483648), 2147483647), (0, 0, 3), (0, (-2147483648), 2147483647), (0, 5, 5)], [], some (0, (-8), 0), [], [40])
theorem w695 : vrf GG [(4, g694)] [] 782 4 g695
  [] = true := by decide +kernel
theorem r695 {l : Launch} {D : va_G} {tys : List (ClassId × FieldType)} {A : Nat → Prop} {ad : Nat → Nat} (hAD : ∀ i : Nat, ad (1000 + i) = D.2 1000 i) : CRok l D tys A ad GG 5 g695 := CR_of_vrf (dep := 4) hAD (List.forall_mem_cons.mpr ⟨r694 hAD, fun c hc => by cases hc⟩) T2OK_nil w695
def g696 : CR := (169, [(2, 39, 39), (0, 0, 3), (0, 0, 54), (0, 0, 3), (0, 0, 54), (0, 6, 6)], [], none, [], [40])
theorem w696 : vrf GG [(3, g661), (3, g673)] [] 300 3 g696
  [(3, [(0, 3), (0, 54), (0, 3), (0, 54), (0, 6)], [(0, rA 39), (1, iA (0, [(1, 0)])), (2, iA (0, [(1, 1)])), (3, iA (0, [(1, 2)])), (4, iA (0, [(1, 3)])), (5, iA (6, [])), (6, iA (0, [(1, 4)]))], [], [], (804, [((-116), 4)])),
  (28, [(0, 3), (0, 54), (0, 3), (0, 54), (0, 5), (0, 5)], [(0, rA 39), (1, iA (0, [(1, 0)])), (2, iA (0, [(1, 1)])), (3, iA (0, [(1, 2)])), (4, iA (0, [(1, 3)])), (5, iA (6, [])), (6, iA (0, [(1, 4)]))], [iA (0, [(1, 5)])], [], (779, [((-116), 4)]))] = true := by decide +kernel
theorem r696 {l : Launch} {D : va_G} {tys : List (ClassId × FieldType)} {A : Nat → Prop} {ad : Nat → Nat} (hAD : ∀ i : Nat, ad (1000 + i) = D.2 1000 i) : CRok l D tys A ad GG 4 g696 := CR_of_vrf (dep := 3) hAD (List.forall_mem_cons.mpr ⟨r661 hAD, List.forall_mem_cons.mpr ⟨r673 hAD, fun c hc => by cases hc⟩⟩) T2OK_nil w696
def g697 : CR := (72, [(2, 0, 0), (0, 0, 3), (0, (-2147483648), 2147483647), (0, 0, 3), (0, (-2147483648), 2147483647), (0, 6, 6)], [], some (0, (-8), 0), [], [40])
theorem w697 : vrf GG [(4, g696)] [] 782 4 g697
  [] = true := by decide +kernel
theorem r697 {l : Launch} {D : va_G} {tys : List (ClassId × FieldType)} {A : Nat → Prop} {ad : Nat → Nat} (hAD : ∀ i : Nat, ad (1000 + i) = D.2 1000 i) : CRok l D tys A ad GG 5 g697 := CR_of_vrf (dep := 4) hAD (List.forall_mem_cons.mpr ⟨r696 hAD, fun c hc => by cases hc⟩) T2OK_nil w697
def g698 : CR := (169, [(2, 39, 39), (0, 0, 3), (0, 0, 53), (0, 0, 3), (0, 0, 53), (0, 7, 7)], [], none, [], [40])
theorem w698 : vrf GG [(3, g661), (3, g673)] [] 300 3 g698
  [(3, [(0, 3), (0, 53), (0, 3), (0, 53), (0, 7)], [(0, rA 39), (1, iA (0, [(1, 0)])), (2, iA (0, [(1, 1)])), (3, iA (0, [(1, 2)])), (4, iA (0, [(1, 3)])), (5, iA (7, [])), (6, iA (0, [(1, 4)]))], [], [], (920, [((-116), 4)])),
  (28, [(0, 3), (0, 53), (0, 3), (0, 53), (0, 6), (0, 6)], [(0, rA 39), (1, iA (0, [(1, 0)])), (2, iA (0, [(1, 1)])), (3, iA (0, [(1, 2)])), (4, iA (0, [(1, 3)])), (5, iA (7, [])), (6, iA (0, [(1, 4)]))], [iA (0, [(1, 5)])], [], (895, [((-116), 4)]))] = true := by decide +kernel
theorem r698 {l : Launch} {D : va_G} {tys : List (ClassId × FieldType)} {A : Nat → Prop} {ad : Nat → Nat} (hAD : ∀ i : Nat, ad (1000 + i) = D.2 1000 i) : CRok l D tys A ad GG 4 g698 := CR_of_vrf (dep := 3) hAD (List.forall_mem_cons.mpr ⟨r661 hAD, List.forall_mem_cons.mpr ⟨r673 hAD, fun c hc => by cases hc⟩⟩) T2OK_nil w698
def g699 : CR := (72, [(2, 0, 0), (0, 0, 3), (0, (-2147483648), 2147483647), (0, 0, 3), (0, (-2147483648), 2147483647), (0, 7, 7)], [], some (0, (-8), 0), [], [40])
theorem w699 : vrf GG [(4, g698)] [] 782 4 g699
  [] = true := by decide +kernel
theorem r699 {l : Launch} {D : va_G} {tys : List (ClassId × FieldType)} {A : Nat → Prop} {ad : Nat → Nat} (hAD : ∀ i : Nat, ad (1000 + i) = D.2 1000 i) : CRok l D tys A ad GG 5 g699 := CR_of_vrf (dep := 4) hAD (List.forall_mem_cons.mpr ⟨r698 hAD, fun c hc => by cases hc⟩) T2OK_nil w699
def g700 : CR := (169, [(2, 39, 39), (0, 0, 3), (0, 0, 52), (0, 0, 3), (0, 0, 52), (0, 8, 8)], [], none, [], [40])
theorem w700 : vrf GG [(3, g661), (3, g673)] [] 300 3 g700
  [(3, [(0, 3), (0, 52), (0, 3), (0, 52), (0, 8)], [(0, rA 39), (1, iA (0, [(1, 0)])), (2, iA (0, [(1, 1)])), (3, iA (0, [(1, 2)])), (4, iA (0, [(1, 3)])), (5, iA (8, [])), (6, iA (0, [(1, 4)]))], [], [], (1036, [((-116), 4)])),
  (28, [(0, 3), (0, 52), (0, 3), (0, 52), (0, 7), (0, 7)], [(0, rA 39), (1, iA (0, [(1, 0)])), (2, iA (0, [(1, 1)])), (3, iA (0, [(1, 2)])), (4, iA (0, [(1, 3)])), (5, iA (8, [])), (6, iA (0, [(1, 4)]))], [iA (0, [(1, 5)])], [], (1011, [((-116), 4)]))] = true := by decide +kernel
theorem r700 {l : Launch} {D : va_G} {tys : List (ClassId × FieldType)} {A : Nat → Prop} {ad : Nat → Nat} (hAD : ∀ i : Nat, ad (1000 + i) = D.2 1000 i) : CRok l D tys A ad GG 4 g700 := CR_of_vrf (dep := 3) hAD (List.forall_mem_cons.mpr ⟨r661 hAD, List.forall_mem_cons.mpr ⟨r673 hAD, fun c hc => by cases hc⟩⟩) T2OK_nil w700
def g701 : CR := (72, [(2, 0, 0), (0, 0, 3), (0, (-2147483648), 2147483647), (0, 0, 3), (0, (-2147483648), 2147483647), (0, 8, 8)], [], some (0, (-8), 0), [], [40])
theorem w701 : vrf GG [(4, g700)] [] 782 4 g701
  [] = true := by decide +kernel
theorem r701 {l : Launch} {D : va_G} {tys : List (ClassId × FieldType)} {A : Nat → Prop} {ad : Nat → Nat} (hAD : ∀ i : Nat, ad (1000 + i) = D.2 1000 i) : CRok l D tys A ad GG 5 g701 := CR_of_vrf (dep := 4) hAD (List.forall_mem_cons.mpr ⟨r700 hAD, fun c hc => by cases hc⟩) T2OK_nil w701
def g702 : CR := (169, [(2, 39, 39), (0, 0, 3), (0, 0, 51), (0, 0, 3), (0, 0, 51), (0, 9, 9)], [], none, [], [40])
theorem w702 : vrf GG [(3, g661), (3, g673)] [] 300 3 g702
  [(3, [(0, 3), (0, 51), (0, 3), (0, 51), (0, 9)], [(0, rA 39), (1, iA (0, [(1, 0)])), (2, iA (0, [(1, 1)])), (3, iA (0, [(1, 2)])), (4, iA (0, [(1, 3)])), (5, iA (9, [])), (6, iA (0, [(1, 4)]))], [], [], (1152, [((-116), 4)])),
  (28, [(0, 3), (0, 51), (0, 3), (0, 51), (0, 8), (0, 8)], [(0, rA 39), (1, iA (0, [(1, 0)])), (2, iA (0, [(1, 1)])), (3, iA (0, [(1, 2)])), (4, iA (0, [(1, 3)])), (5, iA (9, [])), (6, iA (0, [(1, 4)]))], [iA (0, [(1, 5)])], [], (1127, [((-116), 4)]))] = true := by decide +kernel
theorem r702 {l : Launch} {D : va_G} {tys : List (ClassId × FieldType)} {A : Nat → Prop} {ad : Nat → Nat} (hAD : ∀ i : Nat, ad (1000 + i) = D.2 1000 i) : CRok l D tys A ad GG 4 g702 := CR_of_vrf (dep := 3) hAD (List.forall_mem_cons.mpr ⟨r661 hAD, List.forall_mem_cons.mpr ⟨r673 hAD, fun c hc => by cases hc⟩⟩) T2OK_nil w702
def g703 : CR := (72, [(2, 0, 0), (0, 0, 3), (0, (-2147483648), 2147483647), (0, 0, 3), (0, (-2147483648), 2147483647), (0, 9, 9)], [], some (0, (-8), 0), [], [40])
theorem w703 : vrf GG [(4, g702)] [] 782 4 g703
  [] = true := by decide +kernel
theorem r703 {l : Launch} {D : va_G} {tys : List (ClassId × FieldType)} {A : Nat → Prop} {ad : Nat → Nat} (hAD : ∀ i : Nat, ad (1000 + i) = D.2 1000 i) : CRok l D tys A ad GG 5 g703 := CR_of_vrf (dep := 4) hAD (List.forall_mem_cons.mpr ⟨r702 hAD, fun c hc => by cases hc⟩) T2OK_nil w703
def g704 : CR := (169, [(2, 39, 39), (0, 0, 3), (0, 0, 50), (0, 0, 3), (0, 0, 50), (0, 10, 10)], [], none, [], [40])
theorem w704 : vrf GG [(3, g661), (3, g673)] [] 300 3 g704
  [(3, [(0, 3), (0, 50), (0, 3), (0, 50), (0, 10)], [(0, rA 39), (1, iA (0, [(1, 0)])), (2, iA (0, [(1, 1)])), (3, iA (0, [(1, 2)])), (4, iA (0, [(1, 3)])), (5, iA (10, [])), (6, iA (0, [(1, 4)]))], [], [], (1268, [((-116), 4)])),
  (28, [(0, 3), (0, 50), (0, 3), (0, 50), (0, 9), (0, 9)], [(0, rA 39), (1, iA (0, [(1, 0)])), (2, iA (0, [(1, 1)])), (3, iA (0, [(1, 2)])), (4, iA (0, [(1, 3)])), (5, iA (10, [])), (6, iA (0, [(1, 4)]))], [iA (0, [(1, 5)])], [], (1243, [((-116), 4)]))] = true := by decide +kernel
theorem r704 {l : Launch} {D : va_G} {tys : List (ClassId × FieldType)} {A : Nat → Prop} {ad : Nat → Nat} (hAD : ∀ i : Nat, ad (1000 + i) = D.2 1000 i) : CRok l D tys A ad GG 4 g704 := CR_of_vrf (dep := 3) hAD (List.forall_mem_cons.mpr ⟨r661 hAD, List.forall_mem_cons.mpr ⟨r673 hAD, fun c hc => by cases hc⟩⟩) T2OK_nil w704
def g705 : CR := (72, [(2, 0, 0), (0, 0, 3), (0, (-2147483648), 2147483647), (0, 0, 3), (0, (-2147483648), 2147483647), (0, 10, 10)], [], some (0, (-8), 0), [], [40])
theorem w705 : vrf GG [(4, g704)] [] 782 4 g705
  [] = true := by decide +kernel
theorem r705 {l : Launch} {D : va_G} {tys : List (ClassId × FieldType)} {A : Nat → Prop} {ad : Nat → Nat} (hAD : ∀ i : Nat, ad (1000 + i) = D.2 1000 i) : CRok l D tys A ad GG 5 g705 := CR_of_vrf (dep := 4) hAD (List.forall_mem_cons.mpr ⟨r704 hAD, fun c hc => by cases hc⟩) T2OK_nil w705
def g706 : CR := (169, [(2, 39, 39), (0, 0, 3), (0, 0, 49), (0, 0, 3), (0, 0, 49), (0, 11, 11)], [], none, [], [40])
theorem w706 : vrf GG [(3, g661), (3, g673)] [] 300 3 g706
  [(3, [(0, 3), (0, 49), (0, 3), (0, 49), (0, 11)], [(0, rA 39), (1, iA (0, [(1, 0)])), (2, iA (0, [(1, 1)])), (3, iA (0, [(1, 2)])), (4, iA (0, [(1, 3)])), (5, iA (11, [])), (6, iA (0, [(1, 4)]))], [], [], (1384, [((-116), 4)])),
  (28, [(0, 3), (0, 49), (0, 3), (0, 49), (0, 10), (0, 10)], [(0, rA 39), (1, iA (0, [(1, 0)])), (2, iA (0, [(1, 1)])), (3, iA (0, [(1, 2)])), (4, iA (0, [(1, 3)])), (5, iA (11, [])), (6, iA (0, [(1, 4)]))], [iA (0, [(1, 5)])], [], (1359, [((-116), 4)]))] = true := by decide +kernel
theorem r706 {l : Launch} {D : va_G} {tys : List (ClassId × FieldType)} {A : Nat → Prop} {ad : Nat → Nat} (hAD : ∀ i : Nat, ad (1000 + i) = D.2 1000 i) : CRok l D tys A ad GG 4 g706 := CR_of_vrf (dep := 3) hAD (List.forall_mem_cons.mpr ⟨r661 hAD, List.forall_mem_cons.mpr ⟨r673 hAD, fun c hc => by cases hc⟩⟩) T2OK_nil w706
def g707 : CR := (72, [(2, 0, 0), (0, 0, 3), (0, (-2147483648), 2147483647), (0, 0, 3), (0, (-2147483648), 2147483647), (0, 11, 11)], [], some (0, (-8), 0), [], [40])
theorem w707 : vrf GG [(4, g706)] [] 782 4 g707
  [] = true := by decide +kernel
theorem r707 {l : Launch} {D : va_G} {tys : List (ClassId × FieldType)} {A : Nat → Prop} {ad : Nat → Nat} (hAD : ∀ i : Nat, ad (1000 + i) = D.2 1000 i) : CRok l D tys A ad GG 5 g707 := CR_of_vrf (dep := 4) hAD (List.forall_mem_cons.mpr ⟨r706 hAD, fun c hc => by cases hc⟩) T2OK_nil w707
def g708 : CR := (169, [(2, 39, 39), (0, 0, 3), (0, 0, 48), (0, 0, 3), (0, 0, 48), (0, 12, 12)], [], none, [], [40])
theorem w708 : vrf GG [(3, g661), (3, g673)] [] 300 3 g708
  [(3, [(0, 3), (0, 48), (0, 3), (0, 48), (0, 12)], [(0, rA 39), (1, iA (0, [(1, 0)])), (2, iA (0, [(1, 1)])), (3, iA (0, [(1, 2)])), (4, iA (0, [(1, 3)])), (5, iA (12, [])), (6, iA (0, [(1, 4)]))], [], [], (1500, [((-116), 4)])),
  (28, [(0, 3), (0, 48), (0, 3), (0, 48), (0, 11), (0, 11)], [(0, rA 39), (1, iA (0, [(1, 0)])), (2, iA (0, [(1, 1)])), (3, iA (0, [(1, 2)])), (4, iA (0, [(1, 3)])), (5, iA (12, [])), (6, iA (0, [(1, 4)]))], [iA (0, [(1, 5)])], [], (1475, [((-116), 4)]))] = true := by decide +kernel
theorem r708 {l : Launch} {D : va_G} {tys : List (ClassId × FieldType)} {A : Nat → Prop} {ad : Nat → Nat} (hAD : ∀ i : Nat, ad (1000 + i) = D.2 1000 i) : CRok l D tys A ad GG 4 g708 := CR_of_vrf (dep := 3) hAD (List.forall_mem_cons.mpr ⟨r661 hAD, List.forall_mem_cons.mpr ⟨r673 hAD, fun c hc => by cases hc⟩⟩) T2OK_nil w708
def g709 : CR := (72, [(2, 0, 0), (0, 0, 3), (0, (-2147483648), 2147483647), (0, 0, 3), (0, (-2147483648), 2147483647), (0, 12, 12)], [], some (0, (-8), 0), [], [40])
theorem w709 : vrf GG [(4, g708)] [] 782 4 g709
  [] = true := by decide +kernel
theorem r709 {l : Launch} {D : va_G} {tys : List (ClassId × FieldType)} {A : Nat → Prop} {ad : Nat → Nat} (hAD : ∀ i : Nat, ad (1000 + i) = D.2 1000 i) : CRok l D tys A ad GG 5 g709 := CR_of_vrf (dep := 4) hAD (List.forall_mem_cons.mpr ⟨r708 hAD, fun c hc => by cases hc⟩) T2OK_nil w709
def g710 : CR := (169, [(2, 39, 39), (0, 0, 3), (0, 0, 47), (0, 0, 3), (0, 0, 47), (0, 13, 13)], [], none, [], [40])
theorem w710 : vrf GG [(3, g661), (3, g673)] [] 300 3 g710
  [(3, [(0, 3), (0, 47), (0, 3), (0, 47), (0, 13)], [(0, rA 39), (1, iA (0, [(1, 0)])), (2, iA (0, [(1, 1)])), (3, iA (0, [(1, 2)])), (4, iA (0, [(1, 3)])), (5, iA (13, [])), (6, iA (0, [(1, 4)]))], [], [], (1616, [((-116), 4)])),
  (28, [(0, 3), (0, 47), (0, 3), (0, 47), (0, 12), (0, 12)], [(0, rA 39), (1, iA (0, [(1, 0)])), (2, iA (0, [(1, 1)])), (3, iA (0, [(1, 2)])), (4, iA (0, [(1, 3)])), (5, iA (13, [])), (6, iA (0, [(1, 4)]))], [iA (0, [(1, 5)])], [], (1591, [((-116), 4)]))] = true := by decide +kernel
theorem r710 {l : Launch} {D : va_G} {tys : List (ClassId × FieldType)} {A : Nat → Prop} {ad : Nat → Nat} (hAD : ∀ i : Nat, ad (1000 + i) = D.2 1000 i) : CRok l D tys A ad GG 4 g710 := CR_of_vrf (dep := 3) hAD (List.forall_mem_cons.mpr ⟨r661 hAD, List.forall_mem_cons.mpr ⟨r673 hAD, fun c hc => by cases hc⟩⟩) T2OK_nil w710
def g711 : CR := (72, [(2, 0, 0), (0, 0, 3), (0, (-2147483648), 2147483647), (0, 0, 3), (0, (-2147483648), 2147483647), (0, 13, 13)], [], some (0, (-8), 0), [], [40])
theorem w711 : vrf GG [(4, g710)] [] 782 4 g711
  [] = true := by decide +kernel
theorem r711 {l : Launch} {D : va_G} {tys : List (ClassId × FieldType)} {A : Nat → Prop} {ad : Nat → Nat} (hAD : ∀ i : Nat, ad (1000 + i) = D.2 1000 i) : CRok l D tys A ad GG 5 g711 := CR_of_vrf (dep := 4) hAD (List.forall_mem_cons.mpr ⟨r710 hAD, fun c hc => by cases hc⟩) T2OK_nil w711
def g712 : CR := (169, [(2, 39, 39), (0, 0, 3), (0, 0, 46), (0, 0, 3), (0, 0, 46), (0, 14, 14)], [], none, [], [40])
theorem w712 : vrf GG [(3, g661), (3, g673)] [] 300 3 g712
  [(3, [(0, 3), (0, 46), (0, 3), (0, 46), (0, 14)], [(0, rA 39), (1, iA (0, [(1, 0)])), (2, iA (0, [(1, 1)])), (3, iA (0, [(1, 2)])), (4, iA (0, [(1, 3)])), (5, iA (14, [])), (6, iA (0, [(1, 4)]))], [], [], (1732, [((-116), 4)])),
  (28, [(0, 3), (0, 46), (0, 3), (0, 46), (0, 13), (0, 13)], [(0, rA 39), (1, iA (0, [(1, 0)])), (2, iA (0, [(1, 1)])), (3, iA (0, [(1, 2)])), (4, iA (0, [(1, 3)])), (5, iA (14, [])), (6, iA (0, [(1, 4)]))], [iA (0, [(1, 5)])], [], (1707, [((-116), 4)]))] = true := by decide +kernel
theorem r712 {l : Launch} {D : va_G} {tys : List (ClassId × FieldType)} {A : Nat → Prop} {ad : Nat → Nat} (hAD : ∀ i : Nat, ad (1000 + i) = D.2 1000 i) : CRok l D tys A ad GG 4 g712 := CR_of_vrf (dep := 3) hAD (List.forall_mem_cons.mpr ⟨r661 hAD, List.forall_mem_cons.mpr ⟨r673 hAD, fun c hc => by cases hc⟩⟩) T2OK_nil w712
def g713 : CR := (72, [(2, 0, 0), (0, 0, 3), (0, (-2147483648), 2147483647), (0, 0, 3), (0, (-2147483648), 2147483647), (0, 14, 14)], [], some (0, (-8), 0), [], [40])
theorem w713 : vrf GG [(4, g712)] [] 782 4 g713
  [] = true := by decide +kernel
theorem r713 {l : Launch} {D : va_G} {tys : List (ClassId × FieldType)} {A : Nat → Prop} {ad : Nat → Nat} (hAD : ∀ i : Nat, ad (1000 + i) = D.2 1000 i) : CRok l D tys A ad GG 5 g713 := CR_of_vrf (dep := 4) hAD (List.forall_mem_cons.mpr ⟨r712 hAD, fun c hc => by cases hc⟩) T2OK_nil w713
def g714 : CR := (169, [(2, 39, 39), (0, 0, 3), (0, 0, 45), (0, 0, 3), (0, 0, 45), (0, 15, 15)], [], none, [], [40])
theorem w714 : vrf GG [(3, g661), (3, g673)] [] 300 3 g714
  [(3, [(0, 3), (0, 45), (0, 3), (0, 45), (0, 15)], [(0, rA 39), (1, iA (0, [(1, 0)])), (2, iA (0, [(1, 1)])), (3, iA (0, [(1, 2)])), (4, iA (0, [(1, 3)])), (5, iA (15, [])), (6, iA (0, [(1, 4)]))], [], [], (1848, [((-116), 4)])),
  (28, [(0, 3), (0, 45), (0, 3), (0, 45), (0, 14), (0, 14)], [(0, rA 39), (1, iA (0, [(1, 0)])), (2, iA (0, [(1, 1)])), (3, iA (0, [(1, 2)])), (4, iA (0, [(1, 3)])), (5, iA (15, [])), (6, iA (0, [(1, 4)]))], [iA (0, [(1, 5)])], [], (1823, [((-116), 4)]))] = true := by decide +kernel
theorem r714 {l : Launch} {D : va_G} {tys : List (ClassId × FieldType)} {A : Nat → Prop} {ad : Nat → Nat} (hAD : ∀ i : Nat, ad (1000 + i) = D.2 1000 i) : CRok l D tys A ad GG 4 g714 := CR_of_vrf (dep := 3) hAD (List.forall_mem_cons.mpr ⟨r661 hAD, List.forall_mem_cons.mpr ⟨r673 hAD, fun c hc => by cases hc⟩⟩) T2OK_nil w714
def g715 : CR := (72, [(2, 0, 0), (0, 0, 3), (0, (-2147483648), 2147483647), (0, 0, 3), (0, (-2147483648), 2147483647), (0, 15, 15)], [], some (0, (-8), 0), [], [40])
theorem w715 : vrf GG [(4, g714)] [] 782 4 g715
  [] = true := by decide +kernel
theorem r715 {l : Launch} {D : va_G} {tys : List (ClassId × FieldType)} {A : Nat → Prop} {ad : Nat → Nat} (hAD : ∀ i : Nat, ad (1000 + i) = D.2 1000 i) : CRok l D tys A ad GG 5 g715 := CR_of_vrf (dep := 4) hAD (List.forall_mem_cons.mpr ⟨r714 hAD, fun c hc => by cases hc⟩) T2OK_nil w715
def g716 : CR := (169, [(2, 39, 39), (0, 0, 3), (0, 0, 44), (0, 0, 3), (0, 0, 44), (0, 16, 16)], [], none, [], [40])
theorem w716 : vrf GG [(3, g661), (3, g673)] [] 300 3 g716
  [(3, [(0, 3), (0, 44), (0, 3), (0, 44), (0, 16)], [(0, rA 39), (1, iA (0, [(1, 0)])), (2, iA (0, [(1, 1)])), (3, iA (0, [(1, 2)])), (4, iA (0, [(1, 3)])), (5, iA (16, [])), (6, iA (0, [(1, 4)]))], [], [], (1964, [((-116), 4)])),
  (28, [(0, 3), (0, 44), (0, 3), (0, 44), (0, 15), (0, 15)], [(0, rA 39), (1, iA (0, [(1, 0)])), (2, iA (0, [(1, 1)])), (3, iA (0, [(1, 2)])), (4, iA (0, [(1, 3)])), (5, iA (16, [])), (6, iA (0, [(1, 4)]))], [iA (0, [(1, 5)])], [], (1939, [((-116), 4)]))] = true := by decide +kernel
theorem r716 {l : Launch} {D : va_G} {tys : List (ClassId × FieldType)} {A : Nat → Prop} {ad : Nat → Nat} (hAD : ∀ i : Nat, ad (1000 + i) = D.2 1000 i) : CRok l D tys A ad GG 4 g716 := CR_of_vrf (dep := 3) hAD (List.forall_mem_cons.mpr ⟨r661 hAD, List.forall_mem_cons.mpr ⟨r673 hAD, fun c hc => by cases hc⟩⟩) T2OK_nil w716
def g717 : CR := (72, [(2, 0, 0), (0, 0, 3), (0, (-2147483648), 2147483647), (0, 0, 3), (0, (-2147483648), 2147483647), (0, 16, 16)], [], some (0, (-8), 0), [], [40])
theorem w717 : vrf GG [(4, g716)] [] 782 4 g717
  [] = true := by decide +kernel
theorem r717 {l : Launch} {D : va_G} {tys : List (ClassId × FieldType)} {A : Nat → Prop} {ad : Nat → Nat} (hAD : ∀ i : Nat, ad (1000 + i) = D.2 1000 i) : CRok l D tys A ad GG 5 g717 := CR_of_vrf (dep := 4) hAD (List.forall_mem_cons.mpr ⟨r716 hAD, fun c hc => by cases hc⟩) T2OK_nil w717
def g718 : CR := (166, [(2, 39, 39), (0, 0, 3), (0, (-2147483648), 255), (1, (-9223372036854775808), 9223372036854775807)], [], none, [], [40])
theorem w718 : vrf GG [] [] 300 2 g718
  [] = true := by decide +kernel
theorem r718 {l : Launch} {D : va_G} {tys : List (ClassId × FieldType)} {A : Nat → Prop} {ad : Nat → Nat} (hAD : ∀ i : Nat, ad (1000 + i) = D.2 1000 i) : CRok l D tys A ad GG 3 g718 := CR_of_vrf (dep := 2) hAD (fun c hc => by cases hc) T2OK_nil w718
def g719 : CR := (169, [(2, 39, 39), (0, 0, 3), (0, 0, 44), (0, 0, 3), (0, 0, 44), (0, 16, 60)], [], none, [], [40])
theorem w719 : vrf GG [(3, g718)] [] 300 3 g719
  [(3, [(0, 3), (0, 44), (0, 3), (0, 44), (16, 60), (0, 60)], [(0, rA 39), (1, iA (0, [(1, 0)])), (2, iA (0, [(1, 1)])), (3, iA (0, [(1, 2)])), (4, iA (0, [(1, 3)])), (5, iA (0, [(1, 4)])), (6, iA (0, [(1, 5)]))], [], [], (7068, [((-116), 5)])),
  (28, [(0, 3), (0, 44), (0, 3), (0, 44), (16, 60), (0, 59), ((-44), 59)], [(0, rA 39), (1, iA (0, [(1, 0)])), (2, iA (0, [(1, 1)])), (3, iA (0, [(1, 2)])), (4, iA (0, [(1, 3)])), (5, iA (0, [(1, 4)])), (6, iA (0, [(1, 5)]))], [iA (0, [(1, 6)])], [], (7043, [((-116), 5)]))] = true := by decide +kernel
theorem r719 {l : Launch} {D : va_G} {tys : List (ClassId × FieldType)} {A : Nat → Prop} {ad : Nat → Nat} (hAD : ∀ i : Nat, ad (1000 + i) = D.2 1000 i) : CRok l D tys A ad GG 4 g719 := CR_of_vrf (dep := 3) hAD (List.forall_mem_cons.mpr ⟨r718 hAD, fun c hc => by cases hc⟩) T2OK_nil w719
def g720 : CR := (72, [(2, 0, 0), (0, 0, 3), (0, (-2147483648), 2147483647), (0, 0, 3), (0, (-2147483648), 2147483647), (0, 17, 17)], [], some (0, (-8), 0), [], [40])
theorem w720 : vrf GG [(4, g719)] [] 782 4 g720
  [] = true := by decide +kernel
theorem r720 {l : Launch} {D : va_G} {tys : List (ClassId × FieldType)} {A : Nat → Prop} {ad : Nat → Nat} (hAD : ∀ i : Nat, ad (1000 + i) = D.2 1000 i) : CRok l D tys A ad GG 5 g720 := CR_of_vrf (dep := 4) hAD (List.forall_mem_cons.mpr ⟨r719 hAD, fun c hc => by cases hc⟩) T2OK_nil w720
def g721 : CR := (72, [(2, 0, 0), (0, 0, 3), (0, (-2147483648), 2147483647), (0, 0, 3), (0, (-2147483648), 2147483647), (0, 18, 18)], [], some (0, (-8), 0), [], [40])
theorem w721 : vrf GG [(4, g719)] [] 782 4 g721
  [] = true := by decide +kernel
theorem r721 {l : Launch} {D : va_G} {tys : List (ClassId × FieldType)} {A : Nat → Prop} {ad : Nat → Nat} (hAD : ∀ i : Nat, ad (1000 + i) = D.2 1000 i) : CRok l D tys A ad GG 5 g721 := CR_of_vrf (dep := 4) hAD (List.forall_mem_cons.mpr ⟨r719 hAD, fun c hc => by cases hc⟩) T2OK_nil w721
def g722 : CR := (72, [(2, 0, 0), (0, 0, 3), (0, (-2147483648), 2147483647), (0, 0, 3), (0, (-2147483648), 2147483647), (0, 19, 19)], [], some (0, (-8), 0), [], [40])
theorem w722 : vrf GG [(4, g719)] [] 782 4 g722
  [] = true := by decide +kernel
theorem r722 {l : Launch} {D : va_G} {tys : List (ClassId × FieldType)} {A : Nat → Prop} {ad : Nat → Nat} (hAD : ∀ i : Nat, ad (1000 + i) = D.2 1000 i) : CRok l D tys A ad GG 5 g722 := CR_of_vrf (dep := 4) hAD (List.forall_mem_cons.mpr ⟨r719 hAD, fun c hc => by cases hc⟩) T2OK_nil w722
