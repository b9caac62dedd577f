def g691 : CR := (169, [(2, 39, 39), (0, 0, 3), (0, 0, 49), (0, 0, 3), (0, 0, 49), (0, 11, 11)], [], none, [], [40])
theorem w691 : vrf GG [(3, g646), (3, g658)] [] 300 3 g691
  [(3, [(0, 3), (0, 49), (0, 3), (0, 49), (0, 11)], [(0, rA 39), (1, iA (0, [(1, 0)])), (2, iA (0, [(1, 1)])), (3, iA (0, [(1, 2)])), (4, iA (0, [(1, 3)])), (5, iA (11, [])), (6, iA (0, [(1, 4)]))], [], [], (1384, [((-116), 4)])),
  (28, [(0, 3), (0, 49), (0, 3), (0, 49), (0, 10), (0, 10)], [(0, rA 39), (1, iA (0, [(1, 0)])), (2, iA (0, [(1, 1)])), (3, iA (0, [(1, 2)])), (4, iA (0, [(1, 3)])), (5, iA (11, [])), (6, iA (0, [(1, 4)]))], [iA (0, [(1, 5)])], [], (1359, [((-116), 4)]))] = true := by decide +kernel
theorem r691 {l : Launch} {D : va_G} {tys : List (ClassId × FieldType)} {A : Nat → Prop} {ad : Nat → Nat} (hAD : ∀ i : Nat, ad (1000 + i) = D.2 1000 i) : CRok l D tys A ad GG 4 g691 := CR_of_vrf (dep := 3) hAD (List.forall_mem_cons.mpr ⟨r646 hAD, List.forall_mem_cons.mpr ⟨r658 hAD, fun c hc => by cases hc⟩⟩) T2OK_nil w691
def g692 : CR := (72, [(2, 0, 0), (0, 0, 3), (0, (-2147483648), 2147483647), (0, 0, 3), (0, (-2147483648), 2147483647), (0, 11, 11)], [], some (0, (-8), 0), [], [40])
theorem w692 : vrf GG [(4, g691)] [] 782 4 g692
  [] = true := by decide +kernel
theorem r692 {l : Launch} {D : va_G} {tys : List (ClassId × FieldType)} {A : Nat → Prop} {ad : Nat → Nat} (hAD : ∀ i : Nat, ad (1000 + i) = D.2 1000 i) : CRok l D tys A ad GG 5 g692 := CR_of_vrf (dep := 4) hAD (List.forall_mem_cons.mpr ⟨r691 hAD, fun c hc => by cases hc⟩) T2OK_nil w692
def g693 : CR := (169, [(2, 39, 39), (0, 0, 3), (0, 0, 48), (0, 0, 3), (0, 0, 48), (0, 12, 12)], [], none, [], [40])
theorem w693 : vrf GG [(3, g646), (3, g658)] [] 300 3 g693
  [(3, [(0, 3), (0, 48), (0, 3), (0, 48), (0, 12)], [(0, rA 39), (1, iA (0, [(1, 0)])), (2, iA (0, [(1, 1)])), (3, iA (0, [(1, 2)])), (4, iA (0, [(1, 3)])), (5, iA (12, [])), (6, iA (0, [(1, 4)]))], [], [], (1500, [((-116), 4)])),
  (28, [(0, 3), (0, 48), (0, 3), (0, 48), (0, 11), (0, 11)], [(0, rA 39), (1, iA (0, [(1, 0)])), (2, iA (0, [(1, 1)])), (3, iA (0, [(1, 2)])), (4, iA (0, [(1, 3)])), (5, iA (12, [])), (6, iA (0, [(1, 4)]))], [iA (0, [(1, 5)])], [], (1475, [((-116), 4)]))] = true := by decide +kernel
theorem r693 {l : Launch} {D : va_G} {tys : List (ClassId × FieldType)} {A : Nat → Prop} {ad : Nat → Nat} (hAD : ∀ i : Nat, ad (1000 + i) = D.2 1000 i) : CRok l D tys A ad GG 4 g693 := CR_of_vrf (dep := 3) hAD (List.forall_mem_cons.mpr ⟨r646 hAD, List.forall_mem_cons.mpr ⟨r658 hAD, fun c hc => by cases hc⟩⟩) T2OK_nil w693
def g694 : CR := (72, [(2, 0, 0), (0, 0, 3), (0, (-2147483648), 2147483647), (0, 0, 3), (0, (-2147483648), 2147483647), (0, 12, 12)], [], some (0, (-8), 0), [], [40])
theorem w694 : vrf GG [(4, g693)] [] 782 4 g694
  [] = true := by decide +kernel
theorem r694 {l : Launch} {D : va_G} {tys : List (ClassId × FieldType)} {A : Nat → Prop} {ad : Nat → Nat} (hAD : ∀ i : Nat, ad (1000 + i) = D.2 1000 i) : CRok l D tys A ad GG 5 g694 := CR_of_vrf (dep := 4) hAD (List.forall_mem_cons.mpr ⟨r693 hAD, fun c hc => by cases hc⟩) T2OK_nil w694
def g695 : CR := (169, [(2, 39, 39), (0, 0, 3), (0, 0, 47), (0, 0, 3), (0, 0, 47), (0, 13, 13)], [], none, [], [40])
theorem w695 : vrf GG [(3, g646), (3, g658)] [] 300 3 g695
  [(3, [(0, 3), (0, 47), (0, 3), (0, 47), (0, 13)], [(0, rA 39), (1, iA (0, [(1, 0)])), (2, iA (0, [(1, 1)])), (3, iA (0, [(1, 2)])), (4, iA (0, [(1, 3)])), (5, iA (13, [])), (6, iA (0, [(1, 4)]))], [], [], (1616, [((-116), 4)])),
  (28, [(0, 3), (0, 47), (0, 3), (0, 47), (0, 12), (0, 12)], [(0, rA 39), (1, iA (0, [(1, 0)])), (2, iA (0, [(1, 1)])), (3, iA (0, [(1, 2)])), (4, iA (0, [(1, 3)])), (5, iA (13, [])), (6, iA (0, [(1, 4)]))], [iA (0, [(1, 5)])], [], (1591, [((-116), 4)]))] = true := by decide +kernel
theorem r695 {l : Launch} {D : va_G} {tys : List (ClassId × FieldType)} {A : Nat → Prop} {ad : Nat → Nat} (hAD : ∀ i : Nat, ad (1000 + i) = D.2 1000 i) : CRok l D tys A ad GG 4 g695 := CR_of_vrf (dep := 3) hAD (List.forall_mem_cons.mpr ⟨r646 hAD, List.forall_mem_cons.mpr ⟨r658 hAD, fun c hc => by cases hc⟩⟩) T2OK_nil w695
def g696 : CR := (72, [(2, 0, 0), (0, 0, 3), (0, (-2147483648), 2147483647), (0, 0, 3), (0, (-2147483648), 2147483647), (0, 13, 13)], [], some (0, (-8), 0), [], [40])
theorem w696 : vrf GG [(4, g695)] [] 782 4 g696
  [] = true := by decide +kernel
theorem r696 {l : Launch} {D : va_G} {tys : List (ClassId × FieldType)} {A : Nat → Prop} {ad : Nat → Nat} (hAD : ∀ i : Nat, ad (1000 + i) = D.2 1000 i) : CRok l D tys A ad GG 5 g696 := CR_of_vrf (dep := 4) hAD (List.forall_mem_cons.mpr ⟨r695 hAD, fun c hc => by cases hc⟩) T2OK_nil w696
def g697 : CR := (169, [(2, 39, 39), (0, 0, 3), (0, 0, 46), (0, 0, 3), (0, 0, 46), (0, 14, 14)], [], none, [], [40])
theorem w697 : vrf GG [(3, g646), (3, g658)] [] 300 3 g697
  [(3, [(0, 3), (0, 46), (0, 3), (0, 46), (0, 14)], [(0, rA 39), (1, iA (0, [(1, 0)])), (2, iA (0, [(1, 1)])), (3, iA (0, [(1, 2)])), (4, iA (0, [(1, 3)])), (5, iA (14, [])), (6, iA (0, [(1, 4)]))], [], [], (1732, [((-116), 4)])),
  (28, [(0, 3), (0, 46), (0, 3), (0, 46), (0, 13), (0, 13)], [(0, rA 39), (1, iA (0, [(1, 0)])), (2, iA (0, [(1, 1)])), (3, iA (0, [(1, 2)])), (4, iA (0, [(1, 3)])), (5, iA (14, [])), (6, iA (0, [(1, 4)]))], [iA (0, [(1, 5)])], [], (1707, [((-116), 4)]))] = true := by decide +kernel
theorem r697 {l : Launch} {D : va_G} {tys : List (ClassId × FieldType)} {A : Nat → Prop} {ad : Nat → Nat} (hAD : ∀ i : Nat, ad (1000 + i) = D.2 1000 i) : CRok l D tys A ad GG 4 g697 := CR_of_vrf (dep := 3) hAD (List.forall_mem_cons.mpr ⟨r646 hAD, List.forall_mem_cons.mpr ⟨r658 hAD, fun c hc => by cases hc⟩⟩) T2OK_nil w697
def g698 : CR := (72, [(2, 0, 0), (0, 0, 3), (0, (-2147483648), 2147483647), (0, 0, 3), (0, (-2147483648), 2147483647), (0, 14, 14)], [], some (0, (-8), 0), [], [40])
theorem w698 : vrf GG [(4, g697)] [] 782 4 g698
  [] = true := by decide +kernel
theorem r698 {l : Launch} {D : va_G} {tys : List (ClassId × FieldType)} {A : Nat → Prop} {ad : Nat → Nat} (hAD : ∀ i : Nat, ad (1000 + i) = D.2 1000 i) : CRok l D tys A ad GG 5 g698 := CR_of_vrf (dep := 4) hAD (List.forall_mem_cons.mpr ⟨r697 hAD, fun c hc => by cases hc⟩) T2OK_nil w698
def g699 : CR := (169, [(2, 39, 39), (0, 0, 3), (0, 0, 45), (0, 0, 3), (0, 0, 45), (0, 15, 15)], [], none, [], [40])
theorem w699 : vrf GG [(3, g646), (3, g658)] [] 300 3 g699
  [(3, [(0, 3), (0, 45), (0, 3), (0, 45), (0, 15)], [(0, rA 39), (1, iA (0, [(1, 0)])), (2, iA (0, [(1, 1)])), (3, iA (0, [(1, 2)])), (4, iA (0, [(1, 3)])), (5, iA (15, [])), (6, iA (0, [(1, 4)]))], [], [], (1848, [((-116), 4)])),
  (28, [(0, 3), (0, 45), (0, 3), (0, 45), (0, 14), (0, 14)], [(0, rA 39), (1, iA (0, [(1, 0)])), (2, iA (0, [(1, 1)])), (3, iA (0, [(1, 2)])), (4, iA (0, [(1, 3)])), (5, iA (15, [])), (6, iA (0, [(1, 4)]))], [iA (0, [(1, 5)])], [], (1823, [((-116), 4)]))] = true := by decide +kernel
theorem r699 {l : Launch} {D : va_G} {tys : List (ClassId × FieldType)} {A : Nat → Prop} {ad : Nat → Nat} (hAD : ∀ i : Nat, ad (1000 + i) = D.2 1000 i) : CRok l D tys A ad GG 4 g699 := CR_of_vrf (dep := 3) hAD (List.forall_mem_cons.mpr ⟨r646 hAD, List.forall_mem_cons.mpr ⟨r658 hAD, fun c hc => by cases hc⟩⟩) T2OK_nil w699
def g700 : CR := (72, [(2, 0, 0), (0, 0, 3), (0, (-2147483648), 2147483647), (0, 0, 3), (0, (-2147483648), 2147483647), (0, 15, 15)], [], some (0, (-8), 0), [], [40])
theorem w700 : vrf GG [(4, g699)] [] 782 4 g700
  [] = true := by decide +kernel
theorem r700 {l : Launch} {D : va_G} {tys : List (ClassId × FieldType)} {A : Nat → Prop} {ad : Nat → Nat} (hAD : ∀ i : Nat, ad (1000 + i) = D.2 1000 i) : CRok l D tys A ad GG 5 g700 := CR_of_vrf (dep := 4) hAD (List.forall_mem_cons.mpr ⟨r699 hAD, fun c hc => by cases hc⟩) T2OK_nil w700
def g701 : CR := (169, [(2, 39, 39), (0, 0, 3), (0, 0, 44), (0, 0, 3), (0, 0, 44), (0, 16, 16)], [], none, [], [40])
theorem w701 : vrf GG [(3, g646), (3, g658)] [] 300 3 g701
  [(3, [(0, 3), (0, 44), (0, 3), (0, 44), (0, 16)], [(0, rA 39), (1, iA (0, [(1, 0)])), (2, iA (0, [(1, 1)])), (3, iA (0, [(1, 2)])), (4, iA (0, [(1, 3)])), (5, iA (16, [])), (6, iA (0, [(1, 4)]))], [], [], (1964, [((-116), 4)])),
  (28, [(0, 3), (0, 44), (0, 3), (0, 44), (0, 15), (0, 15)], [(0, rA 39), (1, iA (0, [(1, 0)])), (2, iA (0, [(1, 1)])), (3, iA (0, [(1, 2)])), (4, iA (0, [(1, 3)])), (5, iA (16, [])), (6, iA (0, [(1, 4)]))], [iA (0, [(1, 5)])], [], (1939, [((-116), 4)]))] = true := by decide +kernel
theorem r701 {l : Launch} {D : va_G} {tys : List (ClassId × FieldType)} {A : Nat → Prop} {ad : Nat → Nat} (hAD : ∀ i : Nat, ad (1000 + i) = D.2 1000 i) : CRok l D tys A ad GG 4 g701 := CR_of_vrf (dep := 3) hAD (List.forall_mem_cons.mpr ⟨r646 hAD, List.forall_mem_cons.mpr ⟨r658 hAD, fun c hc => by cases hc⟩⟩) T2OK_nil w701
def g702 : CR := (72, [(2, 0, 0), (0, 0, 3), (0, (-2147483648), 2147483647), (0, 0, 3), (0, (-2147483648), 2147483647), (0, 16, 16)], [], some (0, (-8), 0), [], [40])
theorem w702 : vrf GG [(4, g701)] [] 782 4 g702
  [] = true := by decide +kernel
theorem r702 {l : Launch} {D : va_G} {tys : List (ClassId × FieldType)} {A : Nat → Prop} {ad : Nat → Nat} (hAD : ∀ i : Nat, ad (1000 + i) = D.2 1000 i) : CRok l D tys A ad GG 5 g702 := CR_of_vrf (dep := 4) hAD (List.forall_mem_cons.mpr ⟨r701 hAD, fun c hc => by cases hc⟩) T2OK_nil w702
def g703 : CR := (166, [(2, 39, 39), (0, 0, 3), (0, (-2147483648), 255), (1, (-9223372036854775808), 9223372036854775807)], [], none, [], [40])
theorem w703 : vrf GG [] [] 300 2 g703
  [] = true := by decide +kernel
theorem r703 {l : Launch} {D : va_G} {tys : List (ClassId × FieldType)} {A : Nat → Prop} {ad : Nat → Nat} (hAD : ∀ i : Nat, ad (1000 + i) = D.2 1000 i) : CRok l D tys A ad GG 3 g703 := CR_of_vrf (dep := 2) hAD (fun c hc => by cases hc) T2OK_nil w703
def g704 : CR := (169, [(2, 39, 39), (0, 0, 3), (0, 0, 44), (0, 0, 3), (0, 0, 44), (0, 16, 60)], [], none, [], [40])
theorem w704 : vrf GG [(3, g703)] [] 300 3 g704
  [(3, [(0, 3), (0, 44), (0, 3), (0, 44), (16, 60), (0, 60)], [(0, rA 39), (1, iA (0, [(1, 0)])), (2, iA (0, [(1, 1)])), (3, iA (0, [(1, 2)])), (4, iA (0, [(1, 3)])), (5, iA (0, [(1, 4)])), (6, iA (0, [(1, 5)]))], [], [], (7068, [((-116), 5)])),
  (28, [(0, 3), (0, 44), (0, 3), (0, 44), (16, 60), (0, 59), ((-44), 59)], [(0, rA 39), (1, iA (0, [(1, 0)])), (2, iA (0, [(1, 1)])), (3, iA (0, [(1, 2)])), (4, iA (0, [(1, 3)])), (5, iA (0, [(1, 4)])), (6, iA (0, [(1, 5)]))], [iA (0, [(1, 6)])], [], (7043, [((-116), 5)]))] = true := by decide +kernel
theorem r704 {l : Launch} {D : va_G} {tys : List (ClassId × FieldType)} {A : Nat → Prop} {ad : Nat → Nat} (hAD : ∀ i : Nat, ad (1000 + i) = D.2 1000 i) : CRok l D tys A ad GG 4 g704 := CR_of_vrf (dep := 3) hAD (List.forall_mem_cons.mpr ⟨r703 hAD, fun c hc => by cases hc⟩) T2OK_nil w704
def g705 : CR := (72, [(2, 0, 0), (0, 0, 3), (0, (-2147483648), 2147483647), (0, 0, 3), (0, (-2147483648), 2147483647), (0, 17, 17)], [], some (0, (-8), 0), [], [40])
theorem w705 : vrf GG [(4, g704)] [] 782 4 g705
  [] = true := by decide +kernel
theorem r705 {l : Launch} {D : va_G} {tys : List (ClassId × FieldType)} {A : Nat → Prop} {ad : Nat → Nat} (hAD : ∀ i : Nat, ad (1000 + i) = D.2 1000 i) : CRok l D tys A ad GG 5 g705 := CR_of_vrf (dep := 4) hAD (List.forall_mem_cons.mpr ⟨r704 hAD, fun c hc => by cases hc⟩) T2OK_nil w705
def g706 : CR := (72, [(2, 0, 0), (0, 0, 3), (0, (-2147483648), 2147483647), (0, 0, 3), (0, (-2147483648), 2147483647), (0, 18, 18)], [], some (0, (-8), 0), [], [40])
theorem w706 : vrf GG [(4, g704)] [] 782 4 g706
  [] = true := by decide +kernel
theorem r706 {l : Launch} {D : va_G} {tys : List (ClassId × FieldType)} {A : Nat → Prop} {ad : Nat → Nat} (hAD : ∀ i : Nat, ad (1000 + i) = D.2 1000 i) : CRok l D tys A ad GG 5 g706 := CR_of_vrf (dep := 4) hAD (List.forall_mem_cons.mpr ⟨r704 hAD, fun c hc => by cases hc⟩) T2OK_nil w706
def g707 : CR := (72, [(2, 0, 0), (0, 0, 3), (0, (-2147483648), 2147483647), (0, 0, 3), (0, (-2147483648), 2147483647), (0, 19, 19)], [], some (0, (-8), 0), [], [40])
theorem w707 : vrf GG [(4, g704)] [] 782 4 g707
  [] = true := by decide +kernel
theorem r707 {l : Launch} {D : va_G} {tys : List (ClassId × FieldType)} {A : Nat → Prop} {ad : Nat → Nat} (hAD : ∀ i : Nat, ad (1000 + i) = D.2 1000 i) : CRok l D tys A ad GG 5 g707 := CR_of_vrf (dep := 4) hAD (List.forall_mem_cons.mpr ⟨r704 hAD, fun c hc => by cases hc⟩) T2OK_nil w707
def g708 : CR := (72, [(2, 0, 0), (0, 0, 3), (0, (-2147483648), 2147483647), (0, 0, 3), (0, (-2147483648), 2147483647), (0, 20, 20)], [], some (0, (-8), 0), [], [40])
theorem w708 : vrf GG [(4, g704)] [] 782 4 g708
  [] = true := by decide +kernel
theorem r708 {l : Launch} {D : va_G} {tys : List (ClassId × FieldType)} {A : Nat → Prop} {ad : Nat → Nat} (hAD : ∀ i : Nat, ad (1000 + i) = D.2 1000 i) : CRok l D tys A ad GG 5 g708 := CR_of_vrf (dep := 4) hAD (List.forall_mem_cons.mpr ⟨r704 hAD, fun c hc => by cases hc⟩) T2OK_nil w708
def g709 : CR := (72, [(2, 0, 0), (0, 0, 3), (0, (-2147483648), 2147483647), (0, 0, 3), (0, (-2147483648), 2147483647), (0, 21, 21)], [], some (0, (-8), 0), [], [40])
theorem w709 : vrf GG [(4, g704)] [] 782 4 g709
  [] = true := by decide +kernel
theorem r709 {l : Launch} {D : va_G} {tys : List (ClassId × FieldType)} {A : Nat → Prop} {ad : Nat → Nat} (hAD : ∀ i : Nat, ad (1000 + i) = D.2 1000 i) : CRok l D tys A ad GG 5 g709 := CR_of_vrf (dep := 4) hAD (List.forall_mem_cons.mpr ⟨r704 hAD, fun c hc => by cases hc⟩) T2OK_nil w709
def g710 : CR := (72, [(2, 0, 0), (0, 0, 3), (0, (-2147483648), 2147483647), (0, 0, 3), (0, (-2147483648), 2147483647), (0, 22, 22)], [], some (0, (-8), 0), [], [40])
theorem w710 : vrf GG [(4, g704)] [] 782 4 g710
  [] = true := by decide +kernel
theorem r710 {l : Launch} {D : va_G} {tys : List (ClassId × FieldType)} {A : Nat → Prop} {ad : Nat → Nat} (hAD : ∀ i : Nat, ad (1000 + i) = D.2 1000 i) : CRok l D tys A ad GG 5 g710 := CR_of_vrf (dep := 4) hAD (List.forall_mem_cons.mpr ⟨r704 hAD, fun c hc => by cases hc⟩) T2OK_nil w710
def g711 : CR := (72, [(2, 0, 0), (0, 0, 3), (0, (-2147483648), 2147483647), (0, 0, 3), (0, (-2147483648), 2147483647), (0, 23, 23)], [], some (0, (-8), 0), [], [40])
theorem w711 : vrf GG [(4, g704)] [] 782 4 g711
  [] = true := by decide +kernel
theorem r711 {l : Launch} {D : va_G} {tys : List (ClassId × FieldType)} {A : Nat → Prop} {ad : Nat → Nat} (hAD : ∀ i : Nat, ad (1000 + i) = D.2 1000 i) : CRok l D tys A ad GG 5 g711 := CR_of_vrf (dep := 4) hAD (List.forall_mem_cons.mpr ⟨r704 hAD, fun c hc => by cases hc⟩) T2OK_nil w711
def g712 : CR := (72, [(2, 0, 0), (0, 0, 3), (0, (-2147483648), 2147483647), (0, 0, 3), (0, (-2147483648), 2147483647), (0, 24, 24)], [], some (0, (-8), 0), [], [40])
theorem w712 : vrf GG [(4, g704)] [] 782 4 g712
  [] = true := by decide +kernel
theorem r712 {l : Launch} {D : va_G} {tys : List (ClassId × FieldType)} {A : Nat → Prop} {ad : Nat → Nat} (hAD : ∀ i : Nat, ad (1000 + i) = D.2 1000 i) : CRok l D tys A ad GG 5 g712 := CR_of_vrf (dep := 4) hAD (List.forall_mem_cons.mpr ⟨r704 hAD, fun c hc => by cases hc⟩) T2OK_nil w712
def g713 : CR := (72, [(2, 0, 0), (0, 0, 3), (0, (-2147483648), 2147483647), (0, 0, 3), (0, (-2147483648), 2147483647), (0, 25, 25)], [], some (0, (-8), 0), [], [40])
theorem w713 : vrf GG [(4, g704)] [] 782 4 g713
  [] = true := by decide +kernel
theorem r713 {l : Launch} {D : va_G} {tys : List (ClassId × FieldType)} {A : Nat → Prop} {ad : Nat → Nat} (hAD : ∀ i : Nat, ad (1000 + i) = D.2 1000 i) : CRok l D tys A ad GG 5 g713 := CR_of_vrf (dep := 4) hAD (List.forall_mem_cons.mpr ⟨r704 hAD, fun c hc => by cases hc⟩) T2OK_nil w713
def g714 : CR := (72, [(2, 0, 0), (0, 0, 3), (0, (-2147483648), 2147483647), (0, 0, 3), (0, (-2147483648), 2147483647), (0, 26, 26)], [], some (0, (-8), 0), [], [40])
theorem w714 : vrf GG [(4, g704)] [] 782 4 g714
  [] = true := by decide +kernel
theorem r714 {l : Launch} {D : va_G} {tys : List (ClassId × FieldType)} {A : Nat → Prop} {ad : Nat → Nat} (hAD : ∀ i : Nat, ad (1000 + i) = D.2 1000 i) : CRok l D tys A ad GG 5 g714 := CR_of_vrf (dep := 4) hAD (List.forall_mem_cons.mpr ⟨r704 hAD, fun c hc => by cases hc⟩) T2OK_nil w714
def g715 : CR := (72, [(2, 0, 0), (0, 0, 3), (0, (-2147483648), 2147483647), (0, 0, 3), (0, (-2147483648), 2147483647), (0, 27, 27)], [], some (0, (-8), 0), [], [40])
theorem w715 : vrf GG [(4, g704)] [] 782 4 g715
  [] = true := by decide +kernel
theorem r715 {l : Launch} {D : va_G} {tys : List (ClassId × FieldType)} {A : Nat → Prop} {ad : Nat → Nat} (hAD : ∀ i : Nat, ad (1000 + i) = D.2 1000 i) : CRok l D tys A ad GG 5 g715 := CR_of_vrf (dep := 4) hAD (List.forall_mem_cons.mpr ⟨r704 hAD, fun c hc => by cases hc⟩) T2OK_nil w715
def g716 : CR := (72, [(2, 0, 0), (0, 0, 3), (0, (-2147483648), 2147483647), (0, 0, 3), (0, (-2147483648), 2147483647), (0, 28, 28)], [], some (0, (-8), 0), [], [40])
theorem w716 : vrf GG [(4, g704)] [] 782 4 g716
  [] = true := by decide +kernel
theorem r716 {l : Launch} {D : va_G} {tys : List (ClassId × FieldType)} {A : Nat → Prop} {ad : Nat → Nat} (hAD : ∀ i : Nat, ad (1000 + i) = D.2 1000 i) : CRok l D tys A ad GG 5 g716 := CR_of_vrf (dep := 4) hAD (List.forall_mem_cons.mpr ⟨r704 hAD, fun c hc => by cases hc⟩) T2OK_nil w716
def g717 : CR := (72, [(2, 0, 0), (0, 0, 3), (0, (-2147483648), 2147483647), (0, 0, 3), (0, (-2147483648), 2147483647), (0, 29, 29)], [], some (0, (-8), 0), [], [40])
theorem w717 : vrf GG [(4, g704)] [] 782 4 g717
  [] = true := by decide +kernel
theorem r717 {l : Launch} {D : va_G} {tys : List (ClassId × FieldType)} {A : Nat → Prop} {ad : Nat → Nat} (hAD : ∀ i : Nat, ad (1000 + i) = D.2 1000 i) : CRok l D tys A ad GG 5 g717 := CR_of_vrf (dep := 4) hAD (List.forall_mem_cons.mpr ⟨r704 hAD, fun c hc => by cases hc⟩) T2OK_nil w717
def g718 : CR := (72, [(2, 0, 0), (0, 0, 3), (0, (-2147483648), 2147483647), (0, 0, 3), (0, (-2147483648), 2147483647), (0, 30, 30)], [], some (0, (-8), 0), [], [40])
theorem w718 : vrf GG [(4, g704)] [] 782 4 g718
  [] = true := by decide +kernel
theorem r718 {l : Launch} {D : va_G} {tys : List (ClassId × FieldType)} {A : Nat → Prop} {ad : Nat → Nat} (hAD : ∀ i : Nat, ad (1000 + i) = D.2 1000 i) : CRok l D tys A ad GG 5 g718 := CR_of_vrf (dep := 4) hAD (List.forall_mem_cons.mpr ⟨r704 hAD, fun c hc => by cases hc⟩) T2OK_nil w718
def g719 : CR := (72, [(2, 0, 0), (0, 0, 3), (0, (-2147483648), 2147483647), (0, 0, 3), (0, (-2147483648), 2147483647), (0, 31, 31)], [], some (0, (-8), 0), [], [40])
theorem w719 : vrf GG [(4, g704)] [] 782 4 g719
  [] = true := by decide +kernel
theorem r719 {l : Launch} {D : va_G} {tys : List (ClassId × FieldType)} {A : Nat → Prop} {ad : Nat → Nat} (hAD : ∀ i : Nat, ad (1000 + i) = D.2 1000 i) : CRok l D tys A ad GG 5 g719 := CR_of_vrf (dep := 4) hAD (List.forall_mem_cons.mpr ⟨r704 hAD, fun c hc => by cases hc⟩) T2OK_nil w719
def g720 : CR := (72, [(2, 0, 0), (0, 0, 3), (0, (-2147483648), 2147483647), (0, 0, 3), (0, (-2147483648), 2147483647), (0, 32, 32)], [], some (0, (-8), 0), [], [40])
theorem w720 : vrf GG [(4, g704)] [] 782 4 g720
  [] = true := by decide +kernel
theorem r720 {l : Launch} {D : va_G} {tys : List (ClassId × FieldType)} {A : Nat → Prop} {ad : Nat → Nat} (hAD : ∀ i : Nat, ad (1000 + i) = D.2 1000 i) : CRok l D tys A ad GG 5 g720 := CR_of_vrf (dep := 4) hAD (List.forall_mem_cons.mpr ⟨r704 hAD, fun c hc => by cases hc⟩) T2OK_nil w720
