def kX0_0 : CR := (1, [(2, 0, 0), (0, (-2147483648), 2147483647), (0, (-2147483648), 2147483647), (0, (-2147483648), 2147483647), (0, (-2147483648), 2147483647), (0, (-2147483648), 2147483647)], FX, some (0, 20, 20), [], [2, 3])
theorem wX0_0 : vrf GG T1 816 6 kX0_0
  [] = true := by decide +kernel
theorem rX0_0 {l : Launch} {D : va_G} {tys : List (ClassId × FieldType)} {A : Nat → Prop} {ad : Nat → Nat} : CRok l D tys A ad GG 11 kX0_0 := CR_of_vrf (d := 4) (dep := 6) T1ok wX0_0
def kM0_0 : CR := (210, [(2, 90, 90), (0, (-2147483648), 2147483647), (0, (-2147483648), 2147483647), (0, (-2147483648), 2147483647), (0, (-2147483648), 2147483647), (0, (-2147483648), 2147483647)], FM, some (0, 20, 20), [], [90, 94, 95])
theorem wM0_0 : vrf GG T1 300 6 kM0_0
  [(55, [((-2147483648), 2147483647), ((-2147483648), 2147483647), ((-2147483648), 2147483647), ((-2147483648), 2147483647), ((-2147483648), 2147483647), (0, 20)], [(0, rA 90), (1, iA (0, [(1, 0)])), (2, iA (0, [(1, 1)])), (3, iA (0, [(1, 2)])), (4, iA (0, [(1, 3)])), (5, iA (0, [(1, 4)])), (6, iA (0, [(1, 5)]))], [], [((90, 0), iA (0, [])), ((90, 5), iA (0, [])), ((90, 7), iA (0, [])), ((90, 8), iA (0, [])), ((90, 9), iA (0, [])), ((90, 10), iA (0, [])), ((90, 11), iA (0, [])), ((90, 12), iA (0, [])), ((90, 13), iA ((-1), [])), ((90, 18), iA (0, [])), ((90, 21), iA (0, [])), ((90, 22), iA ((-1), [])), ((90, 23), iA (0, [])), ((90, 24), iA (0, [])), ((90, 30), iA (0, [])), ((91, 0), iA (0, [])), ((91, 1), iA (0, [])), ((91, 2), iA (0, [])), ((91, 3), iA (0, [])), ((91, 4), iA (0, [])), ((91, 5), iA (0, [])), ((93, 0), iA (0, [])), ((93, 1), iA (0, [])), ((93, 2), iA (0, [])), ((96, 0), iA (0, [])), ((96, 1), iA (0, [])), ((96, 2), iA (0, [])), ((96, 3), iA (0, [])), ((96, 4), iA (0, [])), ((96, 5), iA (0, [])), ((107, 0), iA ((-1), [])), ((107, 1), iA ((-1), [])), ((107, 2), iA ((-1), [])), ((107, 3), iA ((-1), []))], (4886, [((-238), 5)]))] = true := by decide +kernel
theorem rM0_0 {l : Launch} {D : va_G} {tys : List (ClassId × FieldType)} {A : Nat → Prop} {ad : Nat → Nat} : CRok l D tys A ad GG 11 kM0_0 := CR_of_vrf (d := 4) (dep := 6) T1ok wM0_0
def kX1_0 : CR := (2, [(2, 0, 0), (0, (-2147483648), (-1))], FX, some (0, (-1), (-1)), [], [])
theorem wX1_0 : vrf GG T1 300 6 kX1_0
  [] = true := by decide +kernel
theorem rX1_0 {l : Launch} {D : va_G} {tys : List (ClassId × FieldType)} {A : Nat → Prop} {ad : Nat → Nat} : CRok l D tys A ad GG 11 kX1_0 := CR_of_vrf (d := 4) (dep := 6) T1ok wX1_0
def kX1_1 : CR := (2, [(2, 0, 0), (0, 0, 0)], FX, some (0, 0, 0), [], [2])
theorem wX1_1 : vrf GG T1 300 6 kX1_1
  [] = true := by decide +kernel
theorem rX1_1 {l : Launch} {D : va_G} {tys : List (ClassId × FieldType)} {A : Nat → Prop} {ad : Nat → Nat} : CRok l D tys A ad GG 11 kX1_1 := CR_of_vrf (d := 4) (dep := 6) T1ok wX1_1
def kX1_2 : CR := (2, [(2, 0, 0), (0, 1, 2147483647)], FX, some (0, (-1), (-1)), [], [])
theorem wX1_2 : vrf GG T1 300 6 kX1_2
  [] = true := by decide +kernel
theorem rX1_2 {l : Launch} {D : va_G} {tys : List (ClassId × FieldType)} {A : Nat → Prop} {ad : Nat → Nat} : CRok l D tys A ad GG 11 kX1_2 := CR_of_vrf (d := 4) (dep := 6) T1ok wX1_2
def kM1_0 : CR := (211, [(2, 90, 90), (0, (-2147483648), (-1))], FM, some (0, (-1), (-1)), [], [])
theorem wM1_0 : vrf GG T1 300 6 kM1_0
  [] = true := by decide +kernel
theorem rM1_0 {l : Launch} {D : va_G} {tys : List (ClassId × FieldType)} {A : Nat → Prop} {ad : Nat → Nat} : CRok l D tys A ad GG 11 kM1_0 := CR_of_vrf (d := 4) (dep := 6) T1ok wM1_0
def kM1_1 : CR := (211, [(2, 90, 90), (0, 0, 0)], FM, some (0, 0, 0), [], [90])
theorem wM1_1 : vrf GG T1 300 6 kM1_1
  [] = true := by decide +kernel
theorem rM1_1 {l : Launch} {D : va_G} {tys : List (ClassId × FieldType)} {A : Nat → Prop} {ad : Nat → Nat} : CRok l D tys A ad GG 11 kM1_1 := CR_of_vrf (d := 4) (dep := 6) T1ok wM1_1
def kM1_2 : CR := (211, [(2, 90, 90), (0, 1, 2147483647)], FM, some (0, (-1), (-1)), [], [])
theorem wM1_2 : vrf GG T1 300 6 kM1_2
  [] = true := by decide +kernel
theorem rM1_2 {l : Launch} {D : va_G} {tys : List (ClassId × FieldType)} {A : Nat → Prop} {ad : Nat → Nat} : CRok l D tys A ad GG 11 kM1_2 := CR_of_vrf (d := 4) (dep := 6) T1ok wM1_2
def kM2_0 : CR := (233, [(2, 90, 90)], FM, some (0, 0, 0), [], [90, 91, 96, 97])
theorem wM2_0 : vrf GG T1 518 6 kM2_0
  [(30, [(6, 294)], [(0, rA 90), (1, iA (0, [(1, 0)]))], [], [((90, 0), iA (0, [])), ((90, 5), iA (0, [])), ((90, 7), iA (0, [])), ((90, 8), iA (0, [])), ((90, 9), iA (0, [])), ((90, 10), iA (0, [])), ((90, 11), iA (0, [])), ((90, 12), iA (0, [])), ((90, 13), iA ((-1), [])), ((90, 18), iA (0, [])), ((90, 21), iA (0, [])), ((90, 22), iA ((-1), [])), ((90, 23), iA (0, [])), ((90, 24), iA (0, [])), ((90, 30), iA (0, [])), ((91, 0), iA (0, [])), ((91, 1), iA (0, [])), ((91, 2), iA (0, [])), ((91, 3), iA (0, [])), ((91, 4), iA (0, [])), ((91, 5), iA (0, [])), ((93, 0), iA (0, [])), ((93, 1), iA (0, [])), ((93, 2), iA (0, [])), ((96, 0), iA (0, [])), ((96, 1), iA (0, [])), ((96, 2), iA (0, [])), ((96, 3), iA (0, [])), ((96, 4), iA (0, [])), ((96, 5), iA (0, [])), ((107, 0), iA ((-1), [])), ((107, 1), iA ((-1), [])), ((107, 2), iA ((-1), [])), ((107, 3), iA ((-1), []))], (419396, [((-442), 0)])),
  (52, [(0, 144)], [(0, rA 90), (1, iA (0, [(1, 0)]))], [], [((90, 0), iA (0, [])), ((90, 5), iA (0, [])), ((90, 7), iA (0, [])), ((90, 8), iA (0, [])), ((90, 9), iA (0, [])), ((90, 10), iA (0, [])), ((90, 11), iA (0, [])), ((90, 12), iA (0, [])), ((90, 13), iA ((-1), [])), ((90, 18), iA (0, [])), ((90, 21), iA (0, [])), ((90, 22), iA ((-1), [])), ((90, 23), iA (0, [])), ((90, 24), iA (0, [])), ((90, 30), iA (0, [])), ((91, 0), iA (0, [])), ((91, 1), iA (0, [])), ((91, 2), iA (0, [])), ((91, 3), iA (0, [])), ((91, 4), iA (0, [])), ((91, 5), iA (0, [])), ((93, 0), iA (0, [])), ((93, 1), iA (0, [])), ((93, 2), iA (0, [])), ((96, 0), iA (0, [])), ((96, 1), iA (0, [])), ((96, 2), iA (0, [])), ((96, 3), iA (0, [])), ((96, 4), iA (0, [])), ((96, 5), iA (0, [])), ((107, 0), iA ((-1), [])), ((107, 1), iA ((-1), [])), ((107, 2), iA ((-1), [])), ((107, 3), iA ((-1), []))], (288520, [((-442), 0)])),
  (111, [(0, 6)], [(0, rA 90), (1, iA (0, [(1, 0)]))], [], [((90, 0), iA (0, [])), ((90, 5), iA (0, [])), ((90, 7), iA (0, [])), ((90, 8), iA (0, [])), ((90, 9), iA (0, [])), ((90, 10), iA (0, [])), ((90, 11), iA (0, [])), ((90, 12), iA (0, [])), ((90, 13), iA ((-1), [])), ((90, 18), iA (0, [])), ((90, 21), iA (0, [])), ((90, 22), iA ((-1), [])), ((90, 23), iA (0, [])), ((90, 24), iA (0, [])), ((90, 30), iA (0, [])), ((91, 0), iA (0, [])), ((91, 1), iA (0, [])), ((91, 2), iA (0, [])), ((91, 3), iA (0, [])), ((91, 4), iA (0, [])), ((91, 5), iA (0, [])), ((93, 0), iA (0, [])), ((93, 1), iA (0, [])), ((93, 2), iA (0, [])), ((96, 0), iA (0, [])), ((96, 1), iA (0, [])), ((96, 2), iA (0, [])), ((96, 3), iA (0, [])), ((96, 4), iA (0, [])), ((96, 5), iA (0, [])), ((107, 0), iA ((-1), [])), ((107, 1), iA ((-1), [])), ((107, 2), iA ((-1), [])), ((107, 3), iA ((-1), []))], (211494, [((-11934), 0)])),
  (121, [(0, 5), ((-1), 3), (0, 24)], [(0, rA 90), (1, iA (0, [(1, 0)])), (2, iA (0, [(1, 1)])), (3, iA (0, [(1, 2)]))], [], [((90, 0), iA (0, [])), ((90, 5), iA (0, [])), ((90, 7), iA (0, [])), ((90, 8), iA (0, [])), ((90, 9), iA (0, [])), ((90, 10), iA (0, [])), ((90, 11), iA (0, [])), ((90, 12), iA (0, [])), ((90, 13), iA ((-1), [])), ((90, 18), iA (0, [])), ((90, 21), iA (0, [])), ((90, 22), iA ((-1), [])), ((90, 23), iA (0, [])), ((90, 24), iA (0, [])), ((90, 30), iA (0, [])), ((91, 0), iA (0, [])), ((91, 1), iA (0, [])), ((91, 2), iA (0, [])), ((91, 3), iA (0, [])), ((91, 4), iA (0, [])), ((91, 5), iA (0, [])), ((93, 0), iA (0, [])), ((93, 1), iA (0, [])), ((93, 2), iA (0, [])), ((96, 0), iA (0, [])), ((96, 1), iA (0, [])), ((96, 2), iA (0, [])), ((96, 3), iA (0, [])), ((96, 4), iA (0, [])), ((96, 5), iA (0, [])), ((107, 0), iA ((-1), [])), ((107, 1), iA ((-1), [])), ((107, 2), iA ((-1), [])), ((107, 3), iA ((-1), []))], (210699, [((-442), 2), ((-11934), 0)])),
  (157, [(0, 5), ((-1), 3), (0, 23), ((-1), 3)], [(0, rA 90), (1, iA (0, [(1, 0)])), (2, iA (0, [(1, 1)])), (3, iA (0, [(1, 2)]))], [iA (0, [(1, 3)])], [((90, 0), iA (0, [])), ((90, 5), iA (0, [])), ((90, 7), iA (0, [])), ((90, 8), iA (0, [])), ((90, 9), iA (0, [])), ((90, 10), iA (0, [])), ((90, 11), iA (0, [])), ((90, 12), iA (0, [])), ((90, 13), iA ((-1), [])), ((90, 18), iA (0, [])), ((90, 21), iA (0, [])), ((90, 22), iA ((-1), [])), ((90, 23), iA (0, [])), ((90, 24), iA (0, [])), ((90, 30), iA (0, [])), ((91, 0), iA (0, [])), ((91, 1), iA (0, [])), ((91, 2), iA (0, [])), ((91, 3), iA (0, [])), ((91, 4), iA (0, [])), ((91, 5), iA (0, [])), ((93, 0), iA (0, [])), ((93, 1), iA (0, [])), ((93, 2), iA (0, [])), ((96, 0), iA (0, [])), ((96, 1), iA (0, [])), ((96, 2), iA (0, [])), ((96, 3), iA (0, [])), ((96, 4), iA (0, [])), ((96, 5), iA (0, [])), ((107, 0), iA ((-1), [])), ((107, 1), iA ((-1), [])), ((107, 2), iA ((-1), [])), ((107, 3), iA ((-1), []))], (210663, [((-442), 2), ((-11934), 0)])),
  (187, [(6, 294)], [(0, rA 90), (1, iA (0, [(1, 0)]))], [], [((90, 0), iA (0, [])), ((90, 5), iA (0, [])), ((90, 7), iA (0, [])), ((90, 8), iA (0, [])), ((90, 9), iA (0, [])), ((90, 10), iA (0, [])), ((90, 11), iA (0, [])), ((90, 12), iA (0, [])), ((90, 13), iA ((-1), [])), ((90, 18), iA (0, [])), ((90, 21), iA (0, [])), ((90, 22), iA ((-1), [])), ((90, 23), iA (0, [])), ((90, 24), iA (0, [])), ((90, 30), iA (0, [])), ((91, 0), iA (0, [])), ((91, 1), iA (0, [])), ((91, 2), iA (0, [])), ((91, 3), iA (0, [])), ((91, 4), iA (0, [])), ((91, 5), iA (0, [])), ((93, 0), iA (0, [])), ((93, 1), iA (0, [])), ((93, 2), iA (0, [])), ((107, 0), iA ((-1), [])), ((107, 1), iA ((-1), [])), ((107, 2), iA ((-1), [])), ((107, 3), iA ((-1), []))], (130014, [((-442), 0)]))] = true := by decide +kernel
theorem rM2_0 {l : Launch} {D : va_G} {tys : List (ClassId × FieldType)} {A : Nat → Prop} {ad : Nat → Nat} : CRok l D tys A ad GG 11 kM2_0 := CR_of_vrf (d := 4) (dep := 6) T1ok wM2_0
def kX3_0 : CR := (4, [(2, 0, 0), (0, (-2147483648), (-1))], FX, some (0, (-1), (-1)), [], [])
theorem wX3_0 : vrf GG T1 300 6 kX3_0
  [] = true := by decide +kernel
theorem rX3_0 {l : Launch} {D : va_G} {tys : List (ClassId × FieldType)} {A : Nat → Prop} {ad : Nat → Nat} : CRok l D tys A ad GG 11 kX3_0 := CR_of_vrf (d := 4) (dep := 6) T1ok wX3_0
def kX3_1 : CR := (4, [(2, 0, 0), (0, 0, 0)], FX, some (0, 0, 0), [], [])
theorem wX3_1 : vrf GG T1 300 6 kX3_1
  [] = true := by decide +kernel
theorem rX3_1 {l : Launch} {D : va_G} {tys : List (ClassId × FieldType)} {A : Nat → Prop} {ad : Nat → Nat} : CRok l D tys A ad GG 11 kX3_1 := CR_of_vrf (d := 4) (dep := 6) T1ok wX3_1
def kX3_2 : CR := (4, [(2, 0, 0), (0, 1, 1)], FX, some (0, (-1), (-1)), [], [])
theorem wX3_2 : vrf GG T1 300 6 kX3_2
  [] = true := by decide +kernel
theorem rX3_2 {l : Launch} {D : va_G} {tys : List (ClassId × FieldType)} {A : Nat → Prop} {ad : Nat → Nat} : CRok l D tys A ad GG 11 kX3_2 := CR_of_vrf (d := 4) (dep := 6) T1ok wX3_2
def kX3_3 : CR := (4, [(2, 0, 0), (0, 2, 2147483647)], FX, some (0, (-1), (-1)), [], [])
theorem wX3_3 : vrf GG T1 300 6 kX3_3
  [] = true := by decide +kernel
theorem rX3_3 {l : Launch} {D : va_G} {tys : List (ClassId × FieldType)} {A : Nat → Prop} {ad : Nat → Nat} : CRok l D tys A ad GG 11 kX3_3 := CR_of_vrf (d := 4) (dep := 6) T1ok wX3_3
def kM3_0 : CR := (221, [(2, 90, 90), (0, (-2147483648), (-1))], FM, some (0, (-1), (-1)), [], [])
theorem wM3_0 : vrf GG T1 300 6 kM3_0
  [] = true := by decide +kernel
theorem rM3_0 {l : Launch} {D : va_G} {tys : List (ClassId × FieldType)} {A : Nat → Prop} {ad : Nat → Nat} : CRok l D tys A ad GG 11 kM3_0 := CR_of_vrf (d := 4) (dep := 6) T1ok wM3_0
def kM3_1 : CR := (221, [(2, 90, 90), (0, 0, 0)], FM, some (0, 0, 0), [], [])
theorem wM3_1 : vrf GG T1 300 6 kM3_1
  [] = true := by decide +kernel
theorem rM3_1 {l : Launch} {D : va_G} {tys : List (ClassId × FieldType)} {A : Nat → Prop} {ad : Nat → Nat} : CRok l D tys A ad GG 11 kM3_1 := CR_of_vrf (d := 4) (dep := 6) T1ok wM3_1
def kM3_2 : CR := (221, [(2, 90, 90), (0, 1, 1)], FM, some (0, (-1), (-1)), [], [])
theorem wM3_2 : vrf GG T1 300 6 kM3_2
  [] = true := by decide +kernel
theorem rM3_2 {l : Launch} {D : va_G} {tys : List (ClassId × FieldType)} {A : Nat → Prop} {ad : Nat → Nat} : CRok l D tys A ad GG 11 kM3_2 := CR_of_vrf (d := 4) (dep := 6) T1ok wM3_2
def kM3_3 : CR := (221, [(2, 90, 90), (0, 2, 2147483647)], FM, some (0, (-1), (-1)), [], [])
theorem wM3_3 : vrf GG T1 300 6 kM3_3
  [] = true := by decide +kernel
theorem rM3_3 {l : Launch} {D : va_G} {tys : List (ClassId × FieldType)} {A : Nat → Prop} {ad : Nat → Nat} : CRok l D tys A ad GG 11 kM3_3 := CR_of_vrf (d := 4) (dep := 6) T1ok wM3_3
def kX4_0 : CR := (5, [(2, 0, 0), (0, (-2147483648), 2147483647), (0, (-2147483648), 2147483647)], FX, some (0, (-2), (-2)), [], [])
theorem wX4_0 : vrf GG T1 300 6 kX4_0
  [] = true := by decide +kernel
theorem rX4_0 {l : Launch} {D : va_G} {tys : List (ClassId × FieldType)} {A : Nat → Prop} {ad : Nat → Nat} : CRok l D tys A ad GG 11 kX4_0 := CR_of_vrf (d := 4) (dep := 6) T1ok wX4_0
def kM4_0 : CR := (243, [(2, 90, 90), (0, (-2147483648), 2147483647), (0, (-2147483648), 2147483647)], FM, some (0, (-2), (-2)), [], [])
theorem wM4_0 : vrf GG T1 300 6 kM4_0
  [] = true := by decide +kernel
theorem rM4_0 {l : Launch} {D : va_G} {tys : List (ClassId × FieldType)} {A : Nat → Prop} {ad : Nat → Nat} : CRok l D tys A ad GG 11 kM4_0 := CR_of_vrf (d := 4) (dep := 6) T1ok wM4_0
def kX5_0 : CR := (6, [(2, 0, 0), (0, (-2147483648), 2147483647)], FX, some (0, (-2), (-2)), [], [])
theorem wX5_0 : vrf GG T1 300 6 kX5_0
  [] = true := by decide +kernel
theorem rX5_0 {l : Launch} {D : va_G} {tys : List (ClassId × FieldType)} {A : Nat → Prop} {ad : Nat → Nat} : CRok l D tys A ad GG 11 kX5_0 := CR_of_vrf (d := 4) (dep := 6) T1ok wX5_0
def kM5_0 : CR := (244, [(2, 90, 90), (0, (-2147483648), 2147483647)], FM, some (0, (-2), (-2)), [], [])
theorem wM5_0 : vrf GG T1 300 6 kM5_0
  [] = true := by decide +kernel
theorem rM5_0 {l : Launch} {D : va_G} {tys : List (ClassId × FieldType)} {A : Nat → Prop} {ad : Nat → Nat} : CRok l D tys A ad GG 11 kM5_0 := CR_of_vrf (d := 4) (dep := 6) T1ok wM5_0
def kX6_0 : CR := (7, [(2, 0, 0), (0, (-2147483648), 2147483647), (0, (-2147483648), 2147483647)], FX, some (0, (-2), (-2)), [], [])
theorem wX6_0 : vrf GG T1 300 6 kX6_0
  [] = true := by decide +kernel
theorem rX6_0 {l : Launch} {D : va_G} {tys : List (ClassId × FieldType)} {A : Nat → Prop} {ad : Nat → Nat} : CRok l D tys A ad GG 11 kX6_0 := CR_of_vrf (d := 4) (dep := 6) T1ok wX6_0
def kM6_0 : CR := (245, [(2, 90, 90), (0, (-2147483648), 2147483647), (0, (-2147483648), 2147483647)], FM, some (0, (-2), (-2)), [], [])
theorem wM6_0 : vrf GG T1 300 6 kM6_0
  [] = true := by decide +kernel
theorem rM6_0 {l : Launch} {D : va_G} {tys : List (ClassId × FieldType)} {A : Nat → Prop} {ad : Nat → Nat} : CRok l D tys A ad GG 11 kM6_0 := CR_of_vrf (d := 4) (dep := 6) T1ok wM6_0
def kX7_0 : CR := (8, [(2, 0, 0), (0, (-2147483648), 2147483647), (0, (-2147483648), 2147483647)], FX, some (0, (-2), (-2)), [], [])
theorem wX7_0 : vrf GG T1 300 6 kX7_0
  [] = true := by decide +kernel
theorem rX7_0 {l : Launch} {D : va_G} {tys : List (ClassId × FieldType)} {A : Nat → Prop} {ad : Nat → Nat} : CRok l D tys A ad GG 11 kX7_0 := CR_of_vrf (d := 4) (dep := 6) T1ok wX7_0
def kM7_0 : CR := (246, [(2, 90, 90), (0, (-2147483648), 2147483647), (0, (-2147483648), 2147483647)], FM, some (0, (-2), (-2)), [], [])
theorem wM7_0 : vrf GG T1 300 6 kM7_0
  [] = true := by decide +kernel
theorem rM7_0 {l : Launch} {D : va_G} {tys : List (ClassId × FieldType)} {A : Nat → Prop} {ad : Nat → Nat} : CRok l D tys A ad GG 11 kM7_0 := CR_of_vrf (d := 4) (dep := 6) T1ok wM7_0
def kX8_0 : CR := (9, [(2, 0, 0), (0, (-2147483648), 2147483647), (0, (-2147483648), 2147483647)], FX, some (0, (-2), (-2)), [], [])
theorem wX8_0 : vrf GG T1 300 6 kX8_0
  [] = true := by decide +kernel
theorem rX8_0 {l : Launch} {D : va_G} {tys : List (ClassId × FieldType)} {A : Nat → Prop} {ad : Nat → Nat} : CRok l D tys A ad GG 11 kX8_0 := CR_of_vrf (d := 4) (dep := 6) T1ok wX8_0
def kM8_0 : CR := (247, [(2, 90, 90), (0, (-2147483648), 2147483647), (0, (-2147483648), 2147483647)], FM, some (0, (-2), (-2)), [], [])
theorem wM8_0 : vrf GG T1 300 6 kM8_0
  [] = true := by decide +kernel
theorem rM8_0 {l : Launch} {D : va_G} {tys : List (ClassId × FieldType)} {A : Nat → Prop} {ad : Nat → Nat} : CRok l D tys A ad GG 11 kM8_0 := CR_of_vrf (d := 4) (dep := 6) T1ok wM8_0
def kX9_0 : CR := (10, [(2, 0, 0), (0, (-2147483648), 2147483647), (0, (-2147483648), 2147483647)], FX, some (0, (-2), (-2)), [], [])
theorem wX9_0 : vrf GG T1 300 6 kX9_0
  [] = true := by decide +kernel
theorem rX9_0 {l : Launch} {D : va_G} {tys : List (ClassId × FieldType)} {A : Nat → Prop} {ad : Nat → Nat} : CRok l D tys A ad GG 11 kX9_0 := CR_of_vrf (d := 4) (dep := 6) T1ok wX9_0
def kM9_0 : CR := (248, [(2, 90, 90), (0, (-2147483648), 2147483647), (0, (-2147483648), 2147483647)], FM, some (0, (-2), (-2)), [], [])
theorem wM9_0 : vrf GG T1 300 6 kM9_0
  [] = true := by decide +kernel
theorem rM9_0 {l : Launch} {D : va_G} {tys : List (ClassId × FieldType)} {A : Nat → Prop} {ad : Nat → Nat} : CRok l D tys A ad GG 11 kM9_0 := CR_of_vrf (d := 4) (dep := 6) T1ok wM9_0
def kX10_0 : CR := (11, [(2, 0, 0), (0, (-2147483648), 2147483647), (0, (-2147483648), 2147483647), (0, (-2147483648), 2147483647)], FX, some (0, (-2), (-2)), [], [])
theorem wX10_0 : vrf GG T1 300 6 kX10_0
  [] = true := by decide +kernel
theorem rX10_0 {l : Launch} {D : va_G} {tys : List (ClassId × FieldType)} {A : Nat → Prop} {ad : Nat → Nat} : CRok l D tys A ad GG 11 kX10_0 := CR_of_vrf (d := 4) (dep := 6) T1ok wX10_0
def kM10_0 : CR := (249, [(2, 90, 90), (0, (-2147483648), 2147483647), (0, (-2147483648), 2147483647), (0, (-2147483648), 2147483647)], FM, some (0, (-2), (-2)), [], [])
theorem wM10_0 : vrf GG T1 300 6 kM10_0
  [] = true := by decide +kernel
theorem rM10_0 {l : Launch} {D : va_G} {tys : List (ClassId × FieldType)} {A : Nat → Prop} {ad : Nat → Nat} : CRok l D tys A ad GG 11 kM10_0 := CR_of_vrf (d := 4) (dep := 6) T1ok wM10_0
def kX11_0 : CR := (12, [(2, 0, 0), (0, (-2147483648), 2147483647)], FX, some (0, (-2), (-2)), [], [])
theorem wX11_0 : vrf GG T1 300 6 kX11_0
  [] = true := by decide +kernel
theorem rX11_0 {l : Launch} {D : va_G} {tys : List (ClassId × FieldType)} {A : Nat → Prop} {ad : Nat → Nat} : CRok l D tys A ad GG 11 kX11_0 := CR_of_vrf (d := 4) (dep := 6) T1ok wX11_0
def kM11_0 : CR := (250, [(2, 90, 90), (0, (-2147483648), 2147483647)], FM, some (0, (-2), (-2)), [], [])
theorem wM11_0 : vrf GG T1 300 6 kM11_0
  [] = true := by decide +kernel
theorem rM11_0 {l : Launch} {D : va_G} {tys : List (ClassId × FieldType)} {A : Nat → Prop} {ad : Nat → Nat} : CRok l D tys A ad GG 11 kM11_0 := CR_of_vrf (d := 4) (dep := 6) T1ok wM11_0
def kX12_0 : CR := (13, [(2, 0, 0), (0, (-2147483648), 2147483647)], FX, some (0, (-2), (-2)), [], [])
theorem wX12_0 : vrf GG T1 300 6 kX12_0
  [] = true := by decide +kernel
theorem rX12_0 {l : Launch} {D : va_G} {tys : List (ClassId × FieldType)} {A : Nat → Prop} {ad : Nat → Nat} : CRok l D tys A ad GG 11 kX12_0 := CR_of_vrf (d := 4) (dep := 6) T1ok wX12_0
def kM12_0 : CR := (251, [(2, 90, 90), (0, (-2147483648), 2147483647)], FM, some (0, (-2), (-2)), [], [])
theorem wM12_0 : vrf GG T1 300 6 kM12_0
  [] = true := by decide +kernel
theorem rM12_0 {l : Launch} {D : va_G} {tys : List (ClassId × FieldType)} {A : Nat → Prop} {ad : Nat → Nat} : CRok l D tys A ad GG 11 kM12_0 := CR_of_vrf (d := 4) (dep := 6) T1ok wM12_0
def kX13_0 : CR := (14, [(2, 0, 0), (0, (-2147483648), 2147483647)], FX, some (0, (-2), (-2)), [], [])
theorem wX13_0 : vrf GG T1 300 6 kX13_0
  [] = true := by decide +kernel
theorem rX13_0 {l : Launch} {D : va_G} {tys : List (ClassId × FieldType)} {A : Nat → Prop} {ad : Nat → Nat} : CRok l D tys A ad GG 11 kX13_0 := CR_of_vrf (d := 4) (dep := 6) T1ok wX13_0
def kM13_0 : CR := (252, [(2, 90, 90), (0, (-2147483648), 2147483647)], FM, some (0, (-2), (-2)), [], [])
theorem wM13_0 : vrf GG T1 300 6 kM13_0
  [] = true := by decide +kernel
theorem rM13_0 {l : Launch} {D : va_G} {tys : List (ClassId × FieldType)} {A : Nat → Prop} {ad : Nat → Nat} : CRok l D tys A ad GG 11 kM13_0 := CR_of_vrf (d := 4) (dep := 6) T1ok wM13_0
def kX14_0 : CR := (15, [(2, 0, 0), (0, (-2147483648), 2147483647), (0, (-2147483648), 2147483647)], FX, some (0, (-2), (-2)), [], [])
theorem wX14_0 : vrf GG T1 300 6 kX14_0
  [] = true := by decide +kernel
theorem rX14_0 {l : Launch} {D : va_G} {tys : List (ClassId × FieldType)} {A : Nat → Prop} {ad : Nat → Nat} : CRok l D tys A ad GG 11 kX14_0 := CR_of_vrf (d := 4) (dep := 6) T1ok wX14_0
def kM14_0 : CR := (254, [(2, 90, 90), (0, (-2147483648), 2147483647), (0, (-2147483648), 2147483647)], FM, some (0, (-2), (-2)), [], [])
theorem wM14_0 : vrf GG T1 300 6 kM14_0
  [] = true := by decide +kernel
theorem rM14_0 {l : Launch} {D : va_G} {tys : List (ClassId × FieldType)} {A : Nat → Prop} {ad : Nat → Nat} : CRok l D tys A ad GG 11 kM14_0 := CR_of_vrf (d := 4) (dep := 6) T1ok wM14_0
def kX15_0 : CR := (16, [(2, 0, 0), (0, (-2147483648), 2147483647), (0, (-2147483648), 2147483647)], FX, some (0, (-2), (-2)), [], [])
theorem wX15_0 : vrf GG T1 300 6 kX15_0
  [] = true := by decide +kernel
theorem rX15_0 {l : Launch} {D : va_G} {tys : List (ClassId × FieldType)} {A : Nat → Prop} {ad : Nat → Nat} : CRok l D tys A ad GG 11 kX15_0 := CR_of_vrf (d := 4) (dep := 6) T1ok wX15_0
def kM15_0 : CR := (256, [(2, 90, 90), (0, (-2147483648), 2147483647), (0, (-2147483648), 2147483647)], FM, some (0, (-2), (-2)), [], [])
theorem wM15_0 : vrf GG T1 300 6 kM15_0
  [] = true := by decide +kernel
theorem rM15_0 {l : Launch} {D : va_G} {tys : List (ClassId × FieldType)} {A : Nat → Prop} {ad : Nat → Nat} : CRok l D tys A ad GG 11 kM15_0 := CR_of_vrf (d := 4) (dep := 6) T1ok wM15_0
def kX16_0 : CR := (17, [(2, 0, 0), (0, (-2147483648), 2147483647)], FX, some (0, (-2), (-2)), [], [])
theorem wX16_0 : vrf GG T1 300 6 kX16_0
  [] = true := by decide +kernel
theorem rX16_0 {l : Launch} {D : va_G} {tys : List (ClassId × FieldType)} {A : Nat → Prop} {ad : Nat → Nat} : CRok l D tys A ad GG 11 kX16_0 := CR_of_vrf (d := 4) (dep := 6) T1ok wX16_0
def kM16_0 : CR := (258, [(2, 90, 90), (0, (-2147483648), 2147483647)], FM, some (0, (-2), (-2)), [], [])
theorem wM16_0 : vrf GG T1 300 6 kM16_0
  [] = true := by decide +kernel
theorem rM16_0 {l : Launch} {D : va_G} {tys : List (ClassId × FieldType)} {A : Nat → Prop} {ad : Nat → Nat} : CRok l D tys A ad GG 11 kM16_0 := CR_of_vrf (d := 4) (dep := 6) T1ok wM16_0
def kX17_0 : CR := (18, [(2, 0, 0), (0, (-2147483648), 2147483647)], FX, some (0, (-2), (-2)), [], [])
theorem wX17_0 : vrf GG T1 300 6 kX17_0
  [] = true := by decide +kernel
theorem rX17_0 {l : Launch} {D : va_G} {tys : List (ClassId × FieldType)} {A : Nat → Prop} {ad : Nat → Nat} : CRok l D tys A ad GG 11 kX17_0 := CR_of_vrf (d := 4) (dep := 6) T1ok wX17_0
def kM17_0 : CR := (259, [(2, 90, 90), (0, (-2147483648), 2147483647)], FM, some (0, (-2), (-2)), [], [])
theorem wM17_0 : vrf GG T1 300 6 kM17_0
  [] = true := by decide +kernel
theorem rM17_0 {l : Launch} {D : va_G} {tys : List (ClassId × FieldType)} {A : Nat → Prop} {ad : Nat → Nat} : CRok l D tys A ad GG 11 kM17_0 := CR_of_vrf (d := 4) (dep := 6) T1ok wM17_0
def kX18_0 : CR := (19, [(2, 0, 0), (0, (-2147483648), 2147483647)], FX, some (0, (-2), (-2)), [], [])
theorem wX18_0 : vrf GG T1 300 6 kX18_0
  [] = true := by decide +kernel
theorem rX18_0 {l : Launch} {D : va_G} {tys : List (ClassId × FieldType)} {A : Nat → Prop} {ad : Nat → Nat} : CRok l D tys A ad GG 11 kX18_0 := CR_of_vrf (d := 4) (dep := 6) T1ok wX18_0
def kM18_0 : CR := (260, [(2, 90, 90), (0, (-2147483648), 2147483647)], FM, some (0, (-2), (-2)), [], [])
theorem wM18_0 : vrf GG T1 300 6 kM18_0
  [] = true := by decide +kernel
theorem rM18_0 {l : Launch} {D : va_G} {tys : List (ClassId × FieldType)} {A : Nat → Prop} {ad : Nat → Nat} : CRok l D tys A ad GG 11 kM18_0 := CR_of_vrf (d := 4) (dep := 6) T1ok wM18_0
def kX19_0 : CR := (20, [(2, 0, 0), (0, (-2147483648), 2147483647), (0, (-2147483648), 2147483647)], FX, some (0, (-2), (-2)), [], [])
theorem wX19_0 : vrf GG T1 300 6 kX19_0
  [] = true := by decide +kernel
theorem rX19_0 {l : Launch} {D : va_G} {tys : List (ClassId × FieldType)} {A : Nat → Prop} {ad : Nat → Nat} : CRok l D tys A ad GG 11 kX19_0 := CR_of_vrf (d := 4) (dep := 6) T1ok wX19_0
def kM19_0 : CR := (262, [(2, 90, 90), (0, (-2147483648), 2147483647), (0, (-2147483648), 2147483647)], FM, some (0, (-2), (-2)), [], [])
theorem wM19_0 : vrf GG T1 300 6 kM19_0
  [] = true := by decide +kernel
theorem rM19_0 {l : Launch} {D : va_G} {tys : List (ClassId × FieldType)} {A : Nat → Prop} {ad : Nat → Nat} : CRok l D tys A ad GG 11 kM19_0 := CR_of_vrf (d := 4) (dep := 6) T1ok wM19_0
def kX20_0 : CR := (21, [(2, 0, 0), (0, (-2147483648), 2147483647)], FX, some (0, (-2), (-2)), [], [])
theorem wX20_0 : vrf GG T1 300 6 kX20_0
  [] = true := by decide +kernel
theorem rX20_0 {l : Launch} {D : va_G} {tys : List (ClassId × FieldType)} {A : Nat → Prop} {ad : Nat → Nat} : CRok l D tys A ad GG 11 kX20_0 := CR_of_vrf (d := 4) (dep := 6) T1ok wX20_0
def kM20_0 : CR := (263, [(2, 90, 90), (0, (-2147483648), 2147483647)], FM, some (0, (-2), (-2)), [], [])
theorem wM20_0 : vrf GG T1 300 6 kM20_0
  [] = true := by decide +kernel
theorem rM20_0 {l : Launch} {D : va_G} {tys : List (ClassId × FieldType)} {A : Nat → Prop} {ad : Nat → Nat} : CRok l D tys A ad GG 11 kM20_0 := CR_of_vrf (d := 4) (dep := 6) T1ok wM20_0
def kX21_0 : CR := (22, [(2, 0, 0), (0, (-2147483648), 2147483647), (0, (-2147483648), 2147483647), (0, (-2147483648), 2147483647)], FX, some (0, (-2), (-2)), [], [])
theorem wX21_0 : vrf GG T1 300 6 kX21_0
  [] = true := by decide +kernel
theorem rX21_0 {l : Launch} {D : va_G} {tys : List (ClassId × FieldType)} {A : Nat → Prop} {ad : Nat → Nat} : CRok l D tys A ad GG 11 kX21_0 := CR_of_vrf (d := 4) (dep := 6) T1ok wX21_0
def kM21_0 : CR := (266, [(2, 90, 90), (0, (-2147483648), 2147483647), (0, (-2147483648), 2147483647), (0, (-2147483648), 2147483647)], FM, some (0, (-2), (-2)), [], [])
theorem wM21_0 : vrf GG T1 300 6 kM21_0
  [] = true := by decide +kernel
theorem rM21_0 {l : Launch} {D : va_G} {tys : List (ClassId × FieldType)} {A : Nat → Prop} {ad : Nat → Nat} : CRok l D tys A ad GG 11 kM21_0 := CR_of_vrf (d := 4) (dep := 6) T1ok wM21_0
def kX22_0 : CR := (23, [(2, 0, 0), (0, (-2147483648), 2147483647), (0, (-2147483648), 2147483647)], FX, some (0, (-2), (-2)), [], [])
theorem wX22_0 : vrf GG T1 300 6 kX22_0
  [] = true := by decide +kernel
theorem rX22_0 {l : Launch} {D : va_G} {tys : List (ClassId × FieldType)} {A : Nat → Prop} {ad : Nat → Nat} : CRok l D tys A ad GG 11 kX22_0 := CR_of_vrf (d := 4) (dep := 6) T1ok wX22_0
def kM22_0 : CR := (267, [(2, 90, 90), (0, (-2147483648), 2147483647), (0, (-2147483648), 2147483647)], FM, some (0, (-2), (-2)), [], [])
theorem wM22_0 : vrf GG T1 300 6 kM22_0
  [] = true := by decide +kernel
theorem rM22_0 {l : Launch} {D : va_G} {tys : List (ClassId × FieldType)} {A : Nat → Prop} {ad : Nat → Nat} : CRok l D tys A ad GG 11 kM22_0 := CR_of_vrf (d := 4) (dep := 6) T1ok wM22_0
def kX23_0 : CR := (24, [(2, 0, 0), (0, (-2147483648), 2147483647), (0, (-2147483648), 2147483647)], FX, some (0, (-2), (-2)), [], [])
theorem wX23_0 : vrf GG T1 300 6 kX23_0
  [] = true := by decide +kernel
theorem rX23_0 {l : Launch} {D : va_G} {tys : List (ClassId × FieldType)} {A : Nat → Prop} {ad : Nat → Nat} : CRok l D tys A ad GG 11 kX23_0 := CR_of_vrf (d := 4) (dep := 6) T1ok wX23_0
def kM23_0 : CR := (268, [(2, 90, 90), (0, (-2147483648), 2147483647), (0, (-2147483648), 2147483647)], FM, some (0, (-2), (-2)), [], [])
theorem wM23_0 : vrf GG T1 300 6 kM23_0
  [] = true := by decide +kernel
theorem rM23_0 {l : Launch} {D : va_G} {tys : List (ClassId × FieldType)} {A : Nat → Prop} {ad : Nat → Nat} : CRok l D tys A ad GG 11 kM23_0 := CR_of_vrf (d := 4) (dep := 6) T1ok wM23_0
def kX24_0 : CR := (25, [(2, 0, 0), (0, (-2147483648), 2147483647), (0, (-2147483648), 2147483647)], FX, some (0, (-2), (-2)), [], [])
theorem wX24_0 : vrf GG T1 300 6 kX24_0
  [] = true := by decide +kernel
theorem rX24_0 {l : Launch} {D : va_G} {tys : List (ClassId × FieldType)} {A : Nat → Prop} {ad : Nat → Nat} : CRok l D tys A ad GG 11 kX24_0 := CR_of_vrf (d := 4) (dep := 6) T1ok wX24_0
def kM24_0 : CR := (269, [(2, 90, 90), (0, (-2147483648), 2147483647), (0, (-2147483648), 2147483647)], FM, some (0, (-2), (-2)), [], [])
theorem wM24_0 : vrf GG T1 300 6 kM24_0
  [] = true := by decide +kernel
theorem rM24_0 {l : Launch} {D : va_G} {tys : List (ClassId × FieldType)} {A : Nat → Prop} {ad : Nat → Nat} : CRok l D tys A ad GG 11 kM24_0 := CR_of_vrf (d := 4) (dep := 6) T1ok wM24_0
def kX25_0 : CR := (27, [(2, 0, 0), (0, (-2147483648), 2147483647), (0, (-2147483648), 2147483647)], FX, some (0, (-2), (-2)), [], [])
theorem wX25_0 : vrf GG T1 300 6 kX25_0
  [] = true := by decide +kernel
theorem rX25_0 {l : Launch} {D : va_G} {tys : List (ClassId × FieldType)} {A : Nat → Prop} {ad : Nat → Nat} : CRok l D tys A ad GG 11 kX25_0 := CR_of_vrf (d := 4) (dep := 6) T1ok wX25_0
def kM25_0 : CR := (270, [(2, 90, 90), (0, (-2147483648), 2147483647), (0, (-2147483648), 2147483647)], FM, some (0, (-2), (-2)), [], [])
theorem wM25_0 : vrf GG T1 300 6 kM25_0
  [] = true := by decide +kernel
theorem rM25_0 {l : Launch} {D : va_G} {tys : List (ClassId × FieldType)} {A : Nat → Prop} {ad : Nat → Nat} : CRok l D tys A ad GG 11 kM25_0 := CR_of_vrf (d := 4) (dep := 6) T1ok wM25_0
def kX26_0 : CR := (28, [(2, 0, 0), (0, (-2147483648), 2147483647)], FX, some (0, (-2), (-2)), [], [])
theorem wX26_0 : vrf GG T1 300 6 kX26_0
  [] = true := by decide +kernel
theorem rX26_0 {l : Launch} {D : va_G} {tys : List (ClassId × FieldType)} {A : Nat → Prop} {ad : Nat → Nat} : CRok l D tys A ad GG 11 kX26_0 := CR_of_vrf (d := 4) (dep := 6) T1ok wX26_0
def kM26_0 : CR := (271, [(2, 90, 90), (0, (-2147483648), 2147483647)], FM, some (0, (-2), (-2)), [], [])
theorem wM26_0 : vrf GG T1 300 6 kM26_0
  [] = true := by decide +kernel
theorem rM26_0 {l : Launch} {D : va_G} {tys : List (ClassId × FieldType)} {A : Nat → Prop} {ad : Nat → Nat} : CRok l D tys A ad GG 11 kM26_0 := CR_of_vrf (d := 4) (dep := 6) T1ok wM26_0
def kX27_0 : CR := (29, [(2, 0, 0), (0, (-2147483648), 2147483647)], FX, some (0, (-2), (-2)), [], [])
theorem wX27_0 : vrf GG T1 300 6 kX27_0
  [] = true := by decide +kernel
theorem rX27_0 {l : Launch} {D : va_G} {tys : List (ClassId × FieldType)} {A : Nat → Prop} {ad : Nat → Nat} : CRok l D tys A ad GG 11 kX27_0 := CR_of_vrf (d := 4) (dep := 6) T1ok wX27_0
def kM27_0 : CR := (273, [(2, 90, 90), (0, (-2147483648), 2147483647)], FM, some (0, (-2), (-2)), [], [])
theorem wM27_0 : vrf GG T1 300 6 kM27_0
  [] = true := by decide +kernel
theorem rM27_0 {l : Launch} {D : va_G} {tys : List (ClassId × FieldType)} {A : Nat → Prop} {ad : Nat → Nat} : CRok l D tys A ad GG 11 kM27_0 := CR_of_vrf (d := 4) (dep := 6) T1ok wM27_0
def kX28_0 : CR := (30, [(2, 0, 0), (0, (-2147483648), 2147483647)], FX, some (0, (-2), (-2)), [], [])
theorem wX28_0 : vrf GG T1 300 6 kX28_0
  [] = true := by decide +kernel
theorem rX28_0 {l : Launch} {D : va_G} {tys : List (ClassId × FieldType)} {A : Nat → Prop} {ad : Nat → Nat} : CRok l D tys A ad GG 11 kX28_0 := CR_of_vrf (d := 4) (dep := 6) T1ok wX28_0
def kM28_0 : CR := (274, [(2, 90, 90), (0, (-2147483648), 2147483647)], FM, some (0, (-2), (-2)), [], [])
theorem wM28_0 : vrf GG T1 300 6 kM28_0
  [] = true := by decide +kernel
theorem rM28_0 {l : Launch} {D : va_G} {tys : List (ClassId × FieldType)} {A : Nat → Prop} {ad : Nat → Nat} : CRok l D tys A ad GG 11 kM28_0 := CR_of_vrf (d := 4) (dep := 6) T1ok wM28_0
def kX29_0 : CR := (32, [(2, 0, 0), (0, (-2147483648), 2147483647)], FX, some (0, (-2), (-2)), [], [])
theorem wX29_0 : vrf GG T1 300 6 kX29_0
  [] = true := by decide +kernel
theorem rX29_0 {l : Launch} {D : va_G} {tys : List (ClassId × FieldType)} {A : Nat → Prop} {ad : Nat → Nat} : CRok l D tys A ad GG 11 kX29_0 := CR_of_vrf (d := 4) (dep := 6) T1ok wX29_0
def kM29_0 : CR := (278, [(2, 90, 90), (0, (-2147483648), 2147483647)], FM, some (0, (-2), (-2)), [], [])
theorem wM29_0 : vrf GG T1 300 6 kM29_0
  [] = true := by decide +kernel
theorem rM29_0 {l : Launch} {D : va_G} {tys : List (ClassId × FieldType)} {A : Nat → Prop} {ad : Nat → Nat} : CRok l D tys A ad GG 11 kM29_0 := CR_of_vrf (d := 4) (dep := 6) T1ok wM29_0
def kX30_0 : CR := (33, [(2, 0, 0), (0, (-2147483648), 2147483647), (0, (-2147483648), 2147483647)], FX, some (0, (-2), (-2)), [], [])
theorem wX30_0 : vrf GG T1 300 6 kX30_0
  [] = true := by decide +kernel
theorem rX30_0 {l : Launch} {D : va_G} {tys : List (ClassId × FieldType)} {A : Nat → Prop} {ad : Nat → Nat} : CRok l D tys A ad GG 11 kX30_0 := CR_of_vrf (d := 4) (dep := 6) T1ok wX30_0
def kM30_0 : CR := (280, [(2, 90, 90), (0, (-2147483648), 2147483647), (0, (-2147483648), 2147483647)], FM, some (0, (-2), (-2)), [], [])
theorem wM30_0 : vrf GG T1 300 6 kM30_0
  [] = true := by decide +kernel
theorem rM30_0 {l : Launch} {D : va_G} {tys : List (ClassId × FieldType)} {A : Nat → Prop} {ad : Nat → Nat} : CRok l D tys A ad GG 11 kM30_0 := CR_of_vrf (d := 4) (dep := 6) T1ok wM30_0
def kX31_0 : CR := (34, [(2, 0, 0), (0, (-2147483648), 2147483647), (0, (-2147483648), 2147483647)], FX, some (0, (-2), (-2)), [], [])
theorem wX31_0 : vrf GG T1 300 6 kX31_0
  [] = true := by decide +kernel
theorem rX31_0 {l : Launch} {D : va_G} {tys : List (ClassId × FieldType)} {A : Nat → Prop} {ad : Nat → Nat} : CRok l D tys A ad GG 11 kX31_0 := CR_of_vrf (d := 4) (dep := 6) T1ok wX31_0
def kM31_0 : CR := (281, [(2, 90, 90), (0, (-2147483648), 2147483647), (0, (-2147483648), 2147483647)], FM, some (0, (-2), (-2)), [], [])
theorem wM31_0 : vrf GG T1 300 6 kM31_0
  [] = true := by decide +kernel
theorem rM31_0 {l : Launch} {D : va_G} {tys : List (ClassId × FieldType)} {A : Nat → Prop} {ad : Nat → Nat} : CRok l D tys A ad GG 11 kM31_0 := CR_of_vrf (d := 4) (dep := 6) T1ok wM31_0
def kX32_0 : CR := (35, [(2, 0, 0)], FX, some (0, (-2), (-2)), [], [])
theorem wX32_0 : vrf GG T1 300 6 kX32_0
  [] = true := by decide +kernel
theorem rX32_0 {l : Launch} {D : va_G} {tys : List (ClassId × FieldType)} {A : Nat → Prop} {ad : Nat → Nat} : CRok l D tys A ad GG 11 kX32_0 := CR_of_vrf (d := 4) (dep := 6) T1ok wX32_0
def kM32_0 : CR := (283, [(2, 90, 90)], FM, some (0, (-2), (-2)), [], [])
theorem wM32_0 : vrf GG T1 300 6 kM32_0
  [] = true := by decide +kernel
theorem rM32_0 {l : Launch} {D : va_G} {tys : List (ClassId × FieldType)} {A : Nat → Prop} {ad : Nat → Nat} : CRok l D tys A ad GG 11 kM32_0 := CR_of_vrf (d := 4) (dep := 6) T1ok wM32_0
def kX33_0 : CR := (36, [(2, 0, 0), (0, (-2147483648), 2147483647), (0, (-2147483648), 2147483647)], FX, some (0, (-2), (-2)), [], [])
theorem wX33_0 : vrf GG T1 300 6 kX33_0
  [] = true := by decide +kernel
theorem rX33_0 {l : Launch} {D : va_G} {tys : List (ClassId × FieldType)} {A : Nat → Prop} {ad : Nat → Nat} : CRok l D tys A ad GG 11 kX33_0 := CR_of_vrf (d := 4) (dep := 6) T1ok wX33_0
def kM33_0 : CR := (286, [(2, 90, 90), (0, (-2147483648), 2147483647), (0, (-2147483648), 2147483647)], FM, some (0, (-2), (-2)), [], [])
theorem wM33_0 : vrf GG T1 300 6 kM33_0
  [] = true := by decide +kernel
theorem rM33_0 {l : Launch} {D : va_G} {tys : List (ClassId × FieldType)} {A : Nat → Prop} {ad : Nat → Nat} : CRok l D tys A ad GG 11 kM33_0 := CR_of_vrf (d := 4) (dep := 6) T1ok wM33_0
def kX34_0 : CR := (37, [(2, 0, 0), (0, (-2147483648), 2147483647), (0, (-2147483648), 2147483647)], FX, some (0, (-2), (-2)), [], [])
theorem wX34_0 : vrf GG T1 300 6 kX34_0
  [] = true := by decide +kernel
theorem rX34_0 {l : Launch} {D : va_G} {tys : List (ClassId × FieldType)} {A : Nat → Prop} {ad : Nat → Nat} : CRok l D tys A ad GG 11 kX34_0 := CR_of_vrf (d := 4) (dep := 6) T1ok wX34_0
def kM34_0 : CR := (287, [(2, 90, 90), (0, (-2147483648), 2147483647), (0, (-2147483648), 2147483647)], FM, some (0, (-2), (-2)), [], [])
theorem wM34_0 : vrf GG T1 300 6 kM34_0
  [] = true := by decide +kernel
theorem rM34_0 {l : Launch} {D : va_G} {tys : List (ClassId × FieldType)} {A : Nat → Prop} {ad : Nat → Nat} : CRok l D tys A ad GG 11 kM34_0 := CR_of_vrf (d := 4) (dep := 6) T1ok wM34_0
def kX35_0 : CR := (38, [(2, 0, 0), (0, (-2147483648), 2147483647), (0, (-2147483648), 2147483647)], FX, some (0, (-2), (-2)), [], [])
theorem wX35_0 : vrf GG T1 300 6 kX35_0
  [] = true := by decide +kernel
theorem rX35_0 {l : Launch} {D : va_G} {tys : List (ClassId × FieldType)} {A : Nat → Prop} {ad : Nat → Nat} : CRok l D tys A ad GG 11 kX35_0 := CR_of_vrf (d := 4) (dep := 6) T1ok wX35_0
def kM35_0 : CR := (289, [(2, 90, 90), (0, (-2147483648), 2147483647), (0, (-2147483648), 2147483647)], FM, some (0, (-2), (-2)), [], [])
theorem wM35_0 : vrf GG T1 300 6 kM35_0
  [] = true := by decide +kernel
theorem rM35_0 {l : Launch} {D : va_G} {tys : List (ClassId × FieldType)} {A : Nat → Prop} {ad : Nat → Nat} : CRok l D tys A ad GG 11 kM35_0 := CR_of_vrf (d := 4) (dep := 6) T1ok wM35_0
def kX36_0 : CR := (39, [(2, 0, 0), (0, (-2147483648), 2147483647), (0, (-2147483648), 2147483647)], FX, some (0, (-2), (-2)), [], [])
theorem wX36_0 : vrf GG T1 300 6 kX36_0
  [] = true := by decide +kernel
theorem rX36_0 {l : Launch} {D : va_G} {tys : List (ClassId × FieldType)} {A : Nat → Prop} {ad : Nat → Nat} : CRok l D tys A ad GG 11 kX36_0 := CR_of_vrf (d := 4) (dep := 6) T1ok wX36_0
def kM36_0 : CR := (290, [(2, 90, 90), (0, (-2147483648), 2147483647), (0, (-2147483648), 2147483647)], FM, some (0, (-2), (-2)), [], [])
theorem wM36_0 : vrf GG T1 300 6 kM36_0
  [] = true := by decide +kernel
theorem rM36_0 {l : Launch} {D : va_G} {tys : List (ClassId × FieldType)} {A : Nat → Prop} {ad : Nat → Nat} : CRok l D tys A ad GG 11 kM36_0 := CR_of_vrf (d := 4) (dep := 6) T1ok wM36_0
def kX37_0 : CR := (41, [(2, 0, 0), (0, (-2147483648), 2147483647), (0, (-2147483648), 2147483647), (0, (-2147483648), 2147483647), (0, (-2147483648), 2147483647)], FX, some (0, (-2), (-2)), [], [])
theorem wX37_0 : vrf GG T1 300 6 kX37_0
  [] = true := by decide +kernel
theorem rX37_0 {l : Launch} {D : va_G} {tys : List (ClassId × FieldType)} {A : Nat → Prop} {ad : Nat → Nat} : CRok l D tys A ad GG 11 kX37_0 := CR_of_vrf (d := 4) (dep := 6) T1ok wX37_0
def kM37_0 : CR := (291, [(2, 90, 90), (0, (-2147483648), 2147483647), (0, (-2147483648), 2147483647), (0, (-2147483648), 2147483647), (0, (-2147483648), 2147483647)], FM, some (0, (-2), (-2)), [], [])
theorem wM37_0 : vrf GG T1 300 6 kM37_0
  [] = true := by decide +kernel
theorem rM37_0 {l : Launch} {D : va_G} {tys : List (ClassId × FieldType)} {A : Nat → Prop} {ad : Nat → Nat} : CRok l D tys A ad GG 11 kM37_0 := CR_of_vrf (d := 4) (dep := 6) T1ok wM37_0
def kX38_0 : CR := (42, [(2, 0, 0)], FX, some (0, (-2), (-2)), [], [])
theorem wX38_0 : vrf GG T1 300 6 kX38_0
  [] = true := by decide +kernel
theorem rX38_0 {l : Launch} {D : va_G} {tys : List (ClassId × FieldType)} {A : Nat → Prop} {ad : Nat → Nat} : CRok l D tys A ad GG 11 kX38_0 := CR_of_vrf (d := 4) (dep := 6) T1ok wX38_0
def kM38_0 : CR := (292, [(2, 90, 90)], FM, some (0, (-2), (-2)), [], [])
theorem wM38_0 : vrf GG T1 300 6 kM38_0
  [] = true := by decide +kernel
theorem rM38_0 {l : Launch} {D : va_G} {tys : List (ClassId × FieldType)} {A : Nat → Prop} {ad : Nat → Nat} : CRok l D tys A ad GG 11 kM38_0 := CR_of_vrf (d := 4) (dep := 6) T1ok wM38_0
def kX39_0 : CR := (43, [(2, 0, 0), (0, (-2147483648), 2147483647), (0, (-2147483648), 2147483647), (0, (-2147483648), 2147483647)], FX, some (0, (-2), (-2)), [], [])
theorem wX39_0 : vrf GG T1 300 6 kX39_0
  [] = true := by decide +kernel
theorem rX39_0 {l : Launch} {D : va_G} {tys : List (ClassId × FieldType)} {A : Nat → Prop} {ad : Nat → Nat} : CRok l D tys A ad GG 11 kX39_0 := CR_of_vrf (d := 4) (dep := 6) T1ok wX39_0
def kM39_0 : CR := (293, [(2, 90, 90), (0, (-2147483648), 2147483647), (0, (-2147483648), 2147483647), (0, (-2147483648), 2147483647)], FM, some (0, (-2), (-2)), [], [])
theorem wM39_0 : vrf GG T1 300 6 kM39_0
  [] = true := by decide +kernel
theorem rM39_0 {l : Launch} {D : va_G} {tys : List (ClassId × FieldType)} {A : Nat → Prop} {ad : Nat → Nat} : CRok l D tys A ad GG 11 kM39_0 := CR_of_vrf (d := 4) (dep := 6) T1ok wM39_0
def kX40_0 : CR := (45, [(2, 0, 0), (0, (-2147483648), 2147483647), (0, (-2147483648), 2147483647), (0, (-2147483648), 2147483647)], FX, some (0, (-2), (-2)), [], [])
theorem wX40_0 : vrf GG T1 300 6 kX40_0
  [] = true := by decide +kernel
theorem rX40_0 {l : Launch} {D : va_G} {tys : List (ClassId × FieldType)} {A : Nat → Prop} {ad : Nat → Nat} : CRok l D tys A ad GG 11 kX40_0 := CR_of_vrf (d := 4) (dep := 6) T1ok wX40_0
def kM40_0 : CR := (296, [(2, 90, 90), (0, (-2147483648), 2147483647), (0, (-2147483648), 2147483647), (0, (-2147483648), 2147483647)], FM, some (0, (-2), (-2)), [], [])
theorem wM40_0 : vrf GG T1 300 6 kM40_0
  [] = true := by decide +kernel
theorem rM40_0 {l : Launch} {D : va_G} {tys : List (ClassId × FieldType)} {A : Nat → Prop} {ad : Nat → Nat} : CRok l D tys A ad GG 11 kM40_0 := CR_of_vrf (d := 4) (dep := 6) T1ok wM40_0
def kX41_0 : CR := (46, [(2, 0, 0), (0, (-2147483648), 2147483647), (0, (-2147483648), 2147483647)], FX, some (0, (-2), (-2)), [], [])
theorem wX41_0 : vrf GG T1 300 6 kX41_0
  [] = true := by decide +kernel
theorem rX41_0 {l : Launch} {D : va_G} {tys : List (ClassId × FieldType)} {A : Nat → Prop} {ad : Nat → Nat} : CRok l D tys A ad GG 11 kX41_0 := CR_of_vrf (d := 4) (dep := 6) T1ok wX41_0
def kM41_0 : CR := (298, [(2, 90, 90), (0, (-2147483648), 2147483647), (0, (-2147483648), 2147483647)], FM, some (0, (-2), (-2)), [], [])
theorem wM41_0 : vrf GG T1 300 6 kM41_0
  [] = true := by decide +kernel
theorem rM41_0 {l : Launch} {D : va_G} {tys : List (ClassId × FieldType)} {A : Nat → Prop} {ad : Nat → Nat} : CRok l D tys A ad GG 11 kM41_0 := CR_of_vrf (d := 4) (dep := 6) T1ok wM41_0
def kX42_0 : CR := (47, [(2, 0, 0), (0, (-2147483648), 2147483647), (0, (-2147483648), 2147483647)], FX, some (0, (-2), (-2)), [], [])
theorem wX42_0 : vrf GG T1 300 6 kX42_0
  [] = true := by decide +kernel
theorem rX42_0 {l : Launch} {D : va_G} {tys : List (ClassId × FieldType)} {A : Nat → Prop} {ad : Nat → Nat} : CRok l D tys A ad GG 11 kX42_0 := CR_of_vrf (d := 4) (dep := 6) T1ok wX42_0
def kM42_0 : CR := (299, [(2, 90, 90), (0, (-2147483648), 2147483647), (0, (-2147483648), 2147483647)], FM, some (0, (-2), (-2)), [], [])
theorem wM42_0 : vrf GG T1 300 6 kM42_0
  [] = true := by decide +kernel
theorem rM42_0 {l : Launch} {D : va_G} {tys : List (ClassId × FieldType)} {A : Nat → Prop} {ad : Nat → Nat} : CRok l D tys A ad GG 11 kM42_0 := CR_of_vrf (d := 4) (dep := 6) T1ok wM42_0
def kX43_0 : CR := (48, [(2, 0, 0), (0, (-2147483648), 0), (0, (-2147483648), 2147483647), (0, (-2147483648), 2147483647)], FX, some (0, (-2), (-2)), [], [])
theorem wX43_0 : vrf GG T1 300 6 kX43_0
  [] = true := by decide +kernel
theorem rX43_0 {l : Launch} {D : va_G} {tys : List (ClassId × FieldType)} {A : Nat → Prop} {ad : Nat → Nat} : CRok l D tys A ad GG 11 kX43_0 := CR_of_vrf (d := 4) (dep := 6) T1ok wX43_0
def kX43_1 : CR := (48, [(2, 0, 0), (0, 7, 2147483647), (0, (-2147483648), 2147483647), (0, (-2147483648), 2147483647)], FX, some (0, (-2), (-2)), [], [])
theorem wX43_1 : vrf GG T1 300 6 kX43_1
  [] = true := by decide +kernel
theorem rX43_1 {l : Launch} {D : va_G} {tys : List (ClassId × FieldType)} {A : Nat → Prop} {ad : Nat → Nat} : CRok l D tys A ad GG 11 kX43_1 := CR_of_vrf (d := 4) (dep := 6) T1ok wX43_1
def kX43_2 : CR := (48, [(2, 0, 0), (0, 1, 6), (0, (-2147483648), (-1)), (0, (-2147483648), 2147483647)], FX, some (0, (-2), (-2)), [], [])
theorem wX43_2 : vrf GG T1 300 6 kX43_2
  [] = true := by decide +kernel
theorem rX43_2 {l : Launch} {D : va_G} {tys : List (ClassId × FieldType)} {A : Nat → Prop} {ad : Nat → Nat} : CRok l D tys A ad GG 11 kX43_2 := CR_of_vrf (d := 4) (dep := 6) T1ok wX43_2
def kX43_3 : CR := (48, [(2, 0, 0), (0, 1, 6), (0, 4, 2147483647), (0, (-2147483648), 2147483647)], FX, some (0, (-2), (-2)), [], [])
theorem wX43_3 : vrf GG T1 300 6 kX43_3
  [] = true := by decide +kernel
theorem rX43_3 {l : Launch} {D : va_G} {tys : List (ClassId × FieldType)} {A : Nat → Prop} {ad : Nat → Nat} : CRok l D tys A ad GG 11 kX43_3 := CR_of_vrf (d := 4) (dep := 6) T1ok wX43_3
def kX43_4 : CR := (48, [(2, 0, 0), (0, 1, 6), (0, 0, 3), (0, (-2147483648), (-1))], FX, some (0, (-2), (-2)), [], [])
theorem wX43_4 : vrf GG T1 300 6 kX43_4
  [] = true := by decide +kernel
theorem rX43_4 {l : Launch} {D : va_G} {tys : List (ClassId × FieldType)} {A : Nat → Prop} {ad : Nat → Nat} : CRok l D tys A ad GG 11 kX43_4 := CR_of_vrf (d := 4) (dep := 6) T1ok wX43_4
def kX43_5 : CR := (48, [(2, 0, 0), (0, 1, 6), (0, 0, 3), (0, 4, 2147483647)], FX, some (0, (-2), (-2)), [], [])
theorem wX43_5 : vrf GG T1 300 6 kX43_5
  [] = true := by decide +kernel
theorem rX43_5 {l : Launch} {D : va_G} {tys : List (ClassId × FieldType)} {A : Nat → Prop} {ad : Nat → Nat} : CRok l D tys A ad GG 11 kX43_5 := CR_of_vrf (d := 4) (dep := 6) T1ok wX43_5
def kX43_6 : CR := (48, [(2, 0, 0), (0, 1, 6), (0, 0, 3), (0, 0, 3)], FX, some (0, (-6), (-6)), [], [])
theorem wX43_6 : vrf GG T1 300 6 kX43_6
  [] = true := by decide +kernel
theorem rX43_6 {l : Launch} {D : va_G} {tys : List (ClassId × FieldType)} {A : Nat → Prop} {ad : Nat → Nat} : CRok l D tys A ad GG 11 kX43_6 := CR_of_vrf (d := 4) (dep := 6) T1ok wX43_6
def kM43_0 : CR := (303, [(2, 90, 90), (0, (-2147483648), 0), (0, (-2147483648), 2147483647), (0, (-2147483648), 2147483647)], FM, some (0, (-2), (-2)), [], [])
theorem wM43_0 : vrf GG T1 300 6 kM43_0
  [] = true := by decide +kernel
theorem rM43_0 {l : Launch} {D : va_G} {tys : List (ClassId × FieldType)} {A : Nat → Prop} {ad : Nat → Nat} : CRok l D tys A ad GG 11 kM43_0 := CR_of_vrf (d := 4) (dep := 6) T1ok wM43_0
def kM43_1 : CR := (303, [(2, 90, 90), (0, 7, 2147483647), (0, (-2147483648), 2147483647), (0, (-2147483648), 2147483647)], FM, some (0, (-2), (-2)), [], [])
theorem wM43_1 : vrf GG T1 300 6 kM43_1
  [] = true := by decide +kernel
theorem rM43_1 {l : Launch} {D : va_G} {tys : List (ClassId × FieldType)} {A : Nat → Prop} {ad : Nat → Nat} : CRok l D tys A ad GG 11 kM43_1 := CR_of_vrf (d := 4) (dep := 6) T1ok wM43_1
def kM43_2 : CR := (303, [(2, 90, 90), (0, 1, 6), (0, (-2147483648), (-1)), (0, (-2147483648), 2147483647)], FM, some (0, (-2), (-2)), [], [])
theorem wM43_2 : vrf GG T1 300 6 kM43_2
  [] = true := by decide +kernel
theorem rM43_2 {l : Launch} {D : va_G} {tys : List (ClassId × FieldType)} {A : Nat → Prop} {ad : Nat → Nat} : CRok l D tys A ad GG 11 kM43_2 := CR_of_vrf (d := 4) (dep := 6) T1ok wM43_2
def kM43_3 : CR := (303, [(2, 90, 90), (0, 1, 6), (0, 4, 2147483647), (0, (-2147483648), 2147483647)], FM, some (0, (-2), (-2)), [], [])
theorem wM43_3 : vrf GG T1 300 6 kM43_3
  [] = true := by decide +kernel
theorem rM43_3 {l : Launch} {D : va_G} {tys : List (ClassId × FieldType)} {A : Nat → Prop} {ad : Nat → Nat} : CRok l D tys A ad GG 11 kM43_3 := CR_of_vrf (d := 4) (dep := 6) T1ok wM43_3
def kM43_4 : CR := (303, [(2, 90, 90), (0, 1, 6), (0, 0, 3), (0, (-2147483648), (-1))], FM, some (0, (-2), (-2)), [], [])
theorem wM43_4 : vrf GG T1 300 6 kM43_4
  [] = true := by decide +kernel
theorem rM43_4 {l : Launch} {D : va_G} {tys : List (ClassId × FieldType)} {A : Nat → Prop} {ad : Nat → Nat} : CRok l D tys A ad GG 11 kM43_4 := CR_of_vrf (d := 4) (dep := 6) T1ok wM43_4
def kM43_5 : CR := (303, [(2, 90, 90), (0, 1, 6), (0, 0, 3), (0, 4, 2147483647)], FM, some (0, (-2), (-2)), [], [])
theorem wM43_5 : vrf GG T1 300 6 kM43_5
  [] = true := by decide +kernel
theorem rM43_5 {l : Launch} {D : va_G} {tys : List (ClassId × FieldType)} {A : Nat → Prop} {ad : Nat → Nat} : CRok l D tys A ad GG 11 kM43_5 := CR_of_vrf (d := 4) (dep := 6) T1ok wM43_5
def kM43_6 : CR := (303, [(2, 90, 90), (0, 1, 6), (0, 0, 3), (0, 0, 3)], FM, some (0, (-6), (-6)), [], [])
theorem wM43_6 : vrf GG T1 300 6 kM43_6
  [] = true := by decide +kernel
theorem rM43_6 {l : Launch} {D : va_G} {tys : List (ClassId × FieldType)} {A : Nat → Prop} {ad : Nat → Nat} : CRok l D tys A ad GG 11 kM43_6 := CR_of_vrf (d := 4) (dep := 6) T1ok wM43_6
def kX44_0 : CR := (49, [(2, 0, 0), (0, (-2147483648), 0), (0, (-2147483648), 2147483647), (0, (-2147483648), 2147483647), (0, (-2147483648), 2147483647)], FX, some (0, (-2), (-2)), [], [])
theorem wX44_0 : vrf GG T1 300 6 kX44_0
  [] = true := by decide +kernel
theorem rX44_0 {l : Launch} {D : va_G} {tys : List (ClassId × FieldType)} {A : Nat → Prop} {ad : Nat → Nat} : CRok l D tys A ad GG 11 kX44_0 := CR_of_vrf (d := 4) (dep := 6) T1ok wX44_0
def kX44_1 : CR := (49, [(2, 0, 0), (0, 7, 2147483647), (0, (-2147483648), 2147483647), (0, (-2147483648), 2147483647), (0, (-2147483648), 2147483647)], FX, some (0, (-2), (-2)), [], [])
theorem wX44_1 : vrf GG T1 300 6 kX44_1
  [] = true := by decide +kernel
theorem rX44_1 {l : Launch} {D : va_G} {tys : List (ClassId × FieldType)} {A : Nat → Prop} {ad : Nat → Nat} : CRok l D tys A ad GG 11 kX44_1 := CR_of_vrf (d := 4) (dep := 6) T1ok wX44_1
def kX44_2 : CR := (49, [(2, 0, 0), (0, 1, 6), (0, (-2147483648), (-1)), (0, (-2147483648), 2147483647), (0, (-2147483648), 2147483647)], FX, some (0, (-2), (-2)), [], [])
theorem wX44_2 : vrf GG T1 300 6 kX44_2
  [] = true := by decide +kernel
theorem rX44_2 {l : Launch} {D : va_G} {tys : List (ClassId × FieldType)} {A : Nat → Prop} {ad : Nat → Nat} : CRok l D tys A ad GG 11 kX44_2 := CR_of_vrf (d := 4) (dep := 6) T1ok wX44_2
def kX44_3 : CR := (49, [(2, 0, 0), (0, 1, 6), (0, 4, 2147483647), (0, (-2147483648), 2147483647), (0, (-2147483648), 2147483647)], FX, some (0, (-2), (-2)), [], [])
theorem wX44_3 : vrf GG T1 300 6 kX44_3
  [] = true := by decide +kernel
theorem rX44_3 {l : Launch} {D : va_G} {tys : List (ClassId × FieldType)} {A : Nat → Prop} {ad : Nat → Nat} : CRok l D tys A ad GG 11 kX44_3 := CR_of_vrf (d := 4) (dep := 6) T1ok wX44_3
def kX44_4 : CR := (49, [(2, 0, 0), (0, 1, 6), (0, 0, 3), (0, (-2147483648), (-1)), (0, (-2147483648), 2147483647)], FX, some (0, (-2), (-2)), [], [])
theorem wX44_4 : vrf GG T1 300 6 kX44_4
  [] = true := by decide +kernel
theorem rX44_4 {l : Launch} {D : va_G} {tys : List (ClassId × FieldType)} {A : Nat → Prop} {ad : Nat → Nat} : CRok l D tys A ad GG 11 kX44_4 := CR_of_vrf (d := 4) (dep := 6) T1ok wX44_4
def kX44_5 : CR := (49, [(2, 0, 0), (0, 1, 6), (0, 0, 3), (0, 4, 2147483647), (0, (-2147483648), 2147483647)], FX, some (0, (-2), (-2)), [], [])
theorem wX44_5 : vrf GG T1 300 6 kX44_5
  [] = true := by decide +kernel
theorem rX44_5 {l : Launch} {D : va_G} {tys : List (ClassId × FieldType)} {A : Nat → Prop} {ad : Nat → Nat} : CRok l D tys A ad GG 11 kX44_5 := CR_of_vrf (d := 4) (dep := 6) T1ok wX44_5
def kX44_6 : CR := (49, [(2, 0, 0), (0, 1, 6), (0, 0, 3), (0, 0, 3), (0, (-2147483648), 2147483647)], FX, some (0, (-6), (-6)), [], [])
theorem wX44_6 : vrf GG T1 300 6 kX44_6
  [] = true := by decide +kernel
theorem rX44_6 {l : Launch} {D : va_G} {tys : List (ClassId × FieldType)} {A : Nat → Prop} {ad : Nat → Nat} : CRok l D tys A ad GG 11 kX44_6 := CR_of_vrf (d := 4) (dep := 6) T1ok wX44_6
def kM44_0 : CR := (304, [(2, 90, 90), (0, (-2147483648), 0), (0, (-2147483648), 2147483647), (0, (-2147483648), 2147483647), (0, (-2147483648), 2147483647)], FM, some (0, (-2), (-2)), [], [])
theorem wM44_0 : vrf GG T1 300 6 kM44_0
  [] = true := by decide +kernel
theorem rM44_0 {l : Launch} {D : va_G} {tys : List (ClassId × FieldType)} {A : Nat → Prop} {ad : Nat → Nat} : CRok l D tys A ad GG 11 kM44_0 := CR_of_vrf (d := 4) (dep := 6) T1ok wM44_0
def kM44_1 : CR := (304, [(2, 90, 90), (0, 7, 2147483647), (0, (-2147483648), 2147483647), (0, (-2147483648), 2147483647), (0, (-2147483648), 2147483647)], FM, some (0, (-2), (-2)), [], [])
theorem wM44_1 : vrf GG T1 300 6 kM44_1
  [] = true := by decide +kernel
theorem rM44_1 {l : Launch} {D : va_G} {tys : List (ClassId × FieldType)} {A : Nat → Prop} {ad : Nat → Nat} : CRok l D tys A ad GG 11 kM44_1 := CR_of_vrf (d := 4) (dep := 6) T1ok wM44_1
def kM44_2 : CR := (304, [(2, 90, 90), (0, 1, 6), (0, (-2147483648), (-1)), (0, (-2147483648), 2147483647), (0, (-2147483648), 2147483647)], FM, some (0, (-2), (-2)), [], [])
theorem wM44_2 : vrf GG T1 300 6 kM44_2
  [] = true := by decide +kernel
theorem rM44_2 {l : Launch} {D : va_G} {tys : List (ClassId × FieldType)} {A : Nat → Prop} {ad : Nat → Nat} : CRok l D tys A ad GG 11 kM44_2 := CR_of_vrf (d := 4) (dep := 6) T1ok wM44_2
def kM44_3 : CR := (304, [(2, 90, 90), (0, 1, 6), (0, 4, 2147483647), (0, (-2147483648), 2147483647), (0, (-2147483648), 2147483647)], FM, some (0, (-2), (-2)), [], [])
theorem wM44_3 : vrf GG T1 300 6 kM44_3
  [] = true := by decide +kernel
theorem rM44_3 {l : Launch} {D : va_G} {tys : List (ClassId × FieldType)} {A : Nat → Prop} {ad : Nat → Nat} : CRok l D tys A ad GG 11 kM44_3 := CR_of_vrf (d := 4) (dep := 6) T1ok wM44_3
def kM44_4 : CR := (304, [(2, 90, 90), (0, 1, 6), (0, 0, 3), (0, (-2147483648), (-1)), (0, (-2147483648), 2147483647)], FM, some (0, (-2), (-2)), [], [])
theorem wM44_4 : vrf GG T1 300 6 kM44_4
  [] = true := by decide +kernel
theorem rM44_4 {l : Launch} {D : va_G} {tys : List (ClassId × FieldType)} {A : Nat → Prop} {ad : Nat → Nat} : CRok l D tys A ad GG 11 kM44_4 := CR_of_vrf (d := 4) (dep := 6) T1ok wM44_4
def kM44_5 : CR := (304, [(2, 90, 90), (0, 1, 6), (0, 0, 3), (0, 4, 2147483647), (0, (-2147483648), 2147483647)], FM, some (0, (-2), (-2)), [], [])
theorem wM44_5 : vrf GG T1 300 6 kM44_5
  [] = true := by decide +kernel
theorem rM44_5 {l : Launch} {D : va_G} {tys : List (ClassId × FieldType)} {A : Nat → Prop} {ad : Nat → Nat} : CRok l D tys A ad GG 11 kM44_5 := CR_of_vrf (d := 4) (dep := 6) T1ok wM44_5
def kM44_6 : CR := (304, [(2, 90, 90), (0, 1, 6), (0, 0, 3), (0, 0, 3), (0, (-2147483648), 2147483647)], FM, some (0, (-6), (-6)), [], [])
theorem wM44_6 : vrf GG T1 300 6 kM44_6
  [] = true := by decide +kernel
theorem rM44_6 {l : Launch} {D : va_G} {tys : List (ClassId × FieldType)} {A : Nat → Prop} {ad : Nat → Nat} : CRok l D tys A ad GG 11 kM44_6 := CR_of_vrf (d := 4) (dep := 6) T1ok wM44_6
def kX45_0 : CR := (51, [(2, 0, 0), (0, (-2147483648), 2147483647)], FX, some (0, (-2), (-2)), [], [])
theorem wX45_0 : vrf GG T1 300 6 kX45_0
  [] = true := by decide +kernel
theorem rX45_0 {l : Launch} {D : va_G} {tys : List (ClassId × FieldType)} {A : Nat → Prop} {ad : Nat → Nat} : CRok l D tys A ad GG 11 kX45_0 := CR_of_vrf (d := 4) (dep := 6) T1ok wX45_0
def kM45_0 : CR := (308, [(2, 90, 90), (0, (-2147483648), 2147483647)], FM, some (0, (-2), (-2)), [], [])
theorem wM45_0 : vrf GG T1 300 6 kM45_0
  [] = true := by decide +kernel
theorem rM45_0 {l : Launch} {D : va_G} {tys : List (ClassId × FieldType)} {A : Nat → Prop} {ad : Nat → Nat} : CRok l D tys A ad GG 11 kM45_0 := CR_of_vrf (d := 4) (dep := 6) T1ok wM45_0
def kX46_0 : CR := (52, [(2, 0, 0), (0, (-2147483648), 2147483647), (0, (-2147483648), 2147483647)], FX, some (0, (-2), (-2)), [], [])
theorem wX46_0 : vrf GG T1 300 6 kX46_0
  [] = true := by decide +kernel
theorem rX46_0 {l : Launch} {D : va_G} {tys : List (ClassId × FieldType)} {A : Nat → Prop} {ad : Nat → Nat} : CRok l D tys A ad GG 11 kX46_0 := CR_of_vrf (d := 4) (dep := 6) T1ok wX46_0
def kM46_0 : CR := (311, [(2, 90, 90), (0, (-2147483648), 2147483647), (0, (-2147483648), 2147483647)], FM, some (0, (-2), (-2)), [], [])
theorem wM46_0 : vrf GG T1 300 6 kM46_0
  [] = true := by decide +kernel
theorem rM46_0 {l : Launch} {D : va_G} {tys : List (ClassId × FieldType)} {A : Nat → Prop} {ad : Nat → Nat} : CRok l D tys A ad GG 11 kM46_0 := CR_of_vrf (d := 4) (dep := 6) T1ok wM46_0
def kX47_0 : CR := (54, [(2, 0, 0), (0, (-2147483648), 2147483647)], FX, some (0, (-2), (-2)), [], [])
theorem wX47_0 : vrf GG T1 300 6 kX47_0
  [] = true := by decide +kernel
theorem rX47_0 {l : Launch} {D : va_G} {tys : List (ClassId × FieldType)} {A : Nat → Prop} {ad : Nat → Nat} : CRok l D tys A ad GG 11 kX47_0 := CR_of_vrf (d := 4) (dep := 6) T1ok wX47_0
def kM47_0 : CR := (315, [(2, 90, 90), (0, (-2147483648), 2147483647)], FM, some (0, (-2), (-2)), [], [])
theorem wM47_0 : vrf GG T1 300 6 kM47_0
  [] = true := by decide +kernel
theorem rM47_0 {l : Launch} {D : va_G} {tys : List (ClassId × FieldType)} {A : Nat → Prop} {ad : Nat → Nat} : CRok l D tys A ad GG 11 kM47_0 := CR_of_vrf (d := 4) (dep := 6) T1ok wM47_0
def kX48_0 : CR := (55, [(2, 0, 0), (0, (-2147483648), 2147483647)], FX, some (0, (-2), (-2)), [], [])
theorem wX48_0 : vrf GG T1 300 6 kX48_0
  [] = true := by decide +kernel
theorem rX48_0 {l : Launch} {D : va_G} {tys : List (ClassId × FieldType)} {A : Nat → Prop} {ad : Nat → Nat} : CRok l D tys A ad GG 11 kX48_0 := CR_of_vrf (d := 4) (dep := 6) T1ok wX48_0
def kM48_0 : CR := (318, [(2, 90, 90), (0, (-2147483648), 2147483647)], FM, some (0, (-2), (-2)), [], [])
theorem wM48_0 : vrf GG T1 300 6 kM48_0
  [] = true := by decide +kernel
theorem rM48_0 {l : Launch} {D : va_G} {tys : List (ClassId × FieldType)} {A : Nat → Prop} {ad : Nat → Nat} : CRok l D tys A ad GG 11 kM48_0 := CR_of_vrf (d := 4) (dep := 6) T1ok wM48_0
def kX49_0 : CR := (56, [(2, 0, 0), (0, (-2147483648), 2147483647)], FX, some (0, (-2), (-2)), [], [])
theorem wX49_0 : vrf GG T1 300 6 kX49_0
  [] = true := by decide +kernel
theorem rX49_0 {l : Launch} {D : va_G} {tys : List (ClassId × FieldType)} {A : Nat → Prop} {ad : Nat → Nat} : CRok l D tys A ad GG 11 kX49_0 := CR_of_vrf (d := 4) (dep := 6) T1ok wX49_0
def kM49_0 : CR := (319, [(2, 90, 90), (0, (-2147483648), 2147483647)], FM, some (0, (-2), (-2)), [], [])
theorem wM49_0 : vrf GG T1 300 6 kM49_0
  [] = true := by decide +kernel
theorem rM49_0 {l : Launch} {D : va_G} {tys : List (ClassId × FieldType)} {A : Nat → Prop} {ad : Nat → Nat} : CRok l D tys A ad GG 11 kM49_0 := CR_of_vrf (d := 4) (dep := 6) T1ok wM49_0
def kX50_0 : CR := (58, [(2, 0, 0), (0, (-2147483648), 2147483647), (0, (-2147483648), 2147483647), (0, (-2147483648), 2147483647)], FX, some (0, (-2), (-2)), [], [])
theorem wX50_0 : vrf GG T1 300 6 kX50_0
  [] = true := by decide +kernel
theorem rX50_0 {l : Launch} {D : va_G} {tys : List (ClassId × FieldType)} {A : Nat → Prop} {ad : Nat → Nat} : CRok l D tys A ad GG 11 kX50_0 := CR_of_vrf (d := 4) (dep := 6) T1ok wX50_0
def kM50_0 : CR := (321, [(2, 90, 90), (0, (-2147483648), 2147483647), (0, (-2147483648), 2147483647), (0, (-2147483648), 2147483647)], FM, some (0, (-2), (-2)), [], [])
theorem wM50_0 : vrf GG T1 300 6 kM50_0
  [] = true := by decide +kernel
theorem rM50_0 {l : Launch} {D : va_G} {tys : List (ClassId × FieldType)} {A : Nat → Prop} {ad : Nat → Nat} : CRok l D tys A ad GG 11 kM50_0 := CR_of_vrf (d := 4) (dep := 6) T1ok wM50_0
def kX51_0 : CR := (59, [(2, 0, 0), (0, (-2147483648), 2147483647), (0, (-2147483648), 2147483647)], FX, some (0, (-2), (-2)), [], [])
theorem wX51_0 : vrf GG T1 300 6 kX51_0
  [] = true := by decide +kernel
theorem rX51_0 {l : Launch} {D : va_G} {tys : List (ClassId × FieldType)} {A : Nat → Prop} {ad : Nat → Nat} : CRok l D tys A ad GG 11 kX51_0 := CR_of_vrf (d := 4) (dep := 6) T1ok wX51_0
def kM51_0 : CR := (322, [(2, 90, 90), (0, (-2147483648), 2147483647), (0, (-2147483648), 2147483647)], FM, some (0, (-2), (-2)), [], [])
theorem wM51_0 : vrf GG T1 300 6 kM51_0
  [] = true := by decide +kernel
theorem rM51_0 {l : Launch} {D : va_G} {tys : List (ClassId × FieldType)} {A : Nat → Prop} {ad : Nat → Nat} : CRok l D tys A ad GG 11 kM51_0 := CR_of_vrf (d := 4) (dep := 6) T1ok wM51_0
def kX52_0 : CR := (60, [(2, 0, 0), (0, (-2147483648), 2147483647)], FX, some (0, (-2), (-2)), [], [])
theorem wX52_0 : vrf GG T1 300 6 kX52_0
  [] = true := by decide +kernel
theorem rX52_0 {l : Launch} {D : va_G} {tys : List (ClassId × FieldType)} {A : Nat → Prop} {ad : Nat → Nat} : CRok l D tys A ad GG 11 kX52_0 := CR_of_vrf (d := 4) (dep := 6) T1ok wX52_0
def kM52_0 : CR := (325, [(2, 90, 90), (0, (-2147483648), 2147483647)], FM, some (0, (-2), (-2)), [], [])
theorem wM52_0 : vrf GG T1 300 6 kM52_0
  [] = true := by decide +kernel
theorem rM52_0 {l : Launch} {D : va_G} {tys : List (ClassId × FieldType)} {A : Nat → Prop} {ad : Nat → Nat} : CRok l D tys A ad GG 11 kM52_0 := CR_of_vrf (d := 4) (dep := 6) T1ok wM52_0
def kX53_0 : CR := (61, [(2, 0, 0), (0, (-2147483648), 2147483647)], FX, some (0, (-2), (-2)), [], [])
theorem wX53_0 : vrf GG T1 300 6 kX53_0
  [] = true := by decide +kernel
theorem rX53_0 {l : Launch} {D : va_G} {tys : List (ClassId × FieldType)} {A : Nat → Prop} {ad : Nat → Nat} : CRok l D tys A ad GG 11 kX53_0 := CR_of_vrf (d := 4) (dep := 6) T1ok wX53_0
def kM53_0 : CR := (326, [(2, 90, 90), (0, (-2147483648), 2147483647)], FM, some (0, (-2), (-2)), [], [])
theorem wM53_0 : vrf GG T1 300 6 kM53_0
  [] = true := by decide +kernel
theorem rM53_0 {l : Launch} {D : va_G} {tys : List (ClassId × FieldType)} {A : Nat → Prop} {ad : Nat → Nat} : CRok l D tys A ad GG 11 kM53_0 := CR_of_vrf (d := 4) (dep := 6) T1ok wM53_0
def kX54_0 : CR := (31, [(2, 0, 0), (0, (-2147483648), 2147483647)], FX, some (0, (-2), (-2)), [], [])
theorem wX54_0 : vrf GG T1 300 6 kX54_0
  [] = true := by decide +kernel
theorem rX54_0 {l : Launch} {D : va_G} {tys : List (ClassId × FieldType)} {A : Nat → Prop} {ad : Nat → Nat} : CRok l D tys A ad GG 11 kX54_0 := CR_of_vrf (d := 4) (dep := 6) T1ok wX54_0
def kM54_0 : CR := (275, [(2, 90, 90), (0, (-2147483648), 2147483647)], FM, some (0, (-2), (-2)), [], [])
theorem wM54_0 : vrf GG T1 300 6 kM54_0
  [] = true := by decide +kernel
theorem rM54_0 {l : Launch} {D : va_G} {tys : List (ClassId × FieldType)} {A : Nat → Prop} {ad : Nat → Nat} : CRok l D tys A ad GG 11 kM54_0 := CR_of_vrf (d := 4) (dep := 6) T1ok wM54_0
def kX55_0 : CR := (62, [(2, 0, 0), (0, (-2147483648), 2147483647), (0, (-2147483648), 2147483647), (0, (-2147483648), 2147483647)], FX, some (1, (-2), (-2)), [], [])
theorem wX55_0 : vrf GG T1 300 6 kX55_0
  [] = true := by decide +kernel
theorem rX55_0 {l : Launch} {D : va_G} {tys : List (ClassId × FieldType)} {A : Nat → Prop} {ad : Nat → Nat} : CRok l D tys A ad GG 11 kX55_0 := CR_of_vrf (d := 4) (dep := 6) T1ok wX55_0
def kM55_0 : CR := (330, [(2, 90, 90), (0, (-2147483648), 2147483647), (0, (-2147483648), 2147483647), (0, (-2147483648), 2147483647)], FM, some (1, (-2), (-2)), [], [])
theorem wM55_0 : vrf GG T1 300 6 kM55_0
  [] = true := by decide +kernel
theorem rM55_0 {l : Launch} {D : va_G} {tys : List (ClassId × FieldType)} {A : Nat → Prop} {ad : Nat → Nat} : CRok l D tys A ad GG 11 kM55_0 := CR_of_vrf (d := 4) (dep := 6) T1ok wM55_0
def kX56_0 : CR := (64, [(2, 0, 0), (0, (-2147483648), 2147483647), (0, (-2147483648), 2147483647), (0, (-2147483648), 2147483647)], FX, some (0, (-2), (-2)), [], [])
theorem wX56_0 : vrf GG T1 300 6 kX56_0
  [] = true := by decide +kernel
theorem rX56_0 {l : Launch} {D : va_G} {tys : List (ClassId × FieldType)} {A : Nat → Prop} {ad : Nat → Nat} : CRok l D tys A ad GG 11 kX56_0 := CR_of_vrf (d := 4) (dep := 6) T1ok wX56_0
def kM56_0 : CR := (333, [(2, 90, 90), (0, (-2147483648), 2147483647), (0, (-2147483648), 2147483647), (0, (-2147483648), 2147483647)], FM, some (0, (-2), (-2)), [], [])
theorem wM56_0 : vrf GG T1 300 6 kM56_0
  [] = true := by decide +kernel
theorem rM56_0 {l : Launch} {D : va_G} {tys : List (ClassId × FieldType)} {A : Nat → Prop} {ad : Nat → Nat} : CRok l D tys A ad GG 11 kM56_0 := CR_of_vrf (d := 4) (dep := 6) T1ok wM56_0
def kX57_0 : CR := (65, [(2, 0, 0), (0, (-2147483648), 2147483647), (0, (-2147483648), 2147483647), (0, (-2147483648), 2147483647), (0, (-2147483648), 2147483647)], FX, some (0, (-2), (-2)), [], [])
theorem wX57_0 : vrf GG T1 300 6 kX57_0
  [] = true := by decide +kernel
theorem rX57_0 {l : Launch} {D : va_G} {tys : List (ClassId × FieldType)} {A : Nat → Prop} {ad : Nat → Nat} : CRok l D tys A ad GG 11 kX57_0 := CR_of_vrf (d := 4) (dep := 6) T1ok wX57_0
def kM57_0 : CR := (334, [(2, 90, 90), (0, (-2147483648), 2147483647), (0, (-2147483648), 2147483647), (0, (-2147483648), 2147483647), (0, (-2147483648), 2147483647)], FM, some (0, (-2), (-2)), [], [])
theorem wM57_0 : vrf GG T1 300 6 kM57_0
  [] = true := by decide +kernel
theorem rM57_0 {l : Launch} {D : va_G} {tys : List (ClassId × FieldType)} {A : Nat → Prop} {ad : Nat → Nat} : CRok l D tys A ad GG 11 kM57_0 := CR_of_vrf (d := 4) (dep := 6) T1ok wM57_0
def kX58_0 : CR := (44, [(2, 0, 0), (0, (-2147483648), 2147483647), (0, (-2147483648), 2147483647), (0, (-2147483648), 2147483647), (0, (-2147483648), 2147483647)], FX, some (0, (-2), (-2)), [], [])
theorem wX58_0 : vrf GG T1 300 6 kX58_0
  [] = true := by decide +kernel
theorem rX58_0 {l : Launch} {D : va_G} {tys : List (ClassId × FieldType)} {A : Nat → Prop} {ad : Nat → Nat} : CRok l D tys A ad GG 11 kX58_0 := CR_of_vrf (d := 4) (dep := 6) T1ok wX58_0
def kM58_0 : CR := (294, [(2, 90, 90), (0, (-2147483648), 2147483647), (0, (-2147483648), 2147483647), (0, (-2147483648), 2147483647), (0, (-2147483648), 2147483647)], FM, some (0, (-2), (-2)), [], [])
theorem wM58_0 : vrf GG T1 300 6 kM58_0
  [] = true := by decide +kernel
theorem rM58_0 {l : Launch} {D : va_G} {tys : List (ClassId × FieldType)} {A : Nat → Prop} {ad : Nat → Nat} : CRok l D tys A ad GG 11 kM58_0 := CR_of_vrf (d := 4) (dep := 6) T1ok wM58_0
def kX59_0 : CR := (66, [(2, 0, 0), (0, (-2147483648), (-1))], FX, some (0, (-1), (-1)), [], [])
theorem wX59_0 : vrf GG T1 300 6 kX59_0
  [] = true := by decide +kernel
theorem rX59_0 {l : Launch} {D : va_G} {tys : List (ClassId × FieldType)} {A : Nat → Prop} {ad : Nat → Nat} : CRok l D tys A ad GG 11 kX59_0 := CR_of_vrf (d := 4) (dep := 6) T1ok wX59_0
def kX59_1 : CR := (66, [(2, 0, 0), (0, 0, 0)], FX, some (0, 0, 0), [], [])
theorem wX59_1 : vrf GG T1 300 6 kX59_1
  [] = true := by decide +kernel
theorem rX59_1 {l : Launch} {D : va_G} {tys : List (ClassId × FieldType)} {A : Nat → Prop} {ad : Nat → Nat} : CRok l D tys A ad GG 11 kX59_1 := CR_of_vrf (d := 4) (dep := 6) T1ok wX59_1
def kX59_2 : CR := (66, [(2, 0, 0), (0, 1, 1)], FX, some (0, 0, 0), [], [])
theorem wX59_2 : vrf GG T1 300 6 kX59_2
  [] = true := by decide +kernel
theorem rX59_2 {l : Launch} {D : va_G} {tys : List (ClassId × FieldType)} {A : Nat → Prop} {ad : Nat → Nat} : CRok l D tys A ad GG 11 kX59_2 := CR_of_vrf (d := 4) (dep := 6) T1ok wX59_2
def kX59_3 : CR := (66, [(2, 0, 0), (0, 2, 2)], FX, some (0, 0, 0), [], [])
theorem wX59_3 : vrf GG T1 300 6 kX59_3
  [] = true := by decide +kernel
theorem rX59_3 {l : Launch} {D : va_G} {tys : List (ClassId × FieldType)} {A : Nat → Prop} {ad : Nat → Nat} : CRok l D tys A ad GG 11 kX59_3 := CR_of_vrf (d := 4) (dep := 6) T1ok wX59_3
def kX59_4 : CR := (66, [(2, 0, 0), (0, 3, 3)], FX, some (0, 0, 0), [], [])
theorem wX59_4 : vrf GG T1 300 6 kX59_4
  [] = true := by decide +kernel
theorem rX59_4 {l : Launch} {D : va_G} {tys : List (ClassId × FieldType)} {A : Nat → Prop} {ad : Nat → Nat} : CRok l D tys A ad GG 11 kX59_4 := CR_of_vrf (d := 4) (dep := 6) T1ok wX59_4
def kX59_5 : CR := (66, [(2, 0, 0), (0, 4, 4)], FX, some (0, 0, 0), [], [])
theorem wX59_5 : vrf GG T1 300 6 kX59_5
  [] = true := by decide +kernel
theorem rX59_5 {l : Launch} {D : va_G} {tys : List (ClassId × FieldType)} {A : Nat → Prop} {ad : Nat → Nat} : CRok l D tys A ad GG 11 kX59_5 := CR_of_vrf (d := 4) (dep := 6) T1ok wX59_5
def kX59_6 : CR := (66, [(2, 0, 0), (0, 5, 5)], FX, some (0, 0, 0), [], [])
theorem wX59_6 : vrf GG T1 300 6 kX59_6
  [] = true := by decide +kernel
theorem rX59_6 {l : Launch} {D : va_G} {tys : List (ClassId × FieldType)} {A : Nat → Prop} {ad : Nat → Nat} : CRok l D tys A ad GG 11 kX59_6 := CR_of_vrf (d := 4) (dep := 6) T1ok wX59_6
def kX59_7 : CR := (66, [(2, 0, 0), (0, 6, 6)], FX, some (0, 0, 0), [], [])
theorem wX59_7 : vrf GG T1 300 6 kX59_7
  [] = true := by decide +kernel
theorem rX59_7 {l : Launch} {D : va_G} {tys : List (ClassId × FieldType)} {A : Nat → Prop} {ad : Nat → Nat} : CRok l D tys A ad GG 11 kX59_7 := CR_of_vrf (d := 4) (dep := 6) T1ok wX59_7
def kX59_8 : CR := (66, [(2, 0, 0), (0, 7, 7)], FX, some (0, 0, 0), [], [])
theorem wX59_8 : vrf GG T1 300 6 kX59_8
  [] = true := by decide +kernel
theorem rX59_8 {l : Launch} {D : va_G} {tys : List (ClassId × FieldType)} {A : Nat → Prop} {ad : Nat → Nat} : CRok l D tys A ad GG 11 kX59_8 := CR_of_vrf (d := 4) (dep := 6) T1ok wX59_8
def kX59_9 : CR := (66, [(2, 0, 0), (0, 8, 2147483647)], FX, some (0, (-1), (-1)), [], [])
theorem wX59_9 : vrf GG T1 300 6 kX59_9
  [] = true := by decide +kernel
theorem rX59_9 {l : Launch} {D : va_G} {tys : List (ClassId × FieldType)} {A : Nat → Prop} {ad : Nat → Nat} : CRok l D tys A ad GG 11 kX59_9 := CR_of_vrf (d := 4) (dep := 6) T1ok wX59_9
def kM59_0 : CR := (335, [(2, 90, 90), (0, (-2147483648), (-1))], FM, some (0, (-1), (-1)), [], [])
theorem wM59_0 : vrf GG T1 300 6 kM59_0
  [] = true := by decide +kernel
theorem rM59_0 {l : Launch} {D : va_G} {tys : List (ClassId × FieldType)} {A : Nat → Prop} {ad : Nat → Nat} : CRok l D tys A ad GG 11 kM59_0 := CR_of_vrf (d := 4) (dep := 6) T1ok wM59_0
def kM59_1 : CR := (335, [(2, 90, 90), (0, 0, 0)], FM, some (0, 0, 0), [], [])
theorem wM59_1 : vrf GG T1 300 6 kM59_1
  [] = true := by decide +kernel
theorem rM59_1 {l : Launch} {D : va_G} {tys : List (ClassId × FieldType)} {A : Nat → Prop} {ad : Nat → Nat} : CRok l D tys A ad GG 11 kM59_1 := CR_of_vrf (d := 4) (dep := 6) T1ok wM59_1
def kM59_2 : CR := (335, [(2, 90, 90), (0, 1, 1)], FM, some (0, 0, 0), [], [])
theorem wM59_2 : vrf GG T1 300 6 kM59_2
  [] = true := by decide +kernel
theorem rM59_2 {l : Launch} {D : va_G} {tys : List (ClassId × FieldType)} {A : Nat → Prop} {ad : Nat → Nat} : CRok l D tys A ad GG 11 kM59_2 := CR_of_vrf (d := 4) (dep := 6) T1ok wM59_2
def kM59_3 : CR := (335, [(2, 90, 90), (0, 2, 2)], FM, some (0, 0, 0), [], [])
theorem wM59_3 : vrf GG T1 300 6 kM59_3
  [] = true := by decide +kernel
theorem rM59_3 {l : Launch} {D : va_G} {tys : List (ClassId × FieldType)} {A : Nat → Prop} {ad : Nat → Nat} : CRok l D tys A ad GG 11 kM59_3 := CR_of_vrf (d := 4) (dep := 6) T1ok wM59_3
def kM59_4 : CR := (335, [(2, 90, 90), (0, 3, 3)], FM, some (0, 0, 0), [], [])
theorem wM59_4 : vrf GG T1 300 6 kM59_4
  [] = true := by decide +kernel
theorem rM59_4 {l : Launch} {D : va_G} {tys : List (ClassId × FieldType)} {A : Nat → Prop} {ad : Nat → Nat} : CRok l D tys A ad GG 11 kM59_4 := CR_of_vrf (d := 4) (dep := 6) T1ok wM59_4
def kM59_5 : CR := (335, [(2, 90, 90), (0, 4, 4)], FM, some (0, 0, 0), [], [])
theorem wM59_5 : vrf GG T1 300 6 kM59_5
  [] = true := by decide +kernel
theorem rM59_5 {l : Launch} {D : va_G} {tys : List (ClassId × FieldType)} {A : Nat → Prop} {ad : Nat → Nat} : CRok l D tys A ad GG 11 kM59_5 := CR_of_vrf (d := 4) (dep := 6) T1ok wM59_5
def kM59_6 : CR := (335, [(2, 90, 90), (0, 5, 5)], FM, some (0, 0, 0), [], [])
theorem wM59_6 : vrf GG T1 300 6 kM59_6
  [] = true := by decide +kernel
theorem rM59_6 {l : Launch} {D : va_G} {tys : List (ClassId × FieldType)} {A : Nat → Prop} {ad : Nat → Nat} : CRok l D tys A ad GG 11 kM59_6 := CR_of_vrf (d := 4) (dep := 6) T1ok wM59_6
def kM59_7 : CR := (335, [(2, 90, 90), (0, 6, 6)], FM, some (0, 0, 0), [], [])
theorem wM59_7 : vrf GG T1 300 6 kM59_7
  [] = true := by decide +kernel
theorem rM59_7 {l : Launch} {D : va_G} {tys : List (ClassId × FieldType)} {A : Nat → Prop} {ad : Nat → Nat} : CRok l D tys A ad GG 11 kM59_7 := CR_of_vrf (d := 4) (dep := 6) T1ok wM59_7
def kM59_8 : CR := (335, [(2, 90, 90), (0, 7, 7)], FM, some (0, 0, 0), [], [])
theorem wM59_8 : vrf GG T1 300 6 kM59_8
  [(97, [(0, 4)], [(0, rA 90), (1, iA (7, [])), (2, iA (0, [])), (3, iA (0, [(1, 0)]))], [], [((90, 0), iA (0, [])), ((90, 5), iA (0, [])), ((90, 7), iA (0, [])), ((90, 8), iA (0, [])), ((90, 9), iA (0, [])), ((90, 10), iA (0, [])), ((90, 11), iA (0, [])), ((90, 12), iA (0, [])), ((90, 13), iA ((-1), [])), ((90, 18), iA (0, [])), ((90, 21), iA (0, [])), ((90, 22), iA ((-1), [])), ((90, 23), iA (0, [])), ((90, 24), iA (0, [])), ((90, 30), iA (0, [])), ((91, 0), iA (0, [])), ((91, 1), iA (0, [])), ((91, 2), iA (0, [])), ((91, 3), iA (0, [])), ((91, 4), iA (0, [])), ((91, 5), iA (0, [])), ((93, 0), iA (0, [])), ((93, 1), iA (0, [])), ((93, 2), iA (0, [])), ((96, 0), iA (0, [])), ((96, 1), iA (0, [])), ((96, 2), iA (0, [])), ((96, 3), iA (0, [])), ((96, 4), iA (0, [])), ((96, 5), iA (0, [])), ((107, 0), iA ((-1), [])), ((107, 1), iA ((-1), [])), ((107, 2), iA ((-1), [])), ((107, 3), iA ((-1), []))], (1124, [((-264), 0)])),
  (118, [(0, 3)], [(0, rA 90), (1, iA (7, [])), (2, iA (0, [])), (3, iA (0, [(1, 0)]))], [iA (0, []), iA (0, [])], [((90, 0), iA (0, [])), ((90, 5), iA (0, [])), ((90, 7), iA (0, [])), ((90, 8), iA (0, [])), ((90, 9), iA (0, [])), ((90, 10), iA (0, [])), ((90, 11), iA (0, [])), ((90, 12), iA (0, [])), ((90, 13), iA ((-1), [])), ((90, 18), iA (0, [])), ((90, 21), iA (0, [])), ((90, 22), iA ((-1), [])), ((90, 23), iA (0, [])), ((90, 24), iA (0, [])), ((90, 30), iA (0, [])), ((91, 0), iA (0, [])), ((91, 1), iA (0, [])), ((91, 2), iA (0, [])), ((91, 3), iA (0, [])), ((91, 4), iA (0, [])), ((91, 5), iA (0, [])), ((93, 0), iA (0, [])), ((93, 1), iA (0, [])), ((93, 2), iA (0, [])), ((96, 0), iA (0, [])), ((96, 1), iA (0, [])), ((96, 2), iA (0, [])), ((96, 3), iA (0, [])), ((96, 4), iA (0, [])), ((96, 5), iA (0, [])), ((107, 0), iA ((-1), [])), ((107, 1), iA ((-1), [])), ((107, 2), iA ((-1), [])), ((107, 3), iA ((-1), []))], (1103, [((-264), 0)]))] = true := by decide +kernel
theorem rM59_8 {l : Launch} {D : va_G} {tys : List (ClassId × FieldType)} {A : Nat → Prop} {ad : Nat → Nat} : CRok l D tys A ad GG 11 kM59_8 := CR_of_vrf (d := 4) (dep := 6) T1ok wM59_8
def kM59_9 : CR := (335, [(2, 90, 90), (0, 8, 2147483647)], FM, some (0, (-1), (-1)), [], [])
theorem wM59_9 : vrf GG T1 300 6 kM59_9
  [] = true := by decide +kernel
theorem rM59_9 {l : Launch} {D : va_G} {tys : List (ClassId × FieldType)} {A : Nat → Prop} {ad : Nat → Nat} : CRok l D tys A ad GG 11 kM59_9 := CR_of_vrf (d := 4) (dep := 6) T1ok wM59_9
def kX60_0 : CR := (67, [(2, 0, 0), (0, (-2147483648), (-1))], FX, some (0, (-2), (-2)), [], [])
theorem wX60_0 : vrf GG T1 300 6 kX60_0
  [] = true := by decide +kernel
theorem rX60_0 {l : Launch} {D : va_G} {tys : List (ClassId × FieldType)} {A : Nat → Prop} {ad : Nat → Nat} : CRok l D tys A ad GG 11 kX60_0 := CR_of_vrf (d := 4) (dep := 6) T1ok wX60_0
def kX60_1 : CR := (67, [(2, 0, 0), (0, 0, 2)], FX, some (0, 0, 0), [], [0, 54, 55, 56, 57, 58, 59, 60, 61, 62, 63, 64, 65, 66, 67, 68, 69, 70, 71, 72, 73, 74, 75, 76, 77, 78, 79, 80, 81, 82, 83, 84, 85, 86, 87, 88, 89])
theorem wX60_1 : vrf GG T1 511 6 kX60_1
  [] = true := by decide +kernel
theorem rX60_1 {l : Launch} {D : va_G} {tys : List (ClassId × FieldType)} {A : Nat → Prop} {ad : Nat → Nat} : CRok l D tys A ad GG 11 kX60_1 := CR_of_vrf (d := 4) (dep := 6) T1ok wX60_1
def kX60_2 : CR := (67, [(2, 0, 0), (0, 3, 2147483647)], FX, some (0, (-2), (-2)), [], [])
theorem wX60_2 : vrf GG T1 300 6 kX60_2
  [] = true := by decide +kernel
theorem rX60_2 {l : Launch} {D : va_G} {tys : List (ClassId × FieldType)} {A : Nat → Prop} {ad : Nat → Nat} : CRok l D tys A ad GG 11 kX60_2 := CR_of_vrf (d := 4) (dep := 6) T1ok wX60_2
def kM60_0 : CR := (196, [(2, 90, 90), (0, (-2147483648), (-1))], FM, some (0, (-2), (-2)), [], [])
theorem wM60_0 : vrf GG T1 300 6 kM60_0
  [] = true := by decide +kernel
theorem rM60_0 {l : Launch} {D : va_G} {tys : List (ClassId × FieldType)} {A : Nat → Prop} {ad : Nat → Nat} : CRok l D tys A ad GG 11 kM60_0 := CR_of_vrf (d := 4) (dep := 6) T1ok wM60_0
def kM60_1 : CR := (196, [(2, 90, 90), (0, 0, 2)], FM, some (0, 0, 0), [], [92, 93])
theorem wM60_1 : vrf GG T1 300 6 kM60_1
  [(17, [(0, 2), (0, 294)], [(0, rA 90), (1, iA (0, [(1, 0)])), (2, iA (0, [(1, 1)]))], [], [((90, 0), iA (0, [])), ((90, 5), iA (0, [])), ((90, 7), iA (0, [])), ((90, 8), iA (0, [])), ((90, 9), iA (0, [])), ((90, 10), iA (0, [])), ((90, 11), iA (0, [])), ((90, 12), iA (0, [])), ((90, 13), iA ((-1), [])), ((90, 18), iA (0, [])), ((90, 21), iA (0, [])), ((90, 22), iA ((-1), [])), ((90, 23), iA (0, [])), ((90, 24), iA (0, [])), ((90, 30), iA (0, [])), ((93, 0), iA (0, [])), ((93, 1), iA (0, [])), ((93, 2), iA (0, [])), ((96, 0), iA (0, [])), ((96, 1), iA (0, [])), ((96, 2), iA (0, [])), ((96, 3), iA (0, [])), ((96, 4), iA (0, [])), ((96, 5), iA (0, [])), ((107, 0), iA ((-1), [])), ((107, 1), iA ((-1), [])), ((107, 2), iA ((-1), [])), ((107, 3), iA ((-1), []))], (34774, [((-118), 1)]))] = true := by decide +kernel
theorem rM60_1 {l : Launch} {D : va_G} {tys : List (ClassId × FieldType)} {A : Nat → Prop} {ad : Nat → Nat} : CRok l D tys A ad GG 11 kM60_1 := CR_of_vrf (d := 4) (dep := 6) T1ok wM60_1
def kM60_2 : CR := (196, [(2, 90, 90), (0, 3, 2147483647)], FM, some (0, (-2), (-2)), [], [])
theorem wM60_2 : vrf GG T1 300 6 kM60_2
  [] = true := by decide +kernel
theorem rM60_2 {l : Launch} {D : va_G} {tys : List (ClassId × FieldType)} {A : Nat → Prop} {ad : Nat → Nat} : CRok l D tys A ad GG 11 kM60_2 := CR_of_vrf (d := 4) (dep := 6) T1ok wM60_2
def kX61_0 : CR := (68, [(2, 0, 0), (0, (-2147483648), (-1))], FX, some (0, (-2), (-2)), [], [])
theorem wX61_0 : vrf GG T1 300 6 kX61_0
  [] = true := by decide +kernel
theorem rX61_0 {l : Launch} {D : va_G} {tys : List (ClassId × FieldType)} {A : Nat → Prop} {ad : Nat → Nat} : CRok l D tys A ad GG 11 kX61_0 := CR_of_vrf (d := 4) (dep := 6) T1ok wX61_0
def kX61_1 : CR := (68, [(2, 0, 0), (0, 0, 2)], FX, some (0, (-6), (-6)), [], [])
theorem wX61_1 : vrf GG T1 300 6 kX61_1
  [] = true := by decide +kernel
theorem rX61_1 {l : Launch} {D : va_G} {tys : List (ClassId × FieldType)} {A : Nat → Prop} {ad : Nat → Nat} : CRok l D tys A ad GG 11 kX61_1 := CR_of_vrf (d := 4) (dep := 6) T1ok wX61_1
def kX61_2 : CR := (68, [(2, 0, 0), (0, 3, 2147483647)], FX, some (0, (-2), (-2)), [], [])
theorem wX61_2 : vrf GG T1 300 6 kX61_2
  [] = true := by decide +kernel
theorem rX61_2 {l : Launch} {D : va_G} {tys : List (ClassId × FieldType)} {A : Nat → Prop} {ad : Nat → Nat} : CRok l D tys A ad GG 11 kX61_2 := CR_of_vrf (d := 4) (dep := 6) T1ok wX61_2
def kM61_0 : CR := (197, [(2, 90, 90), (0, (-2147483648), (-1))], FM, some (0, (-2), (-2)), [], [])
theorem wM61_0 : vrf GG T1 300 6 kM61_0
  [] = true := by decide +kernel
theorem rM61_0 {l : Launch} {D : va_G} {tys : List (ClassId × FieldType)} {A : Nat → Prop} {ad : Nat → Nat} : CRok l D tys A ad GG 11 kM61_0 := CR_of_vrf (d := 4) (dep := 6) T1ok wM61_0
def kM61_1 : CR := (197, [(2, 90, 90), (0, 0, 2)], FM, some (0, (-6), (-6)), [], [])
theorem wM61_1 : vrf GG T1 300 6 kM61_1
  [] = true := by decide +kernel
theorem rM61_1 {l : Launch} {D : va_G} {tys : List (ClassId × FieldType)} {A : Nat → Prop} {ad : Nat → Nat} : CRok l D tys A ad GG 11 kM61_1 := CR_of_vrf (d := 4) (dep := 6) T1ok wM61_1
def kM61_2 : CR := (197, [(2, 90, 90), (0, 3, 2147483647)], FM, some (0, (-2), (-2)), [], [])
theorem wM61_2 : vrf GG T1 300 6 kM61_2
  [] = true := by decide +kernel
theorem rM61_2 {l : Launch} {D : va_G} {tys : List (ClassId × FieldType)} {A : Nat → Prop} {ad : Nat → Nat} : CRok l D tys A ad GG 11 kM61_2 := CR_of_vrf (d := 4) (dep := 6) T1ok wM61_2
def kX62_0 : CR := (70, [(2, 0, 0), (0, (-2147483648), (-1)), (0, (-2147483648), 2147483647), (0, (-2147483648), 2147483647)], FX, some (0, (-2), (-2)), [], [])
theorem wX62_0 : vrf GG T1 300 6 kX62_0
  [] = true := by decide +kernel
theorem rX62_0 {l : Launch} {D : va_G} {tys : List (ClassId × FieldType)} {A : Nat → Prop} {ad : Nat → Nat} : CRok l D tys A ad GG 11 kX62_0 := CR_of_vrf (d := 4) (dep := 6) T1ok wX62_0
def kX62_1 : CR := (70, [(2, 0, 0), (0, 4, 2147483647), (0, (-2147483648), 2147483647), (0, (-2147483648), 2147483647)], FX, some (0, (-2), (-2)), [], [])
theorem wX62_1 : vrf GG T1 300 6 kX62_1
  [] = true := by decide +kernel
theorem rX62_1 {l : Launch} {D : va_G} {tys : List (ClassId × FieldType)} {A : Nat → Prop} {ad : Nat → Nat} : CRok l D tys A ad GG 11 kX62_1 := CR_of_vrf (d := 4) (dep := 6) T1ok wX62_1
def kX62_2 : CR := (70, [(2, 0, 0), (0, 0, 3), (0, (-2147483648), (-1)), (0, (-2147483648), 2147483647)], FX, some (0, (-2), (-2)), [], [])
theorem wX62_2 : vrf GG T1 300 6 kX62_2
  [] = true := by decide +kernel
theorem rX62_2 {l : Launch} {D : va_G} {tys : List (ClassId × FieldType)} {A : Nat → Prop} {ad : Nat → Nat} : CRok l D tys A ad GG 11 kX62_2 := CR_of_vrf (d := 4) (dep := 6) T1ok wX62_2
def kX62_3 : CR := (70, [(2, 0, 0), (0, 0, 3), (0, 4, 2147483647), (0, (-2147483648), 2147483647)], FX, some (0, (-2), (-2)), [], [])
theorem wX62_3 : vrf GG T1 300 6 kX62_3
  [] = true := by decide +kernel
theorem rX62_3 {l : Launch} {D : va_G} {tys : List (ClassId × FieldType)} {A : Nat → Prop} {ad : Nat → Nat} : CRok l D tys A ad GG 11 kX62_3 := CR_of_vrf (d := 4) (dep := 6) T1ok wX62_3
def kX62_4 : CR := (70, [(2, 0, 0), (0, 0, 3), (0, 0, 3), (0, 61, 2147483647)], FX, some (0, (-2), (-2)), [], [])
theorem wX62_4 : vrf GG T1 300 6 kX62_4
  [] = true := by decide +kernel
theorem rX62_4 {l : Launch} {D : va_G} {tys : List (ClassId × FieldType)} {A : Nat → Prop} {ad : Nat → Nat} : CRok l D tys A ad GG 11 kX62_4 := CR_of_vrf (d := 4) (dep := 6) T1ok wX62_4
def kX62_5 : CR := (70, [(2, 0, 0), (0, 0, 3), (0, 0, 3), (0, (-2147483648), (-1))], FX, some (0, (-3), (-3)), [], [])
theorem wX62_5 : vrf GG T1 300 6 kX62_5
  [] = true := by decide +kernel
theorem rX62_5 {l : Launch} {D : va_G} {tys : List (ClassId × FieldType)} {A : Nat → Prop} {ad : Nat → Nat} : CRok l D tys A ad GG 11 kX62_5 := CR_of_vrf (d := 4) (dep := 6) T1ok wX62_5
def kX62_6 : CR := (70, [(2, 0, 0), (0, 0, 3), (0, 0, 3), (0, 0, 60)], FX, some (0, 0, 0), [], [40, 41, 42])
theorem wX62_6 : vrf GG T1 300 6 kX62_6
  [] = true := by decide +kernel
theorem rX62_6 {l : Launch} {D : va_G} {tys : List (ClassId × FieldType)} {A : Nat → Prop} {ad : Nat → Nat} : CRok l D tys A ad GG 11 kX62_6 := CR_of_vrf (d := 4) (dep := 6) T1ok wX62_6
def kM62_0 : CR := (338, [(2, 90, 90), (0, (-2147483648), (-1)), (0, (-2147483648), 2147483647), (0, (-2147483648), 2147483647)], FM, some (0, (-2), (-2)), [], [])
theorem wM62_0 : vrf GG T1 300 6 kM62_0
  [] = true := by decide +kernel
theorem rM62_0 {l : Launch} {D : va_G} {tys : List (ClassId × FieldType)} {A : Nat → Prop} {ad : Nat → Nat} : CRok l D tys A ad GG 11 kM62_0 := CR_of_vrf (d := 4) (dep := 6) T1ok wM62_0
def kM62_1 : CR := (338, [(2, 90, 90), (0, 4, 2147483647), (0, (-2147483648), 2147483647), (0, (-2147483648), 2147483647)], FM, some (0, (-2), (-2)), [], [])
theorem wM62_1 : vrf GG T1 300 6 kM62_1
  [] = true := by decide +kernel
theorem rM62_1 {l : Launch} {D : va_G} {tys : List (ClassId × FieldType)} {A : Nat → Prop} {ad : Nat → Nat} : CRok l D tys A ad GG 11 kM62_1 := CR_of_vrf (d := 4) (dep := 6) T1ok wM62_1
def kM62_2 : CR := (338, [(2, 90, 90), (0, 0, 3), (0, (-2147483648), (-1)), (0, (-2147483648), 2147483647)], FM, some (0, (-2), (-2)), [], [])
theorem wM62_2 : vrf GG T1 300 6 kM62_2
  [] = true := by decide +kernel
theorem rM62_2 {l : Launch} {D : va_G} {tys : List (ClassId × FieldType)} {A : Nat → Prop} {ad : Nat → Nat} : CRok l D tys A ad GG 11 kM62_2 := CR_of_vrf (d := 4) (dep := 6) T1ok wM62_2
def kM62_3 : CR := (338, [(2, 90, 90), (0, 0, 3), (0, 4, 2147483647), (0, (-2147483648), 2147483647)], FM, some (0, (-2), (-2)), [], [])
theorem wM62_3 : vrf GG T1 300 6 kM62_3
  [] = true := by decide +kernel
theorem rM62_3 {l : Launch} {D : va_G} {tys : List (ClassId × FieldType)} {A : Nat → Prop} {ad : Nat → Nat} : CRok l D tys A ad GG 11 kM62_3 := CR_of_vrf (d := 4) (dep := 6) T1ok wM62_3
def kM62_4 : CR := (338, [(2, 90, 90), (0, 0, 3), (0, 0, 3), (0, 61, 2147483647)], FM, some (0, (-2), (-2)), [], [])
theorem wM62_4 : vrf GG T1 300 6 kM62_4
  [] = true := by decide +kernel
theorem rM62_4 {l : Launch} {D : va_G} {tys : List (ClassId × FieldType)} {A : Nat → Prop} {ad : Nat → Nat} : CRok l D tys A ad GG 11 kM62_4 := CR_of_vrf (d := 4) (dep := 6) T1ok wM62_4
def kM62_5 : CR := (338, [(2, 90, 90), (0, 0, 3), (0, 0, 3), (0, (-2147483648), (-1))], FM, some (0, (-3), (-3)), [], [])
theorem wM62_5 : vrf GG T1 300 6 kM62_5
  [] = true := by decide +kernel
theorem rM62_5 {l : Launch} {D : va_G} {tys : List (ClassId × FieldType)} {A : Nat → Prop} {ad : Nat → Nat} : CRok l D tys A ad GG 11 kM62_5 := CR_of_vrf (d := 4) (dep := 6) T1ok wM62_5
def kM62_6 : CR := (338, [(2, 90, 90), (0, 0, 3), (0, 0, 3), (0, 0, 60)], FM, some (0, 0, 0), [], [107, 108, 109])
theorem wM62_6 : vrf GG T1 300 6 kM62_6
  [(52, [(0, 3), (0, 3), (0, 60), (0, 60)], [(0, rA 90), (1, iA (0, [(1, 0)])), (2, iA (0, [(1, 1)])), (3, iA (0, [(1, 2)])), (4, iA (0, [(1, 3)]))], [], [((90, 0), iA (0, [])), ((90, 5), iA (0, [])), ((90, 7), iA (0, [])), ((90, 8), iA (0, [])), ((90, 9), iA (0, [])), ((90, 10), iA (0, [])), ((90, 11), iA (0, [])), ((90, 12), iA (0, [])), ((90, 13), iA ((-1), [])), ((90, 18), iA (0, [])), ((90, 21), iA (0, [])), ((90, 22), iA ((-1), [])), ((90, 23), iA (0, [])), ((90, 24), iA (0, [])), ((90, 30), iA (0, [])), ((91, 0), iA (0, [])), ((91, 1), iA (0, [])), ((91, 2), iA (0, [])), ((91, 3), iA (0, [])), ((91, 4), iA (0, [])), ((91, 5), iA (0, [])), ((93, 0), iA (0, [])), ((93, 1), iA (0, [])), ((93, 2), iA (0, [])), ((96, 0), iA (0, [])), ((96, 1), iA (0, [])), ((96, 2), iA (0, [])), ((96, 3), iA (0, [])), ((96, 4), iA (0, [])), ((96, 5), iA (0, []))], (9898, [((-164), 3)]))] = true := by decide +kernel
theorem rM62_6 {l : Launch} {D : va_G} {tys : List (ClassId × FieldType)} {A : Nat → Prop} {ad : Nat → Nat} : CRok l D tys A ad GG 11 kM62_6 := CR_of_vrf (d := 4) (dep := 6) T1ok wM62_6
def kX63_0 : CR := (71, [(2, 0, 0), (0, (-2147483648), (-1)), (0, (-2147483648), 2147483647), (1, (-9223372036854775808), 9223372036854775807)], FX, some (0, (-2), (-2)), [], [])
theorem wX63_0 : vrf GG T1 300 6 kX63_0
  [] = true := by decide +kernel
theorem rX63_0 {l : Launch} {D : va_G} {tys : List (ClassId × FieldType)} {A : Nat → Prop} {ad : Nat → Nat} : CRok l D tys A ad GG 11 kX63_0 := CR_of_vrf (d := 4) (dep := 6) T1ok wX63_0
def kX63_1 : CR := (71, [(2, 0, 0), (0, 4, 2147483647), (0, (-2147483648), 2147483647), (1, (-9223372036854775808), 9223372036854775807)], FX, some (0, (-2), (-2)), [], [])
theorem wX63_1 : vrf GG T1 300 6 kX63_1
  [] = true := by decide +kernel
theorem rX63_1 {l : Launch} {D : va_G} {tys : List (ClassId × FieldType)} {A : Nat → Prop} {ad : Nat → Nat} : CRok l D tys A ad GG 11 kX63_1 := CR_of_vrf (d := 4) (dep := 6) T1ok wX63_1
def kX63_2 : CR := (71, [(2, 0, 0), (0, 0, 3), (0, (-2147483648), 2147483647), (1, (-9223372036854775808), 9223372036854775807)], FX, some (0, (-6), (-6)), [], [])
theorem wX63_2 : vrf GG T1 300 6 kX63_2
  [] = true := by decide +kernel
theorem rX63_2 {l : Launch} {D : va_G} {tys : List (ClassId × FieldType)} {A : Nat → Prop} {ad : Nat → Nat} : CRok l D tys A ad GG 11 kX63_2 := CR_of_vrf (d := 4) (dep := 6) T1ok wX63_2
def kM63_0 : CR := (339, [(2, 90, 90), (0, (-2147483648), (-1)), (0, (-2147483648), 2147483647), (1, (-9223372036854775808), 9223372036854775807)], FM, some (0, (-2), (-2)), [], [])
theorem wM63_0 : vrf GG T1 300 6 kM63_0
  [] = true := by decide +kernel
theorem rM63_0 {l : Launch} {D : va_G} {tys : List (ClassId × FieldType)} {A : Nat → Prop} {ad : Nat → Nat} : CRok l D tys A ad GG 11 kM63_0 := CR_of_vrf (d := 4) (dep := 6) T1ok wM63_0
def kM63_1 : CR := (339, [(2, 90, 90), (0, 4, 2147483647), (0, (-2147483648), 2147483647), (1, (-9223372036854775808), 9223372036854775807)], FM, some (0, (-2), (-2)), [], [])
theorem wM63_1 : vrf GG T1 300 6 kM63_1
  [] = true := by decide +kernel
theorem rM63_1 {l : Launch} {D : va_G} {tys : List (ClassId × FieldType)} {A : Nat → Prop} {ad : Nat → Nat} : CRok l D tys A ad GG 11 kM63_1 := CR_of_vrf (d := 4) (dep := 6) T1ok wM63_1
def kM63_2 : CR := (339, [(2, 90, 90), (0, 0, 3), (0, (-2147483648), 2147483647), (1, (-9223372036854775808), 9223372036854775807)], FM, some (0, (-6), (-6)), [], [])
theorem wM63_2 : vrf GG T1 300 6 kM63_2
  [] = true := by decide +kernel
theorem rM63_2 {l : Launch} {D : va_G} {tys : List (ClassId × FieldType)} {A : Nat → Prop} {ad : Nat → Nat} : CRok l D tys A ad GG 11 kM63_2 := CR_of_vrf (d := 4) (dep := 6) T1ok wM63_2
def kX64_0 : CR := (72, [(2, 0, 0), (0, (-2147483648), (-1)), (0, (-2147483648), 2147483647), (0, (-2147483648), 2147483647), (0, (-2147483648), 2147483647), (0, (-2147483648), 2147483647)], FX, some (0, (-2), (-2)), [], [])
theorem wX64_0 : vrf GG T1 300 6 kX64_0
  [] = true := by decide +kernel
theorem rX64_0 {l : Launch} {D : va_G} {tys : List (ClassId × FieldType)} {A : Nat → Prop} {ad : Nat → Nat} : CRok l D tys A ad GG 11 kX64_0 := CR_of_vrf (d := 4) (dep := 6) T1ok wX64_0
def kX64_1 : CR := (72, [(2, 0, 0), (0, 4, 2147483647), (0, (-2147483648), 2147483647), (0, (-2147483648), 2147483647), (0, (-2147483648), 2147483647), (0, (-2147483648), 2147483647)], FX, some (0, (-2), (-2)), [], [])
theorem wX64_1 : vrf GG T1 300 6 kX64_1
  [] = true := by decide +kernel
theorem rX64_1 {l : Launch} {D : va_G} {tys : List (ClassId × FieldType)} {A : Nat → Prop} {ad : Nat → Nat} : CRok l D tys A ad GG 11 kX64_1 := CR_of_vrf (d := 4) (dep := 6) T1ok wX64_1
def kX64_2 : CR := (72, [(2, 0, 0), (0, 0, 3), (0, (-2147483648), 2147483647), (0, (-2147483648), (-1)), (0, (-2147483648), 2147483647), (0, (-2147483648), 2147483647)], FX, some (0, (-2), (-2)), [], [])
theorem wX64_2 : vrf GG T1 300 6 kX64_2
  [] = true := by decide +kernel
theorem rX64_2 {l : Launch} {D : va_G} {tys : List (ClassId × FieldType)} {A : Nat → Prop} {ad : Nat → Nat} : CRok l D tys A ad GG 11 kX64_2 := CR_of_vrf (d := 4) (dep := 6) T1ok wX64_2
def kX64_3 : CR := (72, [(2, 0, 0), (0, 0, 3), (0, (-2147483648), 2147483647), (0, 4, 2147483647), (0, (-2147483648), 2147483647), (0, (-2147483648), 2147483647)], FX, some (0, (-2), (-2)), [], [])
theorem wX64_3 : vrf GG T1 300 6 kX64_3
  [] = true := by decide +kernel
theorem rX64_3 {l : Launch} {D : va_G} {tys : List (ClassId × FieldType)} {A : Nat → Prop} {ad : Nat → Nat} : CRok l D tys A ad GG 11 kX64_3 := CR_of_vrf (d := 4) (dep := 6) T1ok wX64_3
def kX64_4 : CR := (72, [(2, 0, 0), (0, 0, 3), (0, (-2147483648), 2147483647), (0, 0, 3), (0, (-2147483648), 2147483647), (0, (-2147483648), 2147483647)], FX, some (0, (-6), (-6)), [], [])
theorem wX64_4 : vrf GG T1 300 6 kX64_4
  [] = true := by decide +kernel
theorem rX64_4 {l : Launch} {D : va_G} {tys : List (ClassId × FieldType)} {A : Nat → Prop} {ad : Nat → Nat} : CRok l D tys A ad GG 11 kX64_4 := CR_of_vrf (d := 4) (dep := 6) T1ok wX64_4
def kM64_0 : CR := (340, [(2, 90, 90), (0, (-2147483648), (-1)), (0, (-2147483648), 2147483647), (0, (-2147483648), 2147483647), (0, (-2147483648), 2147483647), (0, (-2147483648), 2147483647)], FM, some (0, (-2), (-2)), [], [])
theorem wM64_0 : vrf GG T1 300 6 kM64_0
  [] = true := by decide +kernel
theorem rM64_0 {l : Launch} {D : va_G} {tys : List (ClassId × FieldType)} {A : Nat → Prop} {ad : Nat → Nat} : CRok l D tys A ad GG 11 kM64_0 := CR_of_vrf (d := 4) (dep := 6) T1ok wM64_0
def kM64_1 : CR := (340, [(2, 90, 90), (0, 4, 2147483647), (0, (-2147483648), 2147483647), (0, (-2147483648), 2147483647), (0, (-2147483648), 2147483647), (0, (-2147483648), 2147483647)], FM, some (0, (-2), (-2)), [], [])
theorem wM64_1 : vrf GG T1 300 6 kM64_1
  [] = true := by decide +kernel
theorem rM64_1 {l : Launch} {D : va_G} {tys : List (ClassId × FieldType)} {A : Nat → Prop} {ad : Nat → Nat} : CRok l D tys A ad GG 11 kM64_1 := CR_of_vrf (d := 4) (dep := 6) T1ok wM64_1
def kM64_2 : CR := (340, [(2, 90, 90), (0, 0, 3), (0, (-2147483648), 2147483647), (0, (-2147483648), (-1)), (0, (-2147483648), 2147483647), (0, (-2147483648), 2147483647)], FM, some (0, (-2), (-2)), [], [])
theorem wM64_2 : vrf GG T1 300 6 kM64_2
  [] = true := by decide +kernel
theorem rM64_2 {l : Launch} {D : va_G} {tys : List (ClassId × FieldType)} {A : Nat → Prop} {ad : Nat → Nat} : CRok l D tys A ad GG 11 kM64_2 := CR_of_vrf (d := 4) (dep := 6) T1ok wM64_2
def kM64_3 : CR := (340, [(2, 90, 90), (0, 0, 3), (0, (-2147483648), 2147483647), (0, 4, 2147483647), (0, (-2147483648), 2147483647), (0, (-2147483648), 2147483647)], FM, some (0, (-2), (-2)), [], [])
theorem wM64_3 : vrf GG T1 300 6 kM64_3
  [] = true := by decide +kernel
theorem rM64_3 {l : Launch} {D : va_G} {tys : List (ClassId × FieldType)} {A : Nat → Prop} {ad : Nat → Nat} : CRok l D tys A ad GG 11 kM64_3 := CR_of_vrf (d := 4) (dep := 6) T1ok wM64_3
def kM64_4 : CR := (340, [(2, 90, 90), (0, 0, 3), (0, (-2147483648), 2147483647), (0, 0, 3), (0, (-2147483648), 2147483647), (0, (-2147483648), 2147483647)], FM, some (0, (-6), (-6)), [], [])
theorem wM64_4 : vrf GG T1 300 6 kM64_4
  [] = true := by decide +kernel
theorem rM64_4 {l : Launch} {D : va_G} {tys : List (ClassId × FieldType)} {A : Nat → Prop} {ad : Nat → Nat} : CRok l D tys A ad GG 11 kM64_4 := CR_of_vrf (d := 4) (dep := 6) T1ok wM64_4
