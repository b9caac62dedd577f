def kX2_0 : CR := (3, [(2, 0, 0)], FX, some (0, 0, 0), [], [1, 2, 4, 5, 6, 7, 8, 9, 10, 11, 12, 13, 14, 15, 16, 17, 18, 19, 20, 21, 22, 23, 24, 25, 26, 27, 31, 32, 33, 34, 35])
theorem wX2_0 : vrf GG T1 2446 6 kX2_0
  [] = true := by decide +kernel
theorem rX2_0 {l : Launch} {D : va_G} {tys : List (ClassId × FieldType)} {A : Nat → Prop} {ad : Nat → Nat} : CRok l D tys A ad GG 11 kX2_0 := CR_of_vrf (d := 4) (dep := 6) T1ok wX2_0
