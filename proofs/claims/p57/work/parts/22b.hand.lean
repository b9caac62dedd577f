theorem mi_328_0 : mI 328 0 = (4, 0, 0, 0, 0) := by decide +kernel
theorem mi_328_1 : mI 328 1 = (7, 0, 4, 1, 0) := by decide +kernel
theorem mi_328_3 : mI 328 3 = (4, 0, 2, 0, 0) := by decide +kernel
theorem mi_328_4 : mI 328 4 = (7, 0, 6, 1, 0) := by decide +kernel
theorem mi_328_6 : mI 328 6 = (4, 0, 6, 1, 0) := by decide +kernel
theorem mi_328_8 : mI 328 8 = (2, 0, 0, 0, 0) := by decide +kernel
theorem mi_328_9 : mI 328 9 = (13, 0, 0, 0, 0) := by decide +kernel
theorem mi_328_10 : mI 328 10 = (14, 21, 0, 31, 0) := by decide +kernel
theorem mi_328_13 : mI 328 13 = (4, 0, 4, 1, 0) := by decide +kernel
theorem mi_328_15 : mI 328 15 = (4, 0, 6, 1, 0) := by decide +kernel
theorem mi_328_17 : mI 328 17 = (11, 0, 4, 0, 0) := by decide +kernel
theorem mi_328_18 : mI 328 18 = (7, 0, 8, 1, 0) := by decide +kernel
theorem mi_328_20 : mI 328 20 = (4, 0, 6, 1, 0) := by decide +kernel
theorem mi_328_22 : mI 328 22 = (7, 0, 4, 1, 0) := by decide +kernel
theorem mi_328_24 : mI 328 24 = (4, 0, 8, 1, 0) := by decide +kernel
theorem mi_328_26 : mI 328 26 = (7, 0, 6, 1, 0) := by decide +kernel
theorem mi_328_28 : mI 328 28 = (16, (-22), 0, 6, 0) := by decide +kernel
theorem mi_328_31 : mI 328 31 = (4, 0, 4, 1, 0) := by decide +kernel
theorem mi_328_33 : mI 328 33 = (27, 0, 1, 0, 0) := by decide +kernel
theorem okvs_two {ad : Nat → Nat} {s1 s2 : SP3} : ∀ {vs : List Value}, okvs ad [s1, s2] vs → ∃ a b, vs = [a, b] ∧ okv ad s1 a ∧ okv ad s2 b
  | [], h => h.elim
  | [a], h => h.2.elim
  | [a, b], h => ⟨a, b, rfl, h.1, h.2.1⟩
  | a :: b :: c :: t, h => h.2.2.elim
section HAN
variable {l : Launch} {D : va_G} {tys : List (ClassId × FieldType)} {A : Nat → Prop}
end HAN
