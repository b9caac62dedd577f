theorem mi_109_0 : mI 109 0 = (1, 1, 0, 0, 0) := by decide +kernel
theorem mi_109_1 : mI 109 1 = (5, 0, 0, 0, 0) := by decide +kernel
theorem mi_109_2 : mI 109 2 = (17, 103, 58, 2, 4) := by decide +kernel
theorem mi_109_5 : mI 109 5 = (10, 0, 8, 0, 0) := by decide +kernel
theorem mi_109_6 : mI 109 6 = (1, 1, 0, 0, 0) := by decide +kernel
theorem mi_109_7 : mI 109 7 = (10, 0, 1, 0, 0) := by decide +kernel
theorem mi_109_8 : mI 109 8 = (27, 0, 0, 0, 0) := by decide +kernel
theorem mi_344_0 : mI 344 0 = (3, 0, 0, 0, 0) := by decide +kernel
theorem mi_344_1 : mI 344 1 = (3, 0, 0, 0, 0) := by decide +kernel
theorem mi_344_2 : mI 344 2 = (1, 1, 0, 0, 0) := by decide +kernel
theorem mi_344_3 : mI 344 3 = (10, 0, 10, 0, 0) := by decide +kernel
theorem mi_344_4 : mI 344 4 = (1, 1431655765, 4, 265, 721) := by decide +kernel
theorem mi_344_7 : mI 344 7 = (10, 0, 5, 0, 0) := by decide +kernel
theorem mi_344_8 : mI 344 8 = (10, 0, 1, 0, 0) := by decide +kernel
theorem mi_344_9 : mI 344 9 = (6, 0, 0, 0, 0) := by decide +kernel
theorem mi_344_10 : mI 344 10 = (3, 0, 0, 0, 0) := by decide +kernel
theorem mi_344_11 : mI 344 11 = (1, 858993459, 4, 266, 722) := by decide +kernel
theorem mi_344_14 : mI 344 14 = (10, 0, 5, 0, 0) := by decide +kernel
theorem mi_344_15 : mI 344 15 = (3, 0, 0, 0, 0) := by decide +kernel
theorem mi_344_16 : mI 344 16 = (1, 2, 0, 0, 0) := by decide +kernel
theorem mi_344_17 : mI 344 17 = (10, 0, 10, 0, 0) := by decide +kernel
theorem mi_344_18 : mI 344 18 = (1, 858993459, 4, 266, 722) := by decide +kernel
theorem mi_344_21 : mI 344 21 = (10, 0, 5, 0, 0) := by decide +kernel
theorem mi_344_22 : mI 344 22 = (10, 0, 0, 0, 0) := by decide +kernel
theorem mi_344_23 : mI 344 23 = (6, 0, 0, 0, 0) := by decide +kernel
theorem mi_344_24 : mI 344 24 = (3, 0, 0, 0, 0) := by decide +kernel
theorem mi_344_25 : mI 344 25 = (3, 0, 0, 0, 0) := by decide +kernel
theorem mi_344_26 : mI 344 26 = (1, 4, 0, 0, 0) := by decide +kernel
theorem mi_344_27 : mI 344 27 = (10, 0, 10, 0, 0) := by decide +kernel
theorem mi_344_28 : mI 344 28 = (10, 0, 0, 0, 0) := by decide +kernel
theorem mi_344_29 : mI 344 29 = (1, 252645135, 4, 267, 723) := by decide +kernel
theorem mi_344_32 : mI 344 32 = (10, 0, 5, 0, 0) := by decide +kernel
theorem mi_344_33 : mI 344 33 = (6, 0, 0, 0, 0) := by decide +kernel
theorem mi_344_34 : mI 344 34 = (3, 0, 0, 0, 0) := by decide +kernel
theorem mi_344_35 : mI 344 35 = (3, 0, 0, 0, 0) := by decide +kernel
theorem mi_344_36 : mI 344 36 = (1, 8, 1, 0, 0) := by decide +kernel
theorem mi_344_38 : mI 344 38 = (10, 0, 10, 0, 0) := by decide +kernel
theorem mi_344_39 : mI 344 39 = (10, 0, 0, 0, 0) := by decide +kernel
theorem mi_344_40 : mI 344 40 = (6, 0, 0, 0, 0) := by decide +kernel
theorem mi_344_41 : mI 344 41 = (3, 0, 0, 0, 0) := by decide +kernel
theorem mi_344_42 : mI 344 42 = (3, 0, 0, 0, 0) := by decide +kernel
theorem mi_344_43 : mI 344 43 = (1, 16, 1, 0, 0) := by decide +kernel
theorem mi_344_45 : mI 344 45 = (10, 0, 10, 0, 0) := by decide +kernel
theorem mi_344_46 : mI 344 46 = (10, 0, 0, 0, 0) := by decide +kernel
theorem mi_344_47 : mI 344 47 = (6, 0, 0, 0, 0) := by decide +kernel
theorem mi_344_48 : mI 344 48 = (3, 0, 0, 0, 0) := by decide +kernel
theorem mi_344_49 : mI 344 49 = (1, 63, 1, 0, 0) := by decide +kernel
theorem mi_344_51 : mI 344 51 = (10, 0, 5, 0, 0) := by decide +kernel
theorem mi_344_52 : mI 344 52 = (27, 0, 0, 0, 0) := by decide +kernel
section XSE
variable {l : Launch} {D : va_G} {tys : List (ClassId × FieldType)} {A : Nat → Prop} {ad : Nat → Nat} {ws : va_W}
theorem atk_ct {c n j : Nat} {lo hi : Int} {v : Int32} (hg : gA c n lo hi) (hG : GOK ad tys GG ws) (hn : n ≤ 100000) (hj : j < n) (h : rd ws c j = some (.int v)) : CT l D tys A 147 0 0 0 [.ref (ad c), .int (Int32.ofInt (j : Int))] ws (fun r w => w = ws ∧ r = some (.int v)) :=
  CT_post (atx_ct hg hG hn) (fun r w q => by
    obtain ⟨e, u, e2, k⟩ := q
    refine ⟨e, ?_⟩
    have z := k j hj rfl
    rw [h] at z
    rw [e2, z])
theorem orI_s1 {P : Nat → Bool} {o : Nat} (h : P o = true) : orI P (o + 1) = bitO (orI P o) (o : Int) := by
  show (if P o = true then bitO (orI P o) (o : Int) else orI P o) = _
  rw [if_pos h]
theorem orI_s0 {P : Nat → Bool} {o : Nat} (h : P o = false) : orI P (o + 1) = orI P o := by
  show (if P o = true then bitO (orI P o) (o : Int) else orI P o) = _
  rw [if_neg (by rw [h]; exact Bool.false_ne_true)]
end XSE
