section XSV
variable {l : Launch} {D : va_G} {tys : List (ClassId × FieldType)} {A : Nat → Prop} {ad : Nat → Nat} {ws : va_W}
/-- how many bits of the first n -/
def bcS (a : Int) : Nat → Int
  | 0 => 0
  | n + 1 => bcS a n + (if tb a (n : Int) = true then 1 else 0)
theorem bcS_bd {a : Int} : ∀ n : Nat, 0 ≤ bcS a n ∧ bcS a n ≤ n
  | 0 => ⟨by show (0 : Int) ≤ 0; omega, by show (0 : Int) ≤ 0; omega⟩
  | n + 1 => by
    have h := bcS_bd (a := a) n
    show 0 ≤ bcS a n + (if tb a (n : Int) = true then 1 else 0) ∧ bcS a n + (if tb a (n : Int) = true then 1 else 0) ≤ _
    split <;> omega
def bcX (x : Int32) : Int32 := ibF 5 (ibF 0 (ibF 0 (ibF 5 (ibF 0 (ibF 0 (ibF 5 (ibF 1 (x) (ibF 5 (ibF 10 (x) (Int32.ofInt (1))) (Int32.ofInt (1431655765)))) (Int32.ofInt (858993459))) (ibF 5 (ibF 10 (ibF 1 (x) (ibF 5 (ibF 10 (x) (Int32.ofInt (1))) (Int32.ofInt (1431655765)))) (Int32.ofInt (2))) (Int32.ofInt (858993459)))) (ibF 10 (ibF 0 (ibF 5 (ibF 1 (x) (ibF 5 (ibF 10 (x) (Int32.ofInt (1))) (Int32.ofInt (1431655765)))) (Int32.ofInt (858993459))) (ibF 5 (ibF 10 (ibF 1 (x) (ibF 5 (ibF 10 (x) (Int32.ofInt (1))) (Int32.ofInt (1431655765)))) (Int32.ofInt (2))) (Int32.ofInt (858993459)))) (Int32.ofInt (4)))) (Int32.ofInt (252645135))) (ibF 10 (ibF 5 (ibF 0 (ibF 0 (ibF 5 (ibF 1 (x) (ibF 5 (ibF 10 (x) (Int32.ofInt (1))) (Int32.ofInt (1431655765)))) (Int32.ofInt (858993459))) (ibF 5 (ibF 10 (ibF 1 (x) (ibF 5 (ibF 10 (x) (Int32.ofInt (1))) (Int32.ofInt (1431655765)))) (Int32.ofInt (2))) (Int32.ofInt (858993459)))) (ibF 10 (ibF 0 (ibF 5 (ibF 1 (x) (ibF 5 (ibF 10 (x) (Int32.ofInt (1))) (Int32.ofInt (1431655765)))) (Int32.ofInt (858993459))) (ibF 5 (ibF 10 (ibF 1 (x) (ibF 5 (ibF 10 (x) (Int32.ofInt (1))) (Int32.ofInt (1431655765)))) (Int32.ofInt (2))) (Int32.ofInt (858993459)))) (Int32.ofInt (4)))) (Int32.ofInt (252645135))) (Int32.ofInt (8)))) (ibF 10 (ibF 0 (ibF 5 (ibF 0 (ibF 0 (ibF 5 (ibF 1 (x) (ibF 5 (ibF 10 (x) (Int32.ofInt (1))) (Int32.ofInt (1431655765)))) (Int32.ofInt (858993459))) (ibF 5 (ibF 10 (ibF 1 (x) (ibF 5 (ibF 10 (x) (Int32.ofInt (1))) (Int32.ofInt (1431655765)))) (Int32.ofInt (2))) (Int32.ofInt (858993459)))) (ibF 10 (ibF 0 (ibF 5 (ibF 1 (x) (ibF 5 (ibF 10 (x) (Int32.ofInt (1))) (Int32.ofInt (1431655765)))) (Int32.ofInt (858993459))) (ibF 5 (ibF 10 (ibF 1 (x) (ibF 5 (ibF 10 (x) (Int32.ofInt (1))) (Int32.ofInt (1431655765)))) (Int32.ofInt (2))) (Int32.ofInt (858993459)))) (Int32.ofInt (4)))) (Int32.ofInt (252645135))) (ibF 10 (ibF 5 (ibF 0 (ibF 0 (ibF 5 (ibF 1 (x) (ibF 5 (ibF 10 (x) (Int32.ofInt (1))) (Int32.ofInt (1431655765)))) (Int32.ofInt (858993459))) (ibF 5 (ibF 10 (ibF 1 (x) (ibF 5 (ibF 10 (x) (Int32.ofInt (1))) (Int32.ofInt (1431655765)))) (Int32.ofInt (2))) (Int32.ofInt (858993459)))) (ibF 10 (ibF 0 (ibF 5 (ibF 1 (x) (ibF 5 (ibF 10 (x) (Int32.ofInt (1))) (Int32.ofInt (1431655765)))) (Int32.ofInt (858993459))) (ibF 5 (ibF 10 (ibF 1 (x) (ibF 5 (ibF 10 (x) (Int32.ofInt (1))) (Int32.ofInt (1431655765)))) (Int32.ofInt (2))) (Int32.ofInt (858993459)))) (Int32.ofInt (4)))) (Int32.ofInt (252645135))) (Int32.ofInt (8)))) (Int32.ofInt (16)))) (Int32.ofInt (63))
theorem bcX_all : (List.range 64).all (fun a => decide (bcX (Int32.ofInt (a : Nat)) = Int32.ofInt (bcS (a : Nat) 6))) = true := by decide +kernel
theorem bcX_k {a : Int} (a0 : 0 ≤ a) (a1 : a ≤ 63) : bcX (Int32.ofInt a) = Int32.ofInt (bcS a 6) := by
  have h := of_decide_eq_true (List.all_eq_true.mp bcX_all a.toNat (List.mem_range.mpr (by omega)))
  rw [Int.toNat_of_nonneg a0] at h
  exact h
theorem bcx_ct {a : Int} (a0 : 0 ≤ a) (a1 : a ≤ 63) : CT l D tys A 344 0 0 0 [.int (Int32.ofInt a)] ws (fun r w => w = ws ∧ r = some (.int (Int32.ofInt (bcS a 6)))) := by
  rw [← bcX_k a0 a1]
  generalize Int32.ofInt a = x
  refine CT_of_V (by omega) (show (1 : Nat) ≤ mML 344 by decide +kernel) ?_
  refine V_iload (v := x) mi_344_0 (by simp [stL, lv_args, Value.category]) ?_
  refine V_iload (v := x) mi_344_1 (by simp [stL, lv_args, Value.category]) ?_
  refine V_ipush mi_344_2 ?_
  refine V_ibin mi_344_3 (by omega) ?_
  refine V_ipush mi_344_4 ?_
  refine V_ibin mi_344_7 (by omega) ?_
  refine V_ibin mi_344_8 (by omega) ?_
  refine V_istore mi_344_9 ?_
  refine V_iload (v := ibF 1 (x) (ibF 5 (ibF 10 (x) (Int32.ofInt (1))) (Int32.ofInt (1431655765)))) mi_344_10 (by simp [stL, lv_args, Value.category]) ?_
  refine V_ipush mi_344_11 ?_
  refine V_ibin mi_344_14 (by omega) ?_
  refine V_iload (v := ibF 1 (x) (ibF 5 (ibF 10 (x) (Int32.ofInt (1))) (Int32.ofInt (1431655765)))) mi_344_15 (by simp [stL, lv_args, Value.category]) ?_
  refine V_ipush mi_344_16 ?_
  refine V_ibin mi_344_17 (by omega) ?_
  refine V_ipush mi_344_18 ?_
  refine V_ibin mi_344_21 (by omega) ?_
  refine V_ibin mi_344_22 (by omega) ?_
  refine V_istore mi_344_23 ?_
  refine V_iload (v := ibF 0 (ibF 5 (ibF 1 (x) (ibF 5 (ibF 10 (x) (Int32.ofInt (1))) (Int32.ofInt (1431655765)))) (Int32.ofInt (858993459))) (ibF 5 (ibF 10 (ibF 1 (x) (ibF 5 (ibF 10 (x) (Int32.ofInt (1))) (Int32.ofInt (1431655765)))) (Int32.ofInt (2))) (Int32.ofInt (858993459)))) mi_344_24 (by simp [stL, lv_args, Value.category]) ?_
  refine V_iload (v := ibF 0 (ibF 5 (ibF 1 (x) (ibF 5 (ibF 10 (x) (Int32.ofInt (1))) (Int32.ofInt (1431655765)))) (Int32.ofInt (858993459))) (ibF 5 (ibF 10 (ibF 1 (x) (ibF 5 (ibF 10 (x) (Int32.ofInt (1))) (Int32.ofInt (1431655765)))) (Int32.ofInt (2))) (Int32.ofInt (858993459)))) mi_344_25 (by simp [stL, lv_args, Value.category]) ?_
  refine V_ipush mi_344_26 ?_
  refine V_ibin mi_344_27 (by omega) ?_
  refine V_ibin mi_344_28 (by omega) ?_
  refine V_ipush mi_344_29 ?_
  refine V_ibin mi_344_32 (by omega) ?_
  refine V_istore mi_344_33 ?_
  refine V_iload (v := ibF 5 (ibF 0 (ibF 0 (ibF 5 (ibF 1 (x) (ibF 5 (ibF 10 (x) (Int32.ofInt (1))) (Int32.ofInt (1431655765)))) (Int32.ofInt (858993459))) (ibF 5 (ibF 10 (ibF 1 (x) (ibF 5 (ibF 10 (x) (Int32.ofInt (1))) (Int32.ofInt (1431655765)))) (Int32.ofInt (2))) (Int32.ofInt (858993459)))) (ibF 10 (ibF 0 (ibF 5 (ibF 1 (x) (ibF 5 (ibF 10 (x) (Int32.ofInt (1))) (Int32.ofInt (1431655765)))) (Int32.ofInt (858993459))) (ibF 5 (ibF 10 (ibF 1 (x) (ibF 5 (ibF 10 (x) (Int32.ofInt (1))) (Int32.ofInt (1431655765)))) (Int32.ofInt (2))) (Int32.ofInt (858993459)))) (Int32.ofInt (4)))) (Int32.ofInt (252645135))) mi_344_34 (by simp [stL, lv_args, Value.category]) ?_
  refine V_iload (v := ibF 5 (ibF 0 (ibF 0 (ibF 5 (ibF 1 (x) (ibF 5 (ibF 10 (x) (Int32.ofInt (1))) (Int32.ofInt (1431655765)))) (Int32.ofInt (858993459))) (ibF 5 (ibF 10 (ibF 1 (x) (ibF 5 (ibF 10 (x) (Int32.ofInt (1))) (Int32.ofInt (1431655765)))) (Int32.ofInt (2))) (Int32.ofInt (858993459)))) (ibF 10 (ibF 0 (ibF 5 (ibF 1 (x) (ibF 5 (ibF 10 (x) (Int32.ofInt (1))) (Int32.ofInt (1431655765)))) (Int32.ofInt (858993459))) (ibF 5 (ibF 10 (ibF 1 (x) (ibF 5 (ibF 10 (x) (Int32.ofInt (1))) (Int32.ofInt (1431655765)))) (Int32.ofInt (2))) (Int32.ofInt (858993459)))) (Int32.ofInt (4)))) (Int32.ofInt (252645135))) mi_344_35 (by simp [stL, lv_args, Value.category]) ?_
  refine V_ipush mi_344_36 ?_
  refine V_ibin mi_344_38 (by omega) ?_
  refine V_ibin mi_344_39 (by omega) ?_
  refine V_istore mi_344_40 ?_
  refine V_iload (v := ibF 0 (ibF 5 (ibF 0 (ibF 0 (ibF 5 (ibF 1 (x) (ibF 5 (ibF 10 (x) (Int32.ofInt (1))) (Int32.ofInt (1431655765)))) (Int32.ofInt (858993459))) (ibF 5 (ibF 10 (ibF 1 (x) (ibF 5 (ibF 10 (x) (Int32.ofInt (1))) (Int32.ofInt (1431655765)))) (Int32.ofInt (2))) (Int32.ofInt (858993459)))) (ibF 10 (ibF 0 (ibF 5 (ibF 1 (x) (ibF 5 (ibF 10 (x) (Int32.ofInt (1))) (Int32.ofInt (1431655765)))) (Int32.ofInt (858993459))) (ibF 5 (ibF 10 (ibF 1 (x) (ibF 5 (ibF 10 (x) (Int32.ofInt (1))) (Int32.ofInt (1431655765)))) (Int32.ofInt (2))) (Int32.ofInt (858993459)))) (Int32.ofInt (4)))) (Int32.ofInt (252645135))) (ibF 10 (ibF 5 (ibF 0 (ibF 0 (ibF 5 (ibF 1 (x) (ibF 5 (ibF 10 (x) (Int32.ofInt (1))) (Int32.ofInt (1431655765)))) (Int32.ofInt (858993459))) (ibF 5 (ibF 10 (ibF 1 (x) (ibF 5 (ibF 10 (x) (Int32.ofInt (1))) (Int32.ofInt (1431655765)))) (Int32.ofInt (2))) (Int32.ofInt (858993459)))) (ibF 10 (ibF 0 (ibF 5 (ibF 1 (x) (ibF 5 (ibF 10 (x) (Int32.ofInt (1))) (Int32.ofInt (1431655765)))) (Int32.ofInt (858993459))) (ibF 5 (ibF 10 (ibF 1 (x) (ibF 5 (ibF 10 (x) (Int32.ofInt (1))) (Int32.ofInt (1431655765)))) (Int32.ofInt (2))) (Int32.ofInt (858993459)))) (Int32.ofInt (4)))) (Int32.ofInt (252645135))) (Int32.ofInt (8)))) mi_344_41 (by simp [stL, lv_args, Value.category]) ?_
  refine V_iload (v := ibF 0 (ibF 5 (ibF 0 (ibF 0 (ibF 5 (ibF 1 (x) (ibF 5 (ibF 10 (x) (Int32.ofInt (1))) (Int32.ofInt (1431655765)))) (Int32.ofInt (858993459))) (ibF 5 (ibF 10 (ibF 1 (x) (ibF 5 (ibF 10 (x) (Int32.ofInt (1))) (Int32.ofInt (1431655765)))) (Int32.ofInt (2))) (Int32.ofInt (858993459)))) (ibF 10 (ibF 0 (ibF 5 (ibF 1 (x) (ibF 5 (ibF 10 (x) (Int32.ofInt (1))) (Int32.ofInt (1431655765)))) (Int32.ofInt (858993459))) (ibF 5 (ibF 10 (ibF 1 (x) (ibF 5 (ibF 10 (x) (Int32.ofInt (1))) (Int32.ofInt (1431655765)))) (Int32.ofInt (2))) (Int32.ofInt (858993459)))) (Int32.ofInt (4)))) (Int32.ofInt (252645135))) (ibF 10 (ibF 5 (ibF 0 (ibF 0 (ibF 5 (ibF 1 (x) (ibF 5 (ibF 10 (x) (Int32.ofInt (1))) (Int32.ofInt (1431655765)))) (Int32.ofInt (858993459))) (ibF 5 (ibF 10 (ibF 1 (x) (ibF 5 (ibF 10 (x) (Int32.ofInt (1))) (Int32.ofInt (1431655765)))) (Int32.ofInt (2))) (Int32.ofInt (858993459)))) (ibF 10 (ibF 0 (ibF 5 (ibF 1 (x) (ibF 5 (ibF 10 (x) (Int32.ofInt (1))) (Int32.ofInt (1431655765)))) (Int32.ofInt (858993459))) (ibF 5 (ibF 10 (ibF 1 (x) (ibF 5 (ibF 10 (x) (Int32.ofInt (1))) (Int32.ofInt (1431655765)))) (Int32.ofInt (2))) (Int32.ofInt (858993459)))) (Int32.ofInt (4)))) (Int32.ofInt (252645135))) (Int32.ofInt (8)))) mi_344_42 (by simp [stL, lv_args, Value.category]) ?_
  refine V_ipush mi_344_43 ?_
  refine V_ibin mi_344_45 (by omega) ?_
  refine V_ibin mi_344_46 (by omega) ?_
  refine V_istore mi_344_47 ?_
  refine V_iload (v := ibF 0 (ibF 0 (ibF 5 (ibF 0 (ibF 0 (ibF 5 (ibF 1 (x) (ibF 5 (ibF 10 (x) (Int32.ofInt (1))) (Int32.ofInt (1431655765)))) (Int32.ofInt (858993459))) (ibF 5 (ibF 10 (ibF 1 (x) (ibF 5 (ibF 10 (x) (Int32.ofInt (1))) (Int32.ofInt (1431655765)))) (Int32.ofInt (2))) (Int32.ofInt (858993459)))) (ibF 10 (ibF 0 (ibF 5 (ibF 1 (x) (ibF 5 (ibF 10 (x) (Int32.ofInt (1))) (Int32.ofInt (1431655765)))) (Int32.ofInt (858993459))) (ibF 5 (ibF 10 (ibF 1 (x) (ibF 5 (ibF 10 (x) (Int32.ofInt (1))) (Int32.ofInt (1431655765)))) (Int32.ofInt (2))) (Int32.ofInt (858993459)))) (Int32.ofInt (4)))) (Int32.ofInt (252645135))) (ibF 10 (ibF 5 (ibF 0 (ibF 0 (ibF 5 (ibF 1 (x) (ibF 5 (ibF 10 (x) (Int32.ofInt (1))) (Int32.ofInt (1431655765)))) (Int32.ofInt (858993459))) (ibF 5 (ibF 10 (ibF 1 (x) (ibF 5 (ibF 10 (x) (Int32.ofInt (1))) (Int32.ofInt (1431655765)))) (Int32.ofInt (2))) (Int32.ofInt (858993459)))) (ibF 10 (ibF 0 (ibF 5 (ibF 1 (x) (ibF 5 (ibF 10 (x) (Int32.ofInt (1))) (Int32.ofInt (1431655765)))) (Int32.ofInt (858993459))) (ibF 5 (ibF 10 (ibF 1 (x) (ibF 5 (ibF 10 (x) (Int32.ofInt (1))) (Int32.ofInt (1431655765)))) (Int32.ofInt (2))) (Int32.ofInt (858993459)))) (Int32.ofInt (4)))) (Int32.ofInt (252645135))) (Int32.ofInt (8)))) (ibF 10 (ibF 0 (ibF 5 (ibF 0 (ibF 0 (ibF 5 (ibF 1 (x) (ibF 5 (ibF 10 (x) (Int32.ofInt (1))) (Int32.ofInt (1431655765)))) (Int32.ofInt (858993459))) (ibF 5 (ibF 10 (ibF 1 (x) (ibF 5 (ibF 10 (x) (Int32.ofInt (1))) (Int32.ofInt (1431655765)))) (Int32.ofInt (2))) (Int32.ofInt (858993459)))) (ibF 10 (ibF 0 (ibF 5 (ibF 1 (x) (ibF 5 (ibF 10 (x) (Int32.ofInt (1))) (Int32.ofInt (1431655765)))) (Int32.ofInt (858993459))) (ibF 5 (ibF 10 (ibF 1 (x) (ibF 5 (ibF 10 (x) (Int32.ofInt (1))) (Int32.ofInt (1431655765)))) (Int32.ofInt (2))) (Int32.ofInt (858993459)))) (Int32.ofInt (4)))) (Int32.ofInt (252645135))) (ibF 10 (ibF 5 (ibF 0 (ibF 0 (ibF 5 (ibF 1 (x) (ibF 5 (ibF 10 (x) (Int32.ofInt (1))) (Int32.ofInt (1431655765)))) (Int32.ofInt (858993459))) (ibF 5 (ibF 10 (ibF 1 (x) (ibF 5 (ibF 10 (x) (Int32.ofInt (1))) (Int32.ofInt (1431655765)))) (Int32.ofInt (2))) (Int32.ofInt (858993459)))) (ibF 10 (ibF 0 (ibF 5 (ibF 1 (x) (ibF 5 (ibF 10 (x) (Int32.ofInt (1))) (Int32.ofInt (1431655765)))) (Int32.ofInt (858993459))) (ibF 5 (ibF 10 (ibF 1 (x) (ibF 5 (ibF 10 (x) (Int32.ofInt (1))) (Int32.ofInt (1431655765)))) (Int32.ofInt (2))) (Int32.ofInt (858993459)))) (Int32.ofInt (4)))) (Int32.ofInt (252645135))) (Int32.ofInt (8)))) (Int32.ofInt (16)))) mi_344_48 (by simp [stL, lv_args, Value.category]) ?_
  refine V_ipush mi_344_49 ?_
  refine V_ibin mi_344_51 (by omega) ?_
  exact V_retI mi_344_52 (fun h => absurd h (by decide +kernel)) ⟨rfl, rfl⟩
theorem tb13_all : (List.range 64).all (fun a => (List.range 13).all (fun i => decide (ibF 5 (ibF 9 (Int32.ofInt (a : Nat)) (Int32.ofInt (i : Nat))) (Int32.ofInt 1) = Int32.ofInt (if i < 6 then (if tb (a : Nat) (i : Nat) = true then 1 else 0) else 0)))) = true := by decide +kernel
theorem tb13 {a : Int} {i : Nat} (a0 : 0 ≤ a) (a1 : a ≤ 63) (hi : i < 13) : ibF 5 (ibF 9 (Int32.ofInt a) (Int32.ofInt (i : Int))) (Int32.ofInt 1) = Int32.ofInt (if i < 6 then (if tb a (i : Int) = true then 1 else 0) else 0) := by
  have h := of_decide_eq_true (List.all_eq_true.mp (List.all_eq_true.mp tb13_all a.toNat (List.mem_range.mpr (by omega))) i (List.mem_range.mpr hi))
  rw [Int.toNat_of_nonneg a0] at h
  exact h
theorem min6 {a : Int} {i : Nat} : bcS a (min i 6) + (if i < 6 then (if tb a (i : Int) = true then 1 else 0) else 0) = bcS a (min (i + 1) 6) := by
  by_cases h : i < 6
  · rw [if_pos h, show min i 6 = i by omega, show min (i + 1) 6 = i + 1 by omega]
    rfl
  · rw [if_neg h, show min i 6 = 6 by omega, show min (i + 1) 6 = 6 by omega, Int.add_zero]
theorem bt_4 {a : Int} (a0 : 0 ≤ a) (a1 : a ≤ 63) {post : Option Value → va_W → Prop} : ∀ (m i : Nat), i + m = 13 → post (some (.int (Int32.ofInt (bcS a 6)))) ws → V l D tys A 194 0 0 0 post 0 0 4 [(0, .int (Int32.ofInt (a))), (1, .int (Int32.ofInt (bcS a (min i 6)))), (2, .int (Int32.ofInt ((i : Int))))] [] ws
  | 0, i, hm, kk => by
    refine V_iload (v := Int32.ofInt ((i : Int))) mi_194_4 (by simp [stL, lv_args, Value.category]) ?_
    refine V_ipush mi_194_5 ?_
    refine V_cge mi_194_7 ⟨by omega, by omega⟩ ⟨by omega, by omega⟩ (fun q => ?_) (fun q => ?_)
    · rw [show min i 6 = 6 by omega]
      refine V_iload (v := Int32.ofInt (bcS a 6)) mi_194_24 (by simp [stL, lv_args, Value.category]) ?_
      exact V_retI mi_194_25 (fun h => absurd h (by decide +kernel)) kk
    · exact absurd q (by omega)
  | m + 1, i, hm, kk => by
    refine V_iload (v := Int32.ofInt ((i : Int))) mi_194_4 (by simp [stL, lv_args, Value.category]) ?_
    refine V_ipush mi_194_5 ?_
    refine V_cge mi_194_7 ⟨by omega, by omega⟩ ⟨by omega, by omega⟩ (fun q => ?_) (fun q => ?_)
    · exact absurd q (by omega)
    · refine V_iload (v := Int32.ofInt (bcS a (min i 6))) mi_194_10 (by simp [stL, lv_args, Value.category]) ?_
      refine V_iload (v := Int32.ofInt (a)) mi_194_11 (by simp [stL, lv_args, Value.category]) ?_
      refine V_iload (v := Int32.ofInt ((i : Int))) mi_194_12 (by simp [stL, lv_args, Value.category]) ?_
      refine V_ibin mi_194_13 (by omega) ?_
      refine V_ipush mi_194_14 ?_
      refine V_ibin mi_194_15 (by omega) ?_
      rw [tb13 a0 a1 (by omega)]
      refine V_ibin mi_194_16 (by omega) ?_
      rw [ib0]
      rw [min6]
      refine V_istore mi_194_17 ?_
      refine V_iinc (v := Int32.ofInt ((i : Int))) mi_194_18 (by simp [stL, lv_args, Value.category]) ?_
      rw [ia2]
      refine V_goto mi_194_21 ?_
      refine V_sub (lv' := [(0, .int (Int32.ofInt (a))), (1, .int (Int32.ofInt (bcS a (min (i + 1) 6)))), (2, .int (Int32.ofInt (((i + 1 : Nat) : Int))))]) (fun q hq => ?_) ?_
      · simp only [List.mem_cons, List.not_mem_nil, or_false] at hq
        rcases hq with rfl | rfl | rfl <;> simp [stL, lv_args, Value.category]
      exact bt_4 a0 a1 m (i + 1) (by omega) kk
theorem bcm_ct {a : Int} (a0 : 0 ≤ a) (a1 : a ≤ 63) : CT l D tys A 194 0 0 0 [.int (Int32.ofInt (a))] ws (fun r w => w = ws ∧ r = some (.int (Int32.ofInt (bcS a 6)))) := by
  refine CT_of_V (by omega) (show (1 : Nat) ≤ mML 194 by decide +kernel) ?_
  refine V_ipush mi_194_0 ?_
  refine V_istore mi_194_1 ?_
  refine V_ipush mi_194_2 ?_
  refine V_istore mi_194_3 ?_
  refine V_sub (lv' := [(0, .int (Int32.ofInt (a))), (1, .int (Int32.ofInt (0))), (2, .int (Int32.ofInt (((0 : Nat) : Int))))]) (fun q hq => ?_) ?_
  · simp only [List.mem_cons, List.not_mem_nil, or_false] at hq
    rcases hq with rfl | rfl | rfl <;> simp [stL, lv_args, Value.category]
  exact bt_4 a0 a1 13 0 (by omega) ⟨rfl, rfl⟩
/-- how many syllables of the first n others f knows -/
def loS (G : Nat → Int) (g f : Nat) : Nat → Int
  | 0 => 0
  | p + 1 => loS G g f p + (if p = f then 0 else bcS ((tellT G g).K (6 * f + p)) 6)
theorem loS_bd {G : Nat → Int} {g f : Nat} : ∀ n : Nat, 0 ≤ loS G g f n ∧ loS G g f n ≤ 6 * n
  | 0 => ⟨by show (0 : Int) ≤ 0; omega, by show (0 : Int) ≤ _; omega⟩
  | n + 1 => by
    have h := loS_bd (G := G) (g := g) (f := f) n
    have b := bcS_bd (a := (tellT G g).K (6 * f + n)) 6
    show 0 ≤ loS G g f n + (if n = f then 0 else bcS ((tellT G g).K (6 * f + n)) 6) ∧ loS G g f n + (if n = f then 0 else bcS ((tellT G g).K (6 * f + n)) 6) ≤ _
    split <;> omega
theorem lo_6 {G : Nat → Int} (hG : GOK ad tys GG ws) (hX : HX 4 G ws) (hB : HB G) (hS : STO G ws) {f g : Nat} {post : Option Value → va_W → Prop} (hf : (f : Int) < G 3) (hg : (g : Int) ≤ G 2) : ∀ (m p : Nat), ((p + m : Nat) : Int) = G 3 → post (some (.int (Int32.ofInt (loS G g f (G 3).toNat)))) ws → V l D tys A 181 2 0 0 post 0 0 6 [(0, .ref (ad 32)), (1, .ref (ad 4)), (2, .int (Int32.ofInt ((f : Int)))), (3, .int (Int32.ofInt ((g : Int)))), (4, .int (Int32.ofInt (loS G g f p))), (5, .int (Int32.ofInt ((p : Int))))] [] ws
  | 0, p, hm, kk => by
    have b3 := hB.b3
    have b2 := hB.b2
    refine V_iload (v := Int32.ofInt ((p : Int))) mi_181_6 (by simp [stL, lv_args, Value.category]) ?_
    refine V_aload (v := ad 4) mi_181_8 (by simp [stL, lv_args, Value.category]) ?_
    refine V_gO mi_181_9 g4o hG (show rd _ 4 4 = some (.int (Int32.ofInt (G 3))) from hx0 hX (i := 4) (by omega)) ?_
    refine V_cge mi_181_12 ⟨by omega, by omega⟩ ⟨by omega, by omega⟩ (fun q => ?_) (fun q => ?_)
    · have e : p = (G 3).toNat := by omega
      rw [← e] at kk
      refine V_iload (v := Int32.ofInt (loS G g f p)) mi_181_43 (by simp [stL, lv_args, Value.category]) ?_
      exact V_retI mi_181_45 (fun h => absurd h (by decide +kernel)) kk
    · exact absurd q (by omega)
  | m + 1, p, hm, kk => by
    have b3 := hB.b3
    have b2 := hB.b2
    refine V_iload (v := Int32.ofInt ((p : Int))) mi_181_6 (by simp [stL, lv_args, Value.category]) ?_
    refine V_aload (v := ad 4) mi_181_8 (by simp [stL, lv_args, Value.category]) ?_
    refine V_gO mi_181_9 g4o hG (show rd _ 4 4 = some (.int (Int32.ofInt (G 3))) from hx0 hX (i := 4) (by omega)) ?_
    refine V_cge mi_181_12 ⟨by omega, by omega⟩ ⟨by omega, by omega⟩ (fun q => ?_) (fun q => ?_)
    · exact absurd q (by omega)
    · have es : loS G g f (p + 1) = loS G g f p + (if p = f then 0 else bcS ((tellT G g).K (6 * f + p)) 6) := rfl
      have bk := tell_ok hB g (6 * f + p) (by omega)
      refine V_iload (v := Int32.ofInt ((p : Int))) mi_181_15 (by simp [stL, lv_args, Value.category]) ?_
      refine V_iload (v := Int32.ofInt ((f : Int))) mi_181_17 (by simp [stL, lv_args, Value.category]) ?_
      refine V_ceq mi_181_18 ⟨by omega, by omega⟩ ⟨by omega, by omega⟩ (fun q2 => ?_) (fun q2 => ?_)
      · rw [if_pos (show p = f by omega), Int.add_zero] at es
        rw [← es]
        refine V_iinc (v := Int32.ofInt ((p : Int))) mi_181_37 (by simp [stL, lv_args, Value.category]) ?_
        rw [ia2]
        refine V_goto mi_181_40 ?_
        refine V_sub (lv' := [(0, .ref (ad 32)), (1, .ref (ad 4)), (2, .int (Int32.ofInt ((f : Int)))), (3, .int (Int32.ofInt ((g : Int)))), (4, .int (Int32.ofInt (loS G g f (p + 1)))), (5, .int (Int32.ofInt (((p + 1 : Nat) : Int))))]) (fun q hq => ?_) ?_
        · simp only [List.mem_cons, List.not_mem_nil, or_false] at hq
          rcases hq with rfl | rfl | rfl | rfl | rfl | rfl <;> simp [stL, lv_args, Value.category]
        exact lo_6 hG hX hB hS hf hg m (p + 1) (by omega) kk
      · rw [if_neg (show ¬ p = f by omega)] at es
        refine V_iload (v := Int32.ofInt (loS G g f p)) mi_181_21 (by simp [stL, lv_args, Value.category]) ?_
        refine V_aload (v := ad 32) mi_181_23 (by simp [stL, lv_args, Value.category]) ?_
        refine V_iload (v := Int32.ofInt ((f : Int))) mi_181_24 (by simp [stL, lv_args, Value.category]) ?_
        refine V_iload (v := Int32.ofInt ((p : Int))) mi_181_25 (by simp [stL, lv_args, Value.category]) ?_
        refine V_iload (v := Int32.ofInt ((g : Int))) mi_181_27 (by simp [stL, lv_args, Value.category]) ?_
        refine V_cO (As := [.int (Int32.ofInt ((f : Int))), .int (Int32.ofInt ((p : Int))), .int (Int32.ofInt ((g : Int)))]) (st := [.int (Int32.ofInt (loS G g f p))]) mi_181_28 (by omega) (by decide +kernel) (by decide +kernel) (by omega) g32o hG (stb_ct (f := f) (o := p) (g := g) hG (by omega) (by omega) (by omega) (sto_k hB hS hf (by omega) hg)) (by omega) (show 3 = mN 176 by decide +kernel) (by simp [Value.category]) ?_
        rintro r w1 ⟨e1, rfl⟩
        rw [e1]
        refine V_stat (As := [.int (Int32.ofInt ((tellT G g).K (6 * f + p)))]) (st := [.int (Int32.ofInt (loS G g f p))]) mi_181_31 (by omega) (bcx_ct (a := (tellT G g).K (6 * f + p)) bk.1 bk.2) (by omega) (show 1 = mN 344 by decide +kernel) (by simp [Value.category]) ⟨Nat.le_refl _, Nat.le_refl _⟩ ?_
        rintro r w2 ⟨e2, rfl⟩
        rw [e2]
        refine V_ibin mi_181_34 (by omega) ?_
        rw [ib0]
        rw [← es]
        refine V_istore mi_181_35 ?_
        refine V_iinc (v := Int32.ofInt ((p : Int))) mi_181_37 (by simp [stL, lv_args, Value.category]) ?_
        rw [ia2]
        refine V_goto mi_181_40 ?_
        refine V_sub (lv' := [(0, .ref (ad 32)), (1, .ref (ad 4)), (2, .int (Int32.ofInt ((f : Int)))), (3, .int (Int32.ofInt ((g : Int)))), (4, .int (Int32.ofInt (loS G g f (p + 1)))), (5, .int (Int32.ofInt (((p + 1 : Nat) : Int))))]) (fun q hq => ?_) ?_
        · simp only [List.mem_cons, List.not_mem_nil, or_false] at hq
          rcases hq with rfl | rfl | rfl | rfl | rfl | rfl <;> simp [stL, lv_args, Value.category]
        exact lo_6 hG hX hB hS hf hg m (p + 1) (by omega) kk
theorem lor_ct {G : Nat → Int} (hG : GOK ad tys GG ws) (hX : HX 4 G ws) (hB : HB G) (hS : STO G ws) {f g : Nat} (hf : (f : Int) < G 3) (hg : (g : Int) ≤ G 2) : CT l D tys A 181 2 0 0 [.ref (ad 32), .ref (ad 4), .int (Int32.ofInt ((f : Int))), .int (Int32.ofInt ((g : Int)))] ws (fun r w => w = ws ∧ r = some (.int (Int32.ofInt (loS G g f (G 3).toNat)))) := by
  refine CT_of_V (by omega) (show (4 : Nat) ≤ mML 181 by decide +kernel) ?_
  have b3 := hB.b3
  refine V_ipush mi_181_0 ?_
  refine V_istore mi_181_1 ?_
  refine V_ipush mi_181_3 ?_
  refine V_istore mi_181_4 ?_
  refine V_sub (lv' := [(0, .ref (ad 32)), (1, .ref (ad 4)), (2, .int (Int32.ofInt ((f : Int)))), (3, .int (Int32.ofInt ((g : Int)))), (4, .int (Int32.ofInt (0))), (5, .int (Int32.ofInt (((0 : Nat) : Int))))]) (fun q hq => ?_) ?_
  · simp only [List.mem_cons, List.not_mem_nil, or_false] at hq
    rcases hq with rfl | rfl | rfl | rfl | rfl | rfl <;> simp [stL, lv_args, Value.category]
  exact lo_6 hG hX hB hS hf hg (G 3).toNat 0 (by omega) ⟨rfl, rfl⟩
theorem lom_5 {G : Nat → Int} {w0 : va_W} (hT : MT ad tys G w0 ws) (hW : W91 G ws) (hB : HB G) {f h : Nat} {post : Option Value → va_W → Prop} (hf : f < 6) (hh : (h : Int) < G 2) : ∀ (m p : Nat), ((p + m : Nat) : Int) = G 3 → post (some (.int (Int32.ofInt (loS G (h + 1) f (G 3).toNat)))) ws → V l D tys A 261 2 0 0 post 0 0 5 [(0, .ref (ad 90)), (1, .int (Int32.ofInt ((f : Int)))), (2, .int (Int32.ofInt ((h : Int)))), (3, .int (Int32.ofInt (loS G (h + 1) f p))), (4, .int (Int32.ofInt ((p : Int))))] [] ws
  | 0, p, hm, kk => by
    obtain ⟨s91, e91, -⟩ := g91s
    have b3 := hB.b3
    have b2 := hB.b2
    refine V_iload (v := Int32.ofInt ((p : Int))) mi_261_5 (by simp [stL, lv_args, Value.category]) ?_
    refine V_aload (v := ad 90) mi_261_7 (by simp [stL, lv_args, Value.category]) ?_
    refine V_getI mi_261_8 hT.1 (rref gr1m (by omega) hT.1) ?_
    refine V_ipush mi_261_11 ?_
    refine V_aldX (j := 3) mi_261_12 rfl hT.1 e91 (by omega) (by omega) (hW _ (by omega)) ?_
    refine V_cge mi_261_13 ⟨by omega, by omega⟩ ⟨by omega, by omega⟩ (fun q => ?_) (fun q => ?_)
    · have e : p = (G 3).toNat := by omega
      rw [← e] at kk
      refine V_iload (v := Int32.ofInt (loS G (h + 1) f p)) mi_261_48 (by simp [stL, lv_args, Value.category]) ?_
      exact V_retI mi_261_49 (fun h => absurd h (by decide +kernel)) kk
    · exact absurd q (by omega)
  | m + 1, p, hm, kk => by
    obtain ⟨s91, e91, -⟩ := g91s
    have b3 := hB.b3
    have b2 := hB.b2
    refine V_iload (v := Int32.ofInt ((p : Int))) mi_261_5 (by simp [stL, lv_args, Value.category]) ?_
    refine V_aload (v := ad 90) mi_261_7 (by simp [stL, lv_args, Value.category]) ?_
    refine V_getI mi_261_8 hT.1 (rref gr1m (by omega) hT.1) ?_
    refine V_ipush mi_261_11 ?_
    refine V_aldX (j := 3) mi_261_12 rfl hT.1 e91 (by omega) (by omega) (hW _ (by omega)) ?_
    refine V_cge mi_261_13 ⟨by omega, by omega⟩ ⟨by omega, by omega⟩ (fun q => ?_) (fun q => ?_)
    · exact absurd q (by omega)
    · have es : loS G (h + 1) f (p + 1) = loS G (h + 1) f p + (if p = f then 0 else bcS ((tellT G (h + 1)).K (6 * f + p)) 6) := rfl
      have bk := tell_ok hB (h + 1) (6 * f + p) (by omega)
      refine V_iload (v := Int32.ofInt (loS G (h + 1) f p)) mi_261_16 (by simp [stL, lv_args, Value.category]) ?_
      refine V_iload (v := Int32.ofInt ((p : Int))) mi_261_17 (by simp [stL, lv_args, Value.category]) ?_
      refine V_iload (v := Int32.ofInt ((f : Int))) mi_261_19 (by simp [stL, lv_args, Value.category]) ?_
      refine V_cne mi_261_20 ⟨by omega, by omega⟩ ⟨by omega, by omega⟩ (fun q2 => ?_) (fun q2 => ?_)
      · rw [if_neg (show ¬ p = f by omega)] at es
        refine V_aload (v := ad 90) mi_261_27 (by simp [stL, lv_args, Value.category]) ?_
        refine V_iload (v := Int32.ofInt ((f : Int))) mi_261_28 (by simp [stL, lv_args, Value.category]) ?_
        refine V_iload (v := Int32.ofInt ((p : Int))) mi_261_29 (by simp [stL, lv_args, Value.category]) ?_
        refine V_iload (v := Int32.ofInt ((h : Int))) mi_261_31 (by simp [stL, lv_args, Value.category]) ?_
        refine V_ipush mi_261_32 ?_
        refine V_ibin mi_261_33 (by omega) ?_
        rw [ib0]
        rw [show (h : Int) + (1) = ((h + 1 : Nat) : Int) by omega]
        refine V_callM (As := [.int (Int32.ofInt ((f : Int))), .int (Int32.ofInt ((p : Int))), .int (Int32.ofInt (((h + 1 : Nat) : Int)))]) (st := [.int (Int32.ofInt (loS G (h + 1) f p))]) mi_261_34 (by omega) (by decide +kernel) (by decide +kernel) hT.1 (kah_ct (f := f) (o := p) (g := h + 1) hT.1 hf (by omega) (by omega) (mt_k hT hf (by omega) (by omega))) (by omega) (show 3 = mN 239 by decide +kernel) (by simp [Value.category]) ?_
        rintro r w1 ⟨e1, rfl⟩
        rw [e1]
        refine V_stat (As := [.int (Int32.ofInt ((tellT G (h + 1)).K (6 * f + p)))]) (st := [.int (Int32.ofInt (loS G (h + 1) f p))]) mi_261_37 (by omega) (bcm_ct (a := (tellT G (h + 1)).K (6 * f + p)) bk.1 bk.2) (by omega) (show 1 = mN 194 by decide +kernel) (by simp [Value.category]) ⟨Nat.le_refl _, Nat.le_refl _⟩ ?_
        rintro r w2 ⟨e2, rfl⟩
        rw [e2]
        refine V_ibin mi_261_40 (by omega) ?_
        rw [ib0]
        rw [← es]
        refine V_istore mi_261_41 ?_
        refine V_iinc (v := Int32.ofInt ((p : Int))) mi_261_42 (by simp [stL, lv_args, Value.category]) ?_
        rw [ia2]
        refine V_goto mi_261_45 ?_
        refine V_sub (lv' := [(0, .ref (ad 90)), (1, .int (Int32.ofInt ((f : Int)))), (2, .int (Int32.ofInt ((h : Int)))), (3, .int (Int32.ofInt (loS G (h + 1) f (p + 1)))), (4, .int (Int32.ofInt (((p + 1 : Nat) : Int))))]) (fun q hq => ?_) ?_
        · simp only [List.mem_cons, List.not_mem_nil, or_false] at hq
          rcases hq with rfl | rfl | rfl | rfl | rfl <;> simp [stL, lv_args, Value.category]
        exact lom_5 hT hW hB hf hh m (p + 1) (by omega) kk
      · rw [if_pos (show p = f by omega)] at es
        refine V_ipush mi_261_23 ?_
        refine V_goto mi_261_24 ?_
        refine V_ibin mi_261_40 (by omega) ?_
        rw [ib0]
        rw [← es]
        refine V_istore mi_261_41 ?_
        refine V_iinc (v := Int32.ofInt ((p : Int))) mi_261_42 (by simp [stL, lv_args, Value.category]) ?_
        rw [ia2]
        refine V_goto mi_261_45 ?_
        refine V_sub (lv' := [(0, .ref (ad 90)), (1, .int (Int32.ofInt ((f : Int)))), (2, .int (Int32.ofInt ((h : Int)))), (3, .int (Int32.ofInt (loS G (h + 1) f (p + 1)))), (4, .int (Int32.ofInt (((p + 1 : Nat) : Int))))]) (fun q hq => ?_) ?_
        · simp only [List.mem_cons, List.not_mem_nil, or_false] at hq
          rcases hq with rfl | rfl | rfl | rfl | rfl <;> simp [stL, lv_args, Value.category]
        exact lom_5 hT hW hB hf hh m (p + 1) (by omega) kk
theorem lom_ct {G : Nat → Int} {w0 : va_W} (hT : MT ad tys G w0 ws) (hW : W91 G ws) (hB : HB G) {f h : Nat} (hf : f < 6) (hh : (h : Int) < G 2) : CT l D tys A 261 2 0 0 [.ref (ad 90), .int (Int32.ofInt ((f : Int))), .int (Int32.ofInt ((h : Int)))] ws (fun r w => w = ws ∧ r = some (.int (Int32.ofInt (loS G (h + 1) f (G 3).toNat)))) := by
  refine CT_of_V (by omega) (show (3 : Nat) ≤ mML 261 by decide +kernel) ?_
  have b3 := hB.b3
  refine V_ipush mi_261_0 ?_
  refine V_istore mi_261_1 ?_
  refine V_ipush mi_261_2 ?_
  refine V_istore mi_261_3 ?_
  refine V_sub (lv' := [(0, .ref (ad 90)), (1, .int (Int32.ofInt ((f : Int)))), (2, .int (Int32.ofInt ((h : Int)))), (3, .int (Int32.ofInt (0))), (4, .int (Int32.ofInt (((0 : Nat) : Int))))]) (fun q hq => ?_) ?_
  · simp only [List.mem_cons, List.not_mem_nil, or_false] at hq
    rcases hq with rfl | rfl | rfl | rfl | rfl <;> simp [stL, lv_args, Value.category]
  exact lom_5 hT hW hB hf hh (G 3).toNat 0 (by omega) ⟨rfl, rfl⟩
theorem loX_ct {G : Nat → Int} (hG : GOK ad tys GG ws) (hX : HX 4 G ws) (hB : HB G) (hS : STO G ws) {f h : Int} (fI : I32 f) (hI : I32 h) : CT l D tys A 20 4 0 0 [.ref (ad 0), .int (Int32.ofInt (f)), .int (Int32.ofInt (h))] ws (fun r w => w = ws ∧ r = some (.int (if (0 ≤ f ∧ f < G 3) ∧ 0 ≤ h ∧ h < G 2 then Int32.ofInt (loS G (h.toNat + 1) f.toNat (G 3).toNat) else Int32.ofInt (-2)))) := by
  refine CT_of_V (by omega) (show (3 : Nat) ≤ mML 20 by decide +kernel) ?_
  have b3 := hB.b3
  have b2 := hB.b2
  refine V_aload (v := ad 0) mi_20_0 (by simp [stL, lv_args, Value.category]) ?_
  refine V_gR mi_20_1 g0r2 (by omega) hG ?_
  refine V_iload (v := Int32.ofInt (f)) mi_20_4 (by simp [stL, lv_args, Value.category]) ?_
  refine V_cO (As := [.int (Int32.ofInt (f))]) (st := []) mi_20_5 (by omega) (by decide +kernel) (by decide +kernel) (by omega) g4o hG (hfk_ct hG hX hB fI) (by omega) (show 1 = mN 102 by decide +kernel) (by simp [Value.category]) ?_
  rintro r w1 ⟨rfl, rfl⟩
  refine V_beq mi_20_8  (fun c1 => ?_) (fun c1 => ?_)
  · refine V_ipush mi_20_22 ?_
    exact V_retI mi_20_24 (fun h => absurd h (by decide +kernel)) ⟨rfl, by rw [if_neg (fun k => of_decide_eq_false c1 k.1)]⟩
  · refine V_aload (v := ad 0) mi_20_11 (by simp [stL, lv_args, Value.category]) ?_
    refine V_gR mi_20_12 g0r2 (by omega) hG ?_
    refine V_iload (v := Int32.ofInt (h)) mi_20_15 (by simp [stL, lv_args, Value.category]) ?_
    refine V_cO (As := [.int (Int32.ofInt (h))]) (st := []) mi_20_16 (by omega) (by decide +kernel) (by decide +kernel) (by omega) g4o hG (hho_ct hG hX hB hI) (by omega) (show 1 = mN 103 by decide +kernel) (by simp [Value.category]) ?_
    rintro r w3 ⟨rfl, rfl⟩
    refine V_bne mi_20_19  (fun c3 => ?_) (fun c3 => ?_)
    · have k1 := of_decide_eq_true c1
      have k3 := of_decide_eq_true c3
      obtain ⟨m, rfl⟩ := Int.eq_ofNat_of_zero_le k1.1
      obtain ⟨k, rfl⟩ := Int.eq_ofNat_of_zero_le k3.1
      refine V_aload (v := ad 0) mi_20_25 (by simp [stL, lv_args, Value.category]) ?_
      refine V_gR mi_20_26 g0r5 (by omega) hG ?_
      refine V_aload (v := ad 0) mi_20_29 (by simp [stL, lv_args, Value.category]) ?_
      refine V_gR mi_20_30 g0r2 (by omega) hG ?_
      refine V_iload (v := Int32.ofInt ((m : Int))) mi_20_33 (by simp [stL, lv_args, Value.category]) ?_
      refine V_iload (v := Int32.ofInt ((k : Int))) mi_20_34 (by simp [stL, lv_args, Value.category]) ?_
      refine V_ipush mi_20_35 ?_
      refine V_ibin mi_20_36 (by omega) ?_
      rw [ib0]
      rw [show (k : Int) + (1) = ((k + 1 : Nat) : Int) by omega]
      refine V_cO (As := [.ref (ad 4), .int (Int32.ofInt ((m : Int))), .int (Int32.ofInt (((k + 1 : Nat) : Int)))]) (st := []) mi_20_37 (by omega) (by decide +kernel) (by decide +kernel) (by omega) g32o hG (lor_ct (f := m) (g := k + 1) hG hX hB hS (by omega) (by omega)) (by omega) (show 3 = mN 181 by decide +kernel) (by simp [Value.category]) ?_
      rintro r w5 ⟨rfl, rfl⟩
      exact V_retI mi_20_40 (fun h => absurd h (by decide +kernel)) ⟨rfl, by rw [if_pos ⟨k1, k3⟩, Int.toNat_natCast, Int.toNat_natCast]⟩
    · refine V_ipush mi_20_22 ?_
      exact V_retI mi_20_24 (fun h => absurd h (by decide +kernel)) ⟨rfl, by rw [if_neg (fun k => of_decide_eq_false c3 k.2)]⟩
theorem loM_ct {G : Nat → Int} (hG : GOK ad tys GG ws) (hW : W91 G ws) (hB : HB G) (wf : WF G) (h24 : rd ws 90 24 = some (.int (Int32.ofInt 0))) (h22 : rd ws 90 22 = some (.int (Int32.ofInt (-1)))) {f h : Int} (fI : I32 f) (hI : I32 h) : CT l D tys A 262 9 0 0 [.ref (ad 90), .int (Int32.ofInt (f)), .int (Int32.ofInt (h))] ws (fun r w => (GOK ad tys GG w ∧ MTO ws w) ∧ r = some (.int (if (0 ≤ f ∧ f < G 3) ∧ 0 ≤ h ∧ h < G 2 then Int32.ofInt (loS G (h.toNat + 1) f.toNat (G 3).toNat) else Int32.ofInt (-2)))) := by
  refine CT_of_V (by omega) (show (3 : Nat) ≤ mML 262 by decide +kernel) ?_
  have b3 := hB.b3
  have b2 := hB.b2
  refine V_aload (v := ad 90) mi_262_0 (by simp [stL, lv_args, Value.category]) ?_
  refine V_iload (v := Int32.ofInt (f)) mi_262_1 (by simp [stL, lv_args, Value.category]) ?_
  refine V_callM (As := [.int (Int32.ofInt (f))]) (st := []) mi_262_2 (by omega) (by decide +kernel) (by decide +kernel) hG (mfk_ct hG hW hB fI) (by omega) (show 1 = mN 199 by decide +kernel) (by simp [Value.category]) ?_
  rintro r w1 ⟨rfl, rfl⟩
  refine V_beq mi_262_5  (fun c1 => ?_) (fun c1 => ?_)
  · refine V_ipush mi_262_16 ?_
    exact V_retI mi_262_18 (fun h => absurd h (by decide +kernel)) ⟨⟨hG, fun _ _ _ _ => rfl⟩, by rw [if_neg (fun k => of_decide_eq_false c1 k.1)]⟩
  · refine V_aload (v := ad 90) mi_262_8 (by simp [stL, lv_args, Value.category]) ?_
    refine V_iload (v := Int32.ofInt (h)) mi_262_9 (by simp [stL, lv_args, Value.category]) ?_
    refine V_callM (As := [.int (Int32.ofInt (h))]) (st := []) mi_262_10 (by omega) (by decide +kernel) (by decide +kernel) hG (mho_ct hG hW hB hI) (by omega) (show 1 = mN 201 by decide +kernel) (by simp [Value.category]) ?_
    rintro r w3 ⟨rfl, rfl⟩
    refine V_bne mi_262_13  (fun c3 => ?_) (fun c3 => ?_)
    · have k1 := of_decide_eq_true c1
      have k3 := of_decide_eq_true c3
      obtain ⟨m, rfl⟩ := Int.eq_ofNat_of_zero_le k1.1
      obtain ⟨k, rfl⟩ := Int.eq_ofNat_of_zero_le k3.1
      refine V_aload (v := ad 90) mi_262_19 (by simp [stL, lv_args, Value.category]) ?_
      refine V_callM (As := []) (st := []) mi_262_20 (by omega) (by decide +kernel) (by decide +kernel) hG (gt_ct hB wf hG hW h24 h22) (by omega) (show 0 = mN 238 by decide +kernel) (by simp [Value.category]) ?_
      rintro r w4 ⟨rfl, T⟩
      refine V_aload (v := ad 90) mi_262_23 (by simp [stL, lv_args, Value.category]) ?_
      refine V_iload (v := Int32.ofInt ((m : Int))) mi_262_24 (by simp [stL, lv_args, Value.category]) ?_
      refine V_iload (v := Int32.ofInt ((k : Int))) mi_262_25 (by simp [stL, lv_args, Value.category]) ?_
      refine V_callM (As := [.int (Int32.ofInt ((m : Int))), .int (Int32.ofInt ((k : Int)))]) (st := []) mi_262_26 (by omega) (by decide +kernel) (by decide +kernel) T.1 (lom_ct (f := m) (h := k) T (mt_w T hW) hB (by omega) (by omega)) (by omega) (show 2 = mN 261 by decide +kernel) (by simp [Value.category]) ?_
      rintro r w5 ⟨rfl, rfl⟩
      exact V_retI mi_262_29 (fun h => absurd h (by decide +kernel)) ⟨⟨T.1, T.2.2.2⟩, by rw [if_pos ⟨k1, k3⟩, Int.toNat_natCast, Int.toNat_natCast]⟩
    · refine V_ipush mi_262_16 ?_
      exact V_retI mi_262_18 (fun h => absurd h (by decide +kernel)) ⟨⟨hG, fun _ _ _ _ => rfl⟩, by rw [if_neg (fun k => of_decide_eq_false c3 k.2)]⟩
theorem pairT_lore (hAD : ∀ i : Nat, ad (1000 + i) = D.2 1000 i) (hG : GOK ad tys GG ws) (hR : RELW ws) (a1 a2 : Int32) : PAIRT l D tys A ad 20 262 [.ref (ad 0), .int a1, .int a2] [.ref (ad 90), .int a1, .int a2] ws := by
  obtain ⟨G0, o0, x0, y0⟩ := hR.1.2.1
  obtain ⟨G, o, x, y, hb, wf, hS⟩ := aux_sto hR.2 x0 y0 o0 (hb_of hG y0 o0)
  have c1 := loX_ct (l := l) (D := D) (A := A) hG x hb hS (i32b a1) (i32b a2)
  have c2 := loM_ct (l := l) (D := D) (A := A) hG y hb wf hR.2.2.2.2.2 hR.2.2.2.2.1 (i32b a1) (i32b a2)
  simp only [oi] at c1 c2
  exact pairT_st hG hR (by omega) (by omega) c1 c2
end XSV
