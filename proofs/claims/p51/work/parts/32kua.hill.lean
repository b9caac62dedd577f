section XVH
variable {l : Launch} {D : va_G} {tys : List (ClassId × FieldType)} {A : Nat → Prop} {ad : Nat → Nat} {ws : va_W}
theorem tb_bit : (List.range 64).all (fun a => (List.range 6).all (fun i => (List.range 6).all (fun j => tb (bitO (a : Nat) (i : Nat)) (j : Nat) == (decide (j = i) || tb (a : Nat) (j : Nat))))) = true := by decide +kernel
theorem tb_bo {a : Int} {i j : Nat} (a0 : 0 ≤ a) (a1 : a ≤ 63) (hi : i < 6) (hj : j < 6) : tb (bitO a (i : Int)) (j : Int) = (decide (j = i) || tb a (j : Int)) := by
  have h := List.all_eq_true.mp (List.all_eq_true.mp (List.all_eq_true.mp tb_bit a.toNat (List.mem_range.mpr (by omega))) i (List.mem_range.mpr hi)) j (List.mem_range.mpr hj)
  rw [Int.toNat_of_nonneg a0] at h
  exact eq_of_beq h
theorem tb_z : (List.range 6).all (fun j => tb 0 (j : Nat) == false) = true := by decide +kernel
theorem tb_orI {P : Nat → Bool} {j : Nat} (hj : j < 6) : ∀ n : Nat, n ≤ 6 → tb (orI P n) (j : Int) = (decide (j < n) && P j)
  | 0, _ => eq_of_beq (List.all_eq_true.mp tb_z j (List.mem_range.mpr hj))
  | n + 1, hn => by
    have b := orI_bd (P := P) (f := n) (by omega)
    have ih := tb_orI (P := P) hj n (by omega)
    cases e : P n
    · rw [orI_s0 e, ih]
      by_cases q : j = n
      · rw [q, e, Bool.and_false, Bool.and_false]
      · rw [show decide (j < n + 1) = decide (j < n) from decide_eq_decide.mpr (by omega)]
    · rw [orI_s1 e, tb_bo b.1 b.2 (by omega) hj, ih]
      by_cases q : j = n
      · rw [q, e, decide_eq_true rfl, Bool.true_or, show decide (n < n + 1) = true from decide_eq_true (by omega)]
        rfl
      · rw [decide_eq_false q, Bool.false_or, show decide (j < n + 1) = decide (j < n) from decide_eq_decide.mpr (by omega)]
/-- how many bits of the first n -/
noncomputable def bcS (a : Int) : Nat → Int
  | 0 => 0
  | n + 1 => bcS a n + (if tb a (n : Int) = true then 1 else 0)
theorem bcS_bd {a : Int} : ∀ n : Nat, 0 ≤ bcS a n ∧ bcS a n ≤ n
  | 0 => ⟨by show (0 : Int) ≤ 0; omega, by show (0 : Int) ≤ 0; omega⟩
  | n + 1 => by
    have h := bcS_bd (a := a) n
    show 0 ≤ bcS a n + (if tb a (n : Int) = true then 1 else 0) ∧ bcS a n + (if tb a (n : Int) = true then 1 else 0) ≤ _
    split <;> omega
noncomputable def bcX (x : Int32) : Int32 := ibF 5 (ibF 0 (ibF 0 (ibF 5 (ibF 0 (ibF 0 (ibF 5 (ibF 1 (x) (ibF 5 (ibF 10 (x) (Int32.ofInt (1))) (Int32.ofInt (1431655765)))) (Int32.ofInt (858993459))) (ibF 5 (ibF 10 (ibF 1 (x) (ibF 5 (ibF 10 (x) (Int32.ofInt (1))) (Int32.ofInt (1431655765)))) (Int32.ofInt (2))) (Int32.ofInt (858993459)))) (ibF 10 (ibF 0 (ibF 5 (ibF 1 (x) (ibF 5 (ibF 10 (x) (Int32.ofInt (1))) (Int32.ofInt (1431655765)))) (Int32.ofInt (858993459))) (ibF 5 (ibF 10 (ibF 1 (x) (ibF 5 (ibF 10 (x) (Int32.ofInt (1))) (Int32.ofInt (1431655765)))) (Int32.ofInt (2))) (Int32.ofInt (858993459)))) (Int32.ofInt (4)))) (Int32.ofInt (252645135))) (ibF 10 (ibF 5 (ibF 0 (ibF 0 (ibF 5 (ibF 1 (x) (ibF 5 (ibF 10 (x) (Int32.ofInt (1))) (Int32.ofInt (1431655765)))) (Int32.ofInt (858993459))) (ibF 5 (ibF 10 (ibF 1 (x) (ibF 5 (ibF 10 (x) (Int32.ofInt (1))) (Int32.ofInt (1431655765)))) (Int32.ofInt (2))) (Int32.ofInt (858993459)))) (ibF 10 (ibF 0 (ibF 5 (ibF 1 (x) (ibF 5 (ibF 10 (x) (Int32.ofInt (1))) (Int32.ofInt (1431655765)))) (Int32.ofInt (858993459))) (ibF 5 (ibF 10 (ibF 1 (x) (ibF 5 (ibF 10 (x) (Int32.ofInt (1))) (Int32.ofInt (1431655765)))) (Int32.ofInt (2))) (Int32.ofInt (858993459)))) (Int32.ofInt (4)))) (Int32.ofInt (252645135))) (Int32.ofInt (8)))) (ibF 10 (ibF 0 (ibF 5 (ibF 0 (ibF 0 (ibF 5 (ibF 1 (x) (ibF 5 (ibF 10 (x) (Int32.ofInt (1))) (Int32.ofInt (1431655765)))) (Int32.ofInt (858993459))) (ibF 5 (ibF 10 (ibF 1 (x) (ibF 5 (ibF 10 (x) (Int32.ofInt (1))) (Int32.ofInt (1431655765)))) (Int32.ofInt (2))) (Int32.ofInt (858993459)))) (ibF 10 (ibF 0 (ibF 5 (ibF 1 (x) (ibF 5 (ibF 10 (x) (Int32.ofInt (1))) (Int32.ofInt (1431655765)))) (Int32.ofInt (858993459))) (ibF 5 (ibF 10 (ibF 1 (x) (ibF 5 (ibF 10 (x) (Int32.ofInt (1))) (Int32.ofInt (1431655765)))) (Int32.ofInt (2))) (Int32.ofInt (858993459)))) (Int32.ofInt (4)))) (Int32.ofInt (252645135))) (ibF 10 (ibF 5 (ibF 0 (ibF 0 (ibF 5 (ibF 1 (x) (ibF 5 (ibF 10 (x) (Int32.ofInt (1))) (Int32.ofInt (1431655765)))) (Int32.ofInt (858993459))) (ibF 5 (ibF 10 (ibF 1 (x) (ibF 5 (ibF 10 (x) (Int32.ofInt (1))) (Int32.ofInt (1431655765)))) (Int32.ofInt (2))) (Int32.ofInt (858993459)))) (ibF 10 (ibF 0 (ibF 5 (ibF 1 (x) (ibF 5 (ibF 10 (x) (Int32.ofInt (1))) (Int32.ofInt (1431655765)))) (Int32.ofInt (858993459))) (ibF 5 (ibF 10 (ibF 1 (x) (ibF 5 (ibF 10 (x) (Int32.ofInt (1))) (Int32.ofInt (1431655765)))) (Int32.ofInt (2))) (Int32.ofInt (858993459)))) (Int32.ofInt (4)))) (Int32.ofInt (252645135))) (Int32.ofInt (8)))) (Int32.ofInt (16)))) (Int32.ofInt (63))
theorem bcX_all : (List.range 64).all (fun a => decide (bcX (Int32.ofInt (a : Nat)) = Int32.ofInt (bcS (a : Nat) 6))) = true := by decide +kernel
theorem bcX_k {a : Int} (a0 : 0 ≤ a) (a1 : a ≤ 63) : bcX (Int32.ofInt a) = Int32.ofInt (bcS a 6) := by
  have h := of_decide_eq_true (List.all_eq_true.mp bcX_all a.toNat (List.mem_range.mpr (by omega)))
  rw [Int.toNat_of_nonneg a0] at h
  exact h
theorem bcx_ct {a : Int} (a0 : 0 ≤ a) (a1 : a ≤ 63) : CT l D tys A 344 0 0 0 [.int (Int32.ofInt a)] ws (fun r w => w = ws ∧ r = some (.int (Int32.ofInt (bcS a 6)))) := by
  rw [← bcX_k a0 a1]
  generalize Int32.ofInt a = x
  refine CT_of_V (by omega) (show (1 : Nat) ≤ mML 344 by decide +kernel) ?_
  refine V_iload (v := x) mi_344_0 (by simp [stL, lv_args, Value.category]) ?_
  refine V_iload (v := x) mi_344_1 (by simp [stL, lv_args, Value.category]) ?_
  refine V_ipush mi_344_2 ?_
  refine V_ibin mi_344_3 (by omega) ?_
  refine V_ipush mi_344_4 ?_
  refine V_ibin mi_344_7 (by omega) ?_
  refine V_ibin mi_344_8 (by omega) ?_
  refine V_istore mi_344_9 ?_
  refine V_iload (v := ibF 1 (x) (ibF 5 (ibF 10 (x) (Int32.ofInt (1))) (Int32.ofInt (1431655765)))) mi_344_10 (by simp [stL, lv_args, Value.category]) ?_
  refine V_ipush mi_344_11 ?_
  refine V_ibin mi_344_14 (by omega) ?_
  refine V_iload (v := ibF 1 (x) (ibF 5 (ibF 10 (x) (Int32.ofInt (1))) (Int32.ofInt (1431655765)))) mi_344_15 (by simp [stL, lv_args, Value.category]) ?_
  refine V_ipush mi_344_16 ?_
  refine V_ibin mi_344_17 (by omega) ?_
  refine V_ipush mi_344_18 ?_
  refine V_ibin mi_344_21 (by omega) ?_
  refine V_ibin mi_344_22 (by omega) ?_
  refine V_istore mi_344_23 ?_
  refine V_iload (v := ibF 0 (ibF 5 (ibF 1 (x) (ibF 5 (ibF 10 (x) (Int32.ofInt (1))) (Int32.ofInt (1431655765)))) (Int32.ofInt (858993459))) (ibF 5 (ibF 10 (ibF 1 (x) (ibF 5 (ibF 10 (x) (Int32.ofInt (1))) (Int32.ofInt (1431655765)))) (Int32.ofInt (2))) (Int32.ofInt (858993459)))) mi_344_24 (by simp [stL, lv_args, Value.category]) ?_
  refine V_iload (v := ibF 0 (ibF 5 (ibF 1 (x) (ibF 5 (ibF 10 (x) (Int32.ofInt (1))) (Int32.ofInt (1431655765)))) (Int32.ofInt (858993459))) (ibF 5 (ibF 10 (ibF 1 (x) (ibF 5 (ibF 10 (x) (Int32.ofInt (1))) (Int32.ofInt (1431655765)))) (Int32.ofInt (2))) (Int32.ofInt (858993459)))) mi_344_25 (by simp [stL, lv_args, Value.category]) ?_
  refine V_ipush mi_344_26 ?_
  refine V_ibin mi_344_27 (by omega) ?_
  refine V_ibin mi_344_28 (by omega) ?_
  refine V_ipush mi_344_29 ?_
  refine V_ibin mi_344_32 (by omega) ?_
  refine V_istore mi_344_33 ?_
  refine V_iload (v := ibF 5 (ibF 0 (ibF 0 (ibF 5 (ibF 1 (x) (ibF 5 (ibF 10 (x) (Int32.ofInt (1))) (Int32.ofInt (1431655765)))) (Int32.ofInt (858993459))) (ibF 5 (ibF 10 (ibF 1 (x) (ibF 5 (ibF 10 (x) (Int32.ofInt (1))) (Int32.ofInt (1431655765)))) (Int32.ofInt (2))) (Int32.ofInt (858993459)))) (ibF 10 (ibF 0 (ibF 5 (ibF 1 (x) (ibF 5 (ibF 10 (x) (Int32.ofInt (1))) (Int32.ofInt (1431655765)))) (Int32.ofInt (858993459))) (ibF 5 (ibF 10 (ibF 1 (x) (ibF 5 (ibF 10 (x) (Int32.ofInt (1))) (Int32.ofInt (1431655765)))) (Int32.ofInt (2))) (Int32.ofInt (858993459)))) (Int32.ofInt (4)))) (Int32.ofInt (252645135))) mi_344_34 (by simp [stL, lv_args, Value.category]) ?_
  refine V_iload (v := ibF 5 (ibF 0 (ibF 0 (ibF 5 (ibF 1 (x) (ibF 5 (ibF 10 (x) (Int32.ofInt (1))) (Int32.ofInt (1431655765)))) (Int32.ofInt (858993459))) (ibF 5 (ibF 10 (ibF 1 (x) (ibF 5 (ibF 10 (x) (Int32.ofInt (1))) (Int32.ofInt (1431655765)))) (Int32.ofInt (2))) (Int32.ofInt (858993459)))) (ibF 10 (ibF 0 (ibF 5 (ibF 1 (x) (ibF 5 (ibF 10 (x) (Int32.ofInt (1))) (Int32.ofInt (1431655765)))) (Int32.ofInt (858993459))) (ibF 5 (ibF 10 (ibF 1 (x) (ibF 5 (ibF 10 (x) (Int32.ofInt (1))) (Int32.ofInt (1431655765)))) (Int32.ofInt (2))) (Int32.ofInt (858993459)))) (Int32.ofInt (4)))) (Int32.ofInt (252645135))) mi_344_35 (by simp [stL, lv_args, Value.category]) ?_
  refine V_ipush mi_344_36 ?_
  refine V_ibin mi_344_38 (by omega) ?_
  refine V_ibin mi_344_39 (by omega) ?_
  refine V_istore mi_344_40 ?_
  refine V_iload (v := ibF 0 (ibF 5 (ibF 0 (ibF 0 (ibF 5 (ibF 1 (x) (ibF 5 (ibF 10 (x) (Int32.ofInt (1))) (Int32.ofInt (1431655765)))) (Int32.ofInt (858993459))) (ibF 5 (ibF 10 (ibF 1 (x) (ibF 5 (ibF 10 (x) (Int32.ofInt (1))) (Int32.ofInt (1431655765)))) (Int32.ofInt (2))) (Int32.ofInt (858993459)))) (ibF 10 (ibF 0 (ibF 5 (ibF 1 (x) (ibF 5 (ibF 10 (x) (Int32.ofInt (1))) (Int32.ofInt (1431655765)))) (Int32.ofInt (858993459))) (ibF 5 (ibF 10 (ibF 1 (x) (ibF 5 (ibF 10 (x) (Int32.ofInt (1))) (Int32.ofInt (1431655765)))) (Int32.ofInt (2))) (Int32.ofInt (858993459)))) (Int32.ofInt (4)))) (Int32.ofInt (252645135))) (ibF 10 (ibF 5 (ibF 0 (ibF 0 (ibF 5 (ibF 1 (x) (ibF 5 (ibF 10 (x) (Int32.ofInt (1))) (Int32.ofInt (1431655765)))) (Int32.ofInt (858993459))) (ibF 5 (ibF 10 (ibF 1 (x) (ibF 5 (ibF 10 (x) (Int32.ofInt (1))) (Int32.ofInt (1431655765)))) (Int32.ofInt (2))) (Int32.ofInt (858993459)))) (ibF 10 (ibF 0 (ibF 5 (ibF 1 (x) (ibF 5 (ibF 10 (x) (Int32.ofInt (1))) (Int32.ofInt (1431655765)))) (Int32.ofInt (858993459))) (ibF 5 (ibF 10 (ibF 1 (x) (ibF 5 (ibF 10 (x) (Int32.ofInt (1))) (Int32.ofInt (1431655765)))) (Int32.ofInt (2))) (Int32.ofInt (858993459)))) (Int32.ofInt (4)))) (Int32.ofInt (252645135))) (Int32.ofInt (8)))) mi_344_41 (by simp [stL, lv_args, Value.category]) ?_
  refine V_iload (v := ibF 0 (ibF 5 (ibF 0 (ibF 0 (ibF 5 (ibF 1 (x) (ibF 5 (ibF 10 (x) (Int32.ofInt (1))) (Int32.ofInt (1431655765)))) (Int32.ofInt (858993459))) (ibF 5 (ibF 10 (ibF 1 (x) (ibF 5 (ibF 10 (x) (Int32.ofInt (1))) (Int32.ofInt (1431655765)))) (Int32.ofInt (2))) (Int32.ofInt (858993459)))) (ibF 10 (ibF 0 (ibF 5 (ibF 1 (x) (ibF 5 (ibF 10 (x) (Int32.ofInt (1))) (Int32.ofInt (1431655765)))) (Int32.ofInt (858993459))) (ibF 5 (ibF 10 (ibF 1 (x) (ibF 5 (ibF 10 (x) (Int32.ofInt (1))) (Int32.ofInt (1431655765)))) (Int32.ofInt (2))) (Int32.ofInt (858993459)))) (Int32.ofInt (4)))) (Int32.ofInt (252645135))) (ibF 10 (ibF 5 (ibF 0 (ibF 0 (ibF 5 (ibF 1 (x) (ibF 5 (ibF 10 (x) (Int32.ofInt (1))) (Int32.ofInt (1431655765)))) (Int32.ofInt (858993459))) (ibF 5 (ibF 10 (ibF 1 (x) (ibF 5 (ibF 10 (x) (Int32.ofInt (1))) (Int32.ofInt (1431655765)))) (Int32.ofInt (2))) (Int32.ofInt (858993459)))) (ibF 10 (ibF 0 (ibF 5 (ibF 1 (x) (ibF 5 (ibF 10 (x) (Int32.ofInt (1))) (Int32.ofInt (1431655765)))) (Int32.ofInt (858993459))) (ibF 5 (ibF 10 (ibF 1 (x) (ibF 5 (ibF 10 (x) (Int32.ofInt (1))) (Int32.ofInt (1431655765)))) (Int32.ofInt (2))) (Int32.ofInt (858993459)))) (Int32.ofInt (4)))) (Int32.ofInt (252645135))) (Int32.ofInt (8)))) mi_344_42 (by simp [stL, lv_args, Value.category]) ?_
  refine V_ipush mi_344_43 ?_
  refine V_ibin mi_344_45 (by omega) ?_
  refine V_ibin mi_344_46 (by omega) ?_
  refine V_istore mi_344_47 ?_
  refine V_iload (v := ibF 0 (ibF 0 (ibF 5 (ibF 0 (ibF 0 (ibF 5 (ibF 1 (x) (ibF 5 (ibF 10 (x) (Int32.ofInt (1))) (Int32.ofInt (1431655765)))) (Int32.ofInt (858993459))) (ibF 5 (ibF 10 (ibF 1 (x) (ibF 5 (ibF 10 (x) (Int32.ofInt (1))) (Int32.ofInt (1431655765)))) (Int32.ofInt (2))) (Int32.ofInt (858993459)))) (ibF 10 (ibF 0 (ibF 5 (ibF 1 (x) (ibF 5 (ibF 10 (x) (Int32.ofInt (1))) (Int32.ofInt (1431655765)))) (Int32.ofInt (858993459))) (ibF 5 (ibF 10 (ibF 1 (x) (ibF 5 (ibF 10 (x) (Int32.ofInt (1))) (Int32.ofInt (1431655765)))) (Int32.ofInt (2))) (Int32.ofInt (858993459)))) (Int32.ofInt (4)))) (Int32.ofInt (252645135))) (ibF 10 (ibF 5 (ibF 0 (ibF 0 (ibF 5 (ibF 1 (x) (ibF 5 (ibF 10 (x) (Int32.ofInt (1))) (Int32.ofInt (1431655765)))) (Int32.ofInt (858993459))) (ibF 5 (ibF 10 (ibF 1 (x) (ibF 5 (ibF 10 (x) (Int32.ofInt (1))) (Int32.ofInt (1431655765)))) (Int32.ofInt (2))) (Int32.ofInt (858993459)))) (ibF 10 (ibF 0 (ibF 5 (ibF 1 (x) (ibF 5 (ibF 10 (x) (Int32.ofInt (1))) (Int32.ofInt (1431655765)))) (Int32.ofInt (858993459))) (ibF 5 (ibF 10 (ibF 1 (x) (ibF 5 (ibF 10 (x) (Int32.ofInt (1))) (Int32.ofInt (1431655765)))) (Int32.ofInt (2))) (Int32.ofInt (858993459)))) (Int32.ofInt (4)))) (Int32.ofInt (252645135))) (Int32.ofInt (8)))) (ibF 10 (ibF 0 (ibF 5 (ibF 0 (ibF 0 (ibF 5 (ibF 1 (x) (ibF 5 (ibF 10 (x) (Int32.ofInt (1))) (Int32.ofInt (1431655765)))) (Int32.ofInt (858993459))) (ibF 5 (ibF 10 (ibF 1 (x) (ibF 5 (ibF 10 (x) (Int32.ofInt (1))) (Int32.ofInt (1431655765)))) (Int32.ofInt (2))) (Int32.ofInt (858993459)))) (ibF 10 (ibF 0 (ibF 5 (ibF 1 (x) (ibF 5 (ibF 10 (x) (Int32.ofInt (1))) (Int32.ofInt (1431655765)))) (Int32.ofInt (858993459))) (ibF 5 (ibF 10 (ibF 1 (x) (ibF 5 (ibF 10 (x) (Int32.ofInt (1))) (Int32.ofInt (1431655765)))) (Int32.ofInt (2))) (Int32.ofInt (858993459)))) (Int32.ofInt (4)))) (Int32.ofInt (252645135))) (ibF 10 (ibF 5 (ibF 0 (ibF 0 (ibF 5 (ibF 1 (x) (ibF 5 (ibF 10 (x) (Int32.ofInt (1))) (Int32.ofInt (1431655765)))) (Int32.ofInt (858993459))) (ibF 5 (ibF 10 (ibF 1 (x) (ibF 5 (ibF 10 (x) (Int32.ofInt (1))) (Int32.ofInt (1431655765)))) (Int32.ofInt (2))) (Int32.ofInt (858993459)))) (ibF 10 (ibF 0 (ibF 5 (ibF 1 (x) (ibF 5 (ibF 10 (x) (Int32.ofInt (1))) (Int32.ofInt (1431655765)))) (Int32.ofInt (858993459))) (ibF 5 (ibF 10 (ibF 1 (x) (ibF 5 (ibF 10 (x) (Int32.ofInt (1))) (Int32.ofInt (1431655765)))) (Int32.ofInt (2))) (Int32.ofInt (858993459)))) (Int32.ofInt (4)))) (Int32.ofInt (252645135))) (Int32.ofInt (8)))) (Int32.ofInt (16)))) mi_344_48 (by simp [stL, lv_args, Value.category]) ?_
  refine V_ipush mi_344_49 ?_
  refine V_ibin mi_344_51 (by omega) ?_
  exact V_retI mi_344_52 (fun h => absurd h (by decide +kernel)) ⟨rfl, rfl⟩
theorem tb13_all : (List.range 64).all (fun a => (List.range 13).all (fun i => decide (ibF 5 (ibF 9 (Int32.ofInt (a : Nat)) (Int32.ofInt (i : Nat))) (Int32.ofInt 1) = Int32.ofInt (if i < 6 then (if tb (a : Nat) (i : Nat) = true then 1 else 0) else 0)))) = true := by decide +kernel
theorem tb13 {a : Int} {i : Nat} (a0 : 0 ≤ a) (a1 : a ≤ 63) (hi : i < 13) : ibF 5 (ibF 9 (Int32.ofInt a) (Int32.ofInt (i : Int))) (Int32.ofInt 1) = Int32.ofInt (if i < 6 then (if tb a (i : Int) = true then 1 else 0) else 0) := by
  have h := of_decide_eq_true (List.all_eq_true.mp (List.all_eq_true.mp tb13_all a.toNat (List.mem_range.mpr (by omega))) i (List.mem_range.mpr hi))
  rw [Int.toNat_of_nonneg a0] at h
  exact h
theorem min6 {a : Int} {i : Nat} : bcS a (min i 6) + (if i < 6 then (if tb a (i : Int) = true then 1 else 0) else 0) = bcS a (min (i + 1) 6) := by
  by_cases h : i < 6
  · rw [if_pos h, show min i 6 = i by omega, show min (i + 1) 6 = i + 1 by omega]
    rfl
  · rw [if_neg h, show min i 6 = 6 by omega, show min (i + 1) 6 = 6 by omega, Int.add_zero]
theorem bt_4 {a : Int} (a0 : 0 ≤ a) (a1 : a ≤ 63) {post : Option Value → va_W → Prop} : ∀ (m i : Nat), i + m = 13 → post (some (.int (Int32.ofInt (bcS a 6)))) ws → V l D tys A 194 0 0 0 post 0 0 4 [(0, .int (Int32.ofInt (a))), (1, .int (Int32.ofInt (bcS a (min i 6)))), (2, .int (Int32.ofInt ((i : Int))))] [] ws
  | 0, i, hm, kk => by
    refine V_iload (v := Int32.ofInt ((i : Int))) mi_194_4 (by simp [stL, lv_args, Value.category]) ?_
    refine V_ipush mi_194_5 ?_
    refine V_cge mi_194_7 ⟨by omega, by omega⟩ ⟨by omega, by omega⟩ (fun q => ?_) (fun q => ?_)
    · rw [show min i 6 = 6 by omega]
      refine V_iload (v := Int32.ofInt (bcS a 6)) mi_194_24 (by simp [stL, lv_args, Value.category]) ?_
      exact V_retI mi_194_25 (fun h => absurd h (by decide +kernel)) kk
    · exact absurd q (by omega)
  | m + 1, i, hm, kk => by
    refine V_iload (v := Int32.ofInt ((i : Int))) mi_194_4 (by simp [stL, lv_args, Value.category]) ?_
    refine V_ipush mi_194_5 ?_
    refine V_cge mi_194_7 ⟨by omega, by omega⟩ ⟨by omega, by omega⟩ (fun q => ?_) (fun q => ?_)
    · exact absurd q (by omega)
    · refine V_iload (v := Int32.ofInt (bcS a (min i 6))) mi_194_10 (by simp [stL, lv_args, Value.category]) ?_
      refine V_iload (v := Int32.ofInt (a)) mi_194_11 (by simp [stL, lv_args, Value.category]) ?_
      refine V_iload (v := Int32.ofInt ((i : Int))) mi_194_12 (by simp [stL, lv_args, Value.category]) ?_
      refine V_ibin mi_194_13 (by omega) ?_
      refine V_ipush mi_194_14 ?_
      refine V_ibin mi_194_15 (by omega) ?_
      rw [tb13 a0 a1 (by omega)]
      refine V_ibin mi_194_16 (by omega) ?_
      rw [ib0]
      rw [min6]
      refine V_istore mi_194_17 ?_
      refine V_iinc (v := Int32.ofInt ((i : Int))) mi_194_18 (by simp [stL, lv_args, Value.category]) ?_
      rw [ia2]
      refine V_goto mi_194_21 ?_
      refine V_sub (lv' := [(0, .int (Int32.ofInt (a))), (1, .int (Int32.ofInt (bcS a (min (i + 1) 6)))), (2, .int (Int32.ofInt (((i + 1 : Nat) : Int))))]) (fun q hq => ?_) ?_
      · simp only [List.mem_cons, List.not_mem_nil, or_false] at hq
        rcases hq with rfl | rfl | rfl <;> simp [stL, lv_args, Value.category]
      exact bt_4 a0 a1 m (i + 1) (by omega) kk
theorem bcm_ct {a : Int} (a0 : 0 ≤ a) (a1 : a ≤ 63) : CT l D tys A 194 0 0 0 [.int (Int32.ofInt (a))] ws (fun r w => w = ws ∧ r = some (.int (Int32.ofInt (bcS a 6)))) := by
  refine CT_of_V (by omega) (show (1 : Nat) ≤ mML 194 by decide +kernel) ?_
  refine V_ipush mi_194_0 ?_
  refine V_istore mi_194_1 ?_
  refine V_ipush mi_194_2 ?_
  refine V_istore mi_194_3 ?_
  refine V_sub (lv' := [(0, .int (Int32.ofInt (a))), (1, .int (Int32.ofInt (0))), (2, .int (Int32.ofInt (((0 : Nat) : Int))))]) (fun q hq => ?_) ?_
  · simp only [List.mem_cons, List.not_mem_nil, or_false] at hq
    rcases hq with rfl | rfl | rfl <;> simp [stL, lv_args, Value.category]
  exact bt_4 a0 a1 13 0 (by omega) ⟨rfl, rfl⟩
theorem all_i (n : Int) : some (Value.int (ibF 1 (ibF 8 (Int32.ofInt (1)) (Int32.ofInt (n))) (Int32.ofInt (1)))) = some (.int (Int32.ofInt (allV n))) := by
  unfold allV
  rw [Int32.ofInt_toInt]
theorem evy_ct {G : Nat → Int} (hG : GOK ad tys GG ws) (hX : HX 4 G ws) (hB : HB G) : CT l D tys A 109 0 0 0 [.ref (ad 4)] ws (fun r w => w = ws ∧ r = some (.int (Int32.ofInt (allV (G 3))))) := by
  refine CT_of_V (by omega) (show (1 : Nat) ≤ mML 109 by decide +kernel) ?_
  refine V_ipush mi_109_0 ?_
  refine V_aload (v := ad 4) mi_109_1 (by simp [stL, lv_args, Value.category]) ?_
  refine V_gO mi_109_2 g4o hG (show rd _ 4 4 = some (.int (Int32.ofInt (G 3))) from hx0 hX (i := 4) (by omega)) ?_
  refine V_ibin mi_109_5 (by omega) ?_
  refine V_ipush mi_109_6 ?_
  refine V_ibin mi_109_7 (by omega) ?_
  exact V_retI mi_109_8 (fun h => absurd h (by decide +kernel)) ⟨rfl, all_i (G 3)⟩
/-- all but i -/
noncomputable def clB (t i : Int) : Int := (ibF 5 (Int32.ofInt t) (ibF 7 (ibF 8 (Int32.ofInt 1) (Int32.ofInt i)) (Int32.ofInt (-1)))).toInt
theorem clB_i (t i : Int) : ibF 5 (Int32.ofInt t) (ibF 7 (ibF 8 (Int32.ofInt 1) (Int32.ofInt i)) (Int32.ofInt (-1))) = Int32.ofInt (clB t i) := by
  unfold clB
  rw [Int32.ofInt_toInt]
theorem clB_all : (List.range 64).all (fun a => (List.range 6).all (fun i => decide (0 ≤ clB (a : Nat) (i : Nat) ∧ clB (a : Nat) (i : Nat) ≤ 63) && (tb (a : Nat) (i : Nat) || decide (clB (bitO (a : Nat) (i : Nat)) (i : Nat) = (a : Nat))) && (!(tb (a : Nat) (i : Nat)) || decide (bitO (clB (a : Nat) (i : Nat)) (i : Nat) = (a : Nat))) && decide (bcS (bitO (a : Nat) (i : Nat)) 6 = bcS (a : Nat) 6 + (if tb (a : Nat) (i : Nat) = true then 0 else 1)))) = true := by decide +kernel
theorem clB_k {a : Int} {i : Nat} (a0 : 0 ≤ a) (a1 : a ≤ 63) (hi : i < 6) : (0 ≤ clB a (i : Int) ∧ clB a (i : Int) ≤ 63) ∧ (tb a (i : Int) = false → clB (bitO a (i : Int)) (i : Int) = a) ∧ (tb a (i : Int) = true → bitO (clB a (i : Int)) (i : Int) = a) ∧ bcS (bitO a (i : Int)) 6 = bcS a 6 + (if tb a (i : Int) = true then 0 else 1) := by
  have q := List.all_eq_true.mp (List.all_eq_true.mp clB_all a.toNat (List.mem_range.mpr (by omega))) i (List.mem_range.mpr hi)
  rw [Int.toNat_of_nonneg a0, Bool.and_eq_true, Bool.and_eq_true, Bool.and_eq_true, decide_eq_true_eq, decide_eq_true_eq] at q
  obtain ⟨⟨⟨q1, q2⟩, q3⟩, q4⟩ := q
  refine ⟨q1, fun e => ?_, fun e => ?_, q4⟩
  · rw [e, Bool.false_or, decide_eq_true_eq] at q2
    exact q2
  · rw [e, Bool.not_true, Bool.false_or, decide_eq_true_eq] at q3
    exact q3
theorem clC_all : (List.range 64).all (fun a => (List.range 6).all (fun i => (List.range 6).all (fun j => (tb (clB (a : Nat) (i : Nat)) (j : Nat) == (tb (a : Nat) (j : Nat) && !(Nat.beq j i))) && (Nat.beq j i || decide (clB (bitO (a : Nat) (j : Nat)) (i : Nat) = bitO (clB (a : Nat) (i : Nat)) (j : Nat)))))) = true := by decide +kernel
theorem tbN_all : (List.range 64).all (fun a => (List.range 6).all (fun j => tb (a : Nat) (j : Nat) == a.testBit j)) = true := by decide +kernel
theorem tb_n {a j : Nat} (ha : a < 64) (hj : j < 6) : tb (a : Int) (j : Int) = a.testBit j := by
  have q := List.all_eq_true.mp (List.all_eq_true.mp tbN_all a (List.mem_range.mpr ha)) j (List.mem_range.mpr hj)
  simpa using q
theorem nat63 {a : Int} (h : 0 ≤ a ∧ a ≤ 63) : ∃ m : Nat, m < 64 ∧ a = (m : Int) := ⟨a.toNat, by omega, by omega⟩
theorem tb_ext {a b : Int} (ha : 0 ≤ a ∧ a ≤ 63) (hb : 0 ≤ b ∧ b ≤ 63) (h : ∀ j : Nat, j < 6 → tb a (j : Int) = tb b (j : Int)) : a = b := by
  obtain ⟨m, hm, rfl⟩ := nat63 ha
  obtain ⟨n, hn, rfl⟩ := nat63 hb
  have e : m = n := Nat.eq_of_testBit_eq (fun j => by
    by_cases hj : j < 6
    · have q := h j hj
      rw [tb_n hm hj, tb_n hn hj] at q
      exact q
    · have p6 : 2 ^ 6 ≤ 2 ^ j := Nat.pow_le_pow_right (by omega) (by omega)
      rw [Nat.testBit_lt_two_pow (Nat.lt_of_lt_of_le hm p6), Nat.testBit_lt_two_pow (Nat.lt_of_lt_of_le hn p6)])
  rw [e]
theorem orI_cg {P Q : Nat → Bool} : ∀ n : Nat, (∀ f, f < n → P f = Q f) → orI P n = orI Q n
  | 0, _ => rfl
  | n + 1, h => by
    unfold orI
    rw [orI_cg n (fun f hf => h f (by omega)), h n (by omega)]
theorem tb_cl {a : Int} {i j : Nat} (a0 : 0 ≤ a) (a1 : a ≤ 63) (hi : i < 6) (hj : j < 6) : tb (clB a (i : Int)) (j : Int) = (tb a (j : Int) && !(Nat.beq j i)) := by
  have q := List.all_eq_true.mp (List.all_eq_true.mp (List.all_eq_true.mp clC_all a.toNat (List.mem_range.mpr (by omega))) i (List.mem_range.mpr hi)) j (List.mem_range.mpr hj)
  rw [Int.toNat_of_nonneg a0, Bool.and_eq_true] at q
  simpa using q.1
/-- one who does not hear it is left out -/
theorem orI_cl {P Q : Nat → Bool} {i n : Nat} (hn : n ≤ 6) (hi : i < n) (h : ∀ f, f < n → Q f = (P f && !(Nat.beq f i))) : clB (orI P n) (i : Int) = orI Q n := by
  have bp := orI_bd (P := P) hn
  have bq := orI_bd (P := Q) hn
  refine tb_ext (clB_k (i := i) bp.1 bp.2 (by omega)).1 bq (fun j hj => ?_)
  rw [tb_cl bp.1 bp.2 (by omega) hj, tb_orI hj n hn, tb_orI hj n hn]
  by_cases c : j < n
  · rw [h j c, decide_eq_true c, Bool.true_and, Bool.true_and]
  · rw [decide_eq_false c, Bool.false_and, Bool.false_and, Bool.false_and]
end XVH
