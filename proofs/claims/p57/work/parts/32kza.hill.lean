section XXA
variable {l : Launch} {D : va_G} {tys : List (ClassId × FieldType)} {A : Nat → Prop} {ad : Nat → Nat} {ws : va_W}
/-- how many of the first n bits of p are set -/
noncomputable def bnS (p : Nat) : Nat → Nat
  | 0 => 0
  | i + 1 => bnS p i + p / 2 ^ i % 2
theorem bnS_le (p : Nat) : ∀ n : Nat, bnS p n ≤ n
  | 0 => Nat.le_refl _
  | n + 1 => by
    have := bnS_le p n
    have := Nat.mod_lt (p / 2 ^ n) (show 0 < 2 by omega)
    unfold bnS
    omega
theorem bcT_all : (List.range 4096).all (fun p => decide (bcX (Int32.ofInt ((p : Nat) : Int)) = Int32.ofInt ((bnS p 13 : Nat) : Int))) = true := by decide +kernel
theorem andT_all : (List.range 4096).all (fun p => decide (ibF 5 (Int32.ofInt ((p : Nat) : Int)) (Int32.ofInt 1) = Int32.ofInt ((p % 2 : Nat) : Int))) = true := by decide +kernel
theorem shr_i (x : Int32) (i : Nat) (hi : i < 13) : (ibF 9 x (Int32.ofInt (i : Int))).toInt = x.toInt / 2 ^ i := by
  rcases (show i = 0 ∨ i = 1 ∨ i = 2 ∨ i = 3 ∨ i = 4 ∨ i = 5 ∨ i = 6 ∨ i = 7 ∨ i = 8 ∨ i = 9 ∨ i = 10 ∨ i = 11 ∨ i = 12 by omega) with rfl | rfl | rfl | rfl | rfl | rfl | rfl | rfl | rfl | rfl | rfl | rfl | rfl
  · show (x.toBitVec.sshiftRight 0).toInt = x.toBitVec.toInt / 2 ^ 0
    rw [BitVec.toInt_sshiftRight, Int.shiftRight_eq_div_pow]
    rfl
  · show (x.toBitVec.sshiftRight 1).toInt = x.toBitVec.toInt / 2 ^ 1
    rw [BitVec.toInt_sshiftRight, Int.shiftRight_eq_div_pow]
    rfl
  · show (x.toBitVec.sshiftRight 2).toInt = x.toBitVec.toInt / 2 ^ 2
    rw [BitVec.toInt_sshiftRight, Int.shiftRight_eq_div_pow]
    rfl
  · show (x.toBitVec.sshiftRight 3).toInt = x.toBitVec.toInt / 2 ^ 3
    rw [BitVec.toInt_sshiftRight, Int.shiftRight_eq_div_pow]
    rfl
  · show (x.toBitVec.sshiftRight 4).toInt = x.toBitVec.toInt / 2 ^ 4
    rw [BitVec.toInt_sshiftRight, Int.shiftRight_eq_div_pow]
    rfl
  · show (x.toBitVec.sshiftRight 5).toInt = x.toBitVec.toInt / 2 ^ 5
    rw [BitVec.toInt_sshiftRight, Int.shiftRight_eq_div_pow]
    rfl
  · show (x.toBitVec.sshiftRight 6).toInt = x.toBitVec.toInt / 2 ^ 6
    rw [BitVec.toInt_sshiftRight, Int.shiftRight_eq_div_pow]
    rfl
  · show (x.toBitVec.sshiftRight 7).toInt = x.toBitVec.toInt / 2 ^ 7
    rw [BitVec.toInt_sshiftRight, Int.shiftRight_eq_div_pow]
    rfl
  · show (x.toBitVec.sshiftRight 8).toInt = x.toBitVec.toInt / 2 ^ 8
    rw [BitVec.toInt_sshiftRight, Int.shiftRight_eq_div_pow]
    rfl
  · show (x.toBitVec.sshiftRight 9).toInt = x.toBitVec.toInt / 2 ^ 9
    rw [BitVec.toInt_sshiftRight, Int.shiftRight_eq_div_pow]
    rfl
  · show (x.toBitVec.sshiftRight 10).toInt = x.toBitVec.toInt / 2 ^ 10
    rw [BitVec.toInt_sshiftRight, Int.shiftRight_eq_div_pow]
    rfl
  · show (x.toBitVec.sshiftRight 11).toInt = x.toBitVec.toInt / 2 ^ 11
    rw [BitVec.toInt_sshiftRight, Int.shiftRight_eq_div_pow]
    rfl
  · show (x.toBitVec.sshiftRight 12).toInt = x.toBitVec.toInt / 2 ^ 12
    rw [BitVec.toInt_sshiftRight, Int.shiftRight_eq_div_pow]
    rfl
theorem bit13 {p i : Nat} (hp : p < 4096) (hi : i < 13) : ibF 5 (ibF 9 (Int32.ofInt (p : Int)) (Int32.ofInt (i : Int))) (Int32.ofInt 1) = Int32.ofInt ((p / 2 ^ i % 2 : Nat) : Int) := by
  have hd : p / 2 ^ i ≤ p := Nat.div_le_self _ _
  have h0 : (0 : Int) ≤ ((p / 2 ^ i : Nat) : Int) := Int.natCast_nonneg _
  have e : ibF 9 (Int32.ofInt (p : Int)) (Int32.ofInt (i : Int)) = Int32.ofInt ((p / 2 ^ i : Nat) : Int) := by
    apply Int32.toInt.inj
    rw [shr_i _ _ hi, Int32.toInt_ofInt_of_le (by omega) (by omega), Int32.toInt_ofInt_of_le (by omega) (by omega)]
    rw [Int.natCast_ediv, Int.natCast_pow]
    rfl
  rw [e]
  exact of_decide_eq_true (List.all_eq_true.mp andT_all (p / 2 ^ i) (List.mem_range.mpr (by omega)))
theorem sh12_all : (List.range 13).all (fun s => decide (ibF 8 (Int32.ofInt 1) (Int32.ofInt ((s : Nat) : Int)) = Int32.ofInt ((2 ^ s : Nat) : Int))) = true := by decide +kernel
theorem sh12 {s : Nat} (h : s ≤ 12) : ibF 8 (Int32.ofInt 1) (Int32.ofInt (s : Int)) = Int32.ofInt ((2 ^ s : Nat) : Int) := of_decide_eq_true (List.all_eq_true.mp sh12_all s (List.mem_range.mpr (by omega)))
theorem pw12 {s : Nat} (h : s ≤ 12) : 1 ≤ 2 ^ s ∧ 2 ^ s ≤ 4096 := ⟨Nat.one_le_two_pow, Nat.le_trans (Nat.pow_le_pow_right (by omega) h) (by decide)⟩
theorem bch_ct {p : Nat} (hp : p < 4096) : CT l D tys A 344 0 0 0 [.int (Int32.ofInt (p : Int))] ws (fun r w => w = ws ∧ r = some (.int (Int32.ofInt ((bnS p 13 : Nat) : Int)))) := by
  rw [← of_decide_eq_true (List.all_eq_true.mp bcT_all p (List.mem_range.mpr hp))]
  generalize Int32.ofInt (p : Int) = x
  refine CT_of_V (by omega) (show (1 : Nat) ≤ mML 344 by decide +kernel) ?_
  refine V_iload (v := x) mi_344_0 (by simp [stL, lv_args, Value.category]) ?_
  refine V_iload (v := x) mi_344_1 (by simp [stL, lv_args, Value.category]) ?_
  refine V_ipush mi_344_2 ?_
  refine V_ibin mi_344_3 (by omega) ?_
  refine V_ipush mi_344_4 ?_
  refine V_ibin mi_344_7 (by omega) ?_
  refine V_ibin mi_344_8 (by omega) ?_
  refine V_istore mi_344_9 ?_
  refine V_iload (v := ibF 1 (x) (ibF 5 (ibF 10 (x) (Int32.ofInt (1))) (Int32.ofInt (1431655765)))) mi_344_10 (by simp [stL, lv_args, Value.category]) ?_
  refine V_ipush mi_344_11 ?_
  refine V_ibin mi_344_14 (by omega) ?_
  refine V_iload (v := ibF 1 (x) (ibF 5 (ibF 10 (x) (Int32.ofInt (1))) (Int32.ofInt (1431655765)))) mi_344_15 (by simp [stL, lv_args, Value.category]) ?_
  refine V_ipush mi_344_16 ?_
  refine V_ibin mi_344_17 (by omega) ?_
  refine V_ipush mi_344_18 ?_
  refine V_ibin mi_344_21 (by omega) ?_
  refine V_ibin mi_344_22 (by omega) ?_
  refine V_istore mi_344_23 ?_
  refine V_iload (v := ibF 0 (ibF 5 (ibF 1 (x) (ibF 5 (ibF 10 (x) (Int32.ofInt (1))) (Int32.ofInt (1431655765)))) (Int32.ofInt (858993459))) (ibF 5 (ibF 10 (ibF 1 (x) (ibF 5 (ibF 10 (x) (Int32.ofInt (1))) (Int32.ofInt (1431655765)))) (Int32.ofInt (2))) (Int32.ofInt (858993459)))) mi_344_24 (by simp [stL, lv_args, Value.category]) ?_
  refine V_iload (v := ibF 0 (ibF 5 (ibF 1 (x) (ibF 5 (ibF 10 (x) (Int32.ofInt (1))) (Int32.ofInt (1431655765)))) (Int32.ofInt (858993459))) (ibF 5 (ibF 10 (ibF 1 (x) (ibF 5 (ibF 10 (x) (Int32.ofInt (1))) (Int32.ofInt (1431655765)))) (Int32.ofInt (2))) (Int32.ofInt (858993459)))) mi_344_25 (by simp [stL, lv_args, Value.category]) ?_
  refine V_ipush mi_344_26 ?_
  refine V_ibin mi_344_27 (by omega) ?_
  refine V_ibin mi_344_28 (by omega) ?_
  refine V_ipush mi_344_29 ?_
  refine V_ibin mi_344_32 (by omega) ?_
  refine V_istore mi_344_33 ?_
  refine V_iload (v := ibF 5 (ibF 0 (ibF 0 (ibF 5 (ibF 1 (x) (ibF 5 (ibF 10 (x) (Int32.ofInt (1))) (Int32.ofInt (1431655765)))) (Int32.ofInt (858993459))) (ibF 5 (ibF 10 (ibF 1 (x) (ibF 5 (ibF 10 (x) (Int32.ofInt (1))) (Int32.ofInt (1431655765)))) (Int32.ofInt (2))) (Int32.ofInt (858993459)))) (ibF 10 (ibF 0 (ibF 5 (ibF 1 (x) (ibF 5 (ibF 10 (x) (Int32.ofInt (1))) (Int32.ofInt (1431655765)))) (Int32.ofInt (858993459))) (ibF 5 (ibF 10 (ibF 1 (x) (ibF 5 (ibF 10 (x) (Int32.ofInt (1))) (Int32.ofInt (1431655765)))) (Int32.ofInt (2))) (Int32.ofInt (858993459)))) (Int32.ofInt (4)))) (Int32.ofInt (252645135))) mi_344_34 (by simp [stL, lv_args, Value.category]) ?_
  refine V_iload (v := ibF 5 (ibF 0 (ibF 0 (ibF 5 (ibF 1 (x) (ibF 5 (ibF 10 (x) (Int32.ofInt (1))) (Int32.ofInt (1431655765)))) (Int32.ofInt (858993459))) (ibF 5 (ibF 10 (ibF 1 (x) (ibF 5 (ibF 10 (x) (Int32.ofInt (1))) (Int32.ofInt (1431655765)))) (Int32.ofInt (2))) (Int32.ofInt (858993459)))) (ibF 10 (ibF 0 (ibF 5 (ibF 1 (x) (ibF 5 (ibF 10 (x) (Int32.ofInt (1))) (Int32.ofInt (1431655765)))) (Int32.ofInt (858993459))) (ibF 5 (ibF 10 (ibF 1 (x) (ibF 5 (ibF 10 (x) (Int32.ofInt (1))) (Int32.ofInt (1431655765)))) (Int32.ofInt (2))) (Int32.ofInt (858993459)))) (Int32.ofInt (4)))) (Int32.ofInt (252645135))) mi_344_35 (by simp [stL, lv_args, Value.category]) ?_
  refine V_ipush mi_344_36 ?_
  refine V_ibin mi_344_38 (by omega) ?_
  refine V_ibin mi_344_39 (by omega) ?_
  refine V_istore mi_344_40 ?_
  refine V_iload (v := ibF 0 (ibF 5 (ibF 0 (ibF 0 (ibF 5 (ibF 1 (x) (ibF 5 (ibF 10 (x) (Int32.ofInt (1))) (Int32.ofInt (1431655765)))) (Int32.ofInt (858993459))) (ibF 5 (ibF 10 (ibF 1 (x) (ibF 5 (ibF 10 (x) (Int32.ofInt (1))) (Int32.ofInt (1431655765)))) (Int32.ofInt (2))) (Int32.ofInt (858993459)))) (ibF 10 (ibF 0 (ibF 5 (ibF 1 (x) (ibF 5 (ibF 10 (x) (Int32.ofInt (1))) (Int32.ofInt (1431655765)))) (Int32.ofInt (858993459))) (ibF 5 (ibF 10 (ibF 1 (x) (ibF 5 (ibF 10 (x) (Int32.ofInt (1))) (Int32.ofInt (1431655765)))) (Int32.ofInt (2))) (Int32.ofInt (858993459)))) (Int32.ofInt (4)))) (Int32.ofInt (252645135))) (ibF 10 (ibF 5 (ibF 0 (ibF 0 (ibF 5 (ibF 1 (x) (ibF 5 (ibF 10 (x) (Int32.ofInt (1))) (Int32.ofInt (1431655765)))) (Int32.ofInt (858993459))) (ibF 5 (ibF 10 (ibF 1 (x) (ibF 5 (ibF 10 (x) (Int32.ofInt (1))) (Int32.ofInt (1431655765)))) (Int32.ofInt (2))) (Int32.ofInt (858993459)))) (ibF 10 (ibF 0 (ibF 5 (ibF 1 (x) (ibF 5 (ibF 10 (x) (Int32.ofInt (1))) (Int32.ofInt (1431655765)))) (Int32.ofInt (858993459))) (ibF 5 (ibF 10 (ibF 1 (x) (ibF 5 (ibF 10 (x) (Int32.ofInt (1))) (Int32.ofInt (1431655765)))) (Int32.ofInt (2))) (Int32.ofInt (858993459)))) (Int32.ofInt (4)))) (Int32.ofInt (252645135))) (Int32.ofInt (8)))) mi_344_41 (by simp [stL, lv_args, Value.category]) ?_
  refine V_iload (v := ibF 0 (ibF 5 (ibF 0 (ibF 0 (ibF 5 (ibF 1 (x) (ibF 5 (ibF 10 (x) (Int32.ofInt (1))) (Int32.ofInt (1431655765)))) (Int32.ofInt (858993459))) (ibF 5 (ibF 10 (ibF 1 (x) (ibF 5 (ibF 10 (x) (Int32.ofInt (1))) (Int32.ofInt (1431655765)))) (Int32.ofInt (2))) (Int32.ofInt (858993459)))) (ibF 10 (ibF 0 (ibF 5 (ibF 1 (x) (ibF 5 (ibF 10 (x) (Int32.ofInt (1))) (Int32.ofInt (1431655765)))) (Int32.ofInt (858993459))) (ibF 5 (ibF 10 (ibF 1 (x) (ibF 5 (ibF 10 (x) (Int32.ofInt (1))) (Int32.ofInt (1431655765)))) (Int32.ofInt (2))) (Int32.ofInt (858993459)))) (Int32.ofInt (4)))) (Int32.ofInt (252645135))) (ibF 10 (ibF 5 (ibF 0 (ibF 0 (ibF 5 (ibF 1 (x) (ibF 5 (ibF 10 (x) (Int32.ofInt (1))) (Int32.ofInt (1431655765)))) (Int32.ofInt (858993459))) (ibF 5 (ibF 10 (ibF 1 (x) (ibF 5 (ibF 10 (x) (Int32.ofInt (1))) (Int32.ofInt (1431655765)))) (Int32.ofInt (2))) (Int32.ofInt (858993459)))) (ibF 10 (ibF 0 (ibF 5 (ibF 1 (x) (ibF 5 (ibF 10 (x) (Int32.ofInt (1))) (Int32.ofInt (1431655765)))) (Int32.ofInt (858993459))) (ibF 5 (ibF 10 (ibF 1 (x) (ibF 5 (ibF 10 (x) (Int32.ofInt (1))) (Int32.ofInt (1431655765)))) (Int32.ofInt (2))) (Int32.ofInt (858993459)))) (Int32.ofInt (4)))) (Int32.ofInt (252645135))) (Int32.ofInt (8)))) mi_344_42 (by simp [stL, lv_args, Value.category]) ?_
  refine V_ipush mi_344_43 ?_
  refine V_ibin mi_344_45 (by omega) ?_
  refine V_ibin mi_344_46 (by omega) ?_
  refine V_istore mi_344_47 ?_
  refine V_iload (v := ibF 0 (ibF 0 (ibF 5 (ibF 0 (ibF 0 (ibF 5 (ibF 1 (x) (ibF 5 (ibF 10 (x) (Int32.ofInt (1))) (Int32.ofInt (1431655765)))) (Int32.ofInt (858993459))) (ibF 5 (ibF 10 (ibF 1 (x) (ibF 5 (ibF 10 (x) (Int32.ofInt (1))) (Int32.ofInt (1431655765)))) (Int32.ofInt (2))) (Int32.ofInt (858993459)))) (ibF 10 (ibF 0 (ibF 5 (ibF 1 (x) (ibF 5 (ibF 10 (x) (Int32.ofInt (1))) (Int32.ofInt (1431655765)))) (Int32.ofInt (858993459))) (ibF 5 (ibF 10 (ibF 1 (x) (ibF 5 (ibF 10 (x) (Int32.ofInt (1))) (Int32.ofInt (1431655765)))) (Int32.ofInt (2))) (Int32.ofInt (858993459)))) (Int32.ofInt (4)))) (Int32.ofInt (252645135))) (ibF 10 (ibF 5 (ibF 0 (ibF 0 (ibF 5 (ibF 1 (x) (ibF 5 (ibF 10 (x) (Int32.ofInt (1))) (Int32.ofInt (1431655765)))) (Int32.ofInt (858993459))) (ibF 5 (ibF 10 (ibF 1 (x) (ibF 5 (ibF 10 (x) (Int32.ofInt (1))) (Int32.ofInt (1431655765)))) (Int32.ofInt (2))) (Int32.ofInt (858993459)))) (ibF 10 (ibF 0 (ibF 5 (ibF 1 (x) (ibF 5 (ibF 10 (x) (Int32.ofInt (1))) (Int32.ofInt (1431655765)))) (Int32.ofInt (858993459))) (ibF 5 (ibF 10 (ibF 1 (x) (ibF 5 (ibF 10 (x) (Int32.ofInt (1))) (Int32.ofInt (1431655765)))) (Int32.ofInt (2))) (Int32.ofInt (858993459)))) (Int32.ofInt (4)))) (Int32.ofInt (252645135))) (Int32.ofInt (8)))) (ibF 10 (ibF 0 (ibF 5 (ibF 0 (ibF 0 (ibF 5 (ibF 1 (x) (ibF 5 (ibF 10 (x) (Int32.ofInt (1))) (Int32.ofInt (1431655765)))) (Int32.ofInt (858993459))) (ibF 5 (ibF 10 (ibF 1 (x) (ibF 5 (ibF 10 (x) (Int32.ofInt (1))) (Int32.ofInt (1431655765)))) (Int32.ofInt (2))) (Int32.ofInt (858993459)))) (ibF 10 (ibF 0 (ibF 5 (ibF 1 (x) (ibF 5 (ibF 10 (x) (Int32.ofInt (1))) (Int32.ofInt (1431655765)))) (Int32.ofInt (858993459))) (ibF 5 (ibF 10 (ibF 1 (x) (ibF 5 (ibF 10 (x) (Int32.ofInt (1))) (Int32.ofInt (1431655765)))) (Int32.ofInt (2))) (Int32.ofInt (858993459)))) (Int32.ofInt (4)))) (Int32.ofInt (252645135))) (ibF 10 (ibF 5 (ibF 0 (ibF 0 (ibF 5 (ibF 1 (x) (ibF 5 (ibF 10 (x) (Int32.ofInt (1))) (Int32.ofInt (1431655765)))) (Int32.ofInt (858993459))) (ibF 5 (ibF 10 (ibF 1 (x) (ibF 5 (ibF 10 (x) (Int32.ofInt (1))) (Int32.ofInt (1431655765)))) (Int32.ofInt (2))) (Int32.ofInt (858993459)))) (ibF 10 (ibF 0 (ibF 5 (ibF 1 (x) (ibF 5 (ibF 10 (x) (Int32.ofInt (1))) (Int32.ofInt (1431655765)))) (Int32.ofInt (858993459))) (ibF 5 (ibF 10 (ibF 1 (x) (ibF 5 (ibF 10 (x) (Int32.ofInt (1))) (Int32.ofInt (1431655765)))) (Int32.ofInt (2))) (Int32.ofInt (858993459)))) (Int32.ofInt (4)))) (Int32.ofInt (252645135))) (Int32.ofInt (8)))) (Int32.ofInt (16)))) mi_344_48 (by simp [stL, lv_args, Value.category]) ?_
  refine V_ipush mi_344_49 ?_
  refine V_ibin mi_344_51 (by omega) ?_
  exact V_retI mi_344_52 (fun h => absurd h (by decide +kernel)) ⟨rfl, rfl⟩
theorem bnm_4 {p : Nat} (hp : p < 4096) {post : Option Value → va_W → Prop} : ∀ (m i : Nat), i + m = 13 → post (some (.int (Int32.ofInt ((bnS p 13 : Nat) : Int)))) ws → V l D tys A 194 0 0 0 post 0 0 4 [(0, .int (Int32.ofInt ((p : Int)))), (1, .int (Int32.ofInt ((bnS p i : Int)))), (2, .int (Int32.ofInt ((i : Int))))] [] ws
  | 0, i, hm, kk => by
    have bl := bnS_le p i
    refine V_iload (v := Int32.ofInt ((i : Int))) mi_194_4 (by simp [stL, lv_args, Value.category]) ?_
    refine V_ipush mi_194_5 ?_
    refine V_cge mi_194_7 ⟨by omega, by omega⟩ ⟨by omega, by omega⟩ (fun q => ?_) (fun q => ?_)
    · refine V_iload (v := Int32.ofInt ((bnS p i : Int))) mi_194_24 (by simp [stL, lv_args, Value.category]) ?_
      have e : i = 13 := by omega
      rw [e]
      exact V_retI mi_194_25 (fun h => absurd h (by decide +kernel)) kk
    · exact absurd q (by omega)
  | m + 1, i, hm, kk => by
    have bl := bnS_le p i
    refine V_iload (v := Int32.ofInt ((i : Int))) mi_194_4 (by simp [stL, lv_args, Value.category]) ?_
    refine V_ipush mi_194_5 ?_
    refine V_cge mi_194_7 ⟨by omega, by omega⟩ ⟨by omega, by omega⟩ (fun q => ?_) (fun q => ?_)
    · exact absurd q (by omega)
    · refine V_iload (v := Int32.ofInt ((bnS p i : Int))) mi_194_10 (by simp [stL, lv_args, Value.category]) ?_
      refine V_iload (v := Int32.ofInt ((p : Int))) mi_194_11 (by simp [stL, lv_args, Value.category]) ?_
      refine V_iload (v := Int32.ofInt ((i : Int))) mi_194_12 (by simp [stL, lv_args, Value.category]) ?_
      refine V_ibin mi_194_13 (by omega) ?_
      refine V_ipush mi_194_14 ?_
      refine V_ibin mi_194_15 (by omega) ?_
      rw [bit13 hp (by omega)]
      refine V_ibin mi_194_16 (by omega) ?_
      rw [ib0]
      rw [show (bnS p i : Int) + ((p / 2 ^ i % 2 : Nat) : Int) = ((bnS p (i + 1) : Nat) : Int) from (Int.natCast_add _ _).symm]
      refine V_istore mi_194_17 ?_
      refine V_iinc (v := Int32.ofInt ((i : Int))) mi_194_18 (by simp [stL, lv_args, Value.category]) ?_
      rw [ia2]
      refine V_goto mi_194_21 ?_
      refine V_sub (lv' := [(0, .int (Int32.ofInt ((p : Int)))), (1, .int (Int32.ofInt ((bnS p (i + 1) : Int)))), (2, .int (Int32.ofInt (((i + 1 : Nat) : Int))))]) (fun q hq => ?_) ?_
      · simp only [List.mem_cons, List.not_mem_nil, or_false] at hq
        rcases hq with rfl | rfl | rfl <;> simp [stL, lv_args, Value.category]
      exact bnm_4 hp m (i + 1) (by omega) kk
theorem bnm_ct {p : Nat} (hp : p < 4096) : CT l D tys A 194 0 0 0 [.int (Int32.ofInt ((p : Int)))] ws (fun r w => w = ws ∧ r = some (.int (Int32.ofInt ((bnS p 13 : Nat) : Int)))) := by
  refine CT_of_V (by omega) (show (1 : Nat) ≤ mML 194 by decide +kernel) ?_
  refine V_ipush mi_194_0 ?_
  refine V_istore mi_194_1 ?_
  refine V_ipush mi_194_2 ?_
  refine V_istore mi_194_3 ?_
  refine V_sub (lv' := [(0, .int (Int32.ofInt ((p : Int)))), (1, .int (Int32.ofInt (0))), (2, .int (Int32.ofInt (((0 : Nat) : Int))))]) (fun q hq => ?_) ?_
  · simp only [List.mem_cons, List.not_mem_nil, or_false] at hq
    rcases hq with rfl | rfl | rfl <;> simp [stL, lv_args, Value.category]
  exact bnm_4 hp 13 0 (by omega) ⟨rfl, rfl⟩
end XXA
section XXB
/-- the lowest bit, and the others -/
theorem land_2 (a b : Nat) : a &&& b = 2 * ((a / 2) &&& (b / 2)) + (a &&& b) % 2 := by
  have h := Nat.div_add_mod (a &&& b) 2
  rw [Nat.and_div_two] at h
  exact h.symm
theorem land_b1 {a b : Nat} (ha : a % 2 = 1) (hb : b % 2 = 1) : (a &&& b) % 2 = 1 := Nat.and_mod_two_eq_one.mpr ⟨ha, hb⟩
theorem land_b0 {a b : Nat} (h : a % 2 = 0 ∨ b % 2 = 0) : (a &&& b) % 2 = 0 := by
  rcases Nat.mod_two_eq_zero_or_one (a &&& b) with e | e
  · exact e
  · have := Nat.and_mod_two_eq_one.mp e
    omega
theorem land_00 (a b : Nat) (c : Nat) (hc : c < 2) : (2 * a) &&& (2 * b + c) = 2 * (a &&& b) := by
  have h := land_2 (2 * a) (2 * b + c)
  rw [land_b0 (Or.inl (by omega)), show 2 * a / 2 = a by omega, show (2 * b + c) / 2 = b by omega] at h
  exact h
theorem land_10 (a b : Nat) : (2 * a + 1) &&& (2 * b) = 2 * (a &&& b) := by
  have h := land_2 (2 * a + 1) (2 * b)
  rw [land_b0 (Or.inr (by omega)), show (2 * a + 1) / 2 = a by omega, show 2 * b / 2 = b by omega] at h
  exact h
theorem land_11 (a b : Nat) : (2 * a + 1) &&& (2 * b + 1) = 2 * (a &&& b) + 1 := by
  have h := land_2 (2 * a + 1) (2 * b + 1)
  rw [land_b1 (by omega) (by omega), show (2 * a + 1) / 2 = a by omega, show (2 * b + 1) / 2 = b by omega] at h
  exact h
/-- x lies within t -/
noncomputable def sbB (t x : Nat) : Bool := Nat.beq (x &&& t) x
theorem sbB_i {t x : Nat} : sbB t x = true ↔ x &&& t = x := ⟨Nat.eq_of_beq_eq_true, fun h => by unfold sbB; rw [h]; exact Nat.beq_refl x⟩
/-- a number by halves: what lies within it -/
theorem sub_h {t x : Nat} (h : x &&& t = x) : (x / 2) &&& (t / 2) = x / 2 ∧ x % 2 ≤ t % 2 ∧ x ≤ t := by
  have a : (x &&& t) / 2 = x / 2 &&& t / 2 := Nat.and_div_two
  rw [h] at a
  refine ⟨a.symm, ?_, by rw [← h]; exact Nat.and_le_right⟩
  rcases Nat.mod_two_eq_zero_or_one x with e | e
  · omega
  · rw [← h] at e
    have := Nat.and_mod_two_eq_one.mp e
    omega
theorem sub_hi {t x : Nat} (h : (x / 2) &&& (t / 2) = x / 2) (h2 : x % 2 ≤ t % 2) : x &&& t = x := by
  have e := land_2 x t
  rw [h] at e
  have k : (x &&& t) % 2 = x % 2 := by
    rcases Nat.mod_two_eq_zero_or_one x with e | e
    · rw [e]
      exact land_b0 (Or.inl e)
    · rw [e]
      exact land_b1 e (by omega)
  rw [k] at e
  omega
/-- the rest of t's bits go with x's -/
theorem cpl_a : ∀ (w t x : Nat), t < 2 ^ w → x &&& t = x → (x + (2 ^ w - 1 - t)) &&& t = x
  | 0, t, x, ht, h => by
    have := (sub_h h).2.2
    rw [Nat.pow_zero] at ht
    rw [show t = 0 by omega, show x = 0 by omega]
    rfl
  | w + 1, t, x, ht, h => by
    rw [Nat.pow_succ] at ht
    obtain ⟨a, b, c⟩ := sub_h h
    have ih := cpl_a w (t / 2) (x / 2) (by omega) a
    rw [Nat.pow_succ]
    have p := Nat.pow_pos (n := w) (show 0 < 2 by omega)
    rcases Nat.mod_two_eq_zero_or_one t with e | e
    · rw [show x + (2 ^ w * 2 - 1 - t) = 2 * (x / 2 + (2 ^ w - 1 - t / 2)) + 1 by omega, show t = 2 * (t / 2) by omega, land_10, show 2 * (t / 2) / 2 = t / 2 by omega, ih]
      omega
    · rcases Nat.mod_two_eq_zero_or_one x with e2 | e2
      · rw [show x + (2 ^ w * 2 - 1 - t) = 2 * (x / 2 + (2 ^ w - 1 - t / 2)) by omega, show t = 2 * (t / 2) + 1 by omega, land_00 _ _ 1 (by omega), show (2 * (t / 2) + 1) / 2 = t / 2 by omega, ih]
        omega
      · rw [show x + (2 ^ w * 2 - 1 - t) = 2 * (x / 2 + (2 ^ w - 1 - t / 2)) + 1 by omega, show t = 2 * (t / 2) + 1 by omega, land_11, show (2 * (t / 2) + 1) / 2 = t / 2 by omega, ih]
        omega
/-- what does not lie in the rest lies within -/
theorem cpl_0 : ∀ (w t x : Nat), t < 2 ^ w → x < 2 ^ w → ((x &&& (2 ^ w - 1 - t) = 0) ↔ x &&& t = x)
  | 0, t, x, ht, hx => by
    rw [Nat.pow_zero] at ht hx
    rw [show t = 0 by omega, show x = 0 by omega]
  | w + 1, t, x, ht, hx => by
    rw [Nat.pow_succ] at ht hx
    have ih := cpl_0 w (t / 2) (x / 2) (by omega) (by omega)
    rw [Nat.pow_succ]
    have e1 := land_2 x (2 ^ w * 2 - 1 - t)
    rw [show (2 ^ w * 2 - 1 - t) / 2 = 2 ^ w - 1 - t / 2 by omega] at e1
    constructor
    · intro h
      rw [h] at e1
      refine sub_hi (ih.mp (by omega)) ?_
      rcases Nat.mod_two_eq_zero_or_one x with e | e
      · omega
      · rcases Nat.mod_two_eq_zero_or_one t with e2 | e2
        · have := land_b1 e (show (2 ^ w * 2 - 1 - t) % 2 = 1 by omega)
          rw [h] at this
          omega
        · omega
    · intro h
      obtain ⟨a, b, c⟩ := sub_h h
      rw [ih.mpr a] at e1
      have k : (x &&& (2 ^ w * 2 - 1 - t)) % 2 = 0 := by
        rcases Nat.mod_two_eq_zero_or_one x with e | e
        · exact land_b0 (Or.inl e)
        · exact land_b0 (Or.inr (by omega))
      omega
/-- the next one within t -/
noncomputable def nxN (w t x : Nat) : Nat := (x + 2 ^ w - t) &&& t
/-- how many bits t has; where x stands among those within t -/
noncomputable def pcN : Nat → Nat → Nat
  | 0, _ => 0
  | w + 1, t => t % 2 + pcN w (t / 2)
noncomputable def rkN : Nat → Nat → Nat → Nat
  | 0, _, _ => 0
  | w + 1, t, x => if t % 2 = 1 then 2 * rkN w (t / 2) (x / 2) + x % 2 else rkN w (t / 2) (x / 2)
theorem rkN_1 {w t x : Nat} (h : t % 2 = 1) : rkN (w + 1) t x = 2 * rkN w (t / 2) (x / 2) + x % 2 := if_pos h
theorem rkN_0 {w t x : Nat} (h : t % 2 = 0) : rkN (w + 1) t x = rkN w (t / 2) (x / 2) := if_neg (by omega)
theorem rkN_lt : ∀ (w t x : Nat), rkN w t x < 2 ^ pcN w t
  | 0, _, _ => by show 0 < 2 ^ 0; decide
  | w + 1, t, x => by
    have ih := rkN_lt w (t / 2) (x / 2)
    unfold pcN
    rcases Nat.mod_two_eq_zero_or_one t with e | e
    · rw [rkN_0 e, e, Nat.zero_add]
      exact ih
    · rw [rkN_1 e, e, show 1 + pcN w (t / 2) = pcN w (t / 2) + 1 by omega, Nat.pow_succ]
      omega
theorem rkN_z : ∀ (w t : Nat), rkN w t 0 = 0
  | 0, _ => rfl
  | w + 1, t => by
    rcases Nat.mod_two_eq_zero_or_one t with e | e
    · rw [rkN_0 e]
      exact rkN_z w (t / 2)
    · rw [rkN_1 e]
      show 2 * rkN w (t / 2) (0 / 2) + 0 % 2 = 0
      rw [show (0 : Nat) / 2 = 0 from rfl, rkN_z w (t / 2)]
      all_goals rfl
/-- it is the next indeed, and behind the last comes none -/
theorem nx_ok : ∀ (w t x : Nat), t < 2 ^ w → x &&& t = x → (x = t ∧ nxN w t x = 0) ∨ (x < t ∧ x < nxN w t x ∧ nxN w t x &&& t = nxN w t x ∧ rkN w t (nxN w t x) = rkN w t x + 1 ∧ ∀ y, x < y → y < nxN w t x → ¬ y &&& t = y)
  | 0, t, x, ht, h => by
    have := (sub_h h).2.2
    rw [Nat.pow_zero] at ht
    refine Or.inl ⟨by omega, ?_⟩
    unfold nxN
    rw [show t = 0 by omega]
    exact Nat.and_zero _
  | w + 1, t, x, ht, h => by
    rw [Nat.pow_succ] at ht
    obtain ⟨a, b, c⟩ := sub_h h
    obtain ⟨-, -, c2⟩ := sub_h a
    have ih := nx_ok w (t / 2) (x / 2) (by omega) a
    have btw : ∀ y, y &&& t = y → (y / 2) &&& (t / 2) = y / 2 ∧ y % 2 ≤ t % 2 := fun y hy => ⟨(sub_h hy).1, (sub_h hy).2.1⟩
    rcases Nat.mod_two_eq_zero_or_one t with e | e
    · have en : nxN (w + 1) t x = 2 * nxN w (t / 2) (x / 2) := by
        unfold nxN
        rw [Nat.pow_succ, show x + 2 ^ w * 2 - t = 2 * (x / 2 + 2 ^ w - t / 2) by omega]
        have k := land_00 (x / 2 + 2 ^ w - t / 2) (t / 2) 0 (by omega)
        rw [show 2 * (t / 2) + 0 = t by omega] at k
        exact k
      rcases ih with ⟨i1, i2⟩ | ⟨i1, i2, i3, i4, i5⟩
      · exact Or.inl ⟨by omega, by rw [en, i2]⟩
      · refine Or.inr ⟨by omega, by omega, ?_, ?_, fun y y1 y2 hy => ?_⟩
        · rw [en]
          exact sub_hi (by rw [show 2 * nxN w (t / 2) (x / 2) / 2 = nxN w (t / 2) (x / 2) by omega]; exact i3) (by omega)
        · rw [en, rkN_0 e, rkN_0 e, show 2 * nxN w (t / 2) (x / 2) / 2 = nxN w (t / 2) (x / 2) by omega]
          exact i4
        · obtain ⟨q1, q2⟩ := btw y hy
          exact i5 (y / 2) (by omega) (by omega) q1
    · rcases Nat.mod_two_eq_zero_or_one x with e2 | e2
      · have en : nxN (w + 1) t x = 2 * (x / 2) + 1 := by
          unfold nxN
          have p := Nat.pow_pos (n := w) (show 0 < 2 by omega)
          have ca := cpl_a w (t / 2) (x / 2) (by omega) a
          rw [Nat.pow_succ, show x + 2 ^ w * 2 - t = 2 * (x / 2 + (2 ^ w - 1 - t / 2)) + 1 by omega]
          have k := land_11 (x / 2 + (2 ^ w - 1 - t / 2)) (t / 2)
          rw [show 2 * (t / 2) + 1 = t by omega, ca] at k
          exact k
        refine Or.inr ⟨by omega, by omega, ?_, ?_, fun y y1 y2 hy => by omega⟩
        · rw [en]
          exact sub_hi (by rw [show (2 * (x / 2) + 1) / 2 = x / 2 by omega]; exact a) (by omega)
        · rw [en, rkN_1 e, rkN_1 e, show (2 * (x / 2) + 1) / 2 = x / 2 by omega]
          omega
      · have en : nxN (w + 1) t x = 2 * nxN w (t / 2) (x / 2) := by
          unfold nxN
          rw [Nat.pow_succ, show x + 2 ^ w * 2 - t = 2 * (x / 2 + 2 ^ w - t / 2) by omega]
          have k := land_00 (x / 2 + 2 ^ w - t / 2) (t / 2) 1 (by omega)
          rw [show 2 * (t / 2) + 1 = t by omega] at k
          exact k
        rcases ih with ⟨i1, i2⟩ | ⟨i1, i2, i3, i4, i5⟩
        · exact Or.inl ⟨by omega, by rw [en, i2]⟩
        · refine Or.inr ⟨by omega, by omega, ?_, ?_, fun y y1 y2 hy => ?_⟩
          · rw [en]
            exact sub_hi (by rw [show 2 * nxN w (t / 2) (x / 2) / 2 = nxN w (t / 2) (x / 2) by omega]; exact i3) (by omega)
          · rw [en, rkN_1 e, rkN_1 e, show 2 * nxN w (t / 2) (x / 2) / 2 = nxN w (t / 2) (x / 2) by omega]
            omega
          · obtain ⟨q1, q2⟩ := btw y hy
            exact i5 (y / 2) (by omega) (by omega) q1
theorem pcT_all : (List.range 4096).all (fun t => decide (pcN 12 t = bnS t 13)) = true := by decide +kernel
theorem pcT {t : Nat} (h : t < 4096) : pcN 12 t = bnS t 13 := of_decide_eq_true (List.all_eq_true.mp pcT_all t (List.mem_range.mpr h))
theorem ib_toNat {a : Int} (h1 : -4096 ≤ a) (h2 : a ≤ 4096) : (Int32.ofInt a).toBitVec.toNat % 4096 = (a + 4096).toNat % 4096 := by
  show (BitVec.ofInt 32 a).toNat % 4096 = _
  rw [BitVec.toNat_ofInt, show ((2 ^ 32 : Nat) : Int) = 4294967296 from rfl]
  omega
/-- and with a set of twelve -/
theorem and12 {a : Int} {t : Nat} (h1 : -4096 ≤ a) (h2 : a ≤ 4096) (ht : t < 4096) : ibF 5 (Int32.ofInt a) (Int32.ofInt (t : Int)) = Int32.ofInt (((a + 4096).toNat &&& t : Nat) : Int) := by
  have g : ∀ u v : Nat, u % 4096 = v % 4096 → u &&& t = v &&& t := fun u v e => by
    have lu : u &&& t < 2 ^ 12 := Nat.and_lt_two_pow u (show t < 2 ^ 12 by omega)
    have lv : v &&& t < 2 ^ 12 := Nat.and_lt_two_pow v (show t < 2 ^ 12 by omega)
    rw [← Nat.mod_eq_of_lt lu, ← Nat.mod_eq_of_lt lv, Nat.and_mod_two_pow, Nat.and_mod_two_pow, show u % 2 ^ 12 = v % 2 ^ 12 from e]
  have et : (Int32.ofInt (t : Int)).toBitVec.toNat = t := by
    show (BitVec.ofInt 32 (t : Int)).toNat = t
    rw [BitVec.toNat_ofInt, show ((2 ^ 32 : Nat) : Int) = 4294967296 from rfl]
    omega
  have lt : (a + 4096).toNat &&& t ≤ t := Nat.and_le_right
  apply Int32.toBitVec_inj.1
  apply BitVec.eq_of_toNat_eq
  have el : (ibF 5 (Int32.ofInt a) (Int32.ofInt (t : Int))).toBitVec.toNat = (Int32.ofInt a).toBitVec.toNat &&& (Int32.ofInt (t : Int)).toBitVec.toNat := by
    show ((Int32.ofInt a).toBitVec &&& (Int32.ofInt (t : Int)).toBitVec).toNat = _
    rw [BitVec.toNat_and]
  have er : (Int32.ofInt (((a + 4096).toNat &&& t : Nat) : Int)).toBitVec.toNat = (a + 4096).toNat &&& t := by
    generalize hz : (a + 4096).toNat &&& t = z at lt ⊢
    show (BitVec.ofInt 32 (z : Int)).toNat = z
    rw [BitVec.toNat_ofInt, show ((2 ^ 32 : Nat) : Int) = 4294967296 from rfl]
    omega
  rw [el, er, et]
  exact g _ _ (ib_toNat h1 h2)
theorem notT_all : (List.range 4096).all (fun t => decide (ibF 7 (Int32.ofInt ((t : Nat) : Int)) (Int32.ofInt (-1)) = Int32.ofInt (-1 - ((t : Nat) : Int)))) = true := by decide +kernel
theorem not12 {t : Nat} (h : t < 4096) : ibF 7 (Int32.ofInt (t : Int)) (Int32.ofInt (-1)) = Int32.ofInt (-1 - (t : Int)) := of_decide_eq_true (List.all_eq_true.mp notT_all t (List.mem_range.mpr h))
theorem and_cm (x y : Int32) : ibF 5 x y = ibF 5 y x := by
  apply Int32.toBitVec_inj.1
  show x.toBitVec &&& y.toBitVec = y.toBitVec &&& x.toBitVec
  exact BitVec.and_comm _ _
/-- whether i lies within t, as the reference asks -/
theorem ask12 {i t : Nat} (hi : i < 4096) (ht : t < 4096) : ibF 5 (Int32.ofInt (i : Int)) (ibF 7 (Int32.ofInt (t : Int)) (Int32.ofInt (-1))) = Int32.ofInt ((i &&& (4095 - t) : Nat) : Int) := by
  rw [not12 ht, and_cm, and12 (by omega) (by omega) hi, show (-1 - (t : Int) + 4096).toNat = 4095 - t by omega, Nat.and_comm]
theorem ask12_0 {i t : Nat} (hi : i < 4096) (ht : t < 4096) : (i &&& (4095 - t) = 0) ↔ i &&& t = i := cpl_0 12 t i ht hi
/-- the next set within the tellings, as the class makes it -/
theorem nx12 {x t : Nat} (hx : x ≤ t) (ht : t < 4096) : ibF 5 (Int32.ofInt ((x : Int) - (t : Int))) (Int32.ofInt (t : Int)) = Int32.ofInt ((nxN 12 t x : Nat) : Int) := by
  rw [and12 (by omega) (by omega) ht]
  unfold nxN
  rw [show ((x : Int) - (t : Int) + 4096).toNat = x + 2 ^ 12 - t by omega]
/-- a sum over the sets within t, below n -/
noncomputable def smS (t : Nat) (g : Nat → Int) : Nat → Int
  | 0 => 0
  | n + 1 => if sbB t n = true then smS t g n + g n else smS t g n
theorem smS_y {t n : Nat} {g : Nat → Int} (h : n &&& t = n) : smS t g (n + 1) = smS t g n + g n := if_pos (sbB_i.mpr h)
theorem smS_n {t n : Nat} {g : Nat → Int} (h : ¬ n &&& t = n) : smS t g (n + 1) = smS t g n := if_neg (fun k => h (sbB_i.mp k))
theorem smS_gap {t : Nat} {g : Nat → Int} {a : Nat} : ∀ k : Nat, (∀ y, a ≤ y → y < a + k → ¬ y &&& t = y) → smS t g (a + k) = smS t g a
  | 0, _ => rfl
  | k + 1, h => by
    rw [show a + (k + 1) = (a + k) + 1 by omega, smS_n (h (a + k) (by omega) (by omega))]
    exact smS_gap k (fun y y1 y2 => h y y1 (by omega))
/-- the weight of missing x of the tellings t -/
noncomputable def wgN (t x : Nat) (d : Int) : Nat → Int
  | 0 => 1
  | n + 1 => if t / 2 ^ n % 2 = 1 then wgN t x d n * (if x / 2 ^ n % 2 = 1 then d else 100 - d) else wgN t x d n
theorem wgN_0 {t x n : Nat} {d : Int} (h : t / 2 ^ n % 2 = 0) : wgN t x d (n + 1) = wgN t x d n := if_neg (by omega)
theorem wgN_1 {t x n : Nat} {d : Int} (h : t / 2 ^ n % 2 = 1) (h2 : x / 2 ^ n % 2 = 1) : wgN t x d (n + 1) = wgN t x d n * d := by
  show (if t / 2 ^ n % 2 = 1 then wgN t x d n * (if x / 2 ^ n % 2 = 1 then d else 100 - d) else _) = _
  rw [if_pos h, if_pos h2]
theorem wgN_2 {t x n : Nat} {d : Int} (h : t / 2 ^ n % 2 = 1) (h2 : x / 2 ^ n % 2 = 0) : wgN t x d (n + 1) = wgN t x d n * (100 - d) := by
  show (if t / 2 ^ n % 2 = 1 then wgN t x d n * (if x / 2 ^ n % 2 = 1 then d else 100 - d) else _) = _
  rw [if_pos h, if_neg (by omega)]
theorem wgN_b {t x : Nat} {d : Int} (d0 : 0 ≤ d) (d1 : d ≤ 100) : ∀ n : Nat, 0 ≤ wgN t x d n ∧ wgN t x d n ≤ ((100 ^ bnS t n : Nat) : Int)
  | 0 => ⟨by show (0 : Int) ≤ 1; omega, by show (1 : Int) ≤ ((100 ^ 0 : Nat) : Int); decide⟩
  | n + 1 => by
    obtain ⟨a, b⟩ := wgN_b d0 d1 n
    have m2 := Nat.mod_lt (t / 2 ^ n) (show 0 < 2 by omega)
    have e : bnS t (n + 1) = bnS t n + t / 2 ^ n % 2 := rfl
    rcases Nat.mod_two_eq_zero_or_one (t / 2 ^ n) with q | q
    · rw [wgN_0 q, e, q]
      exact ⟨a, b⟩
    · have s : ∀ z : Int, 0 ≤ z → z ≤ 100 → 0 ≤ wgN t x d n * z ∧ wgN t x d n * z ≤ ((100 ^ bnS t (n + 1) : Nat) : Int) := fun z z0 z1 => by
        refine ⟨Int.mul_nonneg a z0, ?_⟩
        rw [e, q, Nat.pow_succ]
        have m1 : wgN t x d n * z ≤ wgN t x d n * 100 := Int.mul_le_mul_of_nonneg_left z1 a
        have c : ((100 ^ bnS t n * 100 : Nat) : Int) = ((100 ^ bnS t n : Nat) : Int) * 100 := rfl
        rw [c]
        omega
      rcases Nat.mod_two_eq_zero_or_one (x / 2 ^ n) with q2 | q2
      · rw [wgN_2 q q2]
        exact s _ (by omega) (by omega)
      · rw [wgN_1 q q2]
        exact s _ d0 d1
/-- Euclid's steps -/
noncomputable def euN : Nat → Nat → Nat → Nat
  | 0, a, _ => a
  | k + 1, a, b => if b = 0 then a else euN k b (a % b)
theorem euN_z {k a : Nat} : euN k a 0 = a := by
  cases k with
  | zero => rfl
  | succ k => exact if_pos rfl
theorem euN_s {k a b : Nat} (h : ¬ b = 0) : euN (k + 1) a b = euN k b (a % b) := if_neg h
theorem gcd_st {a b : Nat} : Nat.gcd a b = Nat.gcd b (a % b) := by
  rw [Nat.gcd_comm a b, Nat.gcd_rec b a, Nat.gcd_comm]
theorem eu_gcd : ∀ (m r a b : Nat), b < 2 ^ m → 2 * m ≤ r → euN r a b = Nat.gcd a b
  | 0, r, a, b, hb, hr => by
    rw [Nat.pow_zero] at hb
    rw [show b = 0 by omega, euN_z, Nat.gcd_zero_right]
  | m + 1, r, a, b, hb, hr => by
    rw [Nat.pow_succ] at hb
    by_cases b0 : b = 0
    · rw [b0, euN_z, Nat.gcd_zero_right]
    · have c1 := Nat.mod_lt a (show 0 < b by omega)
      rw [show r = (r - 2) + 1 + 1 by omega, euN_s b0, gcd_st (a := a)]
      by_cases c0 : a % b = 0
      · rw [c0, euN_z, Nat.gcd_zero_right]
      · have d1 := Nat.mod_lt b (show 0 < a % b by omega)
        have d2 : b % (a % b) + (a % b) ≤ b := by
          have q := Nat.div_add_mod b (a % b)
          have q2 : 0 < b / (a % b) := Nat.div_pos (by omega) (by omega)
          have q3 : a % b * 1 ≤ a % b * (b / (a % b)) := Nat.mul_le_mul_left _ q2
          rw [Nat.mul_one] at q3
          omega
        rw [euN_s c0, gcd_st (a := b)]
        exact eu_gcd m (r - 2) (a % b) (b % (a % b)) (by omega) (by omega)
end XXB
