theorem mi_328_0 : mI 328 0 = (4, 0, 0, 0, 0) := by decide +kernel
theorem mi_328_1 : mI 328 1 = (7, 0, 4, 1, 0) := by decide +kernel
theorem mi_328_3 : mI 328 3 = (4, 0, 2, 0, 0) := by decide +kernel
theorem mi_328_4 : mI 328 4 = (7, 0, 6, 1, 0) := by decide +kernel
theorem mi_328_6 : mI 328 6 = (4, 0, 6, 1, 0) := by decide +kernel
theorem mi_328_8 : mI 328 8 = (2, 0, 0, 0, 0) := by decide +kernel
theorem mi_328_9 : mI 328 9 = (13, 0, 0, 0, 0) := by decide +kernel
theorem mi_328_10 : mI 328 10 = (14, 21, 0, 31, 0) := by decide +kernel
theorem mi_328_13 : mI 328 13 = (4, 0, 4, 1, 0) := by decide +kernel
theorem mi_328_15 : mI 328 15 = (4, 0, 6, 1, 0) := by decide +kernel
theorem mi_328_17 : mI 328 17 = (11, 0, 4, 0, 0) := by decide +kernel
theorem mi_328_18 : mI 328 18 = (7, 0, 8, 1, 0) := by decide +kernel
theorem mi_328_20 : mI 328 20 = (4, 0, 6, 1, 0) := by decide +kernel
theorem mi_328_22 : mI 328 22 = (7, 0, 4, 1, 0) := by decide +kernel
theorem mi_328_24 : mI 328 24 = (4, 0, 8, 1, 0) := by decide +kernel
theorem mi_328_26 : mI 328 26 = (7, 0, 6, 1, 0) := by decide +kernel
theorem mi_328_28 : mI 328 28 = (16, (-22), 0, 6, 0) := by decide +kernel
theorem mi_328_31 : mI 328 31 = (4, 0, 4, 1, 0) := by decide +kernel
theorem mi_328_33 : mI 328 33 = (27, 0, 1, 0, 0) := by decide +kernel
theorem rem64 {x y : Int64} (hy : y ≠ 0) : (lbF 4 x y).toInt.natAbs < y.toInt.natAbs := by
  have e1 := Int64.ofInt_toInt x
  have e2 := Int64.ofInt_toInt y
  have bx1 := Int64.le_toInt x
  have bx2 := Int64.toInt_lt x
  have by1 := Int64.le_toInt y
  have by2 := Int64.toInt_lt y
  have h0 : y.toInt ≠ 0 := fun z => hy (by rw [← e2, z]; rfl)
  have hd : x / y = Int64.ofInt (x.toInt.tdiv y.toInt) := by
    rw [Int64.ofInt_tdiv (by rw [Int64.toInt_minValue]; omega) (by rw [Int64.toInt_maxValue]; omega) (by rw [Int64.toInt_minValue]; omega) (by rw [Int64.toInt_maxValue]; omega), e1, e2]
  have hr : lbF 4 x y = Int64.ofInt (x.toInt.tmod y.toInt) := by
    show x - x / y * y = _
    rw [hd, Int.tmod_def, Int64.ofInt_sub, Int64.ofInt_mul, e1, e2, Int64.mul_comm]
  have hn : (x.toInt.tmod y.toInt).natAbs < y.toInt.natAbs := by
    rw [Int.natAbs_tmod]
    exact Nat.mod_lt _ (by omega)
  have ht : (Int64.ofInt (x.toInt.tmod y.toInt)).toInt = x.toInt.tmod y.toInt := Int64.toInt_ofInt_of_le (by omega) (by omega)
  rw [hr, ht]
  exact hn
theorem lg0 {y : Int64} : cdP 0 (lg_cmp y (Int64.ofInt 0)) 0 ↔ y = 0 := by
  have h := cdL_iff (x := 0) (a := y.toInt) (b := 0) (by have := Int64.le_toInt y; omega) (by have := Int64.toInt_lt y; omega) (by omega) (by omega)
  rw [Int64.ofInt_toInt, Int.sub_zero] at h
  rw [h]
  show y.toInt = 0 ↔ y = 0
  constructor
  · intro z
    rw [← Int64.ofInt_toInt y, z]
    rfl
  · intro z
    rw [z]
    rfl
theorem okvs_two {ad : Nat → Nat} {s1 s2 : SP3} : ∀ {vs : List Value}, okvs ad [s1, s2] vs → ∃ a b, vs = [a, b] ∧ okv ad s1 a ∧ okv ad s2 b
  | [], h => h.elim
  | [a], h => h.2.elim
  | [a, b], h => ⟨a, b, rfl, h.1, h.2.1⟩
  | a :: b :: c :: t, h => h.2.2.elim
section HAN
variable {l : Launch} {D : va_G} {tys : List (ClassId × FieldType)} {A : Nat → Prop}
theorem div_loop {ws : va_W} : ∀ (n : Nat) (x y : Int64), y.toInt.natAbs < n → (x ≠ 0 ∨ y ≠ 0) → V l D tys A 328 0 0 0 (fun r ws' => ws' = ws ∧ ∃ v : Int64, r = some (.long v) ∧ v ≠ 0) 0 0 6 [(4, .long x), (6, .long y)] [] ws
  | 0, x, y, h, _ => by omega
  | n + 1, x, y, h, hxy => by
    refine V_lload mi_328_6 (List.Mem.tail _ (List.Mem.head _)) ?_
    refine V_lpush mi_328_8 ?_
    refine V_lcmp mi_328_9 ?_
    refine V_if mi_328_10 (fun hz => ?_) (fun hz => ?_)
    · have hz := lg0.mp hz
      refine V_lload mi_328_31 (List.Mem.head _) ?_
      exact V_retL mi_328_33 ⟨rfl, x, rfl, hxy.resolve_right (fun q => q hz)⟩
    · have hz : y ≠ 0 := fun q => hz (lg0.mpr q)
      refine V_lload mi_328_13 (List.Mem.head _) ?_
      refine V_lload mi_328_15 (List.Mem.tail _ (List.Mem.head _)) ?_
      refine V_lbin mi_328_17 (fun _ => hz) ?_
      refine V_lstore mi_328_18 ?_
      refine V_lload (v := y) mi_328_20 (by simp [stL2, Value.category]) ?_
      refine V_lstore mi_328_22 ?_
      refine V_lload (v := lbF 4 x y) mi_328_24 (by simp [stL2, Value.category]) ?_
      refine V_lstore mi_328_26 ?_
      refine V_goto mi_328_28 ?_
      refine V_sub (lv' := [(4, .long y), (6, .long (lbF 4 x y))]) (fun q hq => ?_) (div_loop n y (lbF 4 x y) (by have := rem64 (x := x) hz; omega) (Or.inl hz))
      rcases List.mem_cons.mp hq with rfl | hq
      · simp [stL2, Value.category]
      · rw [List.mem_singleton.mp hq]
        simp [stL2, Value.category]
theorem HDiv_ok {ad : Nat → Nat} : T2OK l D tys A ad hDiv := by
  have key : ∀ (x y : Int64) (ws : va_W), y ≠ 0 → CT l D tys A 328 0 0 0 [.long x, .long y] ws (fun r ws' => ws' = ws ∧ (rtOK ad (some (1, 1, 9223372036854775807)) r ∨ rtOK ad (some (1, -9223372036854775808, -1)) r)) := by
    intro x y ws hy
    refine CT_post (CT_of_V (post := fun r ws' => ws' = ws ∧ ∃ v : Int64, r = some (.long v) ∧ v ≠ 0) (by omega) (show (4 : Nat) ≤ mML 328 by decide +kernel) ?_) ?_
    · refine V_lload (v := x) mi_328_0 (List.Mem.head _) ?_
      refine V_lstore mi_328_1 ?_
      refine V_lload (v := y) mi_328_3 (by simp [stL2, lv_args, Value.category]) ?_
      refine V_lstore mi_328_4 ?_
      refine V_sub (lv' := [(4, .long x), (6, .long y)]) (fun q hq => ?_) (div_loop (y.toInt.natAbs + 1) x y (by omega) (Or.inr hy))
      rcases List.mem_cons.mp hq with rfl | hq
      · simp [stL2, lv_args, Value.category]
      · rw [List.mem_singleton.mp hq]
        simp [stL2, lv_args, Value.category]
    · rintro r w ⟨h1, v, rfl, hv⟩
      have b1 := Int64.le_toInt v
      have b2 := Int64.toInt_lt v
      have h0 : v.toInt ≠ 0 := fun z => hv (by rw [← Int64.ofInt_toInt v, z]; rfl)
      refine ⟨h1, ?_⟩
      by_cases hp : 0 < v.toInt
      · exact Or.inl ⟨v.toInt, by rw [Int64.ofInt_toInt], by show (1 : Int) ≤ _; omega, by show _ ≤ (9223372036854775807 : Int); omega⟩
      · exact Or.inr ⟨v.toInt, by rw [Int64.ofInt_toInt], by show (-9223372036854775808 : Int) ≤ _; omega, by show _ ≤ (-1 : Int); omega⟩
  have nz : ∀ z : Int, z ≠ 0 → -9223372036854775808 ≤ z → z ≤ 9223372036854775807 → Int64.ofInt z ≠ 0 := by
    intro z h h1 h2 e
    have := congrArg Int64.toInt e
    rw [Int64.toInt_ofInt_of_le (by omega) (by omega)] at this
    exact h this
  intro q hq vs ws hv
  rcases List.mem_cons.mp hq with rfl | hq
  · obtain ⟨a, b, rfl, ⟨z1, rfl, -, -⟩, ⟨z2, rfl, h1, h2⟩⟩ := okvs_two hv
    · have h1 : (1 : Int) ≤ z2 := h1
      have h2 : z2 ≤ (9223372036854775807 : Int) := h2
      exact ⟨0, Nat.zero_lt_one, key _ _ _ (nz z2 (by omega) (by omega) (by omega))⟩
  · rw [List.mem_singleton.mp hq] at hv ⊢
    obtain ⟨a, b, rfl, ⟨z1, rfl, -, -⟩, ⟨z2, rfl, h1, h2⟩⟩ := okvs_two hv
    · have h1 : (-9223372036854775808 : Int) ≤ z2 := h1
      have h2 : z2 ≤ (-1 : Int) := h2
      exact ⟨0, Nat.zero_lt_one, key _ _ _ (nz z2 (by omega) (by omega) (by omega))⟩
end HAN
