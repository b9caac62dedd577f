section XVH
variable {l : Launch} {D : va_G} {tys : List (ClassId × FieldType)} {A : Nat → Prop} {ad : Nat → Nat} {ws : va_W}
theorem tb_bit : (List.range 64).all (fun a => (List.range 6).all (fun i => (List.range 6).all (fun j => tb (bitO (a : Nat) (i : Nat)) (j : Nat) == (decide (j = i) || tb (a : Nat) (j : Nat))))) = true := by decide +kernel
theorem tb_bo {a : Int} {i j : Nat} (a0 : 0 ≤ a) (a1 : a ≤ 63) (hi : i < 6) (hj : j < 6) : tb (bitO a (i : Int)) (j : Int) = (decide (j = i) || tb a (j : Int)) := by
  have h := List.all_eq_true.mp (List.all_eq_true.mp (List.all_eq_true.mp tb_bit a.toNat (List.mem_range.mpr (by omega))) i (List.mem_range.mpr hi)) j (List.mem_range.mpr hj)
  rw [Int.toNat_of_nonneg a0] at h
  exact eq_of_beq h
theorem tb_z : (List.range 6).all (fun j => tb 0 (j : Nat) == false) = true := by decide +kernel
theorem tb_orI {P : Nat → Bool} {j : Nat} (hj : j < 6) : ∀ n : Nat, n ≤ 6 → tb (orI P n) (j : Int) = (decide (j < n) && P j)
  | 0, _ => eq_of_beq (List.all_eq_true.mp tb_z j (List.mem_range.mpr hj))
  | n + 1, hn => by
    have b := orI_bd (P := P) (f := n) (by omega)
    have ih := tb_orI (P := P) hj n (by omega)
    cases e : P n
    · rw [orI_s0 e, ih]
      by_cases q : j = n
      · rw [q, e, Bool.and_false, Bool.and_false]
      · rw [show decide (j < n + 1) = decide (j < n) from decide_eq_decide.mpr (by omega)]
    · rw [orI_s1 e, tb_bo b.1 b.2 (by omega) hj, ih]
      by_cases q : j = n
      · rw [q, e, decide_eq_true rfl, Bool.true_or, show decide (n < n + 1) = true from decide_eq_true (by omega)]
        rfl
      · rw [decide_eq_false q, Bool.false_or, show decide (j < n + 1) = decide (j < n) from decide_eq_decide.mpr (by omega)]
/-- how many bits of the first n -/
noncomputable def bcS (a : Int) : Nat → Int
  | 0 => 0
  | n + 1 => bcS a n + (if tb a (n : Int) = true then 1 else 0)
theorem all_i (n : Int) : some (Value.int (ibF 1 (ibF 8 (Int32.ofInt (1)) (Int32.ofInt (n))) (Int32.ofInt (1)))) = some (.int (Int32.ofInt (allV n))) := by
  unfold allV
  rw [Int32.ofInt_toInt]
theorem evy_ct {G : Nat → Int} (hG : GOK ad tys GG ws) (hX : HX 4 G ws) (hB : HB G) : CT l D tys A 109 0 0 0 [.ref (ad 4)] ws (fun r w => w = ws ∧ r = some (.int (Int32.ofInt (allV (G 3))))) := by
  refine CT_of_V (by omega) (show (1 : Nat) ≤ mML 109 by decide +kernel) ?_
  refine V_ipush mi_109_0 ?_
  refine V_aload (v := ad 4) mi_109_1 (by simp [stL, lv_args, Value.category]) ?_
  refine V_gO mi_109_2 g4o hG (show rd _ 4 4 = some (.int (Int32.ofInt (G 3))) from hx0 hX (i := 4) (by omega)) ?_
  refine V_ibin mi_109_5 (by omega) ?_
  refine V_ipush mi_109_6 ?_
  refine V_ibin mi_109_7 (by omega) ?_
  exact V_retI mi_109_8 (fun h => absurd h (by decide +kernel)) ⟨rfl, all_i (G 3)⟩
/-- all but i -/
noncomputable def clB (t i : Int) : Int := (ibF 5 (Int32.ofInt t) (ibF 7 (ibF 8 (Int32.ofInt 1) (Int32.ofInt i)) (Int32.ofInt (-1)))).toInt
theorem clB_i (t i : Int) : ibF 5 (Int32.ofInt t) (ibF 7 (ibF 8 (Int32.ofInt 1) (Int32.ofInt i)) (Int32.ofInt (-1))) = Int32.ofInt (clB t i) := by
  unfold clB
  rw [Int32.ofInt_toInt]
theorem clB_all : (List.range 64).all (fun a => (List.range 6).all (fun i => decide (0 ≤ clB (a : Nat) (i : Nat) ∧ clB (a : Nat) (i : Nat) ≤ 63) && (tb (a : Nat) (i : Nat) || decide (clB (bitO (a : Nat) (i : Nat)) (i : Nat) = (a : Nat))) && (!(tb (a : Nat) (i : Nat)) || decide (bitO (clB (a : Nat) (i : Nat)) (i : Nat) = (a : Nat))) && decide (bcS (bitO (a : Nat) (i : Nat)) 6 = bcS (a : Nat) 6 + (if tb (a : Nat) (i : Nat) = true then 0 else 1)))) = true := by decide +kernel
theorem clB_k {a : Int} {i : Nat} (a0 : 0 ≤ a) (a1 : a ≤ 63) (hi : i < 6) : (0 ≤ clB a (i : Int) ∧ clB a (i : Int) ≤ 63) ∧ (tb a (i : Int) = false → clB (bitO a (i : Int)) (i : Int) = a) ∧ (tb a (i : Int) = true → bitO (clB a (i : Int)) (i : Int) = a) ∧ bcS (bitO a (i : Int)) 6 = bcS a 6 + (if tb a (i : Int) = true then 0 else 1) := by
  have q := List.all_eq_true.mp (List.all_eq_true.mp clB_all a.toNat (List.mem_range.mpr (by omega))) i (List.mem_range.mpr hi)
  rw [Int.toNat_of_nonneg a0, Bool.and_eq_true, Bool.and_eq_true, Bool.and_eq_true, decide_eq_true_eq, decide_eq_true_eq] at q
  obtain ⟨⟨⟨q1, q2⟩, q3⟩, q4⟩ := q
  refine ⟨q1, fun e => ?_, fun e => ?_, q4⟩
  · rw [e, Bool.false_or, decide_eq_true_eq] at q2
    exact q2
  · rw [e, Bool.not_true, Bool.false_or, decide_eq_true_eq] at q3
    exact q3
theorem clC_all : (List.range 64).all (fun a => (List.range 6).all (fun i => (List.range 6).all (fun j => (tb (clB (a : Nat) (i : Nat)) (j : Nat) == (tb (a : Nat) (j : Nat) && !(Nat.beq j i))) && (Nat.beq j i || decide (clB (bitO (a : Nat) (j : Nat)) (i : Nat) = bitO (clB (a : Nat) (i : Nat)) (j : Nat)))))) = true := by decide +kernel
theorem tbN_all : (List.range 64).all (fun a => (List.range 6).all (fun j => tb (a : Nat) (j : Nat) == a.testBit j)) = true := by decide +kernel
theorem tb_n {a j : Nat} (ha : a < 64) (hj : j < 6) : tb (a : Int) (j : Int) = a.testBit j := by
  have q := List.all_eq_true.mp (List.all_eq_true.mp tbN_all a (List.mem_range.mpr ha)) j (List.mem_range.mpr hj)
  simpa using q
theorem nat63 {a : Int} (h : 0 ≤ a ∧ a ≤ 63) : ∃ m : Nat, m < 64 ∧ a = (m : Int) := ⟨a.toNat, by omega, by omega⟩
theorem tb_ext {a b : Int} (ha : 0 ≤ a ∧ a ≤ 63) (hb : 0 ≤ b ∧ b ≤ 63) (h : ∀ j : Nat, j < 6 → tb a (j : Int) = tb b (j : Int)) : a = b := by
  obtain ⟨m, hm, rfl⟩ := nat63 ha
  obtain ⟨n, hn, rfl⟩ := nat63 hb
  have e : m = n := Nat.eq_of_testBit_eq (fun j => by
    by_cases hj : j < 6
    · have q := h j hj
      rw [tb_n hm hj, tb_n hn hj] at q
      exact q
    · have p6 : 2 ^ 6 ≤ 2 ^ j := Nat.pow_le_pow_right (by omega) (by omega)
      rw [Nat.testBit_lt_two_pow (Nat.lt_of_lt_of_le hm p6), Nat.testBit_lt_two_pow (Nat.lt_of_lt_of_le hn p6)])
  rw [e]
theorem orI_cg {P Q : Nat → Bool} : ∀ n : Nat, (∀ f, f < n → P f = Q f) → orI P n = orI Q n
  | 0, _ => rfl
  | n + 1, h => by
    unfold orI
    rw [orI_cg n (fun f hf => h f (by omega)), h n (by omega)]
theorem tb_cl {a : Int} {i j : Nat} (a0 : 0 ≤ a) (a1 : a ≤ 63) (hi : i < 6) (hj : j < 6) : tb (clB a (i : Int)) (j : Int) = (tb a (j : Int) && !(Nat.beq j i)) := by
  have q := List.all_eq_true.mp (List.all_eq_true.mp (List.all_eq_true.mp clC_all a.toNat (List.mem_range.mpr (by omega))) i (List.mem_range.mpr hi)) j (List.mem_range.mpr hj)
  rw [Int.toNat_of_nonneg a0, Bool.and_eq_true] at q
  simpa using q.1
/-- one who does not hear it is left out -/
theorem orI_cl {P Q : Nat → Bool} {i n : Nat} (hn : n ≤ 6) (hi : i < n) (h : ∀ f, f < n → Q f = (P f && !(Nat.beq f i))) : clB (orI P n) (i : Int) = orI Q n := by
  have bp := orI_bd (P := P) hn
  have bq := orI_bd (P := Q) hn
  refine tb_ext (clB_k (i := i) bp.1 bp.2 (by omega)).1 bq (fun j hj => ?_)
  rw [tb_cl bp.1 bp.2 (by omega) hj, tb_orI hj n hn, tb_orI hj n hn]
  by_cases c : j < n
  · rw [h j c, decide_eq_true c, Bool.true_and, Bool.true_and]
  · rw [decide_eq_false c, Bool.false_and, Bool.false_and, Bool.false_and]
end XVH
