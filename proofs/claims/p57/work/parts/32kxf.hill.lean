section XTF
variable {l : Launch} {D : va_G} {tys : List (ClassId × FieldType)} {A : Nat → Prop} {ad : Nat → Nat} {ws : va_W}
theorem tbN_all : (List.range 64).all (fun a => (List.range 6).all (fun j => tb (a : Nat) (j : Nat) == a.testBit j)) = true := by decide +kernel
theorem tb_n {a j : Nat} (ha : a < 64) (hj : j < 6) : tb (a : Int) (j : Int) = a.testBit j := by
  have q := List.all_eq_true.mp (List.all_eq_true.mp tbN_all a (List.mem_range.mpr ha)) j (List.mem_range.mpr hj)
  simpa using q
theorem nat63 {a : Int} (h : 0 ≤ a ∧ a ≤ 63) : ∃ m : Nat, m < 64 ∧ a = (m : Int) := ⟨a.toNat, by omega, by omega⟩
theorem tb_ext {a b : Int} (ha : 0 ≤ a ∧ a ≤ 63) (hb : 0 ≤ b ∧ b ≤ 63) (h : ∀ j : Nat, j < 6 → tb a (j : Int) = tb b (j : Int)) : a = b := by
  obtain ⟨m, hm, rfl⟩ := nat63 ha
  obtain ⟨n, hn, rfl⟩ := nat63 hb
  have e : m = n := Nat.eq_of_testBit_eq (fun j => by
    by_cases hj : j < 6
    · have q := h j hj
      rw [tb_n hm hj, tb_n hn hj] at q
      exact q
    · have p6 : 2 ^ 6 ≤ 2 ^ j := Nat.pow_le_pow_right (by omega) (by omega)
      rw [Nat.testBit_lt_two_pow (Nat.lt_of_lt_of_le hm p6), Nat.testBit_lt_two_pow (Nat.lt_of_lt_of_le hn p6)])
  rw [e]
end XTF
