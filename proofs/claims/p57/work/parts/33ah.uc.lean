section UCS7
variable {l : Launch} {D : va_G} {tys : List (ClassId × FieldType)} {A : Nat → Prop} {ad : Nat → Nat} {ws : va_W}
theorem u_M52 (hAD : ∀ i : Nat, ad (1000 + i) = D.2 1000 i) (hG : GOK ad tys GG ws) (a1 : Int32) : UCP l D tys A ad 325 [.ref (ad 90), .int a1] ws 0 := by
  have l1 := Int32.le_toInt a1
  have u1 := Int32.toInt_lt a1
  obtain ⟨z91_0, hz91_0, zl91_0, zu91_0⟩ := cell_bd (c := 91) (j := 0) hG rfl (by omega) (show segAt _ 0 = some (0, 0, 9) by decide +kernel)
  rcases (show a1.toInt ≤ 3 ∨ 4 ≤ a1.toInt by omega) with h | h
  · rcases (show a1.toInt ≤ 1 ∨ 2 ≤ a1.toInt by omega) with h | h
    · rcases (show a1.toInt ≤ 0 ∨ a1.toInt = 1 by omega) with h | h
      · rcases (show z91_0 = 0 ∨ (1 ≤ z91_0 ∧ z91_0 ≤ 9) by omega) with h | h
        · exact uc_i (r515 hAD) rfl (by omega) ⟨rfl, ok_int (by omega) (by omega), trivial⟩ hG (pre_one hz91_0 (by omega) (by omega)) rfl rfl
        · exact uc_i (r516 hAD) rfl (by omega) ⟨rfl, ok_int (by omega) (by omega), trivial⟩ hG (pre_one hz91_0 (by omega) (by omega)) rfl rfl
      · rcases (show z91_0 = 0 ∨ (1 ≤ z91_0 ∧ z91_0 ≤ 9) by omega) with h | h
        · exact uc_i (r519 hAD) rfl (by omega) ⟨rfl, ok_int (by omega) (by omega), trivial⟩ hG (pre_one hz91_0 (by omega) (by omega)) rfl rfl
        · exact uc_i (r522 hAD) rfl (by omega) ⟨rfl, ok_int (by omega) (by omega), trivial⟩ hG (pre_one hz91_0 (by omega) (by omega)) rfl rfl
    · rcases (show a1.toInt = 2 ∨ a1.toInt = 3 by omega) with h | h
      · rcases (show z91_0 = 0 ∨ (1 ≤ z91_0 ∧ z91_0 ≤ 9) by omega) with h | h
        · exact uc_i (r523 hAD) rfl (by omega) ⟨rfl, ok_int (by omega) (by omega), trivial⟩ hG (pre_one hz91_0 (by omega) (by omega)) rfl rfl
        · exact uc_i (r524 hAD) rfl (by omega) ⟨rfl, ok_int (by omega) (by omega), trivial⟩ hG (pre_one hz91_0 (by omega) (by omega)) rfl rfl
      · rcases (show z91_0 = 0 ∨ (1 ≤ z91_0 ∧ z91_0 ≤ 9) by omega) with h | h
        · exact uc_i (r525 hAD) rfl (by omega) ⟨rfl, ok_int (by omega) (by omega), trivial⟩ hG (pre_one hz91_0 (by omega) (by omega)) rfl rfl
        · exact uc_i (r526 hAD) rfl (by omega) ⟨rfl, ok_int (by omega) (by omega), trivial⟩ hG (pre_one hz91_0 (by omega) (by omega)) rfl rfl
  · rcases (show a1.toInt ≤ 5 ∨ 6 ≤ a1.toInt by omega) with h | h
    · rcases (show a1.toInt = 4 ∨ a1.toInt = 5 by omega) with h | h
      · rcases (show z91_0 = 0 ∨ (1 ≤ z91_0 ∧ z91_0 ≤ 9) by omega) with h | h
        · exact uc_i (r527 hAD) rfl (by omega) ⟨rfl, ok_int (by omega) (by omega), trivial⟩ hG (pre_one hz91_0 (by omega) (by omega)) rfl rfl
        · exact uc_i (r528 hAD) rfl (by omega) ⟨rfl, ok_int (by omega) (by omega), trivial⟩ hG (pre_one hz91_0 (by omega) (by omega)) rfl rfl
      · rcases (show z91_0 = 0 ∨ (1 ≤ z91_0 ∧ z91_0 ≤ 9) by omega) with h | h
        · exact uc_i (r529 hAD) rfl (by omega) ⟨rfl, ok_int (by omega) (by omega), trivial⟩ hG (pre_one hz91_0 (by omega) (by omega)) rfl rfl
        · exact uc_i (r530 hAD) rfl (by omega) ⟨rfl, ok_int (by omega) (by omega), trivial⟩ hG (pre_one hz91_0 (by omega) (by omega)) rfl rfl
    · rcases (show a1.toInt = 6 ∨ 7 ≤ a1.toInt by omega) with h | h
      · rcases (show z91_0 = 0 ∨ (1 ≤ z91_0 ∧ z91_0 ≤ 9) by omega) with h | h
        · exact uc_i (r531 hAD) rfl (by omega) ⟨rfl, ok_int (by omega) (by omega), trivial⟩ hG (pre_one hz91_0 (by omega) (by omega)) rfl rfl
        · exact uc_i (r532 hAD) rfl (by omega) ⟨rfl, ok_int (by omega) (by omega), trivial⟩ hG (pre_one hz91_0 (by omega) (by omega)) rfl rfl
      · rcases (show z91_0 = 0 ∨ (1 ≤ z91_0 ∧ z91_0 ≤ 9) by omega) with h | h
        · exact uc_i (r517 hAD) rfl (by omega) ⟨rfl, ok_int (by omega) (by omega), trivial⟩ hG (pre_one hz91_0 (by omega) (by omega)) rfl rfl
        · exact uc_i (r518 hAD) rfl (by omega) ⟨rfl, ok_int (by omega) (by omega), trivial⟩ hG (pre_one hz91_0 (by omega) (by omega)) rfl rfl
theorem u_X53 (hAD : ∀ i : Nat, ad (1000 + i) = D.2 1000 i) (hG : GOK ad tys GG ws) (a1 : Int32) : UCP l D tys A ad 61 [.ref (ad 0), .int a1] ws 0 := by
  have l1 := Int32.le_toInt a1
  have u1 := Int32.toInt_lt a1
  exact uc_i (r539 hAD) rfl (by omega) ⟨rfl, ok_full, trivial⟩ hG (fun q hq => by cases hq) rfl rfl
theorem u_M53 (hAD : ∀ i : Nat, ad (1000 + i) = D.2 1000 i) (hG : GOK ad tys GG ws) (a1 : Int32) : UCP l D tys A ad 326 [.ref (ad 90), .int a1] ws 0 := by
  have l1 := Int32.le_toInt a1
  have u1 := Int32.toInt_lt a1
  obtain ⟨z91_0, hz91_0, zl91_0, zu91_0⟩ := cell_bd (c := 91) (j := 0) hG rfl (by omega) (show segAt _ 0 = some (0, 0, 9) by decide +kernel)
  rcases (show z91_0 = 0 ∨ (1 ≤ z91_0 ∧ z91_0 ≤ 9) by omega) with h | h
  · exact uc_i (r541 hAD) rfl (by omega) ⟨rfl, ok_full, trivial⟩ hG (pre_one hz91_0 (by omega) (by omega)) rfl rfl
  · exact uc_i (r544 hAD) rfl (by omega) ⟨rfl, ok_full, trivial⟩ hG (pre_one hz91_0 (by omega) (by omega)) rfl rfl
theorem u_X54 (hAD : ∀ i : Nat, ad (1000 + i) = D.2 1000 i) (hG : GOK ad tys GG ws) (a1 : Int32) : UCP l D tys A ad 31 [.ref (ad 0), .int a1] ws 0 := by
  have l1 := Int32.le_toInt a1
  have u1 := Int32.toInt_lt a1
  exact uc_i (r545 hAD) rfl (by omega) ⟨rfl, ok_full, trivial⟩ hG (fun q hq => by cases hq) rfl rfl
theorem u_M54 (hAD : ∀ i : Nat, ad (1000 + i) = D.2 1000 i) (hG : GOK ad tys GG ws) (a1 : Int32) : UCP l D tys A ad 275 [.ref (ad 90), .int a1] ws 0 := by
  have l1 := Int32.le_toInt a1
  have u1 := Int32.toInt_lt a1
  exact uc_i (r546 hAD) rfl (by omega) ⟨rfl, ok_full, trivial⟩ hG (fun q hq => by cases hq) rfl rfl
theorem u_X56 (hAD : ∀ i : Nat, ad (1000 + i) = D.2 1000 i) (hG : GOK ad tys GG ws) (a1 : Int32) (a2 : Int32) (a3 : Int32) : UCP l D tys A ad 64 [.ref (ad 0), .int a1, .int a2, .int a3] ws 0 := by
  have l1 := Int32.le_toInt a1
  have u1 := Int32.toInt_lt a1
  have l2 := Int32.le_toInt a2
  have u2 := Int32.toInt_lt a2
  have l3 := Int32.le_toInt a3
  have u3 := Int32.toInt_lt a3
  exact uc_i (r559 hAD) rfl (by omega) ⟨rfl, ok_full, ok_full, ok_full, trivial⟩ hG (fun q hq => by cases hq) rfl rfl
theorem u_M56 (hAD : ∀ i : Nat, ad (1000 + i) = D.2 1000 i) (hG : GOK ad tys GG ws) (hz : Z0 ws) (a1 : Int32) (a2 : Int32) (a3 : Int32) : UCP l D tys A ad 333 [.ref (ad 90), .int a1, .int a2, .int a3] ws 0 := by
  have l1 := Int32.le_toInt a1
  have u1 := Int32.toInt_lt a1
  have l2 := Int32.le_toInt a2
  have u2 := Int32.toInt_lt a2
  have l3 := Int32.le_toInt a3
  have u3 := Int32.toInt_lt a3
  exact uc_iz (r560 hAD) rfl (by omega) ⟨rfl, ok_full, ok_full, ok_full, trivial⟩ hG (Z0_pre hz) rfl rfl rfl
theorem u_X57 (hAD : ∀ i : Nat, ad (1000 + i) = D.2 1000 i) (hG : GOK ad tys GG ws) (a1 : Int32) (a2 : Int32) (a3 : Int32) (a4 : Int32) : UCP l D tys A ad 65 [.ref (ad 0), .int a1, .int a2, .int a3, .int a4] ws 0 := by
  have l1 := Int32.le_toInt a1
  have u1 := Int32.toInt_lt a1
  have l2 := Int32.le_toInt a2
  have u2 := Int32.toInt_lt a2
  have l3 := Int32.le_toInt a3
  have u3 := Int32.toInt_lt a3
  have l4 := Int32.le_toInt a4
  have u4 := Int32.toInt_lt a4
  exact uc_i (r562 hAD) rfl (by omega) ⟨rfl, ok_full, ok_full, ok_full, ok_full, trivial⟩ hG (fun q hq => by cases hq) rfl rfl
theorem u_M57 (hAD : ∀ i : Nat, ad (1000 + i) = D.2 1000 i) (hG : GOK ad tys GG ws) (hz : Z0 ws) (a1 : Int32) (a2 : Int32) (a3 : Int32) (a4 : Int32) : UCP l D tys A ad 334 [.ref (ad 90), .int a1, .int a2, .int a3, .int a4] ws 0 := by
  have l1 := Int32.le_toInt a1
  have u1 := Int32.toInt_lt a1
  have l2 := Int32.le_toInt a2
  have u2 := Int32.toInt_lt a2
  have l3 := Int32.le_toInt a3
  have u3 := Int32.toInt_lt a3
  have l4 := Int32.le_toInt a4
  have u4 := Int32.toInt_lt a4
  exact uc_iz (r563 hAD) rfl (by omega) ⟨rfl, ok_full, ok_full, ok_full, ok_full, trivial⟩ hG (Z0_pre hz) rfl rfl rfl
theorem u_X59 (hAD : ∀ i : Nat, ad (1000 + i) = D.2 1000 i) (hG : GOK ad tys GG ws) (a1 : Int32) : UCP l D tys A ad 66 [.ref (ad 0), .int a1] ws 0 := by
  have l1 := Int32.le_toInt a1
  have u1 := Int32.toInt_lt a1
  exact uc_i (r567 hAD) rfl (by omega) ⟨rfl, ok_full, trivial⟩ hG (fun q hq => by cases hq) rfl rfl
theorem u_M59 (hAD : ∀ i : Nat, ad (1000 + i) = D.2 1000 i) (hG : GOK ad tys GG ws) (a1 : Int32) : UCP l D tys A ad 335 [.ref (ad 90), .int a1] ws 0 := by
  have l1 := Int32.le_toInt a1
  have u1 := Int32.toInt_lt a1
  exact uc_i (r568 hAD) rfl (by omega) ⟨rfl, ok_full, trivial⟩ hG (fun q hq => by cases hq) rfl rfl
end UCS7
