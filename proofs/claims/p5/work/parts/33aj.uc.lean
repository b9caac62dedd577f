section UCS9
variable {l : Launch} {D : va_G} {tys : List (ClassId × FieldType)} {A : Nat → Prop} {ad : Nat → Nat} {ws : va_W}
theorem u_X58 (hAD : ∀ i : Nat, ad (1000 + i) = D.2 1000 i) (hG : GOK ad tys GG ws) (a1 : Int32) (a2 : Int32) (a3 : Int32) (a4 : Int32) : UCP l D tys A ad 44 [.ref (ad 0), .int a1, .int a2, .int a3, .int a4] ws 0 := by
  have l1 := Int32.le_toInt a1
  have u1 := Int32.toInt_lt a1
  have l2 := Int32.le_toInt a2
  have u2 := Int32.toInt_lt a2
  have l3 := Int32.le_toInt a3
  have u3 := Int32.toInt_lt a3
  have l4 := Int32.le_toInt a4
  have u4 := Int32.toInt_lt a4
  exact uc_i (r564 hAD) rfl (by omega) ⟨rfl, ok_full, ok_full, ok_full, ok_full, trivial⟩ hG (fun q hq => by cases hq) rfl rfl
theorem u_M58 (hAD : ∀ i : Nat, ad (1000 + i) = D.2 1000 i) (hG : GOK ad tys GG ws) (a1 : Int32) (a2 : Int32) (a3 : Int32) (a4 : Int32) : UCP l D tys A ad 294 [.ref (ad 90), .int a1, .int a2, .int a3, .int a4] ws 0 := by
  have l1 := Int32.le_toInt a1
  have u1 := Int32.toInt_lt a1
  have l2 := Int32.le_toInt a2
  have u2 := Int32.toInt_lt a2
  have l3 := Int32.le_toInt a3
  have u3 := Int32.toInt_lt a3
  have l4 := Int32.le_toInt a4
  have u4 := Int32.toInt_lt a4
  exact uc_i (r565 hAD) rfl (by omega) ⟨rfl, ok_full, ok_full, ok_full, ok_full, trivial⟩ hG (fun q hq => by cases hq) rfl rfl
theorem u_X59 (hAD : ∀ i : Nat, ad (1000 + i) = D.2 1000 i) (hG : GOK ad tys GG ws) (a1 : Int32) : UCP l D tys A ad 66 [.ref (ad 0), .int a1] ws 0 := by
  have l1 := Int32.le_toInt a1
  have u1 := Int32.toInt_lt a1
  exact uc_i (r567 hAD) rfl (by omega) ⟨rfl, ok_full, trivial⟩ hG (fun q hq => by cases hq) rfl rfl
theorem u_M59 (hAD : ∀ i : Nat, ad (1000 + i) = D.2 1000 i) (hG : GOK ad tys GG ws) (a1 : Int32) : UCP l D tys A ad 335 [.ref (ad 90), .int a1] ws 0 := by
  have l1 := Int32.le_toInt a1
  have u1 := Int32.toInt_lt a1
  exact uc_i (r568 hAD) rfl (by omega) ⟨rfl, ok_full, trivial⟩ hG (fun q hq => by cases hq) rfl rfl
theorem u_X60 (hAD : ∀ i : Nat, ad (1000 + i) = D.2 1000 i) (hG : GOK ad tys GG ws) (a1 : Int32) : UCP l D tys A ad 67 [.ref (ad 0), .int a1] ws 0 := by
  have l1 := Int32.le_toInt a1
  have u1 := Int32.toInt_lt a1
  rcases (show a1.toInt ≤ 0 ∨ 1 ≤ a1.toInt by omega) with h | h
  · rcases (show a1.toInt ≤ (-1) ∨ a1.toInt = 0 by omega) with h | h
    · exact uc_i (r569 hAD) rfl (by omega) ⟨rfl, ok_int (by omega) (by omega), trivial⟩ hG (fun q hq => by cases hq) rfl rfl
    · exact uc_i (r582 hAD) rfl (by omega) ⟨rfl, ok_int (by omega) (by omega), trivial⟩ hG (fun q hq => by cases hq) rfl rfl
  · rcases (show a1.toInt = 1 ∨ a1.toInt = 2 ∨ 3 ≤ a1.toInt by omega) with h | h | h
    · exact uc_i (r594 hAD) rfl (by omega) ⟨rfl, ok_int (by omega) (by omega), trivial⟩ hG (fun q hq => by cases hq) rfl rfl
    · exact uc_i (r606 hAD) rfl (by omega) ⟨rfl, ok_int (by omega) (by omega), trivial⟩ hG (fun q hq => by cases hq) rfl rfl
    · exact uc_i (r570 hAD) rfl (by omega) ⟨rfl, ok_int (by omega) (by omega), trivial⟩ hG (fun q hq => by cases hq) rfl rfl
theorem u_M60 (hAD : ∀ i : Nat, ad (1000 + i) = D.2 1000 i) (hG : GOK ad tys GG ws) (a1 : Int32) : UCP l D tys A ad 196 [.ref (ad 90), .int a1] ws 0 := by
  have l1 := Int32.le_toInt a1
  have u1 := Int32.toInt_lt a1
  rcases (show a1.toInt ≤ 0 ∨ 1 ≤ a1.toInt by omega) with h | h
  · rcases (show a1.toInt ≤ (-1) ∨ a1.toInt = 0 by omega) with h | h
    · exact uc_i (r607 hAD) rfl (by omega) ⟨rfl, ok_int (by omega) (by omega), trivial⟩ hG (fun q hq => by cases hq) rfl rfl
    · exact uc_i (r609 hAD) rfl (by omega) ⟨rfl, ok_int (by omega) (by omega), trivial⟩ hG (fun q hq => by cases hq) rfl rfl
  · rcases (show a1.toInt = 1 ∨ a1.toInt = 2 ∨ 3 ≤ a1.toInt by omega) with h | h | h
    · exact uc_i (r610 hAD) rfl (by omega) ⟨rfl, ok_int (by omega) (by omega), trivial⟩ hG (fun q hq => by cases hq) rfl rfl
    · exact uc_i (r611 hAD) rfl (by omega) ⟨rfl, ok_int (by omega) (by omega), trivial⟩ hG (fun q hq => by cases hq) rfl rfl
    · exact uc_i (r608 hAD) rfl (by omega) ⟨rfl, ok_int (by omega) (by omega), trivial⟩ hG (fun q hq => by cases hq) rfl rfl
theorem u_X61 (hAD : ∀ i : Nat, ad (1000 + i) = D.2 1000 i) (hG : GOK ad tys GG ws) (a1 : Int32) : UCP l D tys A ad 68 [.ref (ad 0), .int a1] ws 0 := by
  have l1 := Int32.le_toInt a1
  have u1 := Int32.toInt_lt a1
  rcases (show a1.toInt ≤ 0 ∨ 1 ≤ a1.toInt by omega) with h | h
  · rcases (show a1.toInt ≤ (-1) ∨ a1.toInt = 0 by omega) with h | h
    · exact uc_i (r612 hAD) rfl (by omega) ⟨rfl, ok_int (by omega) (by omega), trivial⟩ hG (fun q hq => by cases hq) rfl rfl
    · exact uc_i (r625 hAD) rfl (by omega) ⟨rfl, ok_int (by omega) (by omega), trivial⟩ hG (fun q hq => by cases hq) rfl rfl
  · rcases (show a1.toInt = 1 ∨ a1.toInt = 2 ∨ 3 ≤ a1.toInt by omega) with h | h | h
    · exact uc_i (r637 hAD) rfl (by omega) ⟨rfl, ok_int (by omega) (by omega), trivial⟩ hG (fun q hq => by cases hq) rfl rfl
    · exact uc_i (r649 hAD) rfl (by omega) ⟨rfl, ok_int (by omega) (by omega), trivial⟩ hG (fun q hq => by cases hq) rfl rfl
    · exact uc_i (r613 hAD) rfl (by omega) ⟨rfl, ok_int (by omega) (by omega), trivial⟩ hG (fun q hq => by cases hq) rfl rfl
theorem u_M61 (hAD : ∀ i : Nat, ad (1000 + i) = D.2 1000 i) (hG : GOK ad tys GG ws) (a1 : Int32) : UCP l D tys A ad 197 [.ref (ad 90), .int a1] ws 0 := by
  have l1 := Int32.le_toInt a1
  have u1 := Int32.toInt_lt a1
  rcases (show a1.toInt ≤ 0 ∨ 1 ≤ a1.toInt by omega) with h | h
  · rcases (show a1.toInt ≤ (-1) ∨ a1.toInt = 0 by omega) with h | h
    · exact uc_i (r650 hAD) rfl (by omega) ⟨rfl, ok_int (by omega) (by omega), trivial⟩ hG (fun q hq => by cases hq) rfl rfl
    · exact uc_i (r652 hAD) rfl (by omega) ⟨rfl, ok_int (by omega) (by omega), trivial⟩ hG (fun q hq => by cases hq) rfl rfl
  · rcases (show a1.toInt = 1 ∨ a1.toInt = 2 ∨ 3 ≤ a1.toInt by omega) with h | h | h
    · exact uc_i (r653 hAD) rfl (by omega) ⟨rfl, ok_int (by omega) (by omega), trivial⟩ hG (fun q hq => by cases hq) rfl rfl
    · exact uc_i (r654 hAD) rfl (by omega) ⟨rfl, ok_int (by omega) (by omega), trivial⟩ hG (fun q hq => by cases hq) rfl rfl
    · exact uc_i (r651 hAD) rfl (by omega) ⟨rfl, ok_int (by omega) (by omega), trivial⟩ hG (fun q hq => by cases hq) rfl rfl
theorem u_X62 (hAD : ∀ i : Nat, ad (1000 + i) = D.2 1000 i) (hG : GOK ad tys GG ws) (a1 : Int32) (a2 : Int32) (a3 : Int32) : UCP l D tys A ad 70 [.ref (ad 0), .int a1, .int a2, .int a3] ws 0 := by
  have l1 := Int32.le_toInt a1
  have u1 := Int32.toInt_lt a1
  have l2 := Int32.le_toInt a2
  have u2 := Int32.toInt_lt a2
  have l3 := Int32.le_toInt a3
  have u3 := Int32.toInt_lt a3
  rcases (show a1.toInt ≤ (-1) ∨ (0 ≤ a1.toInt ∧ a1.toInt ≤ 3) ∨ 4 ≤ a1.toInt by omega) with h | h | h
  · exact uc_i (r655 hAD) rfl (by omega) ⟨rfl, ok_int (by omega) (by omega), ok_full, ok_full, trivial⟩ hG (fun q hq => by cases hq) rfl rfl
  · rcases (show a2.toInt ≤ (-1) ∨ (0 ≤ a2.toInt ∧ a2.toInt ≤ 3) ∨ 4 ≤ a2.toInt by omega) with h | h | h
    · exact uc_i (r657 hAD) rfl (by omega) ⟨rfl, ok_int (by omega) (by omega), ok_int (by omega) (by omega), ok_full, trivial⟩ hG (fun q hq => by cases hq) rfl rfl
    · rcases (show a3.toInt ≤ (-1) ∨ (0 ≤ a3.toInt ∧ a3.toInt ≤ 60) ∨ 61 ≤ a3.toInt by omega) with h | h | h
      · exact uc_i (r660 hAD) rfl (by omega) ⟨rfl, ok_int (by omega) (by omega), ok_int (by omega) (by omega), ok_int (by omega) (by omega), trivial⟩ hG (fun q hq => by cases hq) rfl rfl
      · exact uc_i (r663 hAD) rfl (by omega) ⟨rfl, ok_int (by omega) (by omega), ok_int (by omega) (by omega), ok_int (by omega) (by omega), trivial⟩ hG (fun q hq => by cases hq) rfl rfl
      · exact uc_i (r659 hAD) rfl (by omega) ⟨rfl, ok_int (by omega) (by omega), ok_int (by omega) (by omega), ok_int (by omega) (by omega), trivial⟩ hG (fun q hq => by cases hq) rfl rfl
    · exact uc_i (r658 hAD) rfl (by omega) ⟨rfl, ok_int (by omega) (by omega), ok_int (by omega) (by omega), ok_full, trivial⟩ hG (fun q hq => by cases hq) rfl rfl
  · exact uc_i (r656 hAD) rfl (by omega) ⟨rfl, ok_int (by omega) (by omega), ok_full, ok_full, trivial⟩ hG (fun q hq => by cases hq) rfl rfl
end UCS9
