section UCS4
variable {l : Launch} {D : va_G} {tys : List (ClassId × FieldType)} {A : Nat → Prop} {ad : Nat → Nat} {ws : va_W}
theorem u_M45 (hAD : ∀ i : Nat, ad (1000 + i) = D.2 1000 i) (hG : GOK ad tys GG ws) (a1 : Int32) : UCP l D tys A ad 308 [.ref (ad 90), .int a1] ws 0 := by
  have l1 := Int32.le_toInt a1
  have u1 := Int32.toInt_lt a1
  rcases (show a1.toInt ≤ (-1) ∨ (0 ≤ a1.toInt ∧ a1.toInt ≤ 3) ∨ 4 ≤ a1.toInt by omega) with h | h | h
  · exact uc_i (r270 hAD) rfl (by omega) ⟨rfl, ok_int (by omega) (by omega), trivial⟩ hG (fun q hq => by cases hq) rfl rfl
  · exact uc_i (r311 hAD) rfl (by omega) ⟨rfl, ok_int (by omega) (by omega), trivial⟩ hG (fun q hq => by cases hq) rfl rfl
  · exact uc_i (r272 hAD) rfl (by omega) ⟨rfl, ok_int (by omega) (by omega), trivial⟩ hG (fun q hq => by cases hq) rfl rfl
theorem u_X46 (hAD : ∀ i : Nat, ad (1000 + i) = D.2 1000 i) (hG : GOK ad tys GG ws) (a1 : Int32) (a2 : Int32) : UCP l D tys A ad 52 [.ref (ad 0), .int a1, .int a2] ws 0 := by
  have l1 := Int32.le_toInt a1
  have u1 := Int32.toInt_lt a1
  have l2 := Int32.le_toInt a2
  have u2 := Int32.toInt_lt a2
  rcases (show a1.toInt ≤ (-1) ∨ (0 ≤ a1.toInt ∧ a1.toInt ≤ 3) ∨ 4 ≤ a1.toInt by omega) with h | h | h
  · exact uc_i (r312 hAD) rfl (by omega) ⟨rfl, ok_int (by omega) (by omega), ok_full, trivial⟩ hG (fun q hq => by cases hq) rfl rfl
  · rcases (show a2.toInt ≤ 3 ∨ 4 ≤ a2.toInt by omega) with h | h
    · rcases (show a2.toInt ≤ 1 ∨ 2 ≤ a2.toInt by omega) with h | h
      · rcases (show a2.toInt ≤ 0 ∨ a2.toInt = 1 by omega) with h | h
        · exact uc_i (r314 hAD) rfl (by omega) ⟨rfl, ok_int (by omega) (by omega), ok_int (by omega) (by omega), trivial⟩ hG (fun q hq => by cases hq) rfl rfl
        · exact uc_i (r321 hAD) rfl (by omega) ⟨rfl, ok_int (by omega) (by omega), ok_int (by omega) (by omega), trivial⟩ hG (fun q hq => by cases hq) rfl rfl
      · rcases (show a2.toInt = 2 ∨ a2.toInt = 3 by omega) with h | h
        · exact uc_i (r323 hAD) rfl (by omega) ⟨rfl, ok_int (by omega) (by omega), ok_int (by omega) (by omega), trivial⟩ hG (fun q hq => by cases hq) rfl rfl
        · exact uc_i (r325 hAD) rfl (by omega) ⟨rfl, ok_int (by omega) (by omega), ok_int (by omega) (by omega), trivial⟩ hG (fun q hq => by cases hq) rfl rfl
    · rcases (show a2.toInt ≤ 5 ∨ 6 ≤ a2.toInt by omega) with h | h
      · rcases (show a2.toInt = 4 ∨ a2.toInt = 5 by omega) with h | h
        · exact uc_i (r327 hAD) rfl (by omega) ⟨rfl, ok_int (by omega) (by omega), ok_int (by omega) (by omega), trivial⟩ hG (fun q hq => by cases hq) rfl rfl
        · exact uc_i (r330 hAD) rfl (by omega) ⟨rfl, ok_int (by omega) (by omega), ok_int (by omega) (by omega), trivial⟩ hG (fun q hq => by cases hq) rfl rfl
      · rcases (show a2.toInt = 6 ∨ 7 ≤ a2.toInt by omega) with h | h
        · exact uc_i (r332 hAD) rfl (by omega) ⟨rfl, ok_int (by omega) (by omega), ok_int (by omega) (by omega), trivial⟩ hG (fun q hq => by cases hq) rfl rfl
        · exact uc_i (r315 hAD) rfl (by omega) ⟨rfl, ok_int (by omega) (by omega), ok_int (by omega) (by omega), trivial⟩ hG (fun q hq => by cases hq) rfl rfl
  · exact uc_i (r313 hAD) rfl (by omega) ⟨rfl, ok_int (by omega) (by omega), ok_full, trivial⟩ hG (fun q hq => by cases hq) rfl rfl
theorem u_M46 (hAD : ∀ i : Nat, ad (1000 + i) = D.2 1000 i) (hG : GOK ad tys GG ws) (a1 : Int32) (a2 : Int32) : UCP l D tys A ad 311 [.ref (ad 90), .int a1, .int a2] ws 0 := by
  have l1 := Int32.le_toInt a1
  have u1 := Int32.toInt_lt a1
  have l2 := Int32.le_toInt a2
  have u2 := Int32.toInt_lt a2
  obtain ⟨z91_0, hz91_0, zl91_0, zu91_0⟩ := cell_bd (c := 91) (j := 0) hG rfl (by omega) (show segAt _ 0 = some (0, 0, 9) by decide +kernel)
  rcases (show a1.toInt ≤ (-1) ∨ (0 ≤ a1.toInt ∧ a1.toInt ≤ 3) ∨ 4 ≤ a1.toInt by omega) with h | h | h
  · rcases (show z91_0 = 0 ∨ (1 ≤ z91_0 ∧ z91_0 ≤ 9) by omega) with h | h
    · exact uc_i (r335 hAD) rfl (by omega) ⟨rfl, ok_int (by omega) (by omega), ok_full, trivial⟩ hG (pre_one hz91_0 (by omega) (by omega)) rfl rfl
    · exact uc_i (r338 hAD) rfl (by omega) ⟨rfl, ok_int (by omega) (by omega), ok_full, trivial⟩ hG (pre_one hz91_0 (by omega) (by omega)) rfl rfl
  · rcases (show a2.toInt ≤ 3 ∨ 4 ≤ a2.toInt by omega) with h | h
    · rcases (show a2.toInt ≤ 1 ∨ 2 ≤ a2.toInt by omega) with h | h
      · rcases (show a2.toInt ≤ 0 ∨ a2.toInt = 1 by omega) with h | h
        · rcases (show z91_0 = 0 ∨ (1 ≤ z91_0 ∧ z91_0 ≤ 9) by omega) with h | h
          · exact uc_i (r346 hAD) rfl (by omega) ⟨rfl, ok_int (by omega) (by omega), ok_int (by omega) (by omega), trivial⟩ hG (pre_one hz91_0 (by omega) (by omega)) rfl rfl
          · exact uc_i (r348 hAD) rfl (by omega) ⟨rfl, ok_int (by omega) (by omega), ok_int (by omega) (by omega), trivial⟩ hG (pre_one hz91_0 (by omega) (by omega)) rfl rfl
        · rcases (show z91_0 = 0 ∨ (1 ≤ z91_0 ∧ z91_0 ≤ 9) by omega) with h | h
          · exact uc_i (r353 hAD) rfl (by omega) ⟨rfl, ok_int (by omega) (by omega), ok_int (by omega) (by omega), trivial⟩ hG (pre_one hz91_0 (by omega) (by omega)) rfl rfl
          · exact uc_i (r393 hAD) rfl (by omega) ⟨rfl, ok_int (by omega) (by omega), ok_int (by omega) (by omega), trivial⟩ hG (pre_one hz91_0 (by omega) (by omega)) rfl rfl
      · rcases (show a2.toInt = 2 ∨ a2.toInt = 3 by omega) with h | h
        · rcases (show z91_0 = 0 ∨ (1 ≤ z91_0 ∧ z91_0 ≤ 9) by omega) with h | h
          · exact uc_i (r395 hAD) rfl (by omega) ⟨rfl, ok_int (by omega) (by omega), ok_int (by omega) (by omega), trivial⟩ hG (pre_one hz91_0 (by omega) (by omega)) rfl rfl
          · exact uc_i (r398 hAD) rfl (by omega) ⟨rfl, ok_int (by omega) (by omega), ok_int (by omega) (by omega), trivial⟩ hG (pre_one hz91_0 (by omega) (by omega)) rfl rfl
        · rcases (show z91_0 = 0 ∨ (1 ≤ z91_0 ∧ z91_0 ≤ 9) by omega) with h | h
          · exact uc_i (r400 hAD) rfl (by omega) ⟨rfl, ok_int (by omega) (by omega), ok_int (by omega) (by omega), trivial⟩ hG (pre_one hz91_0 (by omega) (by omega)) rfl rfl
          · exact uc_i (r403 hAD) rfl (by omega) ⟨rfl, ok_int (by omega) (by omega), ok_int (by omega) (by omega), trivial⟩ hG (pre_one hz91_0 (by omega) (by omega)) rfl rfl
    · rcases (show a2.toInt ≤ 5 ∨ 6 ≤ a2.toInt by omega) with h | h
      · rcases (show a2.toInt = 4 ∨ a2.toInt = 5 by omega) with h | h
        · rcases (show z91_0 = 0 ∨ (1 ≤ z91_0 ∧ z91_0 ≤ 9) by omega) with h | h
          · exact uc_i (r405 hAD) rfl (by omega) ⟨rfl, ok_int (by omega) (by omega), ok_int (by omega) (by omega), trivial⟩ hG (pre_one hz91_0 (by omega) (by omega)) rfl rfl
          · exact uc_i (r408 hAD) rfl (by omega) ⟨rfl, ok_int (by omega) (by omega), ok_int (by omega) (by omega), trivial⟩ hG (pre_one hz91_0 (by omega) (by omega)) rfl rfl
        · rcases (show z91_0 = 0 ∨ (1 ≤ z91_0 ∧ z91_0 ≤ 9) by omega) with h | h
          · exact uc_i (r410 hAD) rfl (by omega) ⟨rfl, ok_int (by omega) (by omega), ok_int (by omega) (by omega), trivial⟩ hG (pre_one hz91_0 (by omega) (by omega)) rfl rfl
          · exact uc_i (r413 hAD) rfl (by omega) ⟨rfl, ok_int (by omega) (by omega), ok_int (by omega) (by omega), trivial⟩ hG (pre_one hz91_0 (by omega) (by omega)) rfl rfl
      · rcases (show a2.toInt = 6 ∨ 7 ≤ a2.toInt by omega) with h | h
        · rcases (show z91_0 = 0 ∨ (1 ≤ z91_0 ∧ z91_0 ≤ 9) by omega) with h | h
          · exact uc_i (r415 hAD) rfl (by omega) ⟨rfl, ok_int (by omega) (by omega), ok_int (by omega) (by omega), trivial⟩ hG (pre_one hz91_0 (by omega) (by omega)) rfl rfl
          · exact uc_i (r418 hAD) rfl (by omega) ⟨rfl, ok_int (by omega) (by omega), ok_int (by omega) (by omega), trivial⟩ hG (pre_one hz91_0 (by omega) (by omega)) rfl rfl
        · rcases (show z91_0 = 0 ∨ (1 ≤ z91_0 ∧ z91_0 ≤ 9) by omega) with h | h
          · exact uc_i (r349 hAD) rfl (by omega) ⟨rfl, ok_int (by omega) (by omega), ok_int (by omega) (by omega), trivial⟩ hG (pre_one hz91_0 (by omega) (by omega)) rfl rfl
          · exact uc_i (r350 hAD) rfl (by omega) ⟨rfl, ok_int (by omega) (by omega), ok_int (by omega) (by omega), trivial⟩ hG (pre_one hz91_0 (by omega) (by omega)) rfl rfl
  · rcases (show z91_0 = 0 ∨ (1 ≤ z91_0 ∧ z91_0 ≤ 9) by omega) with h | h
    · exact uc_i (r341 hAD) rfl (by omega) ⟨rfl, ok_int (by omega) (by omega), ok_full, trivial⟩ hG (pre_one hz91_0 (by omega) (by omega)) rfl rfl
    · exact uc_i (r344 hAD) rfl (by omega) ⟨rfl, ok_int (by omega) (by omega), ok_full, trivial⟩ hG (pre_one hz91_0 (by omega) (by omega)) rfl rfl
end UCS4
