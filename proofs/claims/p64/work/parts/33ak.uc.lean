section UCS10
variable {l : Launch} {D : va_G} {tys : List (ClassId × FieldType)} {A : Nat → Prop} {ad : Nat → Nat} {ws : va_W}
theorem u_X64 (hAD : ∀ i : Nat, ad (1000 + i) = D.2 1000 i) (hG : GOK ad tys GG ws) (a1 : Int32) (a2 : Int32) (a3 : Int32) (a4 : Int32) (a5 : Int32) : UCP l D tys A ad 72 [.ref (ad 0), .int a1, .int a2, .int a3, .int a4, .int a5] ws 0 := by
  have l1 := Int32.le_toInt a1
  have u1 := Int32.toInt_lt a1
  have l2 := Int32.le_toInt a2
  have u2 := Int32.toInt_lt a2
  have l3 := Int32.le_toInt a3
  have u3 := Int32.toInt_lt a3
  have l4 := Int32.le_toInt a4
  have u4 := Int32.toInt_lt a4
  have l5 := Int32.le_toInt a5
  have u5 := Int32.toInt_lt a5
  rcases (show a1.toInt ≤ (-1) ∨ (0 ≤ a1.toInt ∧ a1.toInt ≤ 3) ∨ 4 ≤ a1.toInt by omega) with h | h | h
  · exact uc_i (r678 hAD) rfl (by omega) ⟨rfl, ok_int (by omega) (by omega), ok_full, ok_full, ok_full, ok_full, trivial⟩ hG (fun q hq => by cases hq) rfl rfl
  · rcases (show a3.toInt ≤ (-1) ∨ (0 ≤ a3.toInt ∧ a3.toInt ≤ 3) ∨ 4 ≤ a3.toInt by omega) with h | h | h
    · exact uc_i (r680 hAD) rfl (by omega) ⟨rfl, ok_int (by omega) (by omega), ok_full, ok_int (by omega) (by omega), ok_full, ok_full, trivial⟩ hG (fun q hq => by cases hq) rfl rfl
    · rcases (show a5.toInt ≤ 29 ∨ 30 ≤ a5.toInt by omega) with h | h
      · rcases (show a5.toInt ≤ 13 ∨ 14 ≤ a5.toInt by omega) with h | h
        · rcases (show a5.toInt ≤ 5 ∨ 6 ≤ a5.toInt by omega) with h | h
          · rcases (show a5.toInt ≤ 1 ∨ 2 ≤ a5.toInt by omega) with h | h
            · rcases (show a5.toInt ≤ (-1) ∨ a5.toInt = 0 ∨ a5.toInt = 1 by omega) with h | h | h
              · exact uc_i (r682 hAD) rfl (by omega) ⟨rfl, ok_int (by omega) (by omega), ok_full, ok_int (by omega) (by omega), ok_full, ok_int (by omega) (by omega), trivial⟩ hG (fun q hq => by cases hq) rfl rfl
              · exact uc_i (r685 hAD) rfl (by omega) ⟨rfl, ok_int (by omega) (by omega), ok_full, ok_int (by omega) (by omega), ok_full, ok_int (by omega) (by omega), trivial⟩ hG (fun q hq => by cases hq) rfl rfl
              · exact uc_i (r687 hAD) rfl (by omega) ⟨rfl, ok_int (by omega) (by omega), ok_full, ok_int (by omega) (by omega), ok_full, ok_int (by omega) (by omega), trivial⟩ hG (fun q hq => by cases hq) rfl rfl
            · rcases (show a5.toInt ≤ 3 ∨ 4 ≤ a5.toInt by omega) with h | h
              · rcases (show a5.toInt = 2 ∨ a5.toInt = 3 by omega) with h | h
                · exact uc_i (r689 hAD) rfl (by omega) ⟨rfl, ok_int (by omega) (by omega), ok_full, ok_int (by omega) (by omega), ok_full, ok_int (by omega) (by omega), trivial⟩ hG (fun q hq => by cases hq) rfl rfl
                · exact uc_i (r691 hAD) rfl (by omega) ⟨rfl, ok_int (by omega) (by omega), ok_full, ok_int (by omega) (by omega), ok_full, ok_int (by omega) (by omega), trivial⟩ hG (fun q hq => by cases hq) rfl rfl
              · rcases (show a5.toInt = 4 ∨ a5.toInt = 5 by omega) with h | h
                · exact uc_i (r693 hAD) rfl (by omega) ⟨rfl, ok_int (by omega) (by omega), ok_full, ok_int (by omega) (by omega), ok_full, ok_int (by omega) (by omega), trivial⟩ hG (fun q hq => by cases hq) rfl rfl
                · exact uc_i (r695 hAD) rfl (by omega) ⟨rfl, ok_int (by omega) (by omega), ok_full, ok_int (by omega) (by omega), ok_full, ok_int (by omega) (by omega), trivial⟩ hG (fun q hq => by cases hq) rfl rfl
          · rcases (show a5.toInt ≤ 9 ∨ 10 ≤ a5.toInt by omega) with h | h
            · rcases (show a5.toInt ≤ 7 ∨ 8 ≤ a5.toInt by omega) with h | h
              · rcases (show a5.toInt = 6 ∨ a5.toInt = 7 by omega) with h | h
                · exact uc_i (r697 hAD) rfl (by omega) ⟨rfl, ok_int (by omega) (by omega), ok_full, ok_int (by omega) (by omega), ok_full, ok_int (by omega) (by omega), trivial⟩ hG (fun q hq => by cases hq) rfl rfl
                · exact uc_i (r699 hAD) rfl (by omega) ⟨rfl, ok_int (by omega) (by omega), ok_full, ok_int (by omega) (by omega), ok_full, ok_int (by omega) (by omega), trivial⟩ hG (fun q hq => by cases hq) rfl rfl
              · rcases (show a5.toInt = 8 ∨ a5.toInt = 9 by omega) with h | h
                · exact uc_i (r701 hAD) rfl (by omega) ⟨rfl, ok_int (by omega) (by omega), ok_full, ok_int (by omega) (by omega), ok_full, ok_int (by omega) (by omega), trivial⟩ hG (fun q hq => by cases hq) rfl rfl
                · exact uc_i (r703 hAD) rfl (by omega) ⟨rfl, ok_int (by omega) (by omega), ok_full, ok_int (by omega) (by omega), ok_full, ok_int (by omega) (by omega), trivial⟩ hG (fun q hq => by cases hq) rfl rfl
            · rcases (show a5.toInt ≤ 11 ∨ 12 ≤ a5.toInt by omega) with h | h
              · rcases (show a5.toInt = 10 ∨ a5.toInt = 11 by omega) with h | h
                · exact uc_i (r705 hAD) rfl (by omega) ⟨rfl, ok_int (by omega) (by omega), ok_full, ok_int (by omega) (by omega), ok_full, ok_int (by omega) (by omega), trivial⟩ hG (fun q hq => by cases hq) rfl rfl
                · exact uc_i (r707 hAD) rfl (by omega) ⟨rfl, ok_int (by omega) (by omega), ok_full, ok_int (by omega) (by omega), ok_full, ok_int (by omega) (by omega), trivial⟩ hG (fun q hq => by cases hq) rfl rfl
              · rcases (show a5.toInt = 12 ∨ a5.toInt = 13 by omega) with h | h
                · exact uc_i (r709 hAD) rfl (by omega) ⟨rfl, ok_int (by omega) (by omega), ok_full, ok_int (by omega) (by omega), ok_full, ok_int (by omega) (by omega), trivial⟩ hG (fun q hq => by cases hq) rfl rfl
                · exact uc_i (r711 hAD) rfl (by omega) ⟨rfl, ok_int (by omega) (by omega), ok_full, ok_int (by omega) (by omega), ok_full, ok_int (by omega) (by omega), trivial⟩ hG (fun q hq => by cases hq) rfl rfl
        · rcases (show a5.toInt ≤ 21 ∨ 22 ≤ a5.toInt by omega) with h | h
          · rcases (show a5.toInt ≤ 17 ∨ 18 ≤ a5.toInt by omega) with h | h
            · rcases (show a5.toInt ≤ 15 ∨ 16 ≤ a5.toInt by omega) with h | h
              · rcases (show a5.toInt = 14 ∨ a5.toInt = 15 by omega) with h | h
                · exact uc_i (r713 hAD) rfl (by omega) ⟨rfl, ok_int (by omega) (by omega), ok_full, ok_int (by omega) (by omega), ok_full, ok_int (by omega) (by omega), trivial⟩ hG (fun q hq => by cases hq) rfl rfl
                · exact uc_i (r715 hAD) rfl (by omega) ⟨rfl, ok_int (by omega) (by omega), ok_full, ok_int (by omega) (by omega), ok_full, ok_int (by omega) (by omega), trivial⟩ hG (fun q hq => by cases hq) rfl rfl
              · rcases (show a5.toInt = 16 ∨ a5.toInt = 17 by omega) with h | h
                · exact uc_i (r717 hAD) rfl (by omega) ⟨rfl, ok_int (by omega) (by omega), ok_full, ok_int (by omega) (by omega), ok_full, ok_int (by omega) (by omega), trivial⟩ hG (fun q hq => by cases hq) rfl rfl
                · exact uc_i (r720 hAD) rfl (by omega) ⟨rfl, ok_int (by omega) (by omega), ok_full, ok_int (by omega) (by omega), ok_full, ok_int (by omega) (by omega), trivial⟩ hG (fun q hq => by cases hq) rfl rfl
            · rcases (show a5.toInt ≤ 19 ∨ 20 ≤ a5.toInt by omega) with h | h
              · rcases (show a5.toInt = 18 ∨ a5.toInt = 19 by omega) with h | h
                · exact uc_i (r721 hAD) rfl (by omega) ⟨rfl, ok_int (by omega) (by omega), ok_full, ok_int (by omega) (by omega), ok_full, ok_int (by omega) (by omega), trivial⟩ hG (fun q hq => by cases hq) rfl rfl
                · exact uc_i (r722 hAD) rfl (by omega) ⟨rfl, ok_int (by omega) (by omega), ok_full, ok_int (by omega) (by omega), ok_full, ok_int (by omega) (by omega), trivial⟩ hG (fun q hq => by cases hq) rfl rfl
              · rcases (show a5.toInt = 20 ∨ a5.toInt = 21 by omega) with h | h
                · exact uc_i (r723 hAD) rfl (by omega) ⟨rfl, ok_int (by omega) (by omega), ok_full, ok_int (by omega) (by omega), ok_full, ok_int (by omega) (by omega), trivial⟩ hG (fun q hq => by cases hq) rfl rfl
                · exact uc_i (r724 hAD) rfl (by omega) ⟨rfl, ok_int (by omega) (by omega), ok_full, ok_int (by omega) (by omega), ok_full, ok_int (by omega) (by omega), trivial⟩ hG (fun q hq => by cases hq) rfl rfl
          · rcases (show a5.toInt ≤ 25 ∨ 26 ≤ a5.toInt by omega) with h | h
            · rcases (show a5.toInt ≤ 23 ∨ 24 ≤ a5.toInt by omega) with h | h
              · rcases (show a5.toInt = 22 ∨ a5.toInt = 23 by omega) with h | h
                · exact uc_i (r725 hAD) rfl (by omega) ⟨rfl, ok_int (by omega) (by omega), ok_full, ok_int (by omega) (by omega), ok_full, ok_int (by omega) (by omega), trivial⟩ hG (fun q hq => by cases hq) rfl rfl
                · exact uc_i (r726 hAD) rfl (by omega) ⟨rfl, ok_int (by omega) (by omega), ok_full, ok_int (by omega) (by omega), ok_full, ok_int (by omega) (by omega), trivial⟩ hG (fun q hq => by cases hq) rfl rfl
              · rcases (show a5.toInt = 24 ∨ a5.toInt = 25 by omega) with h | h
                · exact uc_i (r727 hAD) rfl (by omega) ⟨rfl, ok_int (by omega) (by omega), ok_full, ok_int (by omega) (by omega), ok_full, ok_int (by omega) (by omega), trivial⟩ hG (fun q hq => by cases hq) rfl rfl
                · exact uc_i (r728 hAD) rfl (by omega) ⟨rfl, ok_int (by omega) (by omega), ok_full, ok_int (by omega) (by omega), ok_full, ok_int (by omega) (by omega), trivial⟩ hG (fun q hq => by cases hq) rfl rfl
            · rcases (show a5.toInt ≤ 27 ∨ 28 ≤ a5.toInt by omega) with h | h
              · rcases (show a5.toInt = 26 ∨ a5.toInt = 27 by omega) with h | h
                · exact uc_i (r729 hAD) rfl (by omega) ⟨rfl, ok_int (by omega) (by omega), ok_full, ok_int (by omega) (by omega), ok_full, ok_int (by omega) (by omega), trivial⟩ hG (fun q hq => by cases hq) rfl rfl
                · exact uc_i (r730 hAD) rfl (by omega) ⟨rfl, ok_int (by omega) (by omega), ok_full, ok_int (by omega) (by omega), ok_full, ok_int (by omega) (by omega), trivial⟩ hG (fun q hq => by cases hq) rfl rfl
              · rcases (show a5.toInt = 28 ∨ a5.toInt = 29 by omega) with h | h
                · exact uc_i (r731 hAD) rfl (by omega) ⟨rfl, ok_int (by omega) (by omega), ok_full, ok_int (by omega) (by omega), ok_full, ok_int (by omega) (by omega), trivial⟩ hG (fun q hq => by cases hq) rfl rfl
                · exact uc_i (r732 hAD) rfl (by omega) ⟨rfl, ok_int (by omega) (by omega), ok_full, ok_int (by omega) (by omega), ok_full, ok_int (by omega) (by omega), trivial⟩ hG (fun q hq => by cases hq) rfl rfl
      · rcases (show a5.toInt ≤ 45 ∨ 46 ≤ a5.toInt by omega) with h | h
        · rcases (show a5.toInt ≤ 37 ∨ 38 ≤ a5.toInt by omega) with h | h
          · rcases (show a5.toInt ≤ 33 ∨ 34 ≤ a5.toInt by omega) with h | h
            · rcases (show a5.toInt ≤ 31 ∨ 32 ≤ a5.toInt by omega) with h | h
              · rcases (show a5.toInt = 30 ∨ a5.toInt = 31 by omega) with h | h
                · exact uc_i (r733 hAD) rfl (by omega) ⟨rfl, ok_int (by omega) (by omega), ok_full, ok_int (by omega) (by omega), ok_full, ok_int (by omega) (by omega), trivial⟩ hG (fun q hq => by cases hq) rfl rfl
                · exact uc_i (r734 hAD) rfl (by omega) ⟨rfl, ok_int (by omega) (by omega), ok_full, ok_int (by omega) (by omega), ok_full, ok_int (by omega) (by omega), trivial⟩ hG (fun q hq => by cases hq) rfl rfl
              · rcases (show a5.toInt = 32 ∨ a5.toInt = 33 by omega) with h | h
                · exact uc_i (r735 hAD) rfl (by omega) ⟨rfl, ok_int (by omega) (by omega), ok_full, ok_int (by omega) (by omega), ok_full, ok_int (by omega) (by omega), trivial⟩ hG (fun q hq => by cases hq) rfl rfl
                · exact uc_i (r736 hAD) rfl (by omega) ⟨rfl, ok_int (by omega) (by omega), ok_full, ok_int (by omega) (by omega), ok_full, ok_int (by omega) (by omega), trivial⟩ hG (fun q hq => by cases hq) rfl rfl
            · rcases (show a5.toInt ≤ 35 ∨ 36 ≤ a5.toInt by omega) with h | h
              · rcases (show a5.toInt = 34 ∨ a5.toInt = 35 by omega) with h | h
                · exact uc_i (r737 hAD) rfl (by omega) ⟨rfl, ok_int (by omega) (by omega), ok_full, ok_int (by omega) (by omega), ok_full, ok_int (by omega) (by omega), trivial⟩ hG (fun q hq => by cases hq) rfl rfl
                · exact uc_i (r738 hAD) rfl (by omega) ⟨rfl, ok_int (by omega) (by omega), ok_full, ok_int (by omega) (by omega), ok_full, ok_int (by omega) (by omega), trivial⟩ hG (fun q hq => by cases hq) rfl rfl
              · rcases (show a5.toInt = 36 ∨ a5.toInt = 37 by omega) with h | h
                · exact uc_i (r739 hAD) rfl (by omega) ⟨rfl, ok_int (by omega) (by omega), ok_full, ok_int (by omega) (by omega), ok_full, ok_int (by omega) (by omega), trivial⟩ hG (fun q hq => by cases hq) rfl rfl
                · exact uc_i (r740 hAD) rfl (by omega) ⟨rfl, ok_int (by omega) (by omega), ok_full, ok_int (by omega) (by omega), ok_full, ok_int (by omega) (by omega), trivial⟩ hG (fun q hq => by cases hq) rfl rfl
          · rcases (show a5.toInt ≤ 41 ∨ 42 ≤ a5.toInt by omega) with h | h
            · rcases (show a5.toInt ≤ 39 ∨ 40 ≤ a5.toInt by omega) with h | h
              · rcases (show a5.toInt = 38 ∨ a5.toInt = 39 by omega) with h | h
                · exact uc_i (r741 hAD) rfl (by omega) ⟨rfl, ok_int (by omega) (by omega), ok_full, ok_int (by omega) (by omega), ok_full, ok_int (by omega) (by omega), trivial⟩ hG (fun q hq => by cases hq) rfl rfl
                · exact uc_i (r742 hAD) rfl (by omega) ⟨rfl, ok_int (by omega) (by omega), ok_full, ok_int (by omega) (by omega), ok_full, ok_int (by omega) (by omega), trivial⟩ hG (fun q hq => by cases hq) rfl rfl
              · rcases (show a5.toInt = 40 ∨ a5.toInt = 41 by omega) with h | h
                · exact uc_i (r743 hAD) rfl (by omega) ⟨rfl, ok_int (by omega) (by omega), ok_full, ok_int (by omega) (by omega), ok_full, ok_int (by omega) (by omega), trivial⟩ hG (fun q hq => by cases hq) rfl rfl
                · exact uc_i (r744 hAD) rfl (by omega) ⟨rfl, ok_int (by omega) (by omega), ok_full, ok_int (by omega) (by omega), ok_full, ok_int (by omega) (by omega), trivial⟩ hG (fun q hq => by cases hq) rfl rfl
            · rcases (show a5.toInt ≤ 43 ∨ 44 ≤ a5.toInt by omega) with h | h
              · rcases (show a5.toInt = 42 ∨ a5.toInt = 43 by omega) with h | h
                · exact uc_i (r745 hAD) rfl (by omega) ⟨rfl, ok_int (by omega) (by omega), ok_full, ok_int (by omega) (by omega), ok_full, ok_int (by omega) (by omega), trivial⟩ hG (fun q hq => by cases hq) rfl rfl
                · exact uc_i (r746 hAD) rfl (by omega) ⟨rfl, ok_int (by omega) (by omega), ok_full, ok_int (by omega) (by omega), ok_full, ok_int (by omega) (by omega), trivial⟩ hG (fun q hq => by cases hq) rfl rfl
              · rcases (show a5.toInt = 44 ∨ a5.toInt = 45 by omega) with h | h
                · exact uc_i (r747 hAD) rfl (by omega) ⟨rfl, ok_int (by omega) (by omega), ok_full, ok_int (by omega) (by omega), ok_full, ok_int (by omega) (by omega), trivial⟩ hG (fun q hq => by cases hq) rfl rfl
                · exact uc_i (r748 hAD) rfl (by omega) ⟨rfl, ok_int (by omega) (by omega), ok_full, ok_int (by omega) (by omega), ok_full, ok_int (by omega) (by omega), trivial⟩ hG (fun q hq => by cases hq) rfl rfl
        · rcases (show a5.toInt ≤ 53 ∨ 54 ≤ a5.toInt by omega) with h | h
          · rcases (show a5.toInt ≤ 49 ∨ 50 ≤ a5.toInt by omega) with h | h
            · rcases (show a5.toInt ≤ 47 ∨ 48 ≤ a5.toInt by omega) with h | h
              · rcases (show a5.toInt = 46 ∨ a5.toInt = 47 by omega) with h | h
                · exact uc_i (r749 hAD) rfl (by omega) ⟨rfl, ok_int (by omega) (by omega), ok_full, ok_int (by omega) (by omega), ok_full, ok_int (by omega) (by omega), trivial⟩ hG (fun q hq => by cases hq) rfl rfl
                · exact uc_i (r750 hAD) rfl (by omega) ⟨rfl, ok_int (by omega) (by omega), ok_full, ok_int (by omega) (by omega), ok_full, ok_int (by omega) (by omega), trivial⟩ hG (fun q hq => by cases hq) rfl rfl
              · rcases (show a5.toInt = 48 ∨ a5.toInt = 49 by omega) with h | h
                · exact uc_i (r751 hAD) rfl (by omega) ⟨rfl, ok_int (by omega) (by omega), ok_full, ok_int (by omega) (by omega), ok_full, ok_int (by omega) (by omega), trivial⟩ hG (fun q hq => by cases hq) rfl rfl
                · exact uc_i (r752 hAD) rfl (by omega) ⟨rfl, ok_int (by omega) (by omega), ok_full, ok_int (by omega) (by omega), ok_full, ok_int (by omega) (by omega), trivial⟩ hG (fun q hq => by cases hq) rfl rfl
            · rcases (show a5.toInt ≤ 51 ∨ 52 ≤ a5.toInt by omega) with h | h
              · rcases (show a5.toInt = 50 ∨ a5.toInt = 51 by omega) with h | h
                · exact uc_i (r753 hAD) rfl (by omega) ⟨rfl, ok_int (by omega) (by omega), ok_full, ok_int (by omega) (by omega), ok_full, ok_int (by omega) (by omega), trivial⟩ hG (fun q hq => by cases hq) rfl rfl
                · exact uc_i (r754 hAD) rfl (by omega) ⟨rfl, ok_int (by omega) (by omega), ok_full, ok_int (by omega) (by omega), ok_full, ok_int (by omega) (by omega), trivial⟩ hG (fun q hq => by cases hq) rfl rfl
              · rcases (show a5.toInt = 52 ∨ a5.toInt = 53 by omega) with h | h
                · exact uc_i (r755 hAD) rfl (by omega) ⟨rfl, ok_int (by omega) (by omega), ok_full, ok_int (by omega) (by omega), ok_full, ok_int (by omega) (by omega), trivial⟩ hG (fun q hq => by cases hq) rfl rfl
                · exact uc_i (r756 hAD) rfl (by omega) ⟨rfl, ok_int (by omega) (by omega), ok_full, ok_int (by omega) (by omega), ok_full, ok_int (by omega) (by omega), trivial⟩ hG (fun q hq => by cases hq) rfl rfl
          · rcases (show a5.toInt ≤ 57 ∨ 58 ≤ a5.toInt by omega) with h | h
            · rcases (show a5.toInt ≤ 55 ∨ 56 ≤ a5.toInt by omega) with h | h
              · rcases (show a5.toInt = 54 ∨ a5.toInt = 55 by omega) with h | h
                · exact uc_i (r757 hAD) rfl (by omega) ⟨rfl, ok_int (by omega) (by omega), ok_full, ok_int (by omega) (by omega), ok_full, ok_int (by omega) (by omega), trivial⟩ hG (fun q hq => by cases hq) rfl rfl
                · exact uc_i (r758 hAD) rfl (by omega) ⟨rfl, ok_int (by omega) (by omega), ok_full, ok_int (by omega) (by omega), ok_full, ok_int (by omega) (by omega), trivial⟩ hG (fun q hq => by cases hq) rfl rfl
              · rcases (show a5.toInt = 56 ∨ a5.toInt = 57 by omega) with h | h
                · exact uc_i (r759 hAD) rfl (by omega) ⟨rfl, ok_int (by omega) (by omega), ok_full, ok_int (by omega) (by omega), ok_full, ok_int (by omega) (by omega), trivial⟩ hG (fun q hq => by cases hq) rfl rfl
                · exact uc_i (r760 hAD) rfl (by omega) ⟨rfl, ok_int (by omega) (by omega), ok_full, ok_int (by omega) (by omega), ok_full, ok_int (by omega) (by omega), trivial⟩ hG (fun q hq => by cases hq) rfl rfl
            · rcases (show a5.toInt ≤ 59 ∨ 60 ≤ a5.toInt by omega) with h | h
              · rcases (show a5.toInt = 58 ∨ a5.toInt = 59 by omega) with h | h
                · exact uc_i (r761 hAD) rfl (by omega) ⟨rfl, ok_int (by omega) (by omega), ok_full, ok_int (by omega) (by omega), ok_full, ok_int (by omega) (by omega), trivial⟩ hG (fun q hq => by cases hq) rfl rfl
                · exact uc_i (r762 hAD) rfl (by omega) ⟨rfl, ok_int (by omega) (by omega), ok_full, ok_int (by omega) (by omega), ok_full, ok_int (by omega) (by omega), trivial⟩ hG (fun q hq => by cases hq) rfl rfl
              · rcases (show a5.toInt = 60 ∨ 61 ≤ a5.toInt by omega) with h | h
                · exact uc_i (r763 hAD) rfl (by omega) ⟨rfl, ok_int (by omega) (by omega), ok_full, ok_int (by omega) (by omega), ok_full, ok_int (by omega) (by omega), trivial⟩ hG (fun q hq => by cases hq) rfl rfl
                · exact uc_i (r683 hAD) rfl (by omega) ⟨rfl, ok_int (by omega) (by omega), ok_full, ok_int (by omega) (by omega), ok_full, ok_int (by omega) (by omega), trivial⟩ hG (fun q hq => by cases hq) rfl rfl
    · exact uc_i (r681 hAD) rfl (by omega) ⟨rfl, ok_int (by omega) (by omega), ok_full, ok_int (by omega) (by omega), ok_full, ok_full, trivial⟩ hG (fun q hq => by cases hq) rfl rfl
  · exact uc_i (r679 hAD) rfl (by omega) ⟨rfl, ok_int (by omega) (by omega), ok_full, ok_full, ok_full, ok_full, trivial⟩ hG (fun q hq => by cases hq) rfl rfl
end UCS10
