section UCS11
variable {l : Launch} {D : va_G} {tys : List (ClassId × FieldType)} {A : Nat → Prop} {ad : Nat → Nat} {ws : va_W}
theorem u_M64 (hAD : ∀ i : Nat, ad (1000 + i) = D.2 1000 i) (hG : GOK ad tys GG ws) (a1 : Int32) (a2 : Int32) (a3 : Int32) (a4 : Int32) (a5 : Int32) : UCP l D tys A ad 340 [.ref (ad 90), .int a1, .int a2, .int a3, .int a4, .int a5] ws 0 := by
  have l1 := Int32.le_toInt a1
  have u1 := Int32.toInt_lt a1
  have l2 := Int32.le_toInt a2
  have u2 := Int32.toInt_lt a2
  have l3 := Int32.le_toInt a3
  have u3 := Int32.toInt_lt a3
  have l4 := Int32.le_toInt a4
  have u4 := Int32.toInt_lt a4
  have l5 := Int32.le_toInt a5
  have u5 := Int32.toInt_lt a5
  rcases (show a1.toInt ≤ (-1) ∨ (0 ≤ a1.toInt ∧ a1.toInt ≤ 3) ∨ 4 ≤ a1.toInt by omega) with h | h | h
  · exact uc_i (r764 hAD) rfl (by omega) ⟨rfl, ok_int (by omega) (by omega), ok_full, ok_full, ok_full, ok_full, trivial⟩ hG (fun q hq => by cases hq) rfl rfl
  · rcases (show a3.toInt ≤ (-1) ∨ (0 ≤ a3.toInt ∧ a3.toInt ≤ 3) ∨ 4 ≤ a3.toInt by omega) with h | h | h
    · exact uc_i (r766 hAD) rfl (by omega) ⟨rfl, ok_int (by omega) (by omega), ok_full, ok_int (by omega) (by omega), ok_full, ok_full, trivial⟩ hG (fun q hq => by cases hq) rfl rfl
    · rcases (show a5.toInt ≤ 29 ∨ 30 ≤ a5.toInt by omega) with h | h
      · rcases (show a5.toInt ≤ 13 ∨ 14 ≤ a5.toInt by omega) with h | h
        · rcases (show a5.toInt ≤ 5 ∨ 6 ≤ a5.toInt by omega) with h | h
          · rcases (show a5.toInt ≤ 1 ∨ 2 ≤ a5.toInt by omega) with h | h
            · rcases (show a5.toInt ≤ (-1) ∨ a5.toInt = 0 ∨ a5.toInt = 1 by omega) with h | h | h
              · exact uc_i (r768 hAD) rfl (by omega) ⟨rfl, ok_int (by omega) (by omega), ok_full, ok_int (by omega) (by omega), ok_full, ok_int (by omega) (by omega), trivial⟩ hG (fun q hq => by cases hq) rfl rfl
              · exact uc_i (r770 hAD) rfl (by omega) ⟨rfl, ok_int (by omega) (by omega), ok_full, ok_int (by omega) (by omega), ok_full, ok_int (by omega) (by omega), trivial⟩ hG (fun q hq => by cases hq) rfl rfl
              · exact uc_i (r771 hAD) rfl (by omega) ⟨rfl, ok_int (by omega) (by omega), ok_full, ok_int (by omega) (by omega), ok_full, ok_int (by omega) (by omega), trivial⟩ hG (fun q hq => by cases hq) rfl rfl
            · rcases (show a5.toInt ≤ 3 ∨ 4 ≤ a5.toInt by omega) with h | h
              · rcases (show a5.toInt = 2 ∨ a5.toInt = 3 by omega) with h | h
                · exact uc_i (r772 hAD) rfl (by omega) ⟨rfl, ok_int (by omega) (by omega), ok_full, ok_int (by omega) (by omega), ok_full, ok_int (by omega) (by omega), trivial⟩ hG (fun q hq => by cases hq) rfl rfl
                · exact uc_i (r773 hAD) rfl (by omega) ⟨rfl, ok_int (by omega) (by omega), ok_full, ok_int (by omega) (by omega), ok_full, ok_int (by omega) (by omega), trivial⟩ hG (fun q hq => by cases hq) rfl rfl
              · rcases (show a5.toInt = 4 ∨ a5.toInt = 5 by omega) with h | h
                · exact uc_i (r774 hAD) rfl (by omega) ⟨rfl, ok_int (by omega) (by omega), ok_full, ok_int (by omega) (by omega), ok_full, ok_int (by omega) (by omega), trivial⟩ hG (fun q hq => by cases hq) rfl rfl
                · exact uc_i (r775 hAD) rfl (by omega) ⟨rfl, ok_int (by omega) (by omega), ok_full, ok_int (by omega) (by omega), ok_full, ok_int (by omega) (by omega), trivial⟩ hG (fun q hq => by cases hq) rfl rfl
          · rcases (show a5.toInt ≤ 9 ∨ 10 ≤ a5.toInt by omega) with h | h
            · rcases (show a5.toInt ≤ 7 ∨ 8 ≤ a5.toInt by omega) with h | h
              · rcases (show a5.toInt = 6 ∨ a5.toInt = 7 by omega) with h | h
                · exact uc_i (r776 hAD) rfl (by omega) ⟨rfl, ok_int (by omega) (by omega), ok_full, ok_int (by omega) (by omega), ok_full, ok_int (by omega) (by omega), trivial⟩ hG (fun q hq => by cases hq) rfl rfl
                · exact uc_i (r777 hAD) rfl (by omega) ⟨rfl, ok_int (by omega) (by omega), ok_full, ok_int (by omega) (by omega), ok_full, ok_int (by omega) (by omega), trivial⟩ hG (fun q hq => by cases hq) rfl rfl
              · rcases (show a5.toInt = 8 ∨ a5.toInt = 9 by omega) with h | h
                · exact uc_i (r778 hAD) rfl (by omega) ⟨rfl, ok_int (by omega) (by omega), ok_full, ok_int (by omega) (by omega), ok_full, ok_int (by omega) (by omega), trivial⟩ hG (fun q hq => by cases hq) rfl rfl
                · exact uc_i (r779 hAD) rfl (by omega) ⟨rfl, ok_int (by omega) (by omega), ok_full, ok_int (by omega) (by omega), ok_full, ok_int (by omega) (by omega), trivial⟩ hG (fun q hq => by cases hq) rfl rfl
            · rcases (show a5.toInt ≤ 11 ∨ 12 ≤ a5.toInt by omega) with h | h
              · rcases (show a5.toInt = 10 ∨ a5.toInt = 11 by omega) with h | h
                · exact uc_i (r780 hAD) rfl (by omega) ⟨rfl, ok_int (by omega) (by omega), ok_full, ok_int (by omega) (by omega), ok_full, ok_int (by omega) (by omega), trivial⟩ hG (fun q hq => by cases hq) rfl rfl
                · exact uc_i (r781 hAD) rfl (by omega) ⟨rfl, ok_int (by omega) (by omega), ok_full, ok_int (by omega) (by omega), ok_full, ok_int (by omega) (by omega), trivial⟩ hG (fun q hq => by cases hq) rfl rfl
              · rcases (show a5.toInt = 12 ∨ a5.toInt = 13 by omega) with h | h
                · exact uc_i (r782 hAD) rfl (by omega) ⟨rfl, ok_int (by omega) (by omega), ok_full, ok_int (by omega) (by omega), ok_full, ok_int (by omega) (by omega), trivial⟩ hG (fun q hq => by cases hq) rfl rfl
                · exact uc_i (r783 hAD) rfl (by omega) ⟨rfl, ok_int (by omega) (by omega), ok_full, ok_int (by omega) (by omega), ok_full, ok_int (by omega) (by omega), trivial⟩ hG (fun q hq => by cases hq) rfl rfl
        · rcases (show a5.toInt ≤ 21 ∨ 22 ≤ a5.toInt by omega) with h | h
          · rcases (show a5.toInt ≤ 17 ∨ 18 ≤ a5.toInt by omega) with h | h
            · rcases (show a5.toInt ≤ 15 ∨ 16 ≤ a5.toInt by omega) with h | h
              · rcases (show a5.toInt = 14 ∨ a5.toInt = 15 by omega) with h | h
                · exact uc_i (r784 hAD) rfl (by omega) ⟨rfl, ok_int (by omega) (by omega), ok_full, ok_int (by omega) (by omega), ok_full, ok_int (by omega) (by omega), trivial⟩ hG (fun q hq => by cases hq) rfl rfl
                · exact uc_i (r785 hAD) rfl (by omega) ⟨rfl, ok_int (by omega) (by omega), ok_full, ok_int (by omega) (by omega), ok_full, ok_int (by omega) (by omega), trivial⟩ hG (fun q hq => by cases hq) rfl rfl
              · rcases (show a5.toInt = 16 ∨ a5.toInt = 17 by omega) with h | h
                · exact uc_i (r786 hAD) rfl (by omega) ⟨rfl, ok_int (by omega) (by omega), ok_full, ok_int (by omega) (by omega), ok_full, ok_int (by omega) (by omega), trivial⟩ hG (fun q hq => by cases hq) rfl rfl
                · exact uc_i (r787 hAD) rfl (by omega) ⟨rfl, ok_int (by omega) (by omega), ok_full, ok_int (by omega) (by omega), ok_full, ok_int (by omega) (by omega), trivial⟩ hG (fun q hq => by cases hq) rfl rfl
            · rcases (show a5.toInt ≤ 19 ∨ 20 ≤ a5.toInt by omega) with h | h
              · rcases (show a5.toInt = 18 ∨ a5.toInt = 19 by omega) with h | h
                · exact uc_i (r788 hAD) rfl (by omega) ⟨rfl, ok_int (by omega) (by omega), ok_full, ok_int (by omega) (by omega), ok_full, ok_int (by omega) (by omega), trivial⟩ hG (fun q hq => by cases hq) rfl rfl
                · exact uc_i (r789 hAD) rfl (by omega) ⟨rfl, ok_int (by omega) (by omega), ok_full, ok_int (by omega) (by omega), ok_full, ok_int (by omega) (by omega), trivial⟩ hG (fun q hq => by cases hq) rfl rfl
              · rcases (show a5.toInt = 20 ∨ a5.toInt = 21 by omega) with h | h
                · exact uc_i (r790 hAD) rfl (by omega) ⟨rfl, ok_int (by omega) (by omega), ok_full, ok_int (by omega) (by omega), ok_full, ok_int (by omega) (by omega), trivial⟩ hG (fun q hq => by cases hq) rfl rfl
                · exact uc_i (r791 hAD) rfl (by omega) ⟨rfl, ok_int (by omega) (by omega), ok_full, ok_int (by omega) (by omega), ok_full, ok_int (by omega) (by omega), trivial⟩ hG (fun q hq => by cases hq) rfl rfl
          · rcases (show a5.toInt ≤ 25 ∨ 26 ≤ a5.toInt by omega) with h | h
            · rcases (show a5.toInt ≤ 23 ∨ 24 ≤ a5.toInt by omega) with h | h
              · rcases (show a5.toInt = 22 ∨ a5.toInt = 23 by omega) with h | h
                · exact uc_i (r792 hAD) rfl (by omega) ⟨rfl, ok_int (by omega) (by omega), ok_full, ok_int (by omega) (by omega), ok_full, ok_int (by omega) (by omega), trivial⟩ hG (fun q hq => by cases hq) rfl rfl
                · exact uc_i (r793 hAD) rfl (by omega) ⟨rfl, ok_int (by omega) (by omega), ok_full, ok_int (by omega) (by omega), ok_full, ok_int (by omega) (by omega), trivial⟩ hG (fun q hq => by cases hq) rfl rfl
              · rcases (show a5.toInt = 24 ∨ a5.toInt = 25 by omega) with h | h
                · exact uc_i (r794 hAD) rfl (by omega) ⟨rfl, ok_int (by omega) (by omega), ok_full, ok_int (by omega) (by omega), ok_full, ok_int (by omega) (by omega), trivial⟩ hG (fun q hq => by cases hq) rfl rfl
                · exact uc_i (r795 hAD) rfl (by omega) ⟨rfl, ok_int (by omega) (by omega), ok_full, ok_int (by omega) (by omega), ok_full, ok_int (by omega) (by omega), trivial⟩ hG (fun q hq => by cases hq) rfl rfl
            · rcases (show a5.toInt ≤ 27 ∨ 28 ≤ a5.toInt by omega) with h | h
              · rcases (show a5.toInt = 26 ∨ a5.toInt = 27 by omega) with h | h
                · exact uc_i (r796 hAD) rfl (by omega) ⟨rfl, ok_int (by omega) (by omega), ok_full, ok_int (by omega) (by omega), ok_full, ok_int (by omega) (by omega), trivial⟩ hG (fun q hq => by cases hq) rfl rfl
                · exact uc_i (r797 hAD) rfl (by omega) ⟨rfl, ok_int (by omega) (by omega), ok_full, ok_int (by omega) (by omega), ok_full, ok_int (by omega) (by omega), trivial⟩ hG (fun q hq => by cases hq) rfl rfl
              · rcases (show a5.toInt = 28 ∨ a5.toInt = 29 by omega) with h | h
                · exact uc_i (r798 hAD) rfl (by omega) ⟨rfl, ok_int (by omega) (by omega), ok_full, ok_int (by omega) (by omega), ok_full, ok_int (by omega) (by omega), trivial⟩ hG (fun q hq => by cases hq) rfl rfl
                · exact uc_i (r799 hAD) rfl (by omega) ⟨rfl, ok_int (by omega) (by omega), ok_full, ok_int (by omega) (by omega), ok_full, ok_int (by omega) (by omega), trivial⟩ hG (fun q hq => by cases hq) rfl rfl
      · rcases (show a5.toInt ≤ 45 ∨ 46 ≤ a5.toInt by omega) with h | h
        · rcases (show a5.toInt ≤ 37 ∨ 38 ≤ a5.toInt by omega) with h | h
          · rcases (show a5.toInt ≤ 33 ∨ 34 ≤ a5.toInt by omega) with h | h
            · rcases (show a5.toInt ≤ 31 ∨ 32 ≤ a5.toInt by omega) with h | h
              · rcases (show a5.toInt = 30 ∨ a5.toInt = 31 by omega) with h | h
                · exact uc_i (r800 hAD) rfl (by omega) ⟨rfl, ok_int (by omega) (by omega), ok_full, ok_int (by omega) (by omega), ok_full, ok_int (by omega) (by omega), trivial⟩ hG (fun q hq => by cases hq) rfl rfl
                · exact uc_i (r801 hAD) rfl (by omega) ⟨rfl, ok_int (by omega) (by omega), ok_full, ok_int (by omega) (by omega), ok_full, ok_int (by omega) (by omega), trivial⟩ hG (fun q hq => by cases hq) rfl rfl
              · rcases (show a5.toInt = 32 ∨ a5.toInt = 33 by omega) with h | h
                · exact uc_i (r802 hAD) rfl (by omega) ⟨rfl, ok_int (by omega) (by omega), ok_full, ok_int (by omega) (by omega), ok_full, ok_int (by omega) (by omega), trivial⟩ hG (fun q hq => by cases hq) rfl rfl
                · exact uc_i (r803 hAD) rfl (by omega) ⟨rfl, ok_int (by omega) (by omega), ok_full, ok_int (by omega) (by omega), ok_full, ok_int (by omega) (by omega), trivial⟩ hG (fun q hq => by cases hq) rfl rfl
            · rcases (show a5.toInt ≤ 35 ∨ 36 ≤ a5.toInt by omega) with h | h
              · rcases (show a5.toInt = 34 ∨ a5.toInt = 35 by omega) with h | h
                · exact uc_i (r804 hAD) rfl (by omega) ⟨rfl, ok_int (by omega) (by omega), ok_full, ok_int (by omega) (by omega), ok_full, ok_int (by omega) (by omega), trivial⟩ hG (fun q hq => by cases hq) rfl rfl
                · exact uc_i (r805 hAD) rfl (by omega) ⟨rfl, ok_int (by omega) (by omega), ok_full, ok_int (by omega) (by omega), ok_full, ok_int (by omega) (by omega), trivial⟩ hG (fun q hq => by cases hq) rfl rfl
              · rcases (show a5.toInt = 36 ∨ a5.toInt = 37 by omega) with h | h
                · exact uc_i (r806 hAD) rfl (by omega) ⟨rfl, ok_int (by omega) (by omega), ok_full, ok_int (by omega) (by omega), ok_full, ok_int (by omega) (by omega), trivial⟩ hG (fun q hq => by cases hq) rfl rfl
                · exact uc_i (r807 hAD) rfl (by omega) ⟨rfl, ok_int (by omega) (by omega), ok_full, ok_int (by omega) (by omega), ok_full, ok_int (by omega) (by omega), trivial⟩ hG (fun q hq => by cases hq) rfl rfl
          · rcases (show a5.toInt ≤ 41 ∨ 42 ≤ a5.toInt by omega) with h | h
            · rcases (show a5.toInt ≤ 39 ∨ 40 ≤ a5.toInt by omega) with h | h
              · rcases (show a5.toInt = 38 ∨ a5.toInt = 39 by omega) with h | h
                · exact uc_i (r808 hAD) rfl (by omega) ⟨rfl, ok_int (by omega) (by omega), ok_full, ok_int (by omega) (by omega), ok_full, ok_int (by omega) (by omega), trivial⟩ hG (fun q hq => by cases hq) rfl rfl
                · exact uc_i (r809 hAD) rfl (by omega) ⟨rfl, ok_int (by omega) (by omega), ok_full, ok_int (by omega) (by omega), ok_full, ok_int (by omega) (by omega), trivial⟩ hG (fun q hq => by cases hq) rfl rfl
              · rcases (show a5.toInt = 40 ∨ a5.toInt = 41 by omega) with h | h
                · exact uc_i (r810 hAD) rfl (by omega) ⟨rfl, ok_int (by omega) (by omega), ok_full, ok_int (by omega) (by omega), ok_full, ok_int (by omega) (by omega), trivial⟩ hG (fun q hq => by cases hq) rfl rfl
                · exact uc_i (r811 hAD) rfl (by omega) ⟨rfl, ok_int (by omega) (by omega), ok_full, ok_int (by omega) (by omega), ok_full, ok_int (by omega) (by omega), trivial⟩ hG (fun q hq => by cases hq) rfl rfl
            · rcases (show a5.toInt ≤ 43 ∨ 44 ≤ a5.toInt by omega) with h | h
              · rcases (show a5.toInt = 42 ∨ a5.toInt = 43 by omega) with h | h
                · exact uc_i (r812 hAD) rfl (by omega) ⟨rfl, ok_int (by omega) (by omega), ok_full, ok_int (by omega) (by omega), ok_full, ok_int (by omega) (by omega), trivial⟩ hG (fun q hq => by cases hq) rfl rfl
                · exact uc_i (r813 hAD) rfl (by omega) ⟨rfl, ok_int (by omega) (by omega), ok_full, ok_int (by omega) (by omega), ok_full, ok_int (by omega) (by omega), trivial⟩ hG (fun q hq => by cases hq) rfl rfl
              · rcases (show a5.toInt = 44 ∨ a5.toInt = 45 by omega) with h | h
                · exact uc_i (r814 hAD) rfl (by omega) ⟨rfl, ok_int (by omega) (by omega), ok_full, ok_int (by omega) (by omega), ok_full, ok_int (by omega) (by omega), trivial⟩ hG (fun q hq => by cases hq) rfl rfl
                · exact uc_i (r815 hAD) rfl (by omega) ⟨rfl, ok_int (by omega) (by omega), ok_full, ok_int (by omega) (by omega), ok_full, ok_int (by omega) (by omega), trivial⟩ hG (fun q hq => by cases hq) rfl rfl
        · rcases (show a5.toInt ≤ 53 ∨ 54 ≤ a5.toInt by omega) with h | h
          · rcases (show a5.toInt ≤ 49 ∨ 50 ≤ a5.toInt by omega) with h | h
            · rcases (show a5.toInt ≤ 47 ∨ 48 ≤ a5.toInt by omega) with h | h
              · rcases (show a5.toInt = 46 ∨ a5.toInt = 47 by omega) with h | h
                · exact uc_i (r816 hAD) rfl (by omega) ⟨rfl, ok_int (by omega) (by omega), ok_full, ok_int (by omega) (by omega), ok_full, ok_int (by omega) (by omega), trivial⟩ hG (fun q hq => by cases hq) rfl rfl
                · exact uc_i (r817 hAD) rfl (by omega) ⟨rfl, ok_int (by omega) (by omega), ok_full, ok_int (by omega) (by omega), ok_full, ok_int (by omega) (by omega), trivial⟩ hG (fun q hq => by cases hq) rfl rfl
              · rcases (show a5.toInt = 48 ∨ a5.toInt = 49 by omega) with h | h
                · exact uc_i (r818 hAD) rfl (by omega) ⟨rfl, ok_int (by omega) (by omega), ok_full, ok_int (by omega) (by omega), ok_full, ok_int (by omega) (by omega), trivial⟩ hG (fun q hq => by cases hq) rfl rfl
                · exact uc_i (r819 hAD) rfl (by omega) ⟨rfl, ok_int (by omega) (by omega), ok_full, ok_int (by omega) (by omega), ok_full, ok_int (by omega) (by omega), trivial⟩ hG (fun q hq => by cases hq) rfl rfl
            · rcases (show a5.toInt ≤ 51 ∨ 52 ≤ a5.toInt by omega) with h | h
              · rcases (show a5.toInt = 50 ∨ a5.toInt = 51 by omega) with h | h
                · exact uc_i (r820 hAD) rfl (by omega) ⟨rfl, ok_int (by omega) (by omega), ok_full, ok_int (by omega) (by omega), ok_full, ok_int (by omega) (by omega), trivial⟩ hG (fun q hq => by cases hq) rfl rfl
                · exact uc_i (r821 hAD) rfl (by omega) ⟨rfl, ok_int (by omega) (by omega), ok_full, ok_int (by omega) (by omega), ok_full, ok_int (by omega) (by omega), trivial⟩ hG (fun q hq => by cases hq) rfl rfl
              · rcases (show a5.toInt = 52 ∨ a5.toInt = 53 by omega) with h | h
                · exact uc_i (r822 hAD) rfl (by omega) ⟨rfl, ok_int (by omega) (by omega), ok_full, ok_int (by omega) (by omega), ok_full, ok_int (by omega) (by omega), trivial⟩ hG (fun q hq => by cases hq) rfl rfl
                · exact uc_i (r823 hAD) rfl (by omega) ⟨rfl, ok_int (by omega) (by omega), ok_full, ok_int (by omega) (by omega), ok_full, ok_int (by omega) (by omega), trivial⟩ hG (fun q hq => by cases hq) rfl rfl
          · rcases (show a5.toInt ≤ 57 ∨ 58 ≤ a5.toInt by omega) with h | h
            · rcases (show a5.toInt ≤ 55 ∨ 56 ≤ a5.toInt by omega) with h | h
              · rcases (show a5.toInt = 54 ∨ a5.toInt = 55 by omega) with h | h
                · exact uc_i (r824 hAD) rfl (by omega) ⟨rfl, ok_int (by omega) (by omega), ok_full, ok_int (by omega) (by omega), ok_full, ok_int (by omega) (by omega), trivial⟩ hG (fun q hq => by cases hq) rfl rfl
                · exact uc_i (r825 hAD) rfl (by omega) ⟨rfl, ok_int (by omega) (by omega), ok_full, ok_int (by omega) (by omega), ok_full, ok_int (by omega) (by omega), trivial⟩ hG (fun q hq => by cases hq) rfl rfl
              · rcases (show a5.toInt = 56 ∨ a5.toInt = 57 by omega) with h | h
                · exact uc_i (r826 hAD) rfl (by omega) ⟨rfl, ok_int (by omega) (by omega), ok_full, ok_int (by omega) (by omega), ok_full, ok_int (by omega) (by omega), trivial⟩ hG (fun q hq => by cases hq) rfl rfl
                · exact uc_i (r827 hAD) rfl (by omega) ⟨rfl, ok_int (by omega) (by omega), ok_full, ok_int (by omega) (by omega), ok_full, ok_int (by omega) (by omega), trivial⟩ hG (fun q hq => by cases hq) rfl rfl
            · rcases (show a5.toInt ≤ 59 ∨ 60 ≤ a5.toInt by omega) with h | h
              · rcases (show a5.toInt = 58 ∨ a5.toInt = 59 by omega) with h | h
                · exact uc_i (r828 hAD) rfl (by omega) ⟨rfl, ok_int (by omega) (by omega), ok_full, ok_int (by omega) (by omega), ok_full, ok_int (by omega) (by omega), trivial⟩ hG (fun q hq => by cases hq) rfl rfl
                · exact uc_i (r829 hAD) rfl (by omega) ⟨rfl, ok_int (by omega) (by omega), ok_full, ok_int (by omega) (by omega), ok_full, ok_int (by omega) (by omega), trivial⟩ hG (fun q hq => by cases hq) rfl rfl
              · rcases (show a5.toInt = 60 ∨ 61 ≤ a5.toInt by omega) with h | h
                · exact uc_i (r830 hAD) rfl (by omega) ⟨rfl, ok_int (by omega) (by omega), ok_full, ok_int (by omega) (by omega), ok_full, ok_int (by omega) (by omega), trivial⟩ hG (fun q hq => by cases hq) rfl rfl
                · exact uc_i (r769 hAD) rfl (by omega) ⟨rfl, ok_int (by omega) (by omega), ok_full, ok_int (by omega) (by omega), ok_full, ok_int (by omega) (by omega), trivial⟩ hG (fun q hq => by cases hq) rfl rfl
    · exact uc_i (r767 hAD) rfl (by omega) ⟨rfl, ok_int (by omega) (by omega), ok_full, ok_int (by omega) (by omega), ok_full, ok_full, trivial⟩ hG (fun q hq => by cases hq) rfl rfl
  · exact uc_i (r765 hAD) rfl (by omega) ⟨rfl, ok_int (by omega) (by omega), ok_full, ok_full, ok_full, ok_full, trivial⟩ hG (fun q hq => by cases hq) rfl rfl
end UCS11
