section UCS3
variable {l : Launch} {D : va_G} {tys : List (ClassId × FieldType)} {A : Nat → Prop} {ad : Nat → Nat} {ws : va_W}
theorem u_M43 (hAD : ∀ i : Nat, ad (1000 + i) = D.2 1000 i) (hG : GOK ad tys GG ws) (a1 : Int32) (a2 : Int32) (a3 : Int32) : UCP l D tys A ad 303 [.ref (ad 90), .int a1, .int a2, .int a3] ws 0 := by
  have l1 := Int32.le_toInt a1
  have u1 := Int32.toInt_lt a1
  have l2 := Int32.le_toInt a2
  have u2 := Int32.toInt_lt a2
  have l3 := Int32.le_toInt a3
  have u3 := Int32.toInt_lt a3
  obtain ⟨z107_0, hz107_0, zl107_0, zu107_0⟩ := cell_bd (c := 107) (j := 0) hG rfl (by omega) (show segAt _ 0 = some (0, (-1), 60) by decide +kernel)
  obtain ⟨z107_1, hz107_1, zl107_1, zu107_1⟩ := cell_bd (c := 107) (j := 1) hG rfl (by omega) (show segAt _ 1 = some (0, (-1), 60) by decide +kernel)
  obtain ⟨z107_2, hz107_2, zl107_2, zu107_2⟩ := cell_bd (c := 107) (j := 2) hG rfl (by omega) (show segAt _ 2 = some (0, (-1), 60) by decide +kernel)
  obtain ⟨z107_3, hz107_3, zl107_3, zu107_3⟩ := cell_bd (c := 107) (j := 3) hG rfl (by omega) (show segAt _ 3 = some (0, (-1), 60) by decide +kernel)
  rcases (show a1.toInt ≤ 0 ∨ (1 ≤ a1.toInt ∧ a1.toInt ≤ 6) ∨ 7 ≤ a1.toInt by omega) with h | h | h
  · exact uc_i (r217 hAD) rfl (by omega) ⟨rfl, ok_int (by omega) (by omega), ok_full, ok_full, trivial⟩ hG (fun q hq => by cases hq) rfl rfl
  · rcases (show a2.toInt ≤ (-1) ∨ (0 ≤ a2.toInt ∧ a2.toInt ≤ 3) ∨ 4 ≤ a2.toInt by omega) with h | h | h
    · exact uc_i (r221 hAD) rfl (by omega) ⟨rfl, ok_int (by omega) (by omega), ok_int (by omega) (by omega), ok_full, trivial⟩ hG (fun q hq => by cases hq) rfl rfl
    · rcases (show a3.toInt ≤ 1 ∨ 2 ≤ a3.toInt by omega) with h | h
      · rcases (show a3.toInt ≤ (-1) ∨ a3.toInt = 0 ∨ a3.toInt = 1 by omega) with h | h | h
        · exact uc_i (r225 hAD) rfl (by omega) ⟨rfl, ok_int (by omega) (by omega), ok_int (by omega) (by omega), ok_int (by omega) (by omega), trivial⟩ hG (fun q hq => by cases hq) rfl rfl
        · rcases (show z107_0 = (-1) ∨ (0 ≤ z107_0 ∧ z107_0 ≤ 8) ∨ (9 ≤ z107_0 ∧ z107_0 ≤ 60) by omega) with h | h | h
          · exact uc_i (r229 hAD) rfl (by omega) ⟨rfl, ok_int (by omega) (by omega), ok_int (by omega) (by omega), ok_int (by omega) (by omega), trivial⟩ hG (pre_one hz107_0 (by omega) (by omega)) rfl rfl
          · exact uc_i (r232 hAD) rfl (by omega) ⟨rfl, ok_int (by omega) (by omega), ok_int (by omega) (by omega), ok_int (by omega) (by omega), trivial⟩ hG (pre_one hz107_0 (by omega) (by omega)) rfl rfl
          · exact uc_i (r234 hAD) rfl (by omega) ⟨rfl, ok_int (by omega) (by omega), ok_int (by omega) (by omega), ok_int (by omega) (by omega), trivial⟩ hG (pre_one hz107_0 (by omega) (by omega)) rfl rfl
        · rcases (show z107_1 = (-1) ∨ (0 ≤ z107_1 ∧ z107_1 ≤ 8) ∨ (9 ≤ z107_1 ∧ z107_1 ≤ 60) by omega) with h | h | h
          · exact uc_i (r236 hAD) rfl (by omega) ⟨rfl, ok_int (by omega) (by omega), ok_int (by omega) (by omega), ok_int (by omega) (by omega), trivial⟩ hG (pre_one hz107_1 (by omega) (by omega)) rfl rfl
          · exact uc_i (r239 hAD) rfl (by omega) ⟨rfl, ok_int (by omega) (by omega), ok_int (by omega) (by omega), ok_int (by omega) (by omega), trivial⟩ hG (pre_one hz107_1 (by omega) (by omega)) rfl rfl
          · exact uc_i (r241 hAD) rfl (by omega) ⟨rfl, ok_int (by omega) (by omega), ok_int (by omega) (by omega), ok_int (by omega) (by omega), trivial⟩ hG (pre_one hz107_1 (by omega) (by omega)) rfl rfl
      · rcases (show a3.toInt = 2 ∨ a3.toInt = 3 ∨ 4 ≤ a3.toInt by omega) with h | h | h
        · rcases (show z107_2 = (-1) ∨ (0 ≤ z107_2 ∧ z107_2 ≤ 8) ∨ (9 ≤ z107_2 ∧ z107_2 ≤ 60) by omega) with h | h | h
          · exact uc_i (r243 hAD) rfl (by omega) ⟨rfl, ok_int (by omega) (by omega), ok_int (by omega) (by omega), ok_int (by omega) (by omega), trivial⟩ hG (pre_one hz107_2 (by omega) (by omega)) rfl rfl
          · exact uc_i (r246 hAD) rfl (by omega) ⟨rfl, ok_int (by omega) (by omega), ok_int (by omega) (by omega), ok_int (by omega) (by omega), trivial⟩ hG (pre_one hz107_2 (by omega) (by omega)) rfl rfl
          · exact uc_i (r248 hAD) rfl (by omega) ⟨rfl, ok_int (by omega) (by omega), ok_int (by omega) (by omega), ok_int (by omega) (by omega), trivial⟩ hG (pre_one hz107_2 (by omega) (by omega)) rfl rfl
        · rcases (show z107_3 = (-1) ∨ (0 ≤ z107_3 ∧ z107_3 ≤ 8) ∨ (9 ≤ z107_3 ∧ z107_3 ≤ 60) by omega) with h | h | h
          · exact uc_i (r250 hAD) rfl (by omega) ⟨rfl, ok_int (by omega) (by omega), ok_int (by omega) (by omega), ok_int (by omega) (by omega), trivial⟩ hG (pre_one hz107_3 (by omega) (by omega)) rfl rfl
          · exact uc_i (r253 hAD) rfl (by omega) ⟨rfl, ok_int (by omega) (by omega), ok_int (by omega) (by omega), ok_int (by omega) (by omega), trivial⟩ hG (pre_one hz107_3 (by omega) (by omega)) rfl rfl
          · exact uc_i (r255 hAD) rfl (by omega) ⟨rfl, ok_int (by omega) (by omega), ok_int (by omega) (by omega), ok_int (by omega) (by omega), trivial⟩ hG (pre_one hz107_3 (by omega) (by omega)) rfl rfl
        · exact uc_i (r227 hAD) rfl (by omega) ⟨rfl, ok_int (by omega) (by omega), ok_int (by omega) (by omega), ok_int (by omega) (by omega), trivial⟩ hG (fun q hq => by cases hq) rfl rfl
    · exact uc_i (r223 hAD) rfl (by omega) ⟨rfl, ok_int (by omega) (by omega), ok_int (by omega) (by omega), ok_full, trivial⟩ hG (fun q hq => by cases hq) rfl rfl
  · exact uc_i (r219 hAD) rfl (by omega) ⟨rfl, ok_int (by omega) (by omega), ok_full, ok_full, trivial⟩ hG (fun q hq => by cases hq) rfl rfl
theorem u_X44 (hAD : ∀ i : Nat, ad (1000 + i) = D.2 1000 i) (hG : GOK ad tys GG ws) (a1 : Int32) (a2 : Int32) (a3 : Int32) (a4 : Int32) : UCP l D tys A ad 49 [.ref (ad 0), .int a1, .int a2, .int a3, .int a4] ws 0 := by
  have l1 := Int32.le_toInt a1
  have u1 := Int32.toInt_lt a1
  have l2 := Int32.le_toInt a2
  have u2 := Int32.toInt_lt a2
  have l3 := Int32.le_toInt a3
  have u3 := Int32.toInt_lt a3
  have l4 := Int32.le_toInt a4
  have u4 := Int32.toInt_lt a4
  rcases (show a1.toInt ≤ 0 ∨ (1 ≤ a1.toInt ∧ a1.toInt ≤ 6) ∨ 7 ≤ a1.toInt by omega) with h | h | h
  · exact uc_i (r256 hAD) rfl (by omega) ⟨rfl, ok_int (by omega) (by omega), ok_full, ok_full, ok_full, trivial⟩ hG (fun q hq => by cases hq) rfl rfl
  · rcases (show a2.toInt ≤ (-1) ∨ (0 ≤ a2.toInt ∧ a2.toInt ≤ 3) ∨ 4 ≤ a2.toInt by omega) with h | h | h
    · exact uc_i (r258 hAD) rfl (by omega) ⟨rfl, ok_int (by omega) (by omega), ok_int (by omega) (by omega), ok_full, ok_full, trivial⟩ hG (fun q hq => by cases hq) rfl rfl
    · rcases (show a3.toInt ≤ (-1) ∨ (0 ≤ a3.toInt ∧ a3.toInt ≤ 3) ∨ 4 ≤ a3.toInt by omega) with h | h | h
      · exact uc_i (r260 hAD) rfl (by omega) ⟨rfl, ok_int (by omega) (by omega), ok_int (by omega) (by omega), ok_int (by omega) (by omega), ok_full, trivial⟩ hG (fun q hq => by cases hq) rfl rfl
      · exact uc_i (r262 hAD) rfl (by omega) ⟨rfl, ok_int (by omega) (by omega), ok_int (by omega) (by omega), ok_int (by omega) (by omega), ok_full, trivial⟩ hG (fun q hq => by cases hq) rfl rfl
      · exact uc_i (r261 hAD) rfl (by omega) ⟨rfl, ok_int (by omega) (by omega), ok_int (by omega) (by omega), ok_int (by omega) (by omega), ok_full, trivial⟩ hG (fun q hq => by cases hq) rfl rfl
    · exact uc_i (r259 hAD) rfl (by omega) ⟨rfl, ok_int (by omega) (by omega), ok_int (by omega) (by omega), ok_full, ok_full, trivial⟩ hG (fun q hq => by cases hq) rfl rfl
  · exact uc_i (r257 hAD) rfl (by omega) ⟨rfl, ok_int (by omega) (by omega), ok_full, ok_full, ok_full, trivial⟩ hG (fun q hq => by cases hq) rfl rfl
theorem u_M44 (hAD : ∀ i : Nat, ad (1000 + i) = D.2 1000 i) (hG : GOK ad tys GG ws) (a1 : Int32) (a2 : Int32) (a3 : Int32) (a4 : Int32) : UCP l D tys A ad 304 [.ref (ad 90), .int a1, .int a2, .int a3, .int a4] ws 0 := ⟨4, by omega, CT_post (gv_ct hAD hG a1 a2 a3 a4) (fun r w h => ⟨⟨h.1, Or.inl ⟨rfl, h.2.1⟩⟩, KEP_of h.2.2 rfl⟩)⟩
theorem u_X45 (hAD : ∀ i : Nat, ad (1000 + i) = D.2 1000 i) (hG : GOK ad tys GG ws) (a1 : Int32) : UCP l D tys A ad 51 [.ref (ad 0), .int a1] ws 0 := by
  have l1 := Int32.le_toInt a1
  have u1 := Int32.toInt_lt a1
  rcases (show a1.toInt ≤ (-1) ∨ (0 ≤ a1.toInt ∧ a1.toInt ≤ 3) ∨ 4 ≤ a1.toInt by omega) with h | h | h
  · exact uc_i (r263 hAD) rfl (by omega) ⟨rfl, ok_int (by omega) (by omega), trivial⟩ hG (fun q hq => by cases hq) rfl rfl
  · exact uc_i (r268 hAD) rfl (by omega) ⟨rfl, ok_int (by omega) (by omega), trivial⟩ hG (fun q hq => by cases hq) rfl rfl
  · exact uc_i (r264 hAD) rfl (by omega) ⟨rfl, ok_int (by omega) (by omega), trivial⟩ hG (fun q hq => by cases hq) rfl rfl
end UCS3
