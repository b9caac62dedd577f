section UCS2
variable {l : Launch} {D : va_G} {tys : List (ClassId × FieldType)} {A : Nat → Prop} {ad : Nat → Nat} {ws : va_W}
theorem u_X33 (hAD : ∀ i : Nat, ad (1000 + i) = D.2 1000 i) (hG : GOK ad tys GG ws) (a1 : Int32) (a2 : Int32) : UCP l D tys A ad 36 [.ref (ad 0), .int a1, .int a2] ws 0 := by
  have l1 := Int32.le_toInt a1
  have u1 := Int32.toInt_lt a1
  have l2 := Int32.le_toInt a2
  have u2 := Int32.toInt_lt a2
  exact uc_i (r166 hAD) rfl (by omega) ⟨rfl, ok_full, ok_full, trivial⟩ hG (fun q hq => by cases hq) rfl rfl
theorem u_M33 (hAD : ∀ i : Nat, ad (1000 + i) = D.2 1000 i) (hG : GOK ad tys GG ws) (a1 : Int32) (a2 : Int32) : UCP l D tys A ad 286 [.ref (ad 90), .int a1, .int a2] ws 0 := by
  have l1 := Int32.le_toInt a1
  have u1 := Int32.toInt_lt a1
  have l2 := Int32.le_toInt a2
  have u2 := Int32.toInt_lt a2
  exact uc_i (r168 hAD) rfl (by omega) ⟨rfl, ok_full, ok_full, trivial⟩ hG (fun q hq => by cases hq) rfl rfl
theorem u_X34 (hAD : ∀ i : Nat, ad (1000 + i) = D.2 1000 i) (hG : GOK ad tys GG ws) (a1 : Int32) (a2 : Int32) : UCP l D tys A ad 37 [.ref (ad 0), .int a1, .int a2] ws 0 := by
  have l1 := Int32.le_toInt a1
  have u1 := Int32.toInt_lt a1
  have l2 := Int32.le_toInt a2
  have u2 := Int32.toInt_lt a2
  exact uc_i (r170 hAD) rfl (by omega) ⟨rfl, ok_full, ok_full, trivial⟩ hG (fun q hq => by cases hq) rfl rfl
theorem u_M34 (hAD : ∀ i : Nat, ad (1000 + i) = D.2 1000 i) (hG : GOK ad tys GG ws) (a1 : Int32) (a2 : Int32) : UCP l D tys A ad 287 [.ref (ad 90), .int a1, .int a2] ws 0 := by
  have l1 := Int32.le_toInt a1
  have u1 := Int32.toInt_lt a1
  have l2 := Int32.le_toInt a2
  have u2 := Int32.toInt_lt a2
  exact uc_i (r171 hAD) rfl (by omega) ⟨rfl, ok_full, ok_full, trivial⟩ hG (fun q hq => by cases hq) rfl rfl
theorem u_X35 (hAD : ∀ i : Nat, ad (1000 + i) = D.2 1000 i) (hG : GOK ad tys GG ws) (a1 : Int32) (a2 : Int32) : UCP l D tys A ad 38 [.ref (ad 0), .int a1, .int a2] ws 0 := by
  have l1 := Int32.le_toInt a1
  have u1 := Int32.toInt_lt a1
  have l2 := Int32.le_toInt a2
  have u2 := Int32.toInt_lt a2
  exact uc_i (r173 hAD) rfl (by omega) ⟨rfl, ok_full, ok_full, trivial⟩ hG (fun q hq => by cases hq) rfl rfl
theorem u_M35 (hAD : ∀ i : Nat, ad (1000 + i) = D.2 1000 i) (hG : GOK ad tys GG ws) (a1 : Int32) (a2 : Int32) : UCP l D tys A ad 289 [.ref (ad 90), .int a1, .int a2] ws 0 := by
  have l1 := Int32.le_toInt a1
  have u1 := Int32.toInt_lt a1
  have l2 := Int32.le_toInt a2
  have u2 := Int32.toInt_lt a2
  exact uc_i (r176 hAD) rfl (by omega) ⟨rfl, ok_full, ok_full, trivial⟩ hG (fun q hq => by cases hq) rfl rfl
theorem u_X36 (hAD : ∀ i : Nat, ad (1000 + i) = D.2 1000 i) (hG : GOK ad tys GG ws) (a1 : Int32) (a2 : Int32) : UCP l D tys A ad 39 [.ref (ad 0), .int a1, .int a2] ws 0 := by
  have l1 := Int32.le_toInt a1
  have u1 := Int32.toInt_lt a1
  have l2 := Int32.le_toInt a2
  have u2 := Int32.toInt_lt a2
  exact uc_i (r177 hAD) rfl (by omega) ⟨rfl, ok_full, ok_full, trivial⟩ hG (fun q hq => by cases hq) rfl rfl
theorem u_M36 (hAD : ∀ i : Nat, ad (1000 + i) = D.2 1000 i) (hG : GOK ad tys GG ws) (a1 : Int32) (a2 : Int32) : UCP l D tys A ad 290 [.ref (ad 90), .int a1, .int a2] ws 0 := by
  have l1 := Int32.le_toInt a1
  have u1 := Int32.toInt_lt a1
  have l2 := Int32.le_toInt a2
  have u2 := Int32.toInt_lt a2
  exact uc_i (r178 hAD) rfl (by omega) ⟨rfl, ok_full, ok_full, trivial⟩ hG (fun q hq => by cases hq) rfl rfl
theorem u_X40 (hAD : ∀ i : Nat, ad (1000 + i) = D.2 1000 i) (hG : GOK ad tys GG ws) (a1 : Int32) (a2 : Int32) (a3 : Int32) : UCP l D tys A ad 45 [.ref (ad 0), .int a1, .int a2, .int a3] ws 0 := by
  have l1 := Int32.le_toInt a1
  have u1 := Int32.toInt_lt a1
  have l2 := Int32.le_toInt a2
  have u2 := Int32.toInt_lt a2
  have l3 := Int32.le_toInt a3
  have u3 := Int32.toInt_lt a3
  exact uc_i (r186 hAD) rfl (by omega) ⟨rfl, ok_full, ok_full, ok_full, trivial⟩ hG (fun q hq => by cases hq) rfl rfl
theorem u_M40 (hAD : ∀ i : Nat, ad (1000 + i) = D.2 1000 i) (hG : GOK ad tys GG ws) (a1 : Int32) (a2 : Int32) (a3 : Int32) : UCP l D tys A ad 296 [.ref (ad 90), .int a1, .int a2, .int a3] ws 0 := by
  have l1 := Int32.le_toInt a1
  have u1 := Int32.toInt_lt a1
  have l2 := Int32.le_toInt a2
  have u2 := Int32.toInt_lt a2
  have l3 := Int32.le_toInt a3
  have u3 := Int32.toInt_lt a3
  exact uc_i (r188 hAD) rfl (by omega) ⟨rfl, ok_full, ok_full, ok_full, trivial⟩ hG (fun q hq => by cases hq) rfl rfl
theorem u_X41 (hAD : ∀ i : Nat, ad (1000 + i) = D.2 1000 i) (hG : GOK ad tys GG ws) (a1 : Int32) (a2 : Int32) : UCP l D tys A ad 46 [.ref (ad 0), .int a1, .int a2] ws 0 := by
  have l1 := Int32.le_toInt a1
  have u1 := Int32.toInt_lt a1
  have l2 := Int32.le_toInt a2
  have u2 := Int32.toInt_lt a2
  exact uc_i (r190 hAD) rfl (by omega) ⟨rfl, ok_full, ok_full, trivial⟩ hG (fun q hq => by cases hq) rfl rfl
theorem u_M41 (hAD : ∀ i : Nat, ad (1000 + i) = D.2 1000 i) (hG : GOK ad tys GG ws) (a1 : Int32) (a2 : Int32) : UCP l D tys A ad 298 [.ref (ad 90), .int a1, .int a2] ws 0 := by
  have l1 := Int32.le_toInt a1
  have u1 := Int32.toInt_lt a1
  have l2 := Int32.le_toInt a2
  have u2 := Int32.toInt_lt a2
  exact uc_i (r192 hAD) rfl (by omega) ⟨rfl, ok_full, ok_full, trivial⟩ hG (fun q hq => by cases hq) rfl rfl
theorem u_X42 (hAD : ∀ i : Nat, ad (1000 + i) = D.2 1000 i) (hG : GOK ad tys GG ws) (a1 : Int32) (a2 : Int32) : UCP l D tys A ad 47 [.ref (ad 0), .int a1, .int a2] ws 0 := by
  have l1 := Int32.le_toInt a1
  have u1 := Int32.toInt_lt a1
  have l2 := Int32.le_toInt a2
  have u2 := Int32.toInt_lt a2
  exact uc_i (r193 hAD) rfl (by omega) ⟨rfl, ok_full, ok_full, trivial⟩ hG (fun q hq => by cases hq) rfl rfl
theorem u_M42 (hAD : ∀ i : Nat, ad (1000 + i) = D.2 1000 i) (hG : GOK ad tys GG ws) (a1 : Int32) (a2 : Int32) : UCP l D tys A ad 299 [.ref (ad 90), .int a1, .int a2] ws 0 := by
  have l1 := Int32.le_toInt a1
  have u1 := Int32.toInt_lt a1
  have l2 := Int32.le_toInt a2
  have u2 := Int32.toInt_lt a2
  exact uc_i (r194 hAD) rfl (by omega) ⟨rfl, ok_full, ok_full, trivial⟩ hG (fun q hq => by cases hq) rfl rfl
theorem u_X43 (hAD : ∀ i : Nat, ad (1000 + i) = D.2 1000 i) (hG : GOK ad tys GG ws) (a1 : Int32) (a2 : Int32) (a3 : Int32) : UCP l D tys A ad 48 [.ref (ad 0), .int a1, .int a2, .int a3] ws 0 := by
  have l1 := Int32.le_toInt a1
  have u1 := Int32.toInt_lt a1
  have l2 := Int32.le_toInt a2
  have u2 := Int32.toInt_lt a2
  have l3 := Int32.le_toInt a3
  have u3 := Int32.toInt_lt a3
  rcases (show a1.toInt ≤ 0 ∨ (1 ≤ a1.toInt ∧ a1.toInt ≤ 6) ∨ 7 ≤ a1.toInt by omega) with h | h | h
  · exact uc_i (r196 hAD) rfl (by omega) ⟨rfl, ok_int (by omega) (by omega), ok_full, ok_full, trivial⟩ hG (fun q hq => by cases hq) rfl rfl
  · rcases (show a2.toInt ≤ (-1) ∨ (0 ≤ a2.toInt ∧ a2.toInt ≤ 3) ∨ 4 ≤ a2.toInt by omega) with h | h | h
    · exact uc_i (r200 hAD) rfl (by omega) ⟨rfl, ok_int (by omega) (by omega), ok_int (by omega) (by omega), ok_full, trivial⟩ hG (fun q hq => by cases hq) rfl rfl
    · rcases (show a3.toInt ≤ (-1) ∨ (0 ≤ a3.toInt ∧ a3.toInt ≤ 3) ∨ 4 ≤ a3.toInt by omega) with h | h | h
      · exact uc_i (r204 hAD) rfl (by omega) ⟨rfl, ok_int (by omega) (by omega), ok_int (by omega) (by omega), ok_int (by omega) (by omega), trivial⟩ hG (fun q hq => by cases hq) rfl rfl
      · exact uc_i (r215 hAD) rfl (by omega) ⟨rfl, ok_int (by omega) (by omega), ok_int (by omega) (by omega), ok_int (by omega) (by omega), trivial⟩ hG (fun q hq => by cases hq) rfl rfl
      · exact uc_i (r206 hAD) rfl (by omega) ⟨rfl, ok_int (by omega) (by omega), ok_int (by omega) (by omega), ok_int (by omega) (by omega), trivial⟩ hG (fun q hq => by cases hq) rfl rfl
    · exact uc_i (r202 hAD) rfl (by omega) ⟨rfl, ok_int (by omega) (by omega), ok_int (by omega) (by omega), ok_full, trivial⟩ hG (fun q hq => by cases hq) rfl rfl
  · exact uc_i (r198 hAD) rfl (by omega) ⟨rfl, ok_int (by omega) (by omega), ok_full, ok_full, trivial⟩ hG (fun q hq => by cases hq) rfl rfl
end UCS2
