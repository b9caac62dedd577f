section UCS8
variable {l : Launch} {D : va_G} {tys : List (ClassId × FieldType)} {A : Nat → Prop} {ad : Nat → Nat} {ws : va_W}
theorem u_X62 (hAD : ∀ i : Nat, ad (1000 + i) = D.2 1000 i) (hG : GOK ad tys GG ws) (a1 : Int32) (a2 : Int32) (a3 : Int32) : UCP l D tys A ad 70 [.ref (ad 0), .int a1, .int a2, .int a3] ws 0 := by
  have l1 := Int32.le_toInt a1
  have u1 := Int32.toInt_lt a1
  have l2 := Int32.le_toInt a2
  have u2 := Int32.toInt_lt a2
  have l3 := Int32.le_toInt a3
  have u3 := Int32.toInt_lt a3
  rcases (show a1.toInt ≤ (-1) ∨ (0 ≤ a1.toInt ∧ a1.toInt ≤ 3) ∨ 4 ≤ a1.toInt by omega) with h | h | h
  · exact uc_i (r655 hAD) rfl (by omega) ⟨rfl, ok_int (by omega) (by omega), ok_full, ok_full, trivial⟩ hG (fun q hq => by cases hq) rfl rfl
  · rcases (show a2.toInt ≤ (-1) ∨ (0 ≤ a2.toInt ∧ a2.toInt ≤ 3) ∨ 4 ≤ a2.toInt by omega) with h | h | h
    · exact uc_i (r657 hAD) rfl (by omega) ⟨rfl, ok_int (by omega) (by omega), ok_int (by omega) (by omega), ok_full, trivial⟩ hG (fun q hq => by cases hq) rfl rfl
    · rcases (show a3.toInt ≤ (-1) ∨ (0 ≤ a3.toInt ∧ a3.toInt ≤ 60) ∨ 61 ≤ a3.toInt by omega) with h | h | h
      · exact uc_i (r660 hAD) rfl (by omega) ⟨rfl, ok_int (by omega) (by omega), ok_int (by omega) (by omega), ok_int (by omega) (by omega), trivial⟩ hG (fun q hq => by cases hq) rfl rfl
      · exact uc_i (r663 hAD) rfl (by omega) ⟨rfl, ok_int (by omega) (by omega), ok_int (by omega) (by omega), ok_int (by omega) (by omega), trivial⟩ hG (fun q hq => by cases hq) rfl rfl
      · exact uc_i (r659 hAD) rfl (by omega) ⟨rfl, ok_int (by omega) (by omega), ok_int (by omega) (by omega), ok_int (by omega) (by omega), trivial⟩ hG (fun q hq => by cases hq) rfl rfl
    · exact uc_i (r658 hAD) rfl (by omega) ⟨rfl, ok_int (by omega) (by omega), ok_int (by omega) (by omega), ok_full, trivial⟩ hG (fun q hq => by cases hq) rfl rfl
  · exact uc_i (r656 hAD) rfl (by omega) ⟨rfl, ok_int (by omega) (by omega), ok_full, ok_full, trivial⟩ hG (fun q hq => by cases hq) rfl rfl
theorem u_M62 (hAD : ∀ i : Nat, ad (1000 + i) = D.2 1000 i) (hG : GOK ad tys GG ws) (a1 : Int32) (a2 : Int32) (a3 : Int32) : UCP l D tys A ad 338 [.ref (ad 90), .int a1, .int a2, .int a3] ws 0 := by
  have l1 := Int32.le_toInt a1
  have u1 := Int32.toInt_lt a1
  have l2 := Int32.le_toInt a2
  have u2 := Int32.toInt_lt a2
  have l3 := Int32.le_toInt a3
  have u3 := Int32.toInt_lt a3
  rcases (show a1.toInt ≤ (-1) ∨ (0 ≤ a1.toInt ∧ a1.toInt ≤ 3) ∨ 4 ≤ a1.toInt by omega) with h | h | h
  · exact uc_i (r664 hAD) rfl (by omega) ⟨rfl, ok_int (by omega) (by omega), ok_full, ok_full, trivial⟩ hG (fun q hq => by cases hq) rfl rfl
  · rcases (show a2.toInt ≤ (-1) ∨ (0 ≤ a2.toInt ∧ a2.toInt ≤ 3) ∨ 4 ≤ a2.toInt by omega) with h | h | h
    · exact uc_i (r666 hAD) rfl (by omega) ⟨rfl, ok_int (by omega) (by omega), ok_int (by omega) (by omega), ok_full, trivial⟩ hG (fun q hq => by cases hq) rfl rfl
    · rcases (show a3.toInt ≤ (-1) ∨ (0 ≤ a3.toInt ∧ a3.toInt ≤ 60) ∨ 61 ≤ a3.toInt by omega) with h | h | h
      · exact uc_i (r669 hAD) rfl (by omega) ⟨rfl, ok_int (by omega) (by omega), ok_int (by omega) (by omega), ok_int (by omega) (by omega), trivial⟩ hG (fun q hq => by cases hq) rfl rfl
      · exact uc_i (r670 hAD) rfl (by omega) ⟨rfl, ok_int (by omega) (by omega), ok_int (by omega) (by omega), ok_int (by omega) (by omega), trivial⟩ hG (fun q hq => by cases hq) rfl rfl
      · exact uc_i (r668 hAD) rfl (by omega) ⟨rfl, ok_int (by omega) (by omega), ok_int (by omega) (by omega), ok_int (by omega) (by omega), trivial⟩ hG (fun q hq => by cases hq) rfl rfl
    · exact uc_i (r667 hAD) rfl (by omega) ⟨rfl, ok_int (by omega) (by omega), ok_int (by omega) (by omega), ok_full, trivial⟩ hG (fun q hq => by cases hq) rfl rfl
  · exact uc_i (r665 hAD) rfl (by omega) ⟨rfl, ok_int (by omega) (by omega), ok_full, ok_full, trivial⟩ hG (fun q hq => by cases hq) rfl rfl
theorem u_X63 (hAD : ∀ i : Nat, ad (1000 + i) = D.2 1000 i) (hG : GOK ad tys GG ws) (a1 : Int32) (a2 : Int32) (a3 : Int64) : UCP l D tys A ad 71 [.ref (ad 0), .int a1, .int a2, .long a3] ws 0 := by
  have l1 := Int32.le_toInt a1
  have u1 := Int32.toInt_lt a1
  have l2 := Int32.le_toInt a2
  have u2 := Int32.toInt_lt a2
  rcases (show a1.toInt ≤ (-1) ∨ (0 ≤ a1.toInt ∧ a1.toInt ≤ 3) ∨ 4 ≤ a1.toInt by omega) with h | h | h
  · exact uc_i (r671 hAD) rfl (by omega) ⟨rfl, ok_int (by omega) (by omega), ok_full, ok_fullL, trivial⟩ hG (fun q hq => by cases hq) rfl rfl
  · exact uc_i (r674 hAD) rfl (by omega) ⟨rfl, ok_int (by omega) (by omega), ok_full, ok_fullL, trivial⟩ hG (fun q hq => by cases hq) rfl rfl
  · exact uc_i (r672 hAD) rfl (by omega) ⟨rfl, ok_int (by omega) (by omega), ok_full, ok_fullL, trivial⟩ hG (fun q hq => by cases hq) rfl rfl
theorem u_M63 (hAD : ∀ i : Nat, ad (1000 + i) = D.2 1000 i) (hG : GOK ad tys GG ws) (a1 : Int32) (a2 : Int32) (a3 : Int64) : UCP l D tys A ad 339 [.ref (ad 90), .int a1, .int a2, .long a3] ws 0 := by
  have l1 := Int32.le_toInt a1
  have u1 := Int32.toInt_lt a1
  have l2 := Int32.le_toInt a2
  have u2 := Int32.toInt_lt a2
  rcases (show a1.toInt ≤ (-1) ∨ (0 ≤ a1.toInt ∧ a1.toInt ≤ 3) ∨ 4 ≤ a1.toInt by omega) with h | h | h
  · exact uc_i (r675 hAD) rfl (by omega) ⟨rfl, ok_int (by omega) (by omega), ok_full, ok_fullL, trivial⟩ hG (fun q hq => by cases hq) rfl rfl
  · exact uc_i (r677 hAD) rfl (by omega) ⟨rfl, ok_int (by omega) (by omega), ok_full, ok_fullL, trivial⟩ hG (fun q hq => by cases hq) rfl rfl
  · exact uc_i (r676 hAD) rfl (by omega) ⟨rfl, ok_int (by omega) (by omega), ok_full, ok_fullL, trivial⟩ hG (fun q hq => by cases hq) rfl rfl
theorem u_X64 (hAD : ∀ i : Nat, ad (1000 + i) = D.2 1000 i) (hG : GOK ad tys GG ws) (a1 : Int32) (a2 : Int32) (a3 : Int32) (a4 : Int32) (a5 : Int32) : UCP l D tys A ad 72 [.ref (ad 0), .int a1, .int a2, .int a3, .int a4, .int a5] ws 0 := by
  obtain ⟨d2, h1, h2⟩ := upx (l := l) (A := A) hAD hG a1 a2 a3 a4 a5
  exact ⟨d2, h1, CT_post h2 (fun r w h => ⟨⟨h.2.1, Or.inl ⟨rfl, h.1⟩⟩, KEP_of (KEEP_F h.2.2) rfl⟩)⟩
theorem u_M64 (hAD : ∀ i : Nat, ad (1000 + i) = D.2 1000 i) (hG : GOK ad tys GG ws) (a1 : Int32) (a2 : Int32) (a3 : Int32) (a4 : Int32) (a5 : Int32) : UCP l D tys A ad 340 [.ref (ad 90), .int a1, .int a2, .int a3, .int a4, .int a5] ws 0 := by
  obtain ⟨d2, h1, h2⟩ := upm (l := l) (D := D) (A := A) hG a1 a2 a3 a4 a5
  exact ⟨d2, h1, CT_post h2 (fun r w h => ⟨⟨h.2.1, Or.inl ⟨rfl, h.1⟩⟩, KEP_of (KEEP_F h.2.2) rfl⟩)⟩
end UCS8
