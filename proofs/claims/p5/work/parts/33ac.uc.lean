section UCS2
variable {l : Launch} {D : va_G} {tys : List (ClassId × FieldType)} {A : Nat → Prop} {ad : Nat → Nat} {ws : va_W}
theorem u_M27 (hAD : ∀ i : Nat, ad (1000 + i) = D.2 1000 i) (hG : GOK ad tys GG ws) (a1 : Int32) : UCP l D tys A ad 273 [.ref (ad 90), .int a1] ws 0 := by
  have l1 := Int32.le_toInt a1
  have u1 := Int32.toInt_lt a1
  exact uc_i (r144 hAD) rfl (by omega) ⟨rfl, ok_full, trivial⟩ hG (fun q hq => by cases hq) rfl rfl
theorem u_X28 (hAD : ∀ i : Nat, ad (1000 + i) = D.2 1000 i) (hG : GOK ad tys GG ws) (a1 : Int32) : UCP l D tys A ad 30 [.ref (ad 0), .int a1] ws 0 := by
  have l1 := Int32.le_toInt a1
  have u1 := Int32.toInt_lt a1
  exact uc_i (r145 hAD) rfl (by omega) ⟨rfl, ok_full, trivial⟩ hG (fun q hq => by cases hq) rfl rfl
theorem u_M28 (hAD : ∀ i : Nat, ad (1000 + i) = D.2 1000 i) (hG : GOK ad tys GG ws) (a1 : Int32) : UCP l D tys A ad 274 [.ref (ad 90), .int a1] ws 0 := by
  have l1 := Int32.le_toInt a1
  have u1 := Int32.toInt_lt a1
  exact uc_i (r146 hAD) rfl (by omega) ⟨rfl, ok_full, trivial⟩ hG (fun q hq => by cases hq) rfl rfl
theorem u_X29 (hAD : ∀ i : Nat, ad (1000 + i) = D.2 1000 i) (hG : GOK ad tys GG ws) (a1 : Int32) : UCP l D tys A ad 32 [.ref (ad 0), .int a1] ws 0 := by
  have l1 := Int32.le_toInt a1
  have u1 := Int32.toInt_lt a1
  exact uc_i (r149 hAD) rfl (by omega) ⟨rfl, ok_full, trivial⟩ hG (fun q hq => by cases hq) rfl rfl
theorem u_M29 (hAD : ∀ i : Nat, ad (1000 + i) = D.2 1000 i) (hG : GOK ad tys GG ws) (a1 : Int32) : UCP l D tys A ad 278 [.ref (ad 90), .int a1] ws 0 := by
  have l1 := Int32.le_toInt a1
  have u1 := Int32.toInt_lt a1
  exact uc_i (r150 hAD) rfl (by omega) ⟨rfl, ok_full, trivial⟩ hG (fun q hq => by cases hq) rfl rfl
theorem u_X30 (hAD : ∀ i : Nat, ad (1000 + i) = D.2 1000 i) (hG : GOK ad tys GG ws) (a1 : Int32) (a2 : Int32) : UCP l D tys A ad 33 [.ref (ad 0), .int a1, .int a2] ws 0 := by
  have l1 := Int32.le_toInt a1
  have u1 := Int32.toInt_lt a1
  have l2 := Int32.le_toInt a2
  have u2 := Int32.toInt_lt a2
  exact uc_i (r153 hAD) rfl (by omega) ⟨rfl, ok_full, ok_full, trivial⟩ hG (fun q hq => by cases hq) rfl rfl
theorem u_M30 (hAD : ∀ i : Nat, ad (1000 + i) = D.2 1000 i) (hG : GOK ad tys GG ws) (a1 : Int32) (a2 : Int32) : UCP l D tys A ad 280 [.ref (ad 90), .int a1, .int a2] ws 0 := by
  have l1 := Int32.le_toInt a1
  have u1 := Int32.toInt_lt a1
  have l2 := Int32.le_toInt a2
  have u2 := Int32.toInt_lt a2
  exact uc_i (r155 hAD) rfl (by omega) ⟨rfl, ok_full, ok_full, trivial⟩ hG (fun q hq => by cases hq) rfl rfl
theorem u_X31 (hAD : ∀ i : Nat, ad (1000 + i) = D.2 1000 i) (hG : GOK ad tys GG ws) (a1 : Int32) (a2 : Int32) : UCP l D tys A ad 34 [.ref (ad 0), .int a1, .int a2] ws 0 := by
  have l1 := Int32.le_toInt a1
  have u1 := Int32.toInt_lt a1
  have l2 := Int32.le_toInt a2
  have u2 := Int32.toInt_lt a2
  exact uc_i (r156 hAD) rfl (by omega) ⟨rfl, ok_full, ok_full, trivial⟩ hG (fun q hq => by cases hq) rfl rfl
theorem u_M31 (hAD : ∀ i : Nat, ad (1000 + i) = D.2 1000 i) (hG : GOK ad tys GG ws) (a1 : Int32) (a2 : Int32) : UCP l D tys A ad 281 [.ref (ad 90), .int a1, .int a2] ws 0 := by
  have l1 := Int32.le_toInt a1
  have u1 := Int32.toInt_lt a1
  have l2 := Int32.le_toInt a2
  have u2 := Int32.toInt_lt a2
  exact uc_i (r157 hAD) rfl (by omega) ⟨rfl, ok_full, ok_full, trivial⟩ hG (fun q hq => by cases hq) rfl rfl
theorem u_X32 (hAD : ∀ i : Nat, ad (1000 + i) = D.2 1000 i) (hG : GOK ad tys GG ws)  : UCP l D tys A ad 35 [.ref (ad 0)] ws 0 := by
  exact uc_i (r161 hAD) rfl (by omega) ⟨rfl, trivial⟩ hG (fun q hq => by cases hq) rfl rfl
theorem u_M32 (hAD : ∀ i : Nat, ad (1000 + i) = D.2 1000 i) (hG : GOK ad tys GG ws)  : UCP l D tys A ad 283 [.ref (ad 90)] ws 0 := by
  exact uc_i (r163 hAD) rfl (by omega) ⟨rfl, trivial⟩ hG (fun q hq => by cases hq) rfl rfl
theorem u_X33 (hAD : ∀ i : Nat, ad (1000 + i) = D.2 1000 i) (hG : GOK ad tys GG ws) (a1 : Int32) (a2 : Int32) : UCP l D tys A ad 36 [.ref (ad 0), .int a1, .int a2] ws 0 := by
  have l1 := Int32.le_toInt a1
  have u1 := Int32.toInt_lt a1
  have l2 := Int32.le_toInt a2
  have u2 := Int32.toInt_lt a2
  exact uc_i (r166 hAD) rfl (by omega) ⟨rfl, ok_full, ok_full, trivial⟩ hG (fun q hq => by cases hq) rfl rfl
theorem u_M33 (hAD : ∀ i : Nat, ad (1000 + i) = D.2 1000 i) (hG : GOK ad tys GG ws) (a1 : Int32) (a2 : Int32) : UCP l D tys A ad 286 [.ref (ad 90), .int a1, .int a2] ws 0 := by
  have l1 := Int32.le_toInt a1
  have u1 := Int32.toInt_lt a1
  have l2 := Int32.le_toInt a2
  have u2 := Int32.toInt_lt a2
  exact uc_i (r168 hAD) rfl (by omega) ⟨rfl, ok_full, ok_full, trivial⟩ hG (fun q hq => by cases hq) rfl rfl
theorem u_X34 (hAD : ∀ i : Nat, ad (1000 + i) = D.2 1000 i) (hG : GOK ad tys GG ws) (a1 : Int32) (a2 : Int32) : UCP l D tys A ad 37 [.ref (ad 0), .int a1, .int a2] ws 0 := by
  have l1 := Int32.le_toInt a1
  have u1 := Int32.toInt_lt a1
  have l2 := Int32.le_toInt a2
  have u2 := Int32.toInt_lt a2
  exact uc_i (r170 hAD) rfl (by omega) ⟨rfl, ok_full, ok_full, trivial⟩ hG (fun q hq => by cases hq) rfl rfl
theorem u_M34 (hAD : ∀ i : Nat, ad (1000 + i) = D.2 1000 i) (hG : GOK ad tys GG ws) (a1 : Int32) (a2 : Int32) : UCP l D tys A ad 287 [.ref (ad 90), .int a1, .int a2] ws 0 := by
  have l1 := Int32.le_toInt a1
  have u1 := Int32.toInt_lt a1
  have l2 := Int32.le_toInt a2
  have u2 := Int32.toInt_lt a2
  exact uc_i (r171 hAD) rfl (by omega) ⟨rfl, ok_full, ok_full, trivial⟩ hG (fun q hq => by cases hq) rfl rfl
theorem u_X35 (hAD : ∀ i : Nat, ad (1000 + i) = D.2 1000 i) (hG : GOK ad tys GG ws) (a1 : Int32) (a2 : Int32) : UCP l D tys A ad 38 [.ref (ad 0), .int a1, .int a2] ws 0 := by
  have l1 := Int32.le_toInt a1
  have u1 := Int32.toInt_lt a1
  have l2 := Int32.le_toInt a2
  have u2 := Int32.toInt_lt a2
  exact uc_i (r173 hAD) rfl (by omega) ⟨rfl, ok_full, ok_full, trivial⟩ hG (fun q hq => by cases hq) rfl rfl
theorem u_M35 (hAD : ∀ i : Nat, ad (1000 + i) = D.2 1000 i) (hG : GOK ad tys GG ws) (a1 : Int32) (a2 : Int32) : UCP l D tys A ad 289 [.ref (ad 90), .int a1, .int a2] ws 0 := by
  have l1 := Int32.le_toInt a1
  have u1 := Int32.toInt_lt a1
  have l2 := Int32.le_toInt a2
  have u2 := Int32.toInt_lt a2
  exact uc_i (r176 hAD) rfl (by omega) ⟨rfl, ok_full, ok_full, trivial⟩ hG (fun q hq => by cases hq) rfl rfl
theorem u_X36 (hAD : ∀ i : Nat, ad (1000 + i) = D.2 1000 i) (hG : GOK ad tys GG ws) (a1 : Int32) (a2 : Int32) : UCP l D tys A ad 39 [.ref (ad 0), .int a1, .int a2] ws 0 := by
  have l1 := Int32.le_toInt a1
  have u1 := Int32.toInt_lt a1
  have l2 := Int32.le_toInt a2
  have u2 := Int32.toInt_lt a2
  exact uc_i (r177 hAD) rfl (by omega) ⟨rfl, ok_full, ok_full, trivial⟩ hG (fun q hq => by cases hq) rfl rfl
theorem u_M36 (hAD : ∀ i : Nat, ad (1000 + i) = D.2 1000 i) (hG : GOK ad tys GG ws) (a1 : Int32) (a2 : Int32) : UCP l D tys A ad 290 [.ref (ad 90), .int a1, .int a2] ws 0 := by
  have l1 := Int32.le_toInt a1
  have u1 := Int32.toInt_lt a1
  have l2 := Int32.le_toInt a2
  have u2 := Int32.toInt_lt a2
  exact uc_i (r178 hAD) rfl (by omega) ⟨rfl, ok_full, ok_full, trivial⟩ hG (fun q hq => by cases hq) rfl rfl
theorem u_X37 (hAD : ∀ i : Nat, ad (1000 + i) = D.2 1000 i) (hG : GOK ad tys GG ws) (a1 : Int32) (a2 : Int32) (a3 : Int32) (a4 : Int32) : UCP l D tys A ad 41 [.ref (ad 0), .int a1, .int a2, .int a3, .int a4] ws 0 := by
  have l1 := Int32.le_toInt a1
  have u1 := Int32.toInt_lt a1
  have l2 := Int32.le_toInt a2
  have u2 := Int32.toInt_lt a2
  have l3 := Int32.le_toInt a3
  have u3 := Int32.toInt_lt a3
  have l4 := Int32.le_toInt a4
  have u4 := Int32.toInt_lt a4
  exact uc_i (r179 hAD) rfl (by omega) ⟨rfl, ok_full, ok_full, ok_full, ok_full, trivial⟩ hG (fun q hq => by cases hq) rfl rfl
theorem u_M37 (hAD : ∀ i : Nat, ad (1000 + i) = D.2 1000 i) (hG : GOK ad tys GG ws) (a1 : Int32) (a2 : Int32) (a3 : Int32) (a4 : Int32) : UCP l D tys A ad 291 [.ref (ad 90), .int a1, .int a2, .int a3, .int a4] ws 0 := by
  have l1 := Int32.le_toInt a1
  have u1 := Int32.toInt_lt a1
  have l2 := Int32.le_toInt a2
  have u2 := Int32.toInt_lt a2
  have l3 := Int32.le_toInt a3
  have u3 := Int32.toInt_lt a3
  have l4 := Int32.le_toInt a4
  have u4 := Int32.toInt_lt a4
  exact uc_i (r180 hAD) rfl (by omega) ⟨rfl, ok_full, ok_full, ok_full, ok_full, trivial⟩ hG (fun q hq => by cases hq) rfl rfl
theorem u_X38 (hAD : ∀ i : Nat, ad (1000 + i) = D.2 1000 i) (hG : GOK ad tys GG ws)  : UCP l D tys A ad 42 [.ref (ad 0)] ws 0 := by
  exact uc_i (r181 hAD) rfl (by omega) ⟨rfl, trivial⟩ hG (fun q hq => by cases hq) rfl rfl
theorem u_M38 (hAD : ∀ i : Nat, ad (1000 + i) = D.2 1000 i) (hG : GOK ad tys GG ws)  : UCP l D tys A ad 292 [.ref (ad 90)] ws 0 := by
  exact uc_i (r182 hAD) rfl (by omega) ⟨rfl, trivial⟩ hG (fun q hq => by cases hq) rfl rfl
end UCS2
