def USP (l : Launch) (D : va_G) (tys : List (ClassId × FieldType)) (A : Nat → Prop) (ad : Nat → Nat) (y : Nat) (vs : List Value) (ws : va_W) (v : Int) : Prop := ∃ d', d' < 11 ∧ CT l D tys A y d' 0 0 vs ws (fun r w => r = some (.int (Int32.ofInt v)) ∧ GOK ad tys GG w)
theorem us_i {l : Launch} {D : va_G} {tys : List (ClassId × FieldType)} {A : Nat → Prop} {ad : Nat → Nat} {ws : va_W} {c : CR} {d y : Nat} {z : Int} {vs : List Value} (h : CRok l D tys A ad GG d c) (hy : c.1 = y) (hd : d ≤ 11) (hv : okvs ad c.2.1 vs) (hG : GOK ad tys GG ws) (hp : preOK ad c.2.2.1 ws) (hr : c.2.2.2.1 = some (0, z, z)) : USP l D tys A ad y vs ws z := by
  subst hy
  obtain ⟨d', h1, h2⟩ := h vs ws hv hG hp
  refine ⟨d', Nat.lt_of_lt_of_le h1 hd, CT_post h2 ?_⟩
  rintro r w ⟨q1, q2, q3, q4⟩
  rw [hr] at q3
  exact ⟨rt_int q3, q1⟩
theorem same_60 {l : Launch} {D : va_G} {tys : List (ClassId × FieldType)} {A : Nat → Prop} {ad : Nat → Nat} {ws : va_W} (hAD : ∀ i : Nat, ad (1000 + i) = D.2 1000 i) (hG : GOK ad tys GG ws) (a1 : Int32) : ∃ v : Int, USP l D tys A ad 67 [.ref (ad 0), .int a1] ws v ∧ ∀ w : va_W, GOK ad tys GG w → USP l D tys A ad 196 [.ref (ad 90), .int a1] w v := by
  have l1 := Int32.le_toInt a1
  have u1 := Int32.toInt_lt a1
  rcases (show a1.toInt ≤ 0 ∨ 1 ≤ a1.toInt by omega) with h | h
  · rcases (show a1.toInt ≤ (-1) ∨ a1.toInt = 0 by omega) with h | h
    · exact ⟨(-2), us_i (r569 hAD) rfl (by omega) ⟨rfl, ok_int (by omega) (by omega), trivial⟩ hG (fun q hq => by cases hq) rfl, fun w hw => us_i (r607 hAD) rfl (by omega) ⟨rfl, ok_int (by omega) (by omega), trivial⟩ hw (fun q hq => by cases hq) rfl⟩
    · exact ⟨0, us_i (r582 hAD) rfl (by omega) ⟨rfl, ok_int (by omega) (by omega), trivial⟩ hG (fun q hq => by cases hq) rfl, fun w hw => us_i (r609 hAD) rfl (by omega) ⟨rfl, ok_int (by omega) (by omega), trivial⟩ hw (fun q hq => by cases hq) rfl⟩
  · rcases (show a1.toInt = 1 ∨ a1.toInt = 2 ∨ 3 ≤ a1.toInt by omega) with h | h | h
    · exact ⟨0, us_i (r594 hAD) rfl (by omega) ⟨rfl, ok_int (by omega) (by omega), trivial⟩ hG (fun q hq => by cases hq) rfl, fun w hw => us_i (r610 hAD) rfl (by omega) ⟨rfl, ok_int (by omega) (by omega), trivial⟩ hw (fun q hq => by cases hq) rfl⟩
    · exact ⟨0, us_i (r606 hAD) rfl (by omega) ⟨rfl, ok_int (by omega) (by omega), trivial⟩ hG (fun q hq => by cases hq) rfl, fun w hw => us_i (r611 hAD) rfl (by omega) ⟨rfl, ok_int (by omega) (by omega), trivial⟩ hw (fun q hq => by cases hq) rfl⟩
    · exact ⟨(-2), us_i (r570 hAD) rfl (by omega) ⟨rfl, ok_int (by omega) (by omega), trivial⟩ hG (fun q hq => by cases hq) rfl, fun w hw => us_i (r608 hAD) rfl (by omega) ⟨rfl, ok_int (by omega) (by omega), trivial⟩ hw (fun q hq => by cases hq) rfl⟩
