noncomputable def USP (l : Launch) (D : va_G) (tys : List (ClassId × FieldType)) (A : Nat → Prop) (ad : Nat → Nat) (y : Nat) (vs : List Value) (ws : va_W) (v : Int) : Prop := ∃ d', d' < 11 ∧ CT l D tys A y d' 0 0 vs ws (fun r w => r = some (.int (Int32.ofInt v)) ∧ GOK ad tys GG w ∧ KEP ws w)
theorem us_i {l : Launch} {D : va_G} {tys : List (ClassId × FieldType)} {A : Nat → Prop} {ad : Nat → Nat} {ws : va_W} {c : CR} {d y : Nat} {z : Int} {vs : List Value} (h : CRok l D tys A ad GG d c) (hy : c.1 = y) (hd : d ≤ 11) (hv : okvs ad c.2.1 vs) (hG : GOK ad tys GG ws) (hp : preOK ad c.2.2.1 ws) (hr : c.2.2.2.1 = some (0, z, z)) (hm : kpB c.2.2.2.2.2 = true) : USP l D tys A ad y vs ws z := by
  subst hy
  obtain ⟨d', h1, h2⟩ := h vs ws hv hG hp
  refine ⟨d', Nat.lt_of_lt_of_le h1 hd, CT_post h2 ?_⟩
  rintro r w ⟨q1, q2, q3, q4⟩
  rw [hr] at q3
  exact ⟨rt_int q3, q1, KEP_of (KEEP_F q2) hm⟩
