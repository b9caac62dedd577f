section PAS
variable {l : Launch} {D : va_G} {tys : List (ClassId × FieldType)} {A : Nat → Prop} {ad : Nat → Nat} {ws : va_W} {k d : Nat} {post : Option Value → va_W → Prop} {pc : Nat} {lv : List (Nat × Value)} {st : List Value} {a : Int} {x y z : Nat}
theorem V_lastI {c n j : Nat} {segs : List SG} {ix : Int32} {q : Int64} (hi : mI k pc = (20, a, 2, y, z)) (hix : ix = Int32.ofInt (j : Int)) (hG : GOK ad tys GG ws) (hg : GG[c]? = some ((2, 3, n), segs)) (hj : j < n) (hn : n ≤ 100000) (hs : segAt segs j = some (1, -9223372036854775808, 9223372036854775807)) (kk : ∀ w : va_W, GOK ad tys GG w → Upd1 ws w c j (.long q) → V l D tys A k d 0 0 post 0 0 (pc + 1) lv st w) : V l D tys A k d 0 0 post 0 0 pc lv (.long q :: .int ix :: .ref (ad c) :: st) ws := by
  subst hix
  obtain ⟨e, b1, b2, b3⟩ := hG c _ hg
  obtain ⟨cA, f, rfl, c1⟩ := b2
  refine V_last hi b1 c1 (ix_in hj hn).1 ?_
  rw [(ix_in hj hn).2]
  have q1 := Int64.le_toInt q
  have q2 := Int64.toInt_lt q
  have hu := GOK_upd (j := j) (v := .long q) (e' := .inl (cA, n, .inr (.inl (vp_updL f j q)))) hG hg b1 ⟨cA, _, rfl, c1⟩ (fun j' => by
    show (if j' < n then some (Value.long (vp_updL f j q j')) else none) = if j' = j then some (Value.long q) else if j' < n then some (Value.long (f j')) else none
    unfold vp_updL
    by_cases h : j' = j
    · subst h; simp [hj]
    · simp [h]) hs ⟨q.toInt, by rw [Int64.ofInt_toInt], by show (-9223372036854775808 : Int) ≤ q.toInt; omega, by show q.toInt ≤ (9223372036854775807 : Int); omega⟩
  exact kk _ hu.1 hu.2
theorem gl109 : ∃ s, GG[109]? = some ((2, 3, 240), s) ∧ ∀ j, j < 240 → segAt s j = some (1, -9223372036854775808, 9223372036854775807) := by
  refine ⟨_, rfl, fun j hj => ?_⟩
  show (bif Nat.blt j 240 then some _ else _) = _
  rw [show Nat.blt j 240 = true from Nat.blt_eq.mpr hj]
  rfl
theorem gl110 : ∃ s, GG[110]? = some ((2, 3, 60), s) ∧ ∀ j, j < 60 → segAt s j = some (1, -9223372036854775808, 9223372036854775807) := by
  refine ⟨_, rfl, fun j hj => ?_⟩
  show (bif Nat.blt j 60 then some _ else _) = _
  rw [show Nat.blt j 60 = true from Nat.blt_eq.mpr hj]
  rfl
theorem gr34 : ∃ g, GG[90]? = some ((0, 11, 36), g) ∧ segAt g 34 = some (2, ((109 : Nat) : Int), ((109 : Nat) : Int)) := ⟨_, rfl, by decide +kernel⟩
theorem gr35 : ∃ g, GG[90]? = some ((0, 11, 36), g) ∧ segAt g 35 = some (2, ((110 : Nat) : Int), ((110 : Nat) : Int)) := ⟨_, rfl, by decide +kernel⟩
theorem ladd_ {u v : Int} : lbF 0 (Int64.ofInt u) (Int64.ofInt v) = Int64.ofInt (u + v) := by
  show Int64.ofInt u + Int64.ofInt v = _
  rw [← Int64.ofInt_add]
theorem l0 {v : Int32} (h : cdP 2 v 0) : v.toInt < 0 := cmp_l.mp h
end PAS
section PAT
variable {l : Launch} {D : va_G} {tys : List (ClassId × FieldType)} {A : Nat → Prop} {ad : Nat → Nat} {ws : va_W}
end PAT
section PAU
variable {l : Launch} {D : va_G} {tys : List (ClassId × FieldType)} {A : Nat → Prop} {ad : Nat → Nat} {ws : va_W}
end PAU
