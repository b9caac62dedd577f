def UCP (l : Launch) (D : va_G) (tys : List (ClassId × FieldType)) (A : Nat → Prop) (ad : Nat → Nat) (y : Nat) (vs : List Value) (ws : va_W) (t : Nat) : Prop := ∃ d', d' < 11 ∧ CT l D tys A y d' 0 0 vs ws (UPo ad tys t)
section UCS
variable {l : Launch} {D : va_G} {tys : List (ClassId × FieldType)} {A : Nat → Prop} {ad : Nat → Nat} {ws : va_W}
theorem uc_i {c : CR} {d : Nat} {lo hi : Int} {vs : List Value} (h : CRok l D tys A ad GG d c) (hd : d ≤ 11) (hv : okvs ad c.2.1 vs) (hG : GOK ad tys GG ws) (hp : preOK ad c.2.2.1 ws) (hr : c.2.2.2.1 = some (0, lo, hi)) : UCP l D tys A ad c.1 vs ws 0 := by
  obtain ⟨d', h1, h2⟩ := h vs ws hv hG hp
  refine ⟨d', Nat.lt_of_lt_of_le h1 hd, CT_post h2 ?_⟩
  rintro r w ⟨q1, q2, q3, q4⟩
  rw [hr] at q3
  cases r with
  | none => exact q3.elim
  | some v =>
    obtain ⟨z, rfl, -, -⟩ := q3
    exact ⟨q1, Or.inl ⟨rfl, _, rfl⟩⟩
theorem uc_l {c : CR} {d : Nat} {lo hi : Int} {vs : List Value} (h : CRok l D tys A ad GG d c) (hd : d ≤ 11) (hv : okvs ad c.2.1 vs) (hG : GOK ad tys GG ws) (hp : preOK ad c.2.2.1 ws) (hr : c.2.2.2.1 = some (1, lo, hi)) : UCP l D tys A ad c.1 vs ws 1 := by
  obtain ⟨d', h1, h2⟩ := h vs ws hv hG hp
  refine ⟨d', Nat.lt_of_lt_of_le h1 hd, CT_post h2 ?_⟩
  rintro r w ⟨q1, q2, q3, q4⟩
  rw [hr] at q3
  cases r with
  | none => exact q3.elim
  | some v =>
    obtain ⟨z, rfl, -, -⟩ := q3
    exact ⟨q1, Or.inr ⟨rfl, _, rfl⟩⟩
theorem cell_bd {c j ty n : Nat} {lo hi : Int} {segs : List SG} (hG : GOK ad tys GG ws) (hg : GG[c]? = some ((1, ty, n), segs)) (hj : j < n) (hs : segAt segs j = some (0, lo, hi)) : ∃ z : Int, rd ws c j = some (.int (Int32.ofInt z)) ∧ lo ≤ z ∧ z ≤ hi := by
  obtain ⟨e, b1, b2, b3⟩ := hG c _ hg
  obtain ⟨cA, f, rfl, c1, -⟩ := b2
  have hr : rdE (.inl (cA, n, .inl f)) j = some (.int (f j)) := by show (if j < n then _ else _) = _; rw [if_pos hj]
  obtain ⟨sp, r1, r2⟩ := b3 j _ hr
  rw [hs] at r1
  cases r1
  obtain ⟨z, z1, z2, z3⟩ := r2
  exact ⟨z, by rw [rd_at b1, hr, z1], z2, z3⟩
theorem pre_one {c j : Nat} {lo hi z : Int} (h : rd ws c j = some (.int (Int32.ofInt z))) (h1 : lo ≤ z) (h2 : z ≤ hi) : preOK ad [((c, j), (0, lo, hi))] ws := by
  intro q hq
  rw [List.mem_singleton.mp hq]
  exact ⟨_, h, z, rfl, h1, h2⟩
theorem u_X0 (hAD : ∀ i : Nat, ad (1000 + i) = D.2 1000 i) (hG : GOK ad tys GG ws) (a1 : Int32) (a2 : Int32) (a3 : Int32) (a4 : Int32) (a5 : Int32) : UCP l D tys A ad 1 [.ref (ad 0), .int a1, .int a2, .int a3, .int a4, .int a5] ws 0 := by
  have l1 := Int32.le_toInt a1
  have u1 := Int32.toInt_lt a1
  have l2 := Int32.le_toInt a2
  have u2 := Int32.toInt_lt a2
  have l3 := Int32.le_toInt a3
  have u3 := Int32.toInt_lt a3
  have l4 := Int32.le_toInt a4
  have u4 := Int32.toInt_lt a4
  have l5 := Int32.le_toInt a5
  have u5 := Int32.toInt_lt a5
  exact uc_i (r1 hAD) (by omega) ⟨rfl, ok_full, ok_full, ok_full, ok_full, ok_full, trivial⟩ hG (fun q hq => by cases hq) rfl
theorem u_M0 (hAD : ∀ i : Nat, ad (1000 + i) = D.2 1000 i) (hG : GOK ad tys GG ws) (a1 : Int32) (a2 : Int32) (a3 : Int32) (a4 : Int32) (a5 : Int32) : UCP l D tys A ad 210 [.ref (ad 90), .int a1, .int a2, .int a3, .int a4, .int a5] ws 0 := by
  have l1 := Int32.le_toInt a1
  have u1 := Int32.toInt_lt a1
  have l2 := Int32.le_toInt a2
  have u2 := Int32.toInt_lt a2
  have l3 := Int32.le_toInt a3
  have u3 := Int32.toInt_lt a3
  have l4 := Int32.le_toInt a4
  have u4 := Int32.toInt_lt a4
  have l5 := Int32.le_toInt a5
  have u5 := Int32.toInt_lt a5
  exact uc_i (r2 hAD) (by omega) ⟨rfl, ok_full, ok_full, ok_full, ok_full, ok_full, trivial⟩ hG (fun q hq => by cases hq) rfl
theorem u_X1 (hAD : ∀ i : Nat, ad (1000 + i) = D.2 1000 i) (hG : GOK ad tys GG ws) (a1 : Int32) : UCP l D tys A ad 2 [.ref (ad 0), .int a1] ws 0 := by
  have l1 := Int32.le_toInt a1
  have u1 := Int32.toInt_lt a1
  exact uc_i (r3 hAD) (by omega) ⟨rfl, ok_full, trivial⟩ hG (fun q hq => by cases hq) rfl
theorem u_M1 (hAD : ∀ i : Nat, ad (1000 + i) = D.2 1000 i) (hG : GOK ad tys GG ws) (a1 : Int32) : UCP l D tys A ad 211 [.ref (ad 90), .int a1] ws 0 := by
  have l1 := Int32.le_toInt a1
  have u1 := Int32.toInt_lt a1
  exact uc_i (r4 hAD) (by omega) ⟨rfl, ok_full, trivial⟩ hG (fun q hq => by cases hq) rfl
theorem u_X2 (hAD : ∀ i : Nat, ad (1000 + i) = D.2 1000 i) (hG : GOK ad tys GG ws)  : UCP l D tys A ad 3 [.ref (ad 0)] ws 0 := by
  exact uc_i (r79 hAD) (by omega) ⟨rfl, trivial⟩ hG (fun q hq => by cases hq) rfl
theorem u_M2 (hAD : ∀ i : Nat, ad (1000 + i) = D.2 1000 i) (hG : GOK ad tys GG ws)  : UCP l D tys A ad 233 [.ref (ad 90)] ws 0 := sorry
theorem u_X3 (hAD : ∀ i : Nat, ad (1000 + i) = D.2 1000 i) (hG : GOK ad tys GG ws) (a1 : Int32) : UCP l D tys A ad 4 [.ref (ad 0), .int a1] ws 0 := by
  have l1 := Int32.le_toInt a1
  have u1 := Int32.toInt_lt a1
  exact uc_i (r80 hAD) (by omega) ⟨rfl, ok_full, trivial⟩ hG (fun q hq => by cases hq) rfl
theorem u_M3 (hAD : ∀ i : Nat, ad (1000 + i) = D.2 1000 i) (hG : GOK ad tys GG ws) (a1 : Int32) : UCP l D tys A ad 221 [.ref (ad 90), .int a1] ws 0 := by
  have l1 := Int32.le_toInt a1
  have u1 := Int32.toInt_lt a1
  exact uc_i (r81 hAD) (by omega) ⟨rfl, ok_full, trivial⟩ hG (fun q hq => by cases hq) rfl
theorem u_X4 (hAD : ∀ i : Nat, ad (1000 + i) = D.2 1000 i) (hG : GOK ad tys GG ws) (a1 : Int32) (a2 : Int32) : UCP l D tys A ad 5 [.ref (ad 0), .int a1, .int a2] ws 0 := by
  have l1 := Int32.le_toInt a1
  have u1 := Int32.toInt_lt a1
  have l2 := Int32.le_toInt a2
  have u2 := Int32.toInt_lt a2
  exact uc_i (r82 hAD) (by omega) ⟨rfl, ok_full, ok_full, trivial⟩ hG (fun q hq => by cases hq) rfl
theorem u_M4 (hAD : ∀ i : Nat, ad (1000 + i) = D.2 1000 i) (hG : GOK ad tys GG ws) (a1 : Int32) (a2 : Int32) : UCP l D tys A ad 243 [.ref (ad 90), .int a1, .int a2] ws 0 := by
  have l1 := Int32.le_toInt a1
  have u1 := Int32.toInt_lt a1
  have l2 := Int32.le_toInt a2
  have u2 := Int32.toInt_lt a2
  exact uc_i (r83 hAD) (by omega) ⟨rfl, ok_full, ok_full, trivial⟩ hG (fun q hq => by cases hq) rfl
theorem u_X5 (hAD : ∀ i : Nat, ad (1000 + i) = D.2 1000 i) (hG : GOK ad tys GG ws) (a1 : Int32) : UCP l D tys A ad 6 [.ref (ad 0), .int a1] ws 0 := by
  have l1 := Int32.le_toInt a1
  have u1 := Int32.toInt_lt a1
  exact uc_i (r84 hAD) (by omega) ⟨rfl, ok_full, trivial⟩ hG (fun q hq => by cases hq) rfl
theorem u_M5 (hAD : ∀ i : Nat, ad (1000 + i) = D.2 1000 i) (hG : GOK ad tys GG ws) (a1 : Int32) : UCP l D tys A ad 244 [.ref (ad 90), .int a1] ws 0 := by
  have l1 := Int32.le_toInt a1
  have u1 := Int32.toInt_lt a1
  exact uc_i (r85 hAD) (by omega) ⟨rfl, ok_full, trivial⟩ hG (fun q hq => by cases hq) rfl
theorem u_X6 (hAD : ∀ i : Nat, ad (1000 + i) = D.2 1000 i) (hG : GOK ad tys GG ws) (a1 : Int32) (a2 : Int32) : UCP l D tys A ad 7 [.ref (ad 0), .int a1, .int a2] ws 0 := by
  have l1 := Int32.le_toInt a1
  have u1 := Int32.toInt_lt a1
  have l2 := Int32.le_toInt a2
  have u2 := Int32.toInt_lt a2
  exact uc_i (r86 hAD) (by omega) ⟨rfl, ok_full, ok_full, trivial⟩ hG (fun q hq => by cases hq) rfl
theorem u_M6 (hAD : ∀ i : Nat, ad (1000 + i) = D.2 1000 i) (hG : GOK ad tys GG ws) (a1 : Int32) (a2 : Int32) : UCP l D tys A ad 245 [.ref (ad 90), .int a1, .int a2] ws 0 := by
  have l1 := Int32.le_toInt a1
  have u1 := Int32.toInt_lt a1
  have l2 := Int32.le_toInt a2
  have u2 := Int32.toInt_lt a2
  exact uc_i (r87 hAD) (by omega) ⟨rfl, ok_full, ok_full, trivial⟩ hG (fun q hq => by cases hq) rfl
theorem u_X7 (hAD : ∀ i : Nat, ad (1000 + i) = D.2 1000 i) (hG : GOK ad tys GG ws) (a1 : Int32) (a2 : Int32) : UCP l D tys A ad 8 [.ref (ad 0), .int a1, .int a2] ws 0 := by
  have l1 := Int32.le_toInt a1
  have u1 := Int32.toInt_lt a1
  have l2 := Int32.le_toInt a2
  have u2 := Int32.toInt_lt a2
  exact uc_i (r88 hAD) (by omega) ⟨rfl, ok_full, ok_full, trivial⟩ hG (fun q hq => by cases hq) rfl
theorem u_M7 (hAD : ∀ i : Nat, ad (1000 + i) = D.2 1000 i) (hG : GOK ad tys GG ws) (a1 : Int32) (a2 : Int32) : UCP l D tys A ad 246 [.ref (ad 90), .int a1, .int a2] ws 0 := by
  have l1 := Int32.le_toInt a1
  have u1 := Int32.toInt_lt a1
  have l2 := Int32.le_toInt a2
  have u2 := Int32.toInt_lt a2
  exact uc_i (r89 hAD) (by omega) ⟨rfl, ok_full, ok_full, trivial⟩ hG (fun q hq => by cases hq) rfl
theorem u_X8 (hAD : ∀ i : Nat, ad (1000 + i) = D.2 1000 i) (hG : GOK ad tys GG ws) (a1 : Int32) (a2 : Int32) : UCP l D tys A ad 9 [.ref (ad 0), .int a1, .int a2] ws 0 := by
  have l1 := Int32.le_toInt a1
  have u1 := Int32.toInt_lt a1
  have l2 := Int32.le_toInt a2
  have u2 := Int32.toInt_lt a2
  exact uc_i (r90 hAD) (by omega) ⟨rfl, ok_full, ok_full, trivial⟩ hG (fun q hq => by cases hq) rfl
theorem u_M8 (hAD : ∀ i : Nat, ad (1000 + i) = D.2 1000 i) (hG : GOK ad tys GG ws) (a1 : Int32) (a2 : Int32) : UCP l D tys A ad 247 [.ref (ad 90), .int a1, .int a2] ws 0 := by
  have l1 := Int32.le_toInt a1
  have u1 := Int32.toInt_lt a1
  have l2 := Int32.le_toInt a2
  have u2 := Int32.toInt_lt a2
  exact uc_i (r91 hAD) (by omega) ⟨rfl, ok_full, ok_full, trivial⟩ hG (fun q hq => by cases hq) rfl
theorem u_X9 (hAD : ∀ i : Nat, ad (1000 + i) = D.2 1000 i) (hG : GOK ad tys GG ws) (a1 : Int32) (a2 : Int32) : UCP l D tys A ad 10 [.ref (ad 0), .int a1, .int a2] ws 0 := by
  have l1 := Int32.le_toInt a1
  have u1 := Int32.toInt_lt a1
  have l2 := Int32.le_toInt a2
  have u2 := Int32.toInt_lt a2
  exact uc_i (r92 hAD) (by omega) ⟨rfl, ok_full, ok_full, trivial⟩ hG (fun q hq => by cases hq) rfl
theorem u_M9 (hAD : ∀ i : Nat, ad (1000 + i) = D.2 1000 i) (hG : GOK ad tys GG ws) (a1 : Int32) (a2 : Int32) : UCP l D tys A ad 248 [.ref (ad 90), .int a1, .int a2] ws 0 := by
  have l1 := Int32.le_toInt a1
  have u1 := Int32.toInt_lt a1
  have l2 := Int32.le_toInt a2
  have u2 := Int32.toInt_lt a2
  exact uc_i (r93 hAD) (by omega) ⟨rfl, ok_full, ok_full, trivial⟩ hG (fun q hq => by cases hq) rfl
theorem u_X10 (hAD : ∀ i : Nat, ad (1000 + i) = D.2 1000 i) (hG : GOK ad tys GG ws) (a1 : Int32) (a2 : Int32) (a3 : Int32) : UCP l D tys A ad 11 [.ref (ad 0), .int a1, .int a2, .int a3] ws 0 := by
  have l1 := Int32.le_toInt a1
  have u1 := Int32.toInt_lt a1
  have l2 := Int32.le_toInt a2
  have u2 := Int32.toInt_lt a2
  have l3 := Int32.le_toInt a3
  have u3 := Int32.toInt_lt a3
  exact uc_i (r94 hAD) (by omega) ⟨rfl, ok_full, ok_full, ok_full, trivial⟩ hG (fun q hq => by cases hq) rfl
theorem u_M10 (hAD : ∀ i : Nat, ad (1000 + i) = D.2 1000 i) (hG : GOK ad tys GG ws) (a1 : Int32) (a2 : Int32) (a3 : Int32) : UCP l D tys A ad 249 [.ref (ad 90), .int a1, .int a2, .int a3] ws 0 := by
  have l1 := Int32.le_toInt a1
  have u1 := Int32.toInt_lt a1
  have l2 := Int32.le_toInt a2
  have u2 := Int32.toInt_lt a2
  have l3 := Int32.le_toInt a3
  have u3 := Int32.toInt_lt a3
  exact uc_i (r97 hAD) (by omega) ⟨rfl, ok_full, ok_full, ok_full, trivial⟩ hG (fun q hq => by cases hq) rfl
theorem u_X11 (hAD : ∀ i : Nat, ad (1000 + i) = D.2 1000 i) (hG : GOK ad tys GG ws) (a1 : Int32) : UCP l D tys A ad 12 [.ref (ad 0), .int a1] ws 0 := by
  have l1 := Int32.le_toInt a1
  have u1 := Int32.toInt_lt a1
  exact uc_i (r98 hAD) (by omega) ⟨rfl, ok_full, trivial⟩ hG (fun q hq => by cases hq) rfl
theorem u_M11 (hAD : ∀ i : Nat, ad (1000 + i) = D.2 1000 i) (hG : GOK ad tys GG ws) (a1 : Int32) : UCP l D tys A ad 250 [.ref (ad 90), .int a1] ws 0 := by
  have l1 := Int32.le_toInt a1
  have u1 := Int32.toInt_lt a1
  exact uc_i (r99 hAD) (by omega) ⟨rfl, ok_full, trivial⟩ hG (fun q hq => by cases hq) rfl
theorem u_X12 (hAD : ∀ i : Nat, ad (1000 + i) = D.2 1000 i) (hG : GOK ad tys GG ws) (a1 : Int32) : UCP l D tys A ad 13 [.ref (ad 0), .int a1] ws 0 := by
  have l1 := Int32.le_toInt a1
  have u1 := Int32.toInt_lt a1
  exact uc_i (r100 hAD) (by omega) ⟨rfl, ok_full, trivial⟩ hG (fun q hq => by cases hq) rfl
theorem u_M12 (hAD : ∀ i : Nat, ad (1000 + i) = D.2 1000 i) (hG : GOK ad tys GG ws) (a1 : Int32) : UCP l D tys A ad 251 [.ref (ad 90), .int a1] ws 0 := by
  have l1 := Int32.le_toInt a1
  have u1 := Int32.toInt_lt a1
  exact uc_i (r101 hAD) (by omega) ⟨rfl, ok_full, trivial⟩ hG (fun q hq => by cases hq) rfl
theorem u_X13 (hAD : ∀ i : Nat, ad (1000 + i) = D.2 1000 i) (hG : GOK ad tys GG ws) (a1 : Int32) : UCP l D tys A ad 14 [.ref (ad 0), .int a1] ws 0 := by
  have l1 := Int32.le_toInt a1
  have u1 := Int32.toInt_lt a1
  exact uc_i (r102 hAD) (by omega) ⟨rfl, ok_full, trivial⟩ hG (fun q hq => by cases hq) rfl
theorem u_M13 (hAD : ∀ i : Nat, ad (1000 + i) = D.2 1000 i) (hG : GOK ad tys GG ws) (a1 : Int32) : UCP l D tys A ad 252 [.ref (ad 90), .int a1] ws 0 := by
  have l1 := Int32.le_toInt a1
  have u1 := Int32.toInt_lt a1
  exact uc_i (r103 hAD) (by omega) ⟨rfl, ok_full, trivial⟩ hG (fun q hq => by cases hq) rfl
theorem u_X14 (hAD : ∀ i : Nat, ad (1000 + i) = D.2 1000 i) (hG : GOK ad tys GG ws) (a1 : Int32) (a2 : Int32) : UCP l D tys A ad 15 [.ref (ad 0), .int a1, .int a2] ws 0 := by
  have l1 := Int32.le_toInt a1
  have u1 := Int32.toInt_lt a1
  have l2 := Int32.le_toInt a2
  have u2 := Int32.toInt_lt a2
  exact uc_i (r105 hAD) (by omega) ⟨rfl, ok_full, ok_full, trivial⟩ hG (fun q hq => by cases hq) rfl
theorem u_M14 (hAD : ∀ i : Nat, ad (1000 + i) = D.2 1000 i) (hG : GOK ad tys GG ws) (a1 : Int32) (a2 : Int32) : UCP l D tys A ad 254 [.ref (ad 90), .int a1, .int a2] ws 0 := by
  have l1 := Int32.le_toInt a1
  have u1 := Int32.toInt_lt a1
  have l2 := Int32.le_toInt a2
  have u2 := Int32.toInt_lt a2
  exact uc_i (r107 hAD) (by omega) ⟨rfl, ok_full, ok_full, trivial⟩ hG (fun q hq => by cases hq) rfl
theorem u_X15 (hAD : ∀ i : Nat, ad (1000 + i) = D.2 1000 i) (hG : GOK ad tys GG ws) (a1 : Int32) (a2 : Int32) : UCP l D tys A ad 16 [.ref (ad 0), .int a1, .int a2] ws 0 := by
  have l1 := Int32.le_toInt a1
  have u1 := Int32.toInt_lt a1
  have l2 := Int32.le_toInt a2
  have u2 := Int32.toInt_lt a2
  exact uc_i (r109 hAD) (by omega) ⟨rfl, ok_full, ok_full, trivial⟩ hG (fun q hq => by cases hq) rfl
theorem u_M15 (hAD : ∀ i : Nat, ad (1000 + i) = D.2 1000 i) (hG : GOK ad tys GG ws) (a1 : Int32) (a2 : Int32) : UCP l D tys A ad 256 [.ref (ad 90), .int a1, .int a2] ws 0 := by
  have l1 := Int32.le_toInt a1
  have u1 := Int32.toInt_lt a1
  have l2 := Int32.le_toInt a2
  have u2 := Int32.toInt_lt a2
  exact uc_i (r111 hAD) (by omega) ⟨rfl, ok_full, ok_full, trivial⟩ hG (fun q hq => by cases hq) rfl
theorem u_X16 (hAD : ∀ i : Nat, ad (1000 + i) = D.2 1000 i) (hG : GOK ad tys GG ws) (a1 : Int32) : UCP l D tys A ad 17 [.ref (ad 0), .int a1] ws 0 := by
  have l1 := Int32.le_toInt a1
  have u1 := Int32.toInt_lt a1
  exact uc_i (r113 hAD) (by omega) ⟨rfl, ok_full, trivial⟩ hG (fun q hq => by cases hq) rfl
theorem u_M16 (hAD : ∀ i : Nat, ad (1000 + i) = D.2 1000 i) (hG : GOK ad tys GG ws) (a1 : Int32) : UCP l D tys A ad 258 [.ref (ad 90), .int a1] ws 0 := by
  have l1 := Int32.le_toInt a1
  have u1 := Int32.toInt_lt a1
  exact uc_i (r115 hAD) (by omega) ⟨rfl, ok_full, trivial⟩ hG (fun q hq => by cases hq) rfl
theorem u_X17 (hAD : ∀ i : Nat, ad (1000 + i) = D.2 1000 i) (hG : GOK ad tys GG ws) (a1 : Int32) : UCP l D tys A ad 18 [.ref (ad 0), .int a1] ws 0 := by
  have l1 := Int32.le_toInt a1
  have u1 := Int32.toInt_lt a1
  exact uc_i (r116 hAD) (by omega) ⟨rfl, ok_full, trivial⟩ hG (fun q hq => by cases hq) rfl
theorem u_M17 (hAD : ∀ i : Nat, ad (1000 + i) = D.2 1000 i) (hG : GOK ad tys GG ws) (a1 : Int32) : UCP l D tys A ad 259 [.ref (ad 90), .int a1] ws 0 := by
  have l1 := Int32.le_toInt a1
  have u1 := Int32.toInt_lt a1
  exact uc_i (r117 hAD) (by omega) ⟨rfl, ok_full, trivial⟩ hG (fun q hq => by cases hq) rfl
theorem u_X18 (hAD : ∀ i : Nat, ad (1000 + i) = D.2 1000 i) (hG : GOK ad tys GG ws) (a1 : Int32) : UCP l D tys A ad 19 [.ref (ad 0), .int a1] ws 0 := by
  have l1 := Int32.le_toInt a1
  have u1 := Int32.toInt_lt a1
  exact uc_i (r118 hAD) (by omega) ⟨rfl, ok_full, trivial⟩ hG (fun q hq => by cases hq) rfl
theorem u_M18 (hAD : ∀ i : Nat, ad (1000 + i) = D.2 1000 i) (hG : GOK ad tys GG ws) (a1 : Int32) : UCP l D tys A ad 260 [.ref (ad 90), .int a1] ws 0 := by
  have l1 := Int32.le_toInt a1
  have u1 := Int32.toInt_lt a1
  exact uc_i (r119 hAD) (by omega) ⟨rfl, ok_full, trivial⟩ hG (fun q hq => by cases hq) rfl
theorem u_X19 (hAD : ∀ i : Nat, ad (1000 + i) = D.2 1000 i) (hG : GOK ad tys GG ws) (a1 : Int32) (a2 : Int32) : UCP l D tys A ad 20 [.ref (ad 0), .int a1, .int a2] ws 0 := by
  have l1 := Int32.le_toInt a1
  have u1 := Int32.toInt_lt a1
  have l2 := Int32.le_toInt a2
  have u2 := Int32.toInt_lt a2
  exact uc_i (r121 hAD) (by omega) ⟨rfl, ok_full, ok_full, trivial⟩ hG (fun q hq => by cases hq) rfl
theorem u_M19 (hAD : ∀ i : Nat, ad (1000 + i) = D.2 1000 i) (hG : GOK ad tys GG ws) (a1 : Int32) (a2 : Int32) : UCP l D tys A ad 262 [.ref (ad 90), .int a1, .int a2] ws 0 := by
  have l1 := Int32.le_toInt a1
  have u1 := Int32.toInt_lt a1
  have l2 := Int32.le_toInt a2
  have u2 := Int32.toInt_lt a2
  exact uc_i (r124 hAD) (by omega) ⟨rfl, ok_full, ok_full, trivial⟩ hG (fun q hq => by cases hq) rfl
theorem u_X20 (hAD : ∀ i : Nat, ad (1000 + i) = D.2 1000 i) (hG : GOK ad tys GG ws) (a1 : Int32) : UCP l D tys A ad 21 [.ref (ad 0), .int a1] ws 0 := by
  have l1 := Int32.le_toInt a1
  have u1 := Int32.toInt_lt a1
  exact uc_i (r125 hAD) (by omega) ⟨rfl, ok_full, trivial⟩ hG (fun q hq => by cases hq) rfl
theorem u_M20 (hAD : ∀ i : Nat, ad (1000 + i) = D.2 1000 i) (hG : GOK ad tys GG ws) (a1 : Int32) : UCP l D tys A ad 263 [.ref (ad 90), .int a1] ws 0 := by
  have l1 := Int32.le_toInt a1
  have u1 := Int32.toInt_lt a1
  exact uc_i (r126 hAD) (by omega) ⟨rfl, ok_full, trivial⟩ hG (fun q hq => by cases hq) rfl
theorem u_X21 (hAD : ∀ i : Nat, ad (1000 + i) = D.2 1000 i) (hG : GOK ad tys GG ws) (a1 : Int32) (a2 : Int32) (a3 : Int32) : UCP l D tys A ad 22 [.ref (ad 0), .int a1, .int a2, .int a3] ws 0 := by
  have l1 := Int32.le_toInt a1
  have u1 := Int32.toInt_lt a1
  have l2 := Int32.le_toInt a2
  have u2 := Int32.toInt_lt a2
  have l3 := Int32.le_toInt a3
  have u3 := Int32.toInt_lt a3
  exact uc_i (r128 hAD) (by omega) ⟨rfl, ok_full, ok_full, ok_full, trivial⟩ hG (fun q hq => by cases hq) rfl
theorem u_M21 (hAD : ∀ i : Nat, ad (1000 + i) = D.2 1000 i) (hG : GOK ad tys GG ws) (a1 : Int32) (a2 : Int32) (a3 : Int32) : UCP l D tys A ad 266 [.ref (ad 90), .int a1, .int a2, .int a3] ws 0 := by
  have l1 := Int32.le_toInt a1
  have u1 := Int32.toInt_lt a1
  have l2 := Int32.le_toInt a2
  have u2 := Int32.toInt_lt a2
  have l3 := Int32.le_toInt a3
  have u3 := Int32.toInt_lt a3
  exact uc_i (r130 hAD) (by omega) ⟨rfl, ok_full, ok_full, ok_full, trivial⟩ hG (fun q hq => by cases hq) rfl
theorem u_X22 (hAD : ∀ i : Nat, ad (1000 + i) = D.2 1000 i) (hG : GOK ad tys GG ws) (a1 : Int32) (a2 : Int32) : UCP l D tys A ad 23 [.ref (ad 0), .int a1, .int a2] ws 0 := by
  have l1 := Int32.le_toInt a1
  have u1 := Int32.toInt_lt a1
  have l2 := Int32.le_toInt a2
  have u2 := Int32.toInt_lt a2
  exact uc_i (r131 hAD) (by omega) ⟨rfl, ok_full, ok_full, trivial⟩ hG (fun q hq => by cases hq) rfl
theorem u_M22 (hAD : ∀ i : Nat, ad (1000 + i) = D.2 1000 i) (hG : GOK ad tys GG ws) (a1 : Int32) (a2 : Int32) : UCP l D tys A ad 267 [.ref (ad 90), .int a1, .int a2] ws 0 := by
  have l1 := Int32.le_toInt a1
  have u1 := Int32.toInt_lt a1
  have l2 := Int32.le_toInt a2
  have u2 := Int32.toInt_lt a2
  exact uc_i (r132 hAD) (by omega) ⟨rfl, ok_full, ok_full, trivial⟩ hG (fun q hq => by cases hq) rfl
theorem u_X23 (hAD : ∀ i : Nat, ad (1000 + i) = D.2 1000 i) (hG : GOK ad tys GG ws) (a1 : Int32) (a2 : Int32) : UCP l D tys A ad 24 [.ref (ad 0), .int a1, .int a2] ws 0 := by
  have l1 := Int32.le_toInt a1
  have u1 := Int32.toInt_lt a1
  have l2 := Int32.le_toInt a2
  have u2 := Int32.toInt_lt a2
  exact uc_i (r133 hAD) (by omega) ⟨rfl, ok_full, ok_full, trivial⟩ hG (fun q hq => by cases hq) rfl
theorem u_M23 (hAD : ∀ i : Nat, ad (1000 + i) = D.2 1000 i) (hG : GOK ad tys GG ws) (a1 : Int32) (a2 : Int32) : UCP l D tys A ad 268 [.ref (ad 90), .int a1, .int a2] ws 0 := by
  have l1 := Int32.le_toInt a1
  have u1 := Int32.toInt_lt a1
  have l2 := Int32.le_toInt a2
  have u2 := Int32.toInt_lt a2
  exact uc_i (r134 hAD) (by omega) ⟨rfl, ok_full, ok_full, trivial⟩ hG (fun q hq => by cases hq) rfl
theorem u_X24 (hAD : ∀ i : Nat, ad (1000 + i) = D.2 1000 i) (hG : GOK ad tys GG ws) (a1 : Int32) (a2 : Int32) : UCP l D tys A ad 25 [.ref (ad 0), .int a1, .int a2] ws 0 := by
  have l1 := Int32.le_toInt a1
  have u1 := Int32.toInt_lt a1
  have l2 := Int32.le_toInt a2
  have u2 := Int32.toInt_lt a2
  exact uc_i (r135 hAD) (by omega) ⟨rfl, ok_full, ok_full, trivial⟩ hG (fun q hq => by cases hq) rfl
theorem u_M24 (hAD : ∀ i : Nat, ad (1000 + i) = D.2 1000 i) (hG : GOK ad tys GG ws) (a1 : Int32) (a2 : Int32) : UCP l D tys A ad 269 [.ref (ad 90), .int a1, .int a2] ws 0 := by
  have l1 := Int32.le_toInt a1
  have u1 := Int32.toInt_lt a1
  have l2 := Int32.le_toInt a2
  have u2 := Int32.toInt_lt a2
  exact uc_i (r136 hAD) (by omega) ⟨rfl, ok_full, ok_full, trivial⟩ hG (fun q hq => by cases hq) rfl
theorem u_X25 (hAD : ∀ i : Nat, ad (1000 + i) = D.2 1000 i) (hG : GOK ad tys GG ws) (a1 : Int32) (a2 : Int32) : UCP l D tys A ad 27 [.ref (ad 0), .int a1, .int a2] ws 0 := by
  have l1 := Int32.le_toInt a1
  have u1 := Int32.toInt_lt a1
  have l2 := Int32.le_toInt a2
  have u2 := Int32.toInt_lt a2
  exact uc_i (r137 hAD) (by omega) ⟨rfl, ok_full, ok_full, trivial⟩ hG (fun q hq => by cases hq) rfl
theorem u_M25 (hAD : ∀ i : Nat, ad (1000 + i) = D.2 1000 i) (hG : GOK ad tys GG ws) (a1 : Int32) (a2 : Int32) : UCP l D tys A ad 270 [.ref (ad 90), .int a1, .int a2] ws 0 := by
  have l1 := Int32.le_toInt a1
  have u1 := Int32.toInt_lt a1
  have l2 := Int32.le_toInt a2
  have u2 := Int32.toInt_lt a2
  exact uc_i (r138 hAD) (by omega) ⟨rfl, ok_full, ok_full, trivial⟩ hG (fun q hq => by cases hq) rfl
theorem u_X26 (hAD : ∀ i : Nat, ad (1000 + i) = D.2 1000 i) (hG : GOK ad tys GG ws) (a1 : Int32) : UCP l D tys A ad 28 [.ref (ad 0), .int a1] ws 0 := by
  have l1 := Int32.le_toInt a1
  have u1 := Int32.toInt_lt a1
  exact uc_i (r139 hAD) (by omega) ⟨rfl, ok_full, trivial⟩ hG (fun q hq => by cases hq) rfl
theorem u_M26 (hAD : ∀ i : Nat, ad (1000 + i) = D.2 1000 i) (hG : GOK ad tys GG ws) (a1 : Int32) : UCP l D tys A ad 271 [.ref (ad 90), .int a1] ws 0 := by
  have l1 := Int32.le_toInt a1
  have u1 := Int32.toInt_lt a1
  exact uc_i (r140 hAD) (by omega) ⟨rfl, ok_full, trivial⟩ hG (fun q hq => by cases hq) rfl
theorem u_X27 (hAD : ∀ i : Nat, ad (1000 + i) = D.2 1000 i) (hG : GOK ad tys GG ws) (a1 : Int32) : UCP l D tys A ad 29 [.ref (ad 0), .int a1] ws 0 := by
  have l1 := Int32.le_toInt a1
  have u1 := Int32.toInt_lt a1
  exact uc_i (r142 hAD) (by omega) ⟨rfl, ok_full, trivial⟩ hG (fun q hq => by cases hq) rfl
theorem u_M27 (hAD : ∀ i : Nat, ad (1000 + i) = D.2 1000 i) (hG : GOK ad tys GG ws) (a1 : Int32) : UCP l D tys A ad 273 [.ref (ad 90), .int a1] ws 0 := by
  have l1 := Int32.le_toInt a1
  have u1 := Int32.toInt_lt a1
  exact uc_i (r144 hAD) (by omega) ⟨rfl, ok_full, trivial⟩ hG (fun q hq => by cases hq) rfl
theorem u_X28 (hAD : ∀ i : Nat, ad (1000 + i) = D.2 1000 i) (hG : GOK ad tys GG ws) (a1 : Int32) : UCP l D tys A ad 30 [.ref (ad 0), .int a1] ws 0 := by
  have l1 := Int32.le_toInt a1
  have u1 := Int32.toInt_lt a1
  exact uc_i (r145 hAD) (by omega) ⟨rfl, ok_full, trivial⟩ hG (fun q hq => by cases hq) rfl
theorem u_M28 (hAD : ∀ i : Nat, ad (1000 + i) = D.2 1000 i) (hG : GOK ad tys GG ws) (a1 : Int32) : UCP l D tys A ad 274 [.ref (ad 90), .int a1] ws 0 := by
  have l1 := Int32.le_toInt a1
  have u1 := Int32.toInt_lt a1
  exact uc_i (r146 hAD) (by omega) ⟨rfl, ok_full, trivial⟩ hG (fun q hq => by cases hq) rfl
theorem u_X29 (hAD : ∀ i : Nat, ad (1000 + i) = D.2 1000 i) (hG : GOK ad tys GG ws) (a1 : Int32) : UCP l D tys A ad 32 [.ref (ad 0), .int a1] ws 0 := by
  have l1 := Int32.le_toInt a1
  have u1 := Int32.toInt_lt a1
  exact uc_i (r149 hAD) (by omega) ⟨rfl, ok_full, trivial⟩ hG (fun q hq => by cases hq) rfl
theorem u_M29 (hAD : ∀ i : Nat, ad (1000 + i) = D.2 1000 i) (hG : GOK ad tys GG ws) (a1 : Int32) : UCP l D tys A ad 278 [.ref (ad 90), .int a1] ws 0 := by
  have l1 := Int32.le_toInt a1
  have u1 := Int32.toInt_lt a1
  exact uc_i (r150 hAD) (by omega) ⟨rfl, ok_full, trivial⟩ hG (fun q hq => by cases hq) rfl
theorem u_X30 (hAD : ∀ i : Nat, ad (1000 + i) = D.2 1000 i) (hG : GOK ad tys GG ws) (a1 : Int32) (a2 : Int32) : UCP l D tys A ad 33 [.ref (ad 0), .int a1, .int a2] ws 0 := by
  have l1 := Int32.le_toInt a1
  have u1 := Int32.toInt_lt a1
  have l2 := Int32.le_toInt a2
  have u2 := Int32.toInt_lt a2
  exact uc_i (r153 hAD) (by omega) ⟨rfl, ok_full, ok_full, trivial⟩ hG (fun q hq => by cases hq) rfl
theorem u_M30 (hAD : ∀ i : Nat, ad (1000 + i) = D.2 1000 i) (hG : GOK ad tys GG ws) (a1 : Int32) (a2 : Int32) : UCP l D tys A ad 280 [.ref (ad 90), .int a1, .int a2] ws 0 := by
  have l1 := Int32.le_toInt a1
  have u1 := Int32.toInt_lt a1
  have l2 := Int32.le_toInt a2
  have u2 := Int32.toInt_lt a2
  exact uc_i (r155 hAD) (by omega) ⟨rfl, ok_full, ok_full, trivial⟩ hG (fun q hq => by cases hq) rfl
theorem u_X31 (hAD : ∀ i : Nat, ad (1000 + i) = D.2 1000 i) (hG : GOK ad tys GG ws) (a1 : Int32) (a2 : Int32) : UCP l D tys A ad 34 [.ref (ad 0), .int a1, .int a2] ws 0 := by
  have l1 := Int32.le_toInt a1
  have u1 := Int32.toInt_lt a1
  have l2 := Int32.le_toInt a2
  have u2 := Int32.toInt_lt a2
  exact uc_i (r156 hAD) (by omega) ⟨rfl, ok_full, ok_full, trivial⟩ hG (fun q hq => by cases hq) rfl
theorem u_M31 (hAD : ∀ i : Nat, ad (1000 + i) = D.2 1000 i) (hG : GOK ad tys GG ws) (a1 : Int32) (a2 : Int32) : UCP l D tys A ad 281 [.ref (ad 90), .int a1, .int a2] ws 0 := by
  have l1 := Int32.le_toInt a1
  have u1 := Int32.toInt_lt a1
  have l2 := Int32.le_toInt a2
  have u2 := Int32.toInt_lt a2
  exact uc_i (r157 hAD) (by omega) ⟨rfl, ok_full, ok_full, trivial⟩ hG (fun q hq => by cases hq) rfl
theorem u_X32 (hAD : ∀ i : Nat, ad (1000 + i) = D.2 1000 i) (hG : GOK ad tys GG ws)  : UCP l D tys A ad 35 [.ref (ad 0)] ws 0 := by
  exact uc_i (r161 hAD) (by omega) ⟨rfl, trivial⟩ hG (fun q hq => by cases hq) rfl
theorem u_M32 (hAD : ∀ i : Nat, ad (1000 + i) = D.2 1000 i) (hG : GOK ad tys GG ws)  : UCP l D tys A ad 283 [.ref (ad 90)] ws 0 := by
  exact uc_i (r163 hAD) (by omega) ⟨rfl, trivial⟩ hG (fun q hq => by cases hq) rfl
theorem u_X33 (hAD : ∀ i : Nat, ad (1000 + i) = D.2 1000 i) (hG : GOK ad tys GG ws) (a1 : Int32) (a2 : Int32) : UCP l D tys A ad 36 [.ref (ad 0), .int a1, .int a2] ws 0 := by
  have l1 := Int32.le_toInt a1
  have u1 := Int32.toInt_lt a1
  have l2 := Int32.le_toInt a2
  have u2 := Int32.toInt_lt a2
  exact uc_i (r166 hAD) (by omega) ⟨rfl, ok_full, ok_full, trivial⟩ hG (fun q hq => by cases hq) rfl
theorem u_M33 (hAD : ∀ i : Nat, ad (1000 + i) = D.2 1000 i) (hG : GOK ad tys GG ws) (a1 : Int32) (a2 : Int32) : UCP l D tys A ad 286 [.ref (ad 90), .int a1, .int a2] ws 0 := by
  have l1 := Int32.le_toInt a1
  have u1 := Int32.toInt_lt a1
  have l2 := Int32.le_toInt a2
  have u2 := Int32.toInt_lt a2
  exact uc_i (r168 hAD) (by omega) ⟨rfl, ok_full, ok_full, trivial⟩ hG (fun q hq => by cases hq) rfl
theorem u_X34 (hAD : ∀ i : Nat, ad (1000 + i) = D.2 1000 i) (hG : GOK ad tys GG ws) (a1 : Int32) (a2 : Int32) : UCP l D tys A ad 37 [.ref (ad 0), .int a1, .int a2] ws 0 := by
  have l1 := Int32.le_toInt a1
  have u1 := Int32.toInt_lt a1
  have l2 := Int32.le_toInt a2
  have u2 := Int32.toInt_lt a2
  exact uc_i (r170 hAD) (by omega) ⟨rfl, ok_full, ok_full, trivial⟩ hG (fun q hq => by cases hq) rfl
theorem u_M34 (hAD : ∀ i : Nat, ad (1000 + i) = D.2 1000 i) (hG : GOK ad tys GG ws) (a1 : Int32) (a2 : Int32) : UCP l D tys A ad 287 [.ref (ad 90), .int a1, .int a2] ws 0 := by
  have l1 := Int32.le_toInt a1
  have u1 := Int32.toInt_lt a1
  have l2 := Int32.le_toInt a2
  have u2 := Int32.toInt_lt a2
  exact uc_i (r171 hAD) (by omega) ⟨rfl, ok_full, ok_full, trivial⟩ hG (fun q hq => by cases hq) rfl
theorem u_X35 (hAD : ∀ i : Nat, ad (1000 + i) = D.2 1000 i) (hG : GOK ad tys GG ws) (a1 : Int32) (a2 : Int32) : UCP l D tys A ad 38 [.ref (ad 0), .int a1, .int a2] ws 0 := by
  have l1 := Int32.le_toInt a1
  have u1 := Int32.toInt_lt a1
  have l2 := Int32.le_toInt a2
  have u2 := Int32.toInt_lt a2
  exact uc_i (r173 hAD) (by omega) ⟨rfl, ok_full, ok_full, trivial⟩ hG (fun q hq => by cases hq) rfl
theorem u_M35 (hAD : ∀ i : Nat, ad (1000 + i) = D.2 1000 i) (hG : GOK ad tys GG ws) (a1 : Int32) (a2 : Int32) : UCP l D tys A ad 289 [.ref (ad 90), .int a1, .int a2] ws 0 := by
  have l1 := Int32.le_toInt a1
  have u1 := Int32.toInt_lt a1
  have l2 := Int32.le_toInt a2
  have u2 := Int32.toInt_lt a2
  exact uc_i (r176 hAD) (by omega) ⟨rfl, ok_full, ok_full, trivial⟩ hG (fun q hq => by cases hq) rfl
theorem u_X36 (hAD : ∀ i : Nat, ad (1000 + i) = D.2 1000 i) (hG : GOK ad tys GG ws) (a1 : Int32) (a2 : Int32) : UCP l D tys A ad 39 [.ref (ad 0), .int a1, .int a2] ws 0 := by
  have l1 := Int32.le_toInt a1
  have u1 := Int32.toInt_lt a1
  have l2 := Int32.le_toInt a2
  have u2 := Int32.toInt_lt a2
  exact uc_i (r177 hAD) (by omega) ⟨rfl, ok_full, ok_full, trivial⟩ hG (fun q hq => by cases hq) rfl
theorem u_M36 (hAD : ∀ i : Nat, ad (1000 + i) = D.2 1000 i) (hG : GOK ad tys GG ws) (a1 : Int32) (a2 : Int32) : UCP l D tys A ad 290 [.ref (ad 90), .int a1, .int a2] ws 0 := by
  have l1 := Int32.le_toInt a1
  have u1 := Int32.toInt_lt a1
  have l2 := Int32.le_toInt a2
  have u2 := Int32.toInt_lt a2
  exact uc_i (r178 hAD) (by omega) ⟨rfl, ok_full, ok_full, trivial⟩ hG (fun q hq => by cases hq) rfl
theorem u_X37 (hAD : ∀ i : Nat, ad (1000 + i) = D.2 1000 i) (hG : GOK ad tys GG ws) (a1 : Int32) (a2 : Int32) (a3 : Int32) (a4 : Int32) : UCP l D tys A ad 41 [.ref (ad 0), .int a1, .int a2, .int a3, .int a4] ws 0 := by
  have l1 := Int32.le_toInt a1
  have u1 := Int32.toInt_lt a1
  have l2 := Int32.le_toInt a2
  have u2 := Int32.toInt_lt a2
  have l3 := Int32.le_toInt a3
  have u3 := Int32.toInt_lt a3
  have l4 := Int32.le_toInt a4
  have u4 := Int32.toInt_lt a4
  exact uc_i (r179 hAD) (by omega) ⟨rfl, ok_full, ok_full, ok_full, ok_full, trivial⟩ hG (fun q hq => by cases hq) rfl
theorem u_M37 (hAD : ∀ i : Nat, ad (1000 + i) = D.2 1000 i) (hG : GOK ad tys GG ws) (a1 : Int32) (a2 : Int32) (a3 : Int32) (a4 : Int32) : UCP l D tys A ad 291 [.ref (ad 90), .int a1, .int a2, .int a3, .int a4] ws 0 := by
  have l1 := Int32.le_toInt a1
  have u1 := Int32.toInt_lt a1
  have l2 := Int32.le_toInt a2
  have u2 := Int32.toInt_lt a2
  have l3 := Int32.le_toInt a3
  have u3 := Int32.toInt_lt a3
  have l4 := Int32.le_toInt a4
  have u4 := Int32.toInt_lt a4
  exact uc_i (r180 hAD) (by omega) ⟨rfl, ok_full, ok_full, ok_full, ok_full, trivial⟩ hG (fun q hq => by cases hq) rfl
theorem u_X38 (hAD : ∀ i : Nat, ad (1000 + i) = D.2 1000 i) (hG : GOK ad tys GG ws)  : UCP l D tys A ad 42 [.ref (ad 0)] ws 0 := by
  exact uc_i (r181 hAD) (by omega) ⟨rfl, trivial⟩ hG (fun q hq => by cases hq) rfl
theorem u_M38 (hAD : ∀ i : Nat, ad (1000 + i) = D.2 1000 i) (hG : GOK ad tys GG ws)  : UCP l D tys A ad 292 [.ref (ad 90)] ws 0 := by
  exact uc_i (r182 hAD) (by omega) ⟨rfl, trivial⟩ hG (fun q hq => by cases hq) rfl
theorem u_X39 (hAD : ∀ i : Nat, ad (1000 + i) = D.2 1000 i) (hG : GOK ad tys GG ws) (a1 : Int32) (a2 : Int32) (a3 : Int32) : UCP l D tys A ad 43 [.ref (ad 0), .int a1, .int a2, .int a3] ws 0 := by
  have l1 := Int32.le_toInt a1
  have u1 := Int32.toInt_lt a1
  have l2 := Int32.le_toInt a2
  have u2 := Int32.toInt_lt a2
  have l3 := Int32.le_toInt a3
  have u3 := Int32.toInt_lt a3
  exact uc_i (r183 hAD) (by omega) ⟨rfl, ok_full, ok_full, ok_full, trivial⟩ hG (fun q hq => by cases hq) rfl
theorem u_M39 (hAD : ∀ i : Nat, ad (1000 + i) = D.2 1000 i) (hG : GOK ad tys GG ws) (a1 : Int32) (a2 : Int32) (a3 : Int32) : UCP l D tys A ad 293 [.ref (ad 90), .int a1, .int a2, .int a3] ws 0 := by
  have l1 := Int32.le_toInt a1
  have u1 := Int32.toInt_lt a1
  have l2 := Int32.le_toInt a2
  have u2 := Int32.toInt_lt a2
  have l3 := Int32.le_toInt a3
  have u3 := Int32.toInt_lt a3
  exact uc_i (r184 hAD) (by omega) ⟨rfl, ok_full, ok_full, ok_full, trivial⟩ hG (fun q hq => by cases hq) rfl
theorem u_X40 (hAD : ∀ i : Nat, ad (1000 + i) = D.2 1000 i) (hG : GOK ad tys GG ws) (a1 : Int32) (a2 : Int32) (a3 : Int32) : UCP l D tys A ad 45 [.ref (ad 0), .int a1, .int a2, .int a3] ws 0 := by
  have l1 := Int32.le_toInt a1
  have u1 := Int32.toInt_lt a1
  have l2 := Int32.le_toInt a2
  have u2 := Int32.toInt_lt a2
  have l3 := Int32.le_toInt a3
  have u3 := Int32.toInt_lt a3
  exact uc_i (r186 hAD) (by omega) ⟨rfl, ok_full, ok_full, ok_full, trivial⟩ hG (fun q hq => by cases hq) rfl
theorem u_M40 (hAD : ∀ i : Nat, ad (1000 + i) = D.2 1000 i) (hG : GOK ad tys GG ws) (a1 : Int32) (a2 : Int32) (a3 : Int32) : UCP l D tys A ad 296 [.ref (ad 90), .int a1, .int a2, .int a3] ws 0 := by
  have l1 := Int32.le_toInt a1
  have u1 := Int32.toInt_lt a1
  have l2 := Int32.le_toInt a2
  have u2 := Int32.toInt_lt a2
  have l3 := Int32.le_toInt a3
  have u3 := Int32.toInt_lt a3
  exact uc_i (r188 hAD) (by omega) ⟨rfl, ok_full, ok_full, ok_full, trivial⟩ hG (fun q hq => by cases hq) rfl
theorem u_X41 (hAD : ∀ i : Nat, ad (1000 + i) = D.2 1000 i) (hG : GOK ad tys GG ws) (a1 : Int32) (a2 : Int32) : UCP l D tys A ad 46 [.ref (ad 0), .int a1, .int a2] ws 0 := by
  have l1 := Int32.le_toInt a1
  have u1 := Int32.toInt_lt a1
  have l2 := Int32.le_toInt a2
  have u2 := Int32.toInt_lt a2
  exact uc_i (r190 hAD) (by omega) ⟨rfl, ok_full, ok_full, trivial⟩ hG (fun q hq => by cases hq) rfl
theorem u_M41 (hAD : ∀ i : Nat, ad (1000 + i) = D.2 1000 i) (hG : GOK ad tys GG ws) (a1 : Int32) (a2 : Int32) : UCP l D tys A ad 298 [.ref (ad 90), .int a1, .int a2] ws 0 := by
  have l1 := Int32.le_toInt a1
  have u1 := Int32.toInt_lt a1
  have l2 := Int32.le_toInt a2
  have u2 := Int32.toInt_lt a2
  exact uc_i (r192 hAD) (by omega) ⟨rfl, ok_full, ok_full, trivial⟩ hG (fun q hq => by cases hq) rfl
theorem u_X42 (hAD : ∀ i : Nat, ad (1000 + i) = D.2 1000 i) (hG : GOK ad tys GG ws) (a1 : Int32) (a2 : Int32) : UCP l D tys A ad 47 [.ref (ad 0), .int a1, .int a2] ws 0 := by
  have l1 := Int32.le_toInt a1
  have u1 := Int32.toInt_lt a1
  have l2 := Int32.le_toInt a2
  have u2 := Int32.toInt_lt a2
  exact uc_i (r193 hAD) (by omega) ⟨rfl, ok_full, ok_full, trivial⟩ hG (fun q hq => by cases hq) rfl
theorem u_M42 (hAD : ∀ i : Nat, ad (1000 + i) = D.2 1000 i) (hG : GOK ad tys GG ws) (a1 : Int32) (a2 : Int32) : UCP l D tys A ad 299 [.ref (ad 90), .int a1, .int a2] ws 0 := by
  have l1 := Int32.le_toInt a1
  have u1 := Int32.toInt_lt a1
  have l2 := Int32.le_toInt a2
  have u2 := Int32.toInt_lt a2
  exact uc_i (r194 hAD) (by omega) ⟨rfl, ok_full, ok_full, trivial⟩ hG (fun q hq => by cases hq) rfl
theorem u_X43 (hAD : ∀ i : Nat, ad (1000 + i) = D.2 1000 i) (hG : GOK ad tys GG ws) (a1 : Int32) (a2 : Int32) (a3 : Int32) : UCP l D tys A ad 48 [.ref (ad 0), .int a1, .int a2, .int a3] ws 0 := by
  have l1 := Int32.le_toInt a1
  have u1 := Int32.toInt_lt a1
  have l2 := Int32.le_toInt a2
  have u2 := Int32.toInt_lt a2
  have l3 := Int32.le_toInt a3
  have u3 := Int32.toInt_lt a3
  rcases (show a1.toInt ≤ 0 ∨ (1 ≤ a1.toInt ∧ a1.toInt ≤ 6) ∨ 7 ≤ a1.toInt by omega) with h | h | h
  · exact uc_i (r196 hAD) (by omega) ⟨rfl, ok_int (by omega) (by omega), ok_full, ok_full, trivial⟩ hG (fun q hq => by cases hq) rfl
  · rcases (show a2.toInt ≤ (-1) ∨ (0 ≤ a2.toInt ∧ a2.toInt ≤ 3) ∨ 4 ≤ a2.toInt by omega) with h | h | h
    · exact uc_i (r200 hAD) (by omega) ⟨rfl, ok_int (by omega) (by omega), ok_int (by omega) (by omega), ok_full, trivial⟩ hG (fun q hq => by cases hq) rfl
    · rcases (show a3.toInt ≤ (-1) ∨ (0 ≤ a3.toInt ∧ a3.toInt ≤ 3) ∨ 4 ≤ a3.toInt by omega) with h | h | h
      · exact uc_i (r204 hAD) (by omega) ⟨rfl, ok_int (by omega) (by omega), ok_int (by omega) (by omega), ok_int (by omega) (by omega), trivial⟩ hG (fun q hq => by cases hq) rfl
      · exact uc_i (r215 hAD) (by omega) ⟨rfl, ok_int (by omega) (by omega), ok_int (by omega) (by omega), ok_int (by omega) (by omega), trivial⟩ hG (fun q hq => by cases hq) rfl
      · exact uc_i (r206 hAD) (by omega) ⟨rfl, ok_int (by omega) (by omega), ok_int (by omega) (by omega), ok_int (by omega) (by omega), trivial⟩ hG (fun q hq => by cases hq) rfl
    · exact uc_i (r202 hAD) (by omega) ⟨rfl, ok_int (by omega) (by omega), ok_int (by omega) (by omega), ok_full, trivial⟩ hG (fun q hq => by cases hq) rfl
  · exact uc_i (r198 hAD) (by omega) ⟨rfl, ok_int (by omega) (by omega), ok_full, ok_full, trivial⟩ hG (fun q hq => by cases hq) rfl
theorem u_M43 (hAD : ∀ i : Nat, ad (1000 + i) = D.2 1000 i) (hG : GOK ad tys GG ws) (a1 : Int32) (a2 : Int32) (a3 : Int32) : UCP l D tys A ad 303 [.ref (ad 90), .int a1, .int a2, .int a3] ws 0 := by
  have l1 := Int32.le_toInt a1
  have u1 := Int32.toInt_lt a1
  have l2 := Int32.le_toInt a2
  have u2 := Int32.toInt_lt a2
  have l3 := Int32.le_toInt a3
  have u3 := Int32.toInt_lt a3
  obtain ⟨z107_0, hz107_0, zl107_0, zu107_0⟩ := cell_bd (c := 107) (j := 0) hG rfl (by omega) (show segAt _ 0 = some (0, (-1), 60) by decide +kernel)
  obtain ⟨z107_1, hz107_1, zl107_1, zu107_1⟩ := cell_bd (c := 107) (j := 1) hG rfl (by omega) (show segAt _ 1 = some (0, (-1), 60) by decide +kernel)
  obtain ⟨z107_2, hz107_2, zl107_2, zu107_2⟩ := cell_bd (c := 107) (j := 2) hG rfl (by omega) (show segAt _ 2 = some (0, (-1), 60) by decide +kernel)
  obtain ⟨z107_3, hz107_3, zl107_3, zu107_3⟩ := cell_bd (c := 107) (j := 3) hG rfl (by omega) (show segAt _ 3 = some (0, (-1), 60) by decide +kernel)
  rcases (show a1.toInt ≤ 0 ∨ (1 ≤ a1.toInt ∧ a1.toInt ≤ 6) ∨ 7 ≤ a1.toInt by omega) with h | h | h
  · exact uc_i (r217 hAD) (by omega) ⟨rfl, ok_int (by omega) (by omega), ok_full, ok_full, trivial⟩ hG (fun q hq => by cases hq) rfl
  · rcases (show a2.toInt ≤ (-1) ∨ (0 ≤ a2.toInt ∧ a2.toInt ≤ 3) ∨ 4 ≤ a2.toInt by omega) with h | h | h
    · exact uc_i (r221 hAD) (by omega) ⟨rfl, ok_int (by omega) (by omega), ok_int (by omega) (by omega), ok_full, trivial⟩ hG (fun q hq => by cases hq) rfl
    · rcases (show a3.toInt ≤ (-1) ∨ a3.toInt = 0 ∨ a3.toInt = 1 ∨ a3.toInt = 2 ∨ a3.toInt = 3 ∨ 4 ≤ a3.toInt by omega) with h | h | h | h | h | h
      · exact uc_i (r225 hAD) (by omega) ⟨rfl, ok_int (by omega) (by omega), ok_int (by omega) (by omega), ok_int (by omega) (by omega), trivial⟩ hG (fun q hq => by cases hq) rfl
      · rcases (show z107_0 = (-1) ∨ (0 ≤ z107_0 ∧ z107_0 ≤ 8) ∨ (9 ≤ z107_0 ∧ z107_0 ≤ 60) by omega) with h | h | h
        · exact uc_i (r229 hAD) (by omega) ⟨rfl, ok_int (by omega) (by omega), ok_int (by omega) (by omega), ok_int (by omega) (by omega), trivial⟩ hG (pre_one hz107_0 (by omega) (by omega)) rfl
        · exact uc_i (r232 hAD) (by omega) ⟨rfl, ok_int (by omega) (by omega), ok_int (by omega) (by omega), ok_int (by omega) (by omega), trivial⟩ hG (pre_one hz107_0 (by omega) (by omega)) rfl
        · exact uc_i (r234 hAD) (by omega) ⟨rfl, ok_int (by omega) (by omega), ok_int (by omega) (by omega), ok_int (by omega) (by omega), trivial⟩ hG (pre_one hz107_0 (by omega) (by omega)) rfl
      · rcases (show z107_1 = (-1) ∨ (0 ≤ z107_1 ∧ z107_1 ≤ 8) ∨ (9 ≤ z107_1 ∧ z107_1 ≤ 60) by omega) with h | h | h
        · exact uc_i (r236 hAD) (by omega) ⟨rfl, ok_int (by omega) (by omega), ok_int (by omega) (by omega), ok_int (by omega) (by omega), trivial⟩ hG (pre_one hz107_1 (by omega) (by omega)) rfl
        · exact uc_i (r239 hAD) (by omega) ⟨rfl, ok_int (by omega) (by omega), ok_int (by omega) (by omega), ok_int (by omega) (by omega), trivial⟩ hG (pre_one hz107_1 (by omega) (by omega)) rfl
        · exact uc_i (r241 hAD) (by omega) ⟨rfl, ok_int (by omega) (by omega), ok_int (by omega) (by omega), ok_int (by omega) (by omega), trivial⟩ hG (pre_one hz107_1 (by omega) (by omega)) rfl
      · rcases (show z107_2 = (-1) ∨ (0 ≤ z107_2 ∧ z107_2 ≤ 8) ∨ (9 ≤ z107_2 ∧ z107_2 ≤ 60) by omega) with h | h | h
        · exact uc_i (r243 hAD) (by omega) ⟨rfl, ok_int (by omega) (by omega), ok_int (by omega) (by omega), ok_int (by omega) (by omega), trivial⟩ hG (pre_one hz107_2 (by omega) (by omega)) rfl
        · exact uc_i (r246 hAD) (by omega) ⟨rfl, ok_int (by omega) (by omega), ok_int (by omega) (by omega), ok_int (by omega) (by omega), trivial⟩ hG (pre_one hz107_2 (by omega) (by omega)) rfl
        · exact uc_i (r248 hAD) (by omega) ⟨rfl, ok_int (by omega) (by omega), ok_int (by omega) (by omega), ok_int (by omega) (by omega), trivial⟩ hG (pre_one hz107_2 (by omega) (by omega)) rfl
      · rcases (show z107_3 = (-1) ∨ (0 ≤ z107_3 ∧ z107_3 ≤ 8) ∨ (9 ≤ z107_3 ∧ z107_3 ≤ 60) by omega) with h | h | h
        · exact uc_i (r250 hAD) (by omega) ⟨rfl, ok_int (by omega) (by omega), ok_int (by omega) (by omega), ok_int (by omega) (by omega), trivial⟩ hG (pre_one hz107_3 (by omega) (by omega)) rfl
        · exact uc_i (r253 hAD) (by omega) ⟨rfl, ok_int (by omega) (by omega), ok_int (by omega) (by omega), ok_int (by omega) (by omega), trivial⟩ hG (pre_one hz107_3 (by omega) (by omega)) rfl
        · exact uc_i (r255 hAD) (by omega) ⟨rfl, ok_int (by omega) (by omega), ok_int (by omega) (by omega), ok_int (by omega) (by omega), trivial⟩ hG (pre_one hz107_3 (by omega) (by omega)) rfl
      · exact uc_i (r227 hAD) (by omega) ⟨rfl, ok_int (by omega) (by omega), ok_int (by omega) (by omega), ok_int (by omega) (by omega), trivial⟩ hG (fun q hq => by cases hq) rfl
    · exact uc_i (r223 hAD) (by omega) ⟨rfl, ok_int (by omega) (by omega), ok_int (by omega) (by omega), ok_full, trivial⟩ hG (fun q hq => by cases hq) rfl
  · exact uc_i (r219 hAD) (by omega) ⟨rfl, ok_int (by omega) (by omega), ok_full, ok_full, trivial⟩ hG (fun q hq => by cases hq) rfl
theorem u_X44 (hAD : ∀ i : Nat, ad (1000 + i) = D.2 1000 i) (hG : GOK ad tys GG ws) (a1 : Int32) (a2 : Int32) (a3 : Int32) (a4 : Int32) : UCP l D tys A ad 49 [.ref (ad 0), .int a1, .int a2, .int a3, .int a4] ws 0 := by
  have l1 := Int32.le_toInt a1
  have u1 := Int32.toInt_lt a1
  have l2 := Int32.le_toInt a2
  have u2 := Int32.toInt_lt a2
  have l3 := Int32.le_toInt a3
  have u3 := Int32.toInt_lt a3
  have l4 := Int32.le_toInt a4
  have u4 := Int32.toInt_lt a4
  rcases (show a1.toInt ≤ 0 ∨ (1 ≤ a1.toInt ∧ a1.toInt ≤ 6) ∨ 7 ≤ a1.toInt by omega) with h | h | h
  · exact uc_i (r256 hAD) (by omega) ⟨rfl, ok_int (by omega) (by omega), ok_full, ok_full, ok_full, trivial⟩ hG (fun q hq => by cases hq) rfl
  · rcases (show a2.toInt ≤ (-1) ∨ (0 ≤ a2.toInt ∧ a2.toInt ≤ 3) ∨ 4 ≤ a2.toInt by omega) with h | h | h
    · exact uc_i (r258 hAD) (by omega) ⟨rfl, ok_int (by omega) (by omega), ok_int (by omega) (by omega), ok_full, ok_full, trivial⟩ hG (fun q hq => by cases hq) rfl
    · rcases (show a3.toInt ≤ (-1) ∨ (0 ≤ a3.toInt ∧ a3.toInt ≤ 3) ∨ 4 ≤ a3.toInt by omega) with h | h | h
      · exact uc_i (r260 hAD) (by omega) ⟨rfl, ok_int (by omega) (by omega), ok_int (by omega) (by omega), ok_int (by omega) (by omega), ok_full, trivial⟩ hG (fun q hq => by cases hq) rfl
      · exact uc_i (r262 hAD) (by omega) ⟨rfl, ok_int (by omega) (by omega), ok_int (by omega) (by omega), ok_int (by omega) (by omega), ok_full, trivial⟩ hG (fun q hq => by cases hq) rfl
      · exact uc_i (r261 hAD) (by omega) ⟨rfl, ok_int (by omega) (by omega), ok_int (by omega) (by omega), ok_int (by omega) (by omega), ok_full, trivial⟩ hG (fun q hq => by cases hq) rfl
    · exact uc_i (r259 hAD) (by omega) ⟨rfl, ok_int (by omega) (by omega), ok_int (by omega) (by omega), ok_full, ok_full, trivial⟩ hG (fun q hq => by cases hq) rfl
  · exact uc_i (r257 hAD) (by omega) ⟨rfl, ok_int (by omega) (by omega), ok_full, ok_full, ok_full, trivial⟩ hG (fun q hq => by cases hq) rfl
theorem u_M44 (hAD : ∀ i : Nat, ad (1000 + i) = D.2 1000 i) (hG : GOK ad tys GG ws) (a1 : Int32) (a2 : Int32) (a3 : Int32) (a4 : Int32) : UCP l D tys A ad 304 [.ref (ad 90), .int a1, .int a2, .int a3, .int a4] ws 0 := sorry
theorem u_X45 (hAD : ∀ i : Nat, ad (1000 + i) = D.2 1000 i) (hG : GOK ad tys GG ws) (a1 : Int32) : UCP l D tys A ad 51 [.ref (ad 0), .int a1] ws 0 := by
  have l1 := Int32.le_toInt a1
  have u1 := Int32.toInt_lt a1
  rcases (show a1.toInt ≤ (-1) ∨ (0 ≤ a1.toInt ∧ a1.toInt ≤ 3) ∨ 4 ≤ a1.toInt by omega) with h | h | h
  · exact uc_i (r263 hAD) (by omega) ⟨rfl, ok_int (by omega) (by omega), trivial⟩ hG (fun q hq => by cases hq) rfl
  · exact uc_i (r268 hAD) (by omega) ⟨rfl, ok_int (by omega) (by omega), trivial⟩ hG (fun q hq => by cases hq) rfl
  · exact uc_i (r264 hAD) (by omega) ⟨rfl, ok_int (by omega) (by omega), trivial⟩ hG (fun q hq => by cases hq) rfl
theorem u_M45 (hAD : ∀ i : Nat, ad (1000 + i) = D.2 1000 i) (hG : GOK ad tys GG ws) (a1 : Int32) : UCP l D tys A ad 308 [.ref (ad 90), .int a1] ws 0 := by
  have l1 := Int32.le_toInt a1
  have u1 := Int32.toInt_lt a1
  rcases (show a1.toInt ≤ (-1) ∨ (0 ≤ a1.toInt ∧ a1.toInt ≤ 3) ∨ 4 ≤ a1.toInt by omega) with h | h | h
  · exact uc_i (r270 hAD) (by omega) ⟨rfl, ok_int (by omega) (by omega), trivial⟩ hG (fun q hq => by cases hq) rfl
  · exact uc_i (r311 hAD) (by omega) ⟨rfl, ok_int (by omega) (by omega), trivial⟩ hG (fun q hq => by cases hq) rfl
  · exact uc_i (r272 hAD) (by omega) ⟨rfl, ok_int (by omega) (by omega), trivial⟩ hG (fun q hq => by cases hq) rfl
theorem u_X46 (hAD : ∀ i : Nat, ad (1000 + i) = D.2 1000 i) (hG : GOK ad tys GG ws) (a1 : Int32) (a2 : Int32) : UCP l D tys A ad 52 [.ref (ad 0), .int a1, .int a2] ws 0 := by
  have l1 := Int32.le_toInt a1
  have u1 := Int32.toInt_lt a1
  have l2 := Int32.le_toInt a2
  have u2 := Int32.toInt_lt a2
  rcases (show a1.toInt ≤ (-1) ∨ (0 ≤ a1.toInt ∧ a1.toInt ≤ 3) ∨ 4 ≤ a1.toInt by omega) with h | h | h
  · exact uc_i (r312 hAD) (by omega) ⟨rfl, ok_int (by omega) (by omega), ok_full, trivial⟩ hG (fun q hq => by cases hq) rfl
  · rcases (show a2.toInt ≤ 0 ∨ a2.toInt = 1 ∨ a2.toInt = 2 ∨ a2.toInt = 3 ∨ a2.toInt = 4 ∨ a2.toInt = 5 ∨ a2.toInt = 6 ∨ 7 ≤ a2.toInt by omega) with h | h | h | h | h | h | h | h
    · exact uc_i (r314 hAD) (by omega) ⟨rfl, ok_int (by omega) (by omega), ok_int (by omega) (by omega), trivial⟩ hG (fun q hq => by cases hq) rfl
    · exact uc_i (r321 hAD) (by omega) ⟨rfl, ok_int (by omega) (by omega), ok_int (by omega) (by omega), trivial⟩ hG (fun q hq => by cases hq) rfl
    · exact uc_i (r323 hAD) (by omega) ⟨rfl, ok_int (by omega) (by omega), ok_int (by omega) (by omega), trivial⟩ hG (fun q hq => by cases hq) rfl
    · exact uc_i (r325 hAD) (by omega) ⟨rfl, ok_int (by omega) (by omega), ok_int (by omega) (by omega), trivial⟩ hG (fun q hq => by cases hq) rfl
    · exact uc_i (r327 hAD) (by omega) ⟨rfl, ok_int (by omega) (by omega), ok_int (by omega) (by omega), trivial⟩ hG (fun q hq => by cases hq) rfl
    · exact uc_i (r330 hAD) (by omega) ⟨rfl, ok_int (by omega) (by omega), ok_int (by omega) (by omega), trivial⟩ hG (fun q hq => by cases hq) rfl
    · exact uc_i (r332 hAD) (by omega) ⟨rfl, ok_int (by omega) (by omega), ok_int (by omega) (by omega), trivial⟩ hG (fun q hq => by cases hq) rfl
    · exact uc_i (r315 hAD) (by omega) ⟨rfl, ok_int (by omega) (by omega), ok_int (by omega) (by omega), trivial⟩ hG (fun q hq => by cases hq) rfl
  · exact uc_i (r313 hAD) (by omega) ⟨rfl, ok_int (by omega) (by omega), ok_full, trivial⟩ hG (fun q hq => by cases hq) rfl
theorem u_M46 (hAD : ∀ i : Nat, ad (1000 + i) = D.2 1000 i) (hG : GOK ad tys GG ws) (a1 : Int32) (a2 : Int32) : UCP l D tys A ad 311 [.ref (ad 90), .int a1, .int a2] ws 0 := by
  have l1 := Int32.le_toInt a1
  have u1 := Int32.toInt_lt a1
  have l2 := Int32.le_toInt a2
  have u2 := Int32.toInt_lt a2
  obtain ⟨z91_0, hz91_0, zl91_0, zu91_0⟩ := cell_bd (c := 91) (j := 0) hG rfl (by omega) (show segAt _ 0 = some (0, 0, 9) by decide +kernel)
  rcases (show a1.toInt ≤ (-1) ∨ (0 ≤ a1.toInt ∧ a1.toInt ≤ 3) ∨ 4 ≤ a1.toInt by omega) with h | h | h
  · rcases (show z91_0 = 0 ∨ (1 ≤ z91_0 ∧ z91_0 ≤ 9) by omega) with h | h
    · exact uc_i (r335 hAD) (by omega) ⟨rfl, ok_int (by omega) (by omega), ok_full, trivial⟩ hG (pre_one hz91_0 (by omega) (by omega)) rfl
    · exact uc_i (r338 hAD) (by omega) ⟨rfl, ok_int (by omega) (by omega), ok_full, trivial⟩ hG (pre_one hz91_0 (by omega) (by omega)) rfl
  · rcases (show a2.toInt ≤ 0 ∨ a2.toInt = 1 ∨ a2.toInt = 2 ∨ a2.toInt = 3 ∨ a2.toInt = 4 ∨ a2.toInt = 5 ∨ a2.toInt = 6 ∨ 7 ≤ a2.toInt by omega) with h | h | h | h | h | h | h | h
    · rcases (show z91_0 = 0 ∨ (1 ≤ z91_0 ∧ z91_0 ≤ 9) by omega) with h | h
      · exact uc_i (r346 hAD) (by omega) ⟨rfl, ok_int (by omega) (by omega), ok_int (by omega) (by omega), trivial⟩ hG (pre_one hz91_0 (by omega) (by omega)) rfl
      · exact uc_i (r348 hAD) (by omega) ⟨rfl, ok_int (by omega) (by omega), ok_int (by omega) (by omega), trivial⟩ hG (pre_one hz91_0 (by omega) (by omega)) rfl
    · rcases (show z91_0 = 0 ∨ (1 ≤ z91_0 ∧ z91_0 ≤ 9) by omega) with h | h
      · exact uc_i (r353 hAD) (by omega) ⟨rfl, ok_int (by omega) (by omega), ok_int (by omega) (by omega), trivial⟩ hG (pre_one hz91_0 (by omega) (by omega)) rfl
      · exact uc_i (r393 hAD) (by omega) ⟨rfl, ok_int (by omega) (by omega), ok_int (by omega) (by omega), trivial⟩ hG (pre_one hz91_0 (by omega) (by omega)) rfl
    · rcases (show z91_0 = 0 ∨ (1 ≤ z91_0 ∧ z91_0 ≤ 9) by omega) with h | h
      · exact uc_i (r395 hAD) (by omega) ⟨rfl, ok_int (by omega) (by omega), ok_int (by omega) (by omega), trivial⟩ hG (pre_one hz91_0 (by omega) (by omega)) rfl
      · exact uc_i (r398 hAD) (by omega) ⟨rfl, ok_int (by omega) (by omega), ok_int (by omega) (by omega), trivial⟩ hG (pre_one hz91_0 (by omega) (by omega)) rfl
    · rcases (show z91_0 = 0 ∨ (1 ≤ z91_0 ∧ z91_0 ≤ 9) by omega) with h | h
      · exact uc_i (r400 hAD) (by omega) ⟨rfl, ok_int (by omega) (by omega), ok_int (by omega) (by omega), trivial⟩ hG (pre_one hz91_0 (by omega) (by omega)) rfl
      · exact uc_i (r403 hAD) (by omega) ⟨rfl, ok_int (by omega) (by omega), ok_int (by omega) (by omega), trivial⟩ hG (pre_one hz91_0 (by omega) (by omega)) rfl
    · rcases (show z91_0 = 0 ∨ (1 ≤ z91_0 ∧ z91_0 ≤ 9) by omega) with h | h
      · exact uc_i (r405 hAD) (by omega) ⟨rfl, ok_int (by omega) (by omega), ok_int (by omega) (by omega), trivial⟩ hG (pre_one hz91_0 (by omega) (by omega)) rfl
      · exact uc_i (r408 hAD) (by omega) ⟨rfl, ok_int (by omega) (by omega), ok_int (by omega) (by omega), trivial⟩ hG (pre_one hz91_0 (by omega) (by omega)) rfl
    · rcases (show z91_0 = 0 ∨ (1 ≤ z91_0 ∧ z91_0 ≤ 9) by omega) with h | h
      · exact uc_i (r410 hAD) (by omega) ⟨rfl, ok_int (by omega) (by omega), ok_int (by omega) (by omega), trivial⟩ hG (pre_one hz91_0 (by omega) (by omega)) rfl
      · exact uc_i (r413 hAD) (by omega) ⟨rfl, ok_int (by omega) (by omega), ok_int (by omega) (by omega), trivial⟩ hG (pre_one hz91_0 (by omega) (by omega)) rfl
    · rcases (show z91_0 = 0 ∨ (1 ≤ z91_0 ∧ z91_0 ≤ 9) by omega) with h | h
      · exact uc_i (r415 hAD) (by omega) ⟨rfl, ok_int (by omega) (by omega), ok_int (by omega) (by omega), trivial⟩ hG (pre_one hz91_0 (by omega) (by omega)) rfl
      · exact uc_i (r418 hAD) (by omega) ⟨rfl, ok_int (by omega) (by omega), ok_int (by omega) (by omega), trivial⟩ hG (pre_one hz91_0 (by omega) (by omega)) rfl
    · rcases (show z91_0 = 0 ∨ (1 ≤ z91_0 ∧ z91_0 ≤ 9) by omega) with h | h
      · exact uc_i (r349 hAD) (by omega) ⟨rfl, ok_int (by omega) (by omega), ok_int (by omega) (by omega), trivial⟩ hG (pre_one hz91_0 (by omega) (by omega)) rfl
      · exact uc_i (r350 hAD) (by omega) ⟨rfl, ok_int (by omega) (by omega), ok_int (by omega) (by omega), trivial⟩ hG (pre_one hz91_0 (by omega) (by omega)) rfl
  · rcases (show z91_0 = 0 ∨ (1 ≤ z91_0 ∧ z91_0 ≤ 9) by omega) with h | h
    · exact uc_i (r341 hAD) (by omega) ⟨rfl, ok_int (by omega) (by omega), ok_full, trivial⟩ hG (pre_one hz91_0 (by omega) (by omega)) rfl
    · exact uc_i (r344 hAD) (by omega) ⟨rfl, ok_int (by omega) (by omega), ok_full, trivial⟩ hG (pre_one hz91_0 (by omega) (by omega)) rfl
theorem u_X47 (hAD : ∀ i : Nat, ad (1000 + i) = D.2 1000 i) (hG : GOK ad tys GG ws) (a1 : Int32) : UCP l D tys A ad 54 [.ref (ad 0), .int a1] ws 0 := by
  have l1 := Int32.le_toInt a1
  have u1 := Int32.toInt_lt a1
  rcases (show a1.toInt ≤ (-1) ∨ a1.toInt = 0 ∨ a1.toInt = 1 ∨ a1.toInt = 2 ∨ a1.toInt = 3 ∨ 4 ≤ a1.toInt by omega) with h | h | h | h | h | h
  · exact uc_i (r419 hAD) (by omega) ⟨rfl, ok_int (by omega) (by omega), trivial⟩ hG (fun q hq => by cases hq) rfl
  · exact uc_i (r423 hAD) (by omega) ⟨rfl, ok_int (by omega) (by omega), trivial⟩ hG (fun q hq => by cases hq) rfl
  · exact uc_i (r426 hAD) (by omega) ⟨rfl, ok_int (by omega) (by omega), trivial⟩ hG (fun q hq => by cases hq) rfl
  · exact uc_i (r429 hAD) (by omega) ⟨rfl, ok_int (by omega) (by omega), trivial⟩ hG (fun q hq => by cases hq) rfl
  · exact uc_i (r432 hAD) (by omega) ⟨rfl, ok_int (by omega) (by omega), trivial⟩ hG (fun q hq => by cases hq) rfl
  · exact uc_i (r420 hAD) (by omega) ⟨rfl, ok_int (by omega) (by omega), trivial⟩ hG (fun q hq => by cases hq) rfl
theorem u_M47 (hAD : ∀ i : Nat, ad (1000 + i) = D.2 1000 i) (hG : GOK ad tys GG ws) (a1 : Int32) : UCP l D tys A ad 315 [.ref (ad 90), .int a1] ws 0 := sorry
theorem u_X48 (hAD : ∀ i : Nat, ad (1000 + i) = D.2 1000 i) (hG : GOK ad tys GG ws) (a1 : Int32) : UCP l D tys A ad 55 [.ref (ad 0), .int a1] ws 0 := by
  have l1 := Int32.le_toInt a1
  have u1 := Int32.toInt_lt a1
  rcases (show a1.toInt ≤ (-1) ∨ a1.toInt = 0 ∨ a1.toInt = 1 ∨ a1.toInt = 2 ∨ a1.toInt = 3 ∨ 4 ≤ a1.toInt by omega) with h | h | h | h | h | h
  · exact uc_i (r445 hAD) (by omega) ⟨rfl, ok_int (by omega) (by omega), trivial⟩ hG (fun q hq => by cases hq) rfl
  · exact uc_i (r449 hAD) (by omega) ⟨rfl, ok_int (by omega) (by omega), trivial⟩ hG (fun q hq => by cases hq) rfl
  · exact uc_i (r450 hAD) (by omega) ⟨rfl, ok_int (by omega) (by omega), trivial⟩ hG (fun q hq => by cases hq) rfl
  · exact uc_i (r451 hAD) (by omega) ⟨rfl, ok_int (by omega) (by omega), trivial⟩ hG (fun q hq => by cases hq) rfl
  · exact uc_i (r452 hAD) (by omega) ⟨rfl, ok_int (by omega) (by omega), trivial⟩ hG (fun q hq => by cases hq) rfl
  · exact uc_i (r446 hAD) (by omega) ⟨rfl, ok_int (by omega) (by omega), trivial⟩ hG (fun q hq => by cases hq) rfl
theorem u_M48 (hAD : ∀ i : Nat, ad (1000 + i) = D.2 1000 i) (hG : GOK ad tys GG ws) (a1 : Int32) : UCP l D tys A ad 318 [.ref (ad 90), .int a1] ws 0 := sorry
theorem u_X49 (hAD : ∀ i : Nat, ad (1000 + i) = D.2 1000 i) (hG : GOK ad tys GG ws) (a1 : Int32) : UCP l D tys A ad 56 [.ref (ad 0), .int a1] ws 0 := by
  have l1 := Int32.le_toInt a1
  have u1 := Int32.toInt_lt a1
  rcases (show a1.toInt ≤ (-1) ∨ a1.toInt = 0 ∨ a1.toInt = 1 ∨ a1.toInt = 2 ∨ a1.toInt = 3 ∨ 4 ≤ a1.toInt by omega) with h | h | h | h | h | h
  · exact uc_i (r461 hAD) (by omega) ⟨rfl, ok_int (by omega) (by omega), trivial⟩ hG (fun q hq => by cases hq) rfl
  · exact uc_i (r463 hAD) (by omega) ⟨rfl, ok_int (by omega) (by omega), trivial⟩ hG (fun q hq => by cases hq) rfl
  · exact uc_i (r464 hAD) (by omega) ⟨rfl, ok_int (by omega) (by omega), trivial⟩ hG (fun q hq => by cases hq) rfl
  · exact uc_i (r465 hAD) (by omega) ⟨rfl, ok_int (by omega) (by omega), trivial⟩ hG (fun q hq => by cases hq) rfl
  · exact uc_i (r466 hAD) (by omega) ⟨rfl, ok_int (by omega) (by omega), trivial⟩ hG (fun q hq => by cases hq) rfl
  · exact uc_i (r462 hAD) (by omega) ⟨rfl, ok_int (by omega) (by omega), trivial⟩ hG (fun q hq => by cases hq) rfl
theorem u_M49 (hAD : ∀ i : Nat, ad (1000 + i) = D.2 1000 i) (hG : GOK ad tys GG ws) (a1 : Int32) : UCP l D tys A ad 319 [.ref (ad 90), .int a1] ws 0 := sorry
theorem u_X50 (hAD : ∀ i : Nat, ad (1000 + i) = D.2 1000 i) (hG : GOK ad tys GG ws) (a1 : Int32) (a2 : Int32) (a3 : Int32) : UCP l D tys A ad 58 [.ref (ad 0), .int a1, .int a2, .int a3] ws 0 := by
  have l1 := Int32.le_toInt a1
  have u1 := Int32.toInt_lt a1
  have l2 := Int32.le_toInt a2
  have u2 := Int32.toInt_lt a2
  have l3 := Int32.le_toInt a3
  have u3 := Int32.toInt_lt a3
  exact uc_i (r475 hAD) (by omega) ⟨rfl, ok_full, ok_full, ok_full, trivial⟩ hG (fun q hq => by cases hq) rfl
theorem u_M50 (hAD : ∀ i : Nat, ad (1000 + i) = D.2 1000 i) (hG : GOK ad tys GG ws) (a1 : Int32) (a2 : Int32) (a3 : Int32) : UCP l D tys A ad 321 [.ref (ad 90), .int a1, .int a2, .int a3] ws 0 := by
  have l1 := Int32.le_toInt a1
  have u1 := Int32.toInt_lt a1
  have l2 := Int32.le_toInt a2
  have u2 := Int32.toInt_lt a2
  have l3 := Int32.le_toInt a3
  have u3 := Int32.toInt_lt a3
  exact uc_i (r484 hAD) (by omega) ⟨rfl, ok_full, ok_full, ok_full, trivial⟩ hG (fun q hq => by cases hq) rfl
theorem u_X51 (hAD : ∀ i : Nat, ad (1000 + i) = D.2 1000 i) (hG : GOK ad tys GG ws) (a1 : Int32) (a2 : Int32) : UCP l D tys A ad 59 [.ref (ad 0), .int a1, .int a2] ws 0 := by
  have l1 := Int32.le_toInt a1
  have u1 := Int32.toInt_lt a1
  have l2 := Int32.le_toInt a2
  have u2 := Int32.toInt_lt a2
  exact uc_i (r485 hAD) (by omega) ⟨rfl, ok_full, ok_full, trivial⟩ hG (fun q hq => by cases hq) rfl
theorem u_M51 (hAD : ∀ i : Nat, ad (1000 + i) = D.2 1000 i) (hG : GOK ad tys GG ws) (a1 : Int32) (a2 : Int32) : UCP l D tys A ad 322 [.ref (ad 90), .int a1, .int a2] ws 0 := by
  have l1 := Int32.le_toInt a1
  have u1 := Int32.toInt_lt a1
  have l2 := Int32.le_toInt a2
  have u2 := Int32.toInt_lt a2
  exact uc_i (r486 hAD) (by omega) ⟨rfl, ok_full, ok_full, trivial⟩ hG (fun q hq => by cases hq) rfl
theorem u_X52 (hAD : ∀ i : Nat, ad (1000 + i) = D.2 1000 i) (hG : GOK ad tys GG ws) (a1 : Int32) : UCP l D tys A ad 60 [.ref (ad 0), .int a1] ws 0 := by
  have l1 := Int32.le_toInt a1
  have u1 := Int32.toInt_lt a1
  rcases (show a1.toInt ≤ 0 ∨ a1.toInt = 1 ∨ a1.toInt = 2 ∨ a1.toInt = 3 ∨ a1.toInt = 4 ∨ a1.toInt = 5 ∨ a1.toInt = 6 ∨ 7 ≤ a1.toInt by omega) with h | h | h | h | h | h | h | h
  · exact uc_i (r487 hAD) (by omega) ⟨rfl, ok_int (by omega) (by omega), trivial⟩ hG (fun q hq => by cases hq) rfl
  · exact uc_i (r495 hAD) (by omega) ⟨rfl, ok_int (by omega) (by omega), trivial⟩ hG (fun q hq => by cases hq) rfl
  · exact uc_i (r498 hAD) (by omega) ⟨rfl, ok_int (by omega) (by omega), trivial⟩ hG (fun q hq => by cases hq) rfl
  · exact uc_i (r502 hAD) (by omega) ⟨rfl, ok_int (by omega) (by omega), trivial⟩ hG (fun q hq => by cases hq) rfl
  · exact uc_i (r506 hAD) (by omega) ⟨rfl, ok_int (by omega) (by omega), trivial⟩ hG (fun q hq => by cases hq) rfl
  · exact uc_i (r510 hAD) (by omega) ⟨rfl, ok_int (by omega) (by omega), trivial⟩ hG (fun q hq => by cases hq) rfl
  · exact uc_i (r514 hAD) (by omega) ⟨rfl, ok_int (by omega) (by omega), trivial⟩ hG (fun q hq => by cases hq) rfl
  · exact uc_i (r488 hAD) (by omega) ⟨rfl, ok_int (by omega) (by omega), trivial⟩ hG (fun q hq => by cases hq) rfl
theorem u_M52 (hAD : ∀ i : Nat, ad (1000 + i) = D.2 1000 i) (hG : GOK ad tys GG ws) (a1 : Int32) : UCP l D tys A ad 325 [.ref (ad 90), .int a1] ws 0 := by
  have l1 := Int32.le_toInt a1
  have u1 := Int32.toInt_lt a1
  obtain ⟨z91_0, hz91_0, zl91_0, zu91_0⟩ := cell_bd (c := 91) (j := 0) hG rfl (by omega) (show segAt _ 0 = some (0, 0, 9) by decide +kernel)
  rcases (show a1.toInt ≤ 0 ∨ a1.toInt = 1 ∨ a1.toInt = 2 ∨ a1.toInt = 3 ∨ a1.toInt = 4 ∨ a1.toInt = 5 ∨ a1.toInt = 6 ∨ 7 ≤ a1.toInt by omega) with h | h | h | h | h | h | h | h
  · rcases (show z91_0 = 0 ∨ (1 ≤ z91_0 ∧ z91_0 ≤ 9) by omega) with h | h
    · exact uc_i (r515 hAD) (by omega) ⟨rfl, ok_int (by omega) (by omega), trivial⟩ hG (pre_one hz91_0 (by omega) (by omega)) rfl
    · exact uc_i (r516 hAD) (by omega) ⟨rfl, ok_int (by omega) (by omega), trivial⟩ hG (pre_one hz91_0 (by omega) (by omega)) rfl
  · rcases (show z91_0 = 0 ∨ (1 ≤ z91_0 ∧ z91_0 ≤ 9) by omega) with h | h
    · exact uc_i (r519 hAD) (by omega) ⟨rfl, ok_int (by omega) (by omega), trivial⟩ hG (pre_one hz91_0 (by omega) (by omega)) rfl
    · exact uc_i (r522 hAD) (by omega) ⟨rfl, ok_int (by omega) (by omega), trivial⟩ hG (pre_one hz91_0 (by omega) (by omega)) rfl
  · rcases (show z91_0 = 0 ∨ (1 ≤ z91_0 ∧ z91_0 ≤ 9) by omega) with h | h
    · exact uc_i (r523 hAD) (by omega) ⟨rfl, ok_int (by omega) (by omega), trivial⟩ hG (pre_one hz91_0 (by omega) (by omega)) rfl
    · exact uc_i (r524 hAD) (by omega) ⟨rfl, ok_int (by omega) (by omega), trivial⟩ hG (pre_one hz91_0 (by omega) (by omega)) rfl
  · rcases (show z91_0 = 0 ∨ (1 ≤ z91_0 ∧ z91_0 ≤ 9) by omega) with h | h
    · exact uc_i (r525 hAD) (by omega) ⟨rfl, ok_int (by omega) (by omega), trivial⟩ hG (pre_one hz91_0 (by omega) (by omega)) rfl
    · exact uc_i (r526 hAD) (by omega) ⟨rfl, ok_int (by omega) (by omega), trivial⟩ hG (pre_one hz91_0 (by omega) (by omega)) rfl
  · rcases (show z91_0 = 0 ∨ (1 ≤ z91_0 ∧ z91_0 ≤ 9) by omega) with h | h
    · exact uc_i (r527 hAD) (by omega) ⟨rfl, ok_int (by omega) (by omega), trivial⟩ hG (pre_one hz91_0 (by omega) (by omega)) rfl
    · exact uc_i (r528 hAD) (by omega) ⟨rfl, ok_int (by omega) (by omega), trivial⟩ hG (pre_one hz91_0 (by omega) (by omega)) rfl
  · rcases (show z91_0 = 0 ∨ (1 ≤ z91_0 ∧ z91_0 ≤ 9) by omega) with h | h
    · exact uc_i (r529 hAD) (by omega) ⟨rfl, ok_int (by omega) (by omega), trivial⟩ hG (pre_one hz91_0 (by omega) (by omega)) rfl
    · exact uc_i (r530 hAD) (by omega) ⟨rfl, ok_int (by omega) (by omega), trivial⟩ hG (pre_one hz91_0 (by omega) (by omega)) rfl
  · rcases (show z91_0 = 0 ∨ (1 ≤ z91_0 ∧ z91_0 ≤ 9) by omega) with h | h
    · exact uc_i (r531 hAD) (by omega) ⟨rfl, ok_int (by omega) (by omega), trivial⟩ hG (pre_one hz91_0 (by omega) (by omega)) rfl
    · exact uc_i (r532 hAD) (by omega) ⟨rfl, ok_int (by omega) (by omega), trivial⟩ hG (pre_one hz91_0 (by omega) (by omega)) rfl
  · rcases (show z91_0 = 0 ∨ (1 ≤ z91_0 ∧ z91_0 ≤ 9) by omega) with h | h
    · exact uc_i (r517 hAD) (by omega) ⟨rfl, ok_int (by omega) (by omega), trivial⟩ hG (pre_one hz91_0 (by omega) (by omega)) rfl
    · exact uc_i (r518 hAD) (by omega) ⟨rfl, ok_int (by omega) (by omega), trivial⟩ hG (pre_one hz91_0 (by omega) (by omega)) rfl
theorem u_X53 (hAD : ∀ i : Nat, ad (1000 + i) = D.2 1000 i) (hG : GOK ad tys GG ws) (a1 : Int32) : UCP l D tys A ad 61 [.ref (ad 0), .int a1] ws 0 := by
  have l1 := Int32.le_toInt a1
  have u1 := Int32.toInt_lt a1
  exact uc_i (r539 hAD) (by omega) ⟨rfl, ok_full, trivial⟩ hG (fun q hq => by cases hq) rfl
theorem u_M53 (hAD : ∀ i : Nat, ad (1000 + i) = D.2 1000 i) (hG : GOK ad tys GG ws) (a1 : Int32) : UCP l D tys A ad 326 [.ref (ad 90), .int a1] ws 0 := by
  have l1 := Int32.le_toInt a1
  have u1 := Int32.toInt_lt a1
  obtain ⟨z91_0, hz91_0, zl91_0, zu91_0⟩ := cell_bd (c := 91) (j := 0) hG rfl (by omega) (show segAt _ 0 = some (0, 0, 9) by decide +kernel)
  rcases (show z91_0 = 0 ∨ (1 ≤ z91_0 ∧ z91_0 ≤ 9) by omega) with h | h
  · exact uc_i (r541 hAD) (by omega) ⟨rfl, ok_full, trivial⟩ hG (pre_one hz91_0 (by omega) (by omega)) rfl
  · exact uc_i (r544 hAD) (by omega) ⟨rfl, ok_full, trivial⟩ hG (pre_one hz91_0 (by omega) (by omega)) rfl
theorem u_X54 (hAD : ∀ i : Nat, ad (1000 + i) = D.2 1000 i) (hG : GOK ad tys GG ws) (a1 : Int32) : UCP l D tys A ad 31 [.ref (ad 0), .int a1] ws 0 := by
  have l1 := Int32.le_toInt a1
  have u1 := Int32.toInt_lt a1
  exact uc_i (r545 hAD) (by omega) ⟨rfl, ok_full, trivial⟩ hG (fun q hq => by cases hq) rfl
theorem u_M54 (hAD : ∀ i : Nat, ad (1000 + i) = D.2 1000 i) (hG : GOK ad tys GG ws) (a1 : Int32) : UCP l D tys A ad 275 [.ref (ad 90), .int a1] ws 0 := by
  have l1 := Int32.le_toInt a1
  have u1 := Int32.toInt_lt a1
  exact uc_i (r546 hAD) (by omega) ⟨rfl, ok_full, trivial⟩ hG (fun q hq => by cases hq) rfl
theorem u_X55 (hAD : ∀ i : Nat, ad (1000 + i) = D.2 1000 i) (hG : GOK ad tys GG ws) (a1 : Int32) (a2 : Int32) (a3 : Int32) : UCP l D tys A ad 62 [.ref (ad 0), .int a1, .int a2, .int a3] ws 1 := by
  have l1 := Int32.le_toInt a1
  have u1 := Int32.toInt_lt a1
  have l2 := Int32.le_toInt a2
  have u2 := Int32.toInt_lt a2
  have l3 := Int32.le_toInt a3
  have u3 := Int32.toInt_lt a3
  exact uc_l (r554 hAD) (by omega) ⟨rfl, ok_full, ok_full, ok_full, trivial⟩ hG (fun q hq => by cases hq) rfl
theorem u_M55 (hAD : ∀ i : Nat, ad (1000 + i) = D.2 1000 i) (hG : GOK ad tys GG ws) (a1 : Int32) (a2 : Int32) (a3 : Int32) : UCP l D tys A ad 330 [.ref (ad 90), .int a1, .int a2, .int a3] ws 1 := by
  have l1 := Int32.le_toInt a1
  have u1 := Int32.toInt_lt a1
  have l2 := Int32.le_toInt a2
  have u2 := Int32.toInt_lt a2
  have l3 := Int32.le_toInt a3
  have u3 := Int32.toInt_lt a3
  exact uc_l (r557 hAD) (by omega) ⟨rfl, ok_full, ok_full, ok_full, trivial⟩ hG (fun q hq => by cases hq) rfl
theorem u_X56 (hAD : ∀ i : Nat, ad (1000 + i) = D.2 1000 i) (hG : GOK ad tys GG ws) (a1 : Int32) (a2 : Int32) (a3 : Int32) : UCP l D tys A ad 64 [.ref (ad 0), .int a1, .int a2, .int a3] ws 0 := by
  have l1 := Int32.le_toInt a1
  have u1 := Int32.toInt_lt a1
  have l2 := Int32.le_toInt a2
  have u2 := Int32.toInt_lt a2
  have l3 := Int32.le_toInt a3
  have u3 := Int32.toInt_lt a3
  exact uc_i (r559 hAD) (by omega) ⟨rfl, ok_full, ok_full, ok_full, trivial⟩ hG (fun q hq => by cases hq) rfl
theorem u_M56 (hAD : ∀ i : Nat, ad (1000 + i) = D.2 1000 i) (hG : GOK ad tys GG ws) (a1 : Int32) (a2 : Int32) (a3 : Int32) : UCP l D tys A ad 333 [.ref (ad 90), .int a1, .int a2, .int a3] ws 0 := by
  have l1 := Int32.le_toInt a1
  have u1 := Int32.toInt_lt a1
  have l2 := Int32.le_toInt a2
  have u2 := Int32.toInt_lt a2
  have l3 := Int32.le_toInt a3
  have u3 := Int32.toInt_lt a3
  exact uc_i (r560 hAD) (by omega) ⟨rfl, ok_full, ok_full, ok_full, trivial⟩ hG (fun q hq => by cases hq) rfl
theorem u_X57 (hAD : ∀ i : Nat, ad (1000 + i) = D.2 1000 i) (hG : GOK ad tys GG ws) (a1 : Int32) (a2 : Int32) (a3 : Int32) (a4 : Int32) : UCP l D tys A ad 65 [.ref (ad 0), .int a1, .int a2, .int a3, .int a4] ws 0 := by
  have l1 := Int32.le_toInt a1
  have u1 := Int32.toInt_lt a1
  have l2 := Int32.le_toInt a2
  have u2 := Int32.toInt_lt a2
  have l3 := Int32.le_toInt a3
  have u3 := Int32.toInt_lt a3
  have l4 := Int32.le_toInt a4
  have u4 := Int32.toInt_lt a4
  exact uc_i (r562 hAD) (by omega) ⟨rfl, ok_full, ok_full, ok_full, ok_full, trivial⟩ hG (fun q hq => by cases hq) rfl
theorem u_M57 (hAD : ∀ i : Nat, ad (1000 + i) = D.2 1000 i) (hG : GOK ad tys GG ws) (a1 : Int32) (a2 : Int32) (a3 : Int32) (a4 : Int32) : UCP l D tys A ad 334 [.ref (ad 90), .int a1, .int a2, .int a3, .int a4] ws 0 := by
  have l1 := Int32.le_toInt a1
  have u1 := Int32.toInt_lt a1
  have l2 := Int32.le_toInt a2
  have u2 := Int32.toInt_lt a2
  have l3 := Int32.le_toInt a3
  have u3 := Int32.toInt_lt a3
  have l4 := Int32.le_toInt a4
  have u4 := Int32.toInt_lt a4
  exact uc_i (r563 hAD) (by omega) ⟨rfl, ok_full, ok_full, ok_full, ok_full, trivial⟩ hG (fun q hq => by cases hq) rfl
theorem u_X58 (hAD : ∀ i : Nat, ad (1000 + i) = D.2 1000 i) (hG : GOK ad tys GG ws) (a1 : Int32) (a2 : Int32) (a3 : Int32) (a4 : Int32) : UCP l D tys A ad 44 [.ref (ad 0), .int a1, .int a2, .int a3, .int a4] ws 0 := by
  have l1 := Int32.le_toInt a1
  have u1 := Int32.toInt_lt a1
  have l2 := Int32.le_toInt a2
  have u2 := Int32.toInt_lt a2
  have l3 := Int32.le_toInt a3
  have u3 := Int32.toInt_lt a3
  have l4 := Int32.le_toInt a4
  have u4 := Int32.toInt_lt a4
  exact uc_i (r564 hAD) (by omega) ⟨rfl, ok_full, ok_full, ok_full, ok_full, trivial⟩ hG (fun q hq => by cases hq) rfl
theorem u_M58 (hAD : ∀ i : Nat, ad (1000 + i) = D.2 1000 i) (hG : GOK ad tys GG ws) (a1 : Int32) (a2 : Int32) (a3 : Int32) (a4 : Int32) : UCP l D tys A ad 294 [.ref (ad 90), .int a1, .int a2, .int a3, .int a4] ws 0 := by
  have l1 := Int32.le_toInt a1
  have u1 := Int32.toInt_lt a1
  have l2 := Int32.le_toInt a2
  have u2 := Int32.toInt_lt a2
  have l3 := Int32.le_toInt a3
  have u3 := Int32.toInt_lt a3
  have l4 := Int32.le_toInt a4
  have u4 := Int32.toInt_lt a4
  exact uc_i (r565 hAD) (by omega) ⟨rfl, ok_full, ok_full, ok_full, ok_full, trivial⟩ hG (fun q hq => by cases hq) rfl
theorem u_X59 (hAD : ∀ i : Nat, ad (1000 + i) = D.2 1000 i) (hG : GOK ad tys GG ws) (a1 : Int32) : UCP l D tys A ad 66 [.ref (ad 0), .int a1] ws 0 := by
  have l1 := Int32.le_toInt a1
  have u1 := Int32.toInt_lt a1
  exact uc_i (r567 hAD) (by omega) ⟨rfl, ok_full, trivial⟩ hG (fun q hq => by cases hq) rfl
theorem u_M59 (hAD : ∀ i : Nat, ad (1000 + i) = D.2 1000 i) (hG : GOK ad tys GG ws) (a1 : Int32) : UCP l D tys A ad 335 [.ref (ad 90), .int a1] ws 0 := by
  have l1 := Int32.le_toInt a1
  have u1 := Int32.toInt_lt a1
  exact uc_i (r568 hAD) (by omega) ⟨rfl, ok_full, trivial⟩ hG (fun q hq => by cases hq) rfl
theorem u_X60 (hAD : ∀ i : Nat, ad (1000 + i) = D.2 1000 i) (hG : GOK ad tys GG ws) (a1 : Int32) : UCP l D tys A ad 67 [.ref (ad 0), .int a1] ws 0 := by
  have l1 := Int32.le_toInt a1
  have u1 := Int32.toInt_lt a1
  rcases (show a1.toInt ≤ (-1) ∨ a1.toInt = 0 ∨ a1.toInt = 1 ∨ a1.toInt = 2 ∨ 3 ≤ a1.toInt by omega) with h | h | h | h | h
  · exact uc_i (r569 hAD) (by omega) ⟨rfl, ok_int (by omega) (by omega), trivial⟩ hG (fun q hq => by cases hq) rfl
  · exact uc_i (r582 hAD) (by omega) ⟨rfl, ok_int (by omega) (by omega), trivial⟩ hG (fun q hq => by cases hq) rfl
  · exact uc_i (r594 hAD) (by omega) ⟨rfl, ok_int (by omega) (by omega), trivial⟩ hG (fun q hq => by cases hq) rfl
  · exact uc_i (r606 hAD) (by omega) ⟨rfl, ok_int (by omega) (by omega), trivial⟩ hG (fun q hq => by cases hq) rfl
  · exact uc_i (r570 hAD) (by omega) ⟨rfl, ok_int (by omega) (by omega), trivial⟩ hG (fun q hq => by cases hq) rfl
theorem u_M60 (hAD : ∀ i : Nat, ad (1000 + i) = D.2 1000 i) (hG : GOK ad tys GG ws) (a1 : Int32) : UCP l D tys A ad 196 [.ref (ad 90), .int a1] ws 0 := by
  have l1 := Int32.le_toInt a1
  have u1 := Int32.toInt_lt a1
  rcases (show a1.toInt ≤ (-1) ∨ a1.toInt = 0 ∨ a1.toInt = 1 ∨ a1.toInt = 2 ∨ 3 ≤ a1.toInt by omega) with h | h | h | h | h
  · exact uc_i (r607 hAD) (by omega) ⟨rfl, ok_int (by omega) (by omega), trivial⟩ hG (fun q hq => by cases hq) rfl
  · exact uc_i (r609 hAD) (by omega) ⟨rfl, ok_int (by omega) (by omega), trivial⟩ hG (fun q hq => by cases hq) rfl
  · exact uc_i (r610 hAD) (by omega) ⟨rfl, ok_int (by omega) (by omega), trivial⟩ hG (fun q hq => by cases hq) rfl
  · exact uc_i (r611 hAD) (by omega) ⟨rfl, ok_int (by omega) (by omega), trivial⟩ hG (fun q hq => by cases hq) rfl
  · exact uc_i (r608 hAD) (by omega) ⟨rfl, ok_int (by omega) (by omega), trivial⟩ hG (fun q hq => by cases hq) rfl
theorem u_X61 (hAD : ∀ i : Nat, ad (1000 + i) = D.2 1000 i) (hG : GOK ad tys GG ws) (a1 : Int32) : UCP l D tys A ad 68 [.ref (ad 0), .int a1] ws 0 := by
  have l1 := Int32.le_toInt a1
  have u1 := Int32.toInt_lt a1
  rcases (show a1.toInt ≤ (-1) ∨ a1.toInt = 0 ∨ a1.toInt = 1 ∨ a1.toInt = 2 ∨ 3 ≤ a1.toInt by omega) with h | h | h | h | h
  · exact uc_i (r612 hAD) (by omega) ⟨rfl, ok_int (by omega) (by omega), trivial⟩ hG (fun q hq => by cases hq) rfl
  · exact uc_i (r625 hAD) (by omega) ⟨rfl, ok_int (by omega) (by omega), trivial⟩ hG (fun q hq => by cases hq) rfl
  · exact uc_i (r637 hAD) (by omega) ⟨rfl, ok_int (by omega) (by omega), trivial⟩ hG (fun q hq => by cases hq) rfl
  · exact uc_i (r649 hAD) (by omega) ⟨rfl, ok_int (by omega) (by omega), trivial⟩ hG (fun q hq => by cases hq) rfl
  · exact uc_i (r613 hAD) (by omega) ⟨rfl, ok_int (by omega) (by omega), trivial⟩ hG (fun q hq => by cases hq) rfl
theorem u_M61 (hAD : ∀ i : Nat, ad (1000 + i) = D.2 1000 i) (hG : GOK ad tys GG ws) (a1 : Int32) : UCP l D tys A ad 197 [.ref (ad 90), .int a1] ws 0 := by
  have l1 := Int32.le_toInt a1
  have u1 := Int32.toInt_lt a1
  rcases (show a1.toInt ≤ (-1) ∨ a1.toInt = 0 ∨ a1.toInt = 1 ∨ a1.toInt = 2 ∨ 3 ≤ a1.toInt by omega) with h | h | h | h | h
  · exact uc_i (r650 hAD) (by omega) ⟨rfl, ok_int (by omega) (by omega), trivial⟩ hG (fun q hq => by cases hq) rfl
  · exact uc_i (r652 hAD) (by omega) ⟨rfl, ok_int (by omega) (by omega), trivial⟩ hG (fun q hq => by cases hq) rfl
  · exact uc_i (r653 hAD) (by omega) ⟨rfl, ok_int (by omega) (by omega), trivial⟩ hG (fun q hq => by cases hq) rfl
  · exact uc_i (r654 hAD) (by omega) ⟨rfl, ok_int (by omega) (by omega), trivial⟩ hG (fun q hq => by cases hq) rfl
  · exact uc_i (r651 hAD) (by omega) ⟨rfl, ok_int (by omega) (by omega), trivial⟩ hG (fun q hq => by cases hq) rfl
theorem u_X62 (hAD : ∀ i : Nat, ad (1000 + i) = D.2 1000 i) (hG : GOK ad tys GG ws) (a1 : Int32) (a2 : Int32) (a3 : Int32) : UCP l D tys A ad 70 [.ref (ad 0), .int a1, .int a2, .int a3] ws 0 := by
  have l1 := Int32.le_toInt a1
  have u1 := Int32.toInt_lt a1
  have l2 := Int32.le_toInt a2
  have u2 := Int32.toInt_lt a2
  have l3 := Int32.le_toInt a3
  have u3 := Int32.toInt_lt a3
  rcases (show a1.toInt ≤ (-1) ∨ (0 ≤ a1.toInt ∧ a1.toInt ≤ 3) ∨ 4 ≤ a1.toInt by omega) with h | h | h
  · exact uc_i (r655 hAD) (by omega) ⟨rfl, ok_int (by omega) (by omega), ok_full, ok_full, trivial⟩ hG (fun q hq => by cases hq) rfl
  · rcases (show a2.toInt ≤ (-1) ∨ (0 ≤ a2.toInt ∧ a2.toInt ≤ 3) ∨ 4 ≤ a2.toInt by omega) with h | h | h
    · exact uc_i (r657 hAD) (by omega) ⟨rfl, ok_int (by omega) (by omega), ok_int (by omega) (by omega), ok_full, trivial⟩ hG (fun q hq => by cases hq) rfl
    · rcases (show a3.toInt ≤ (-1) ∨ (0 ≤ a3.toInt ∧ a3.toInt ≤ 60) ∨ 61 ≤ a3.toInt by omega) with h | h | h
      · exact uc_i (r660 hAD) (by omega) ⟨rfl, ok_int (by omega) (by omega), ok_int (by omega) (by omega), ok_int (by omega) (by omega), trivial⟩ hG (fun q hq => by cases hq) rfl
      · exact uc_i (r663 hAD) (by omega) ⟨rfl, ok_int (by omega) (by omega), ok_int (by omega) (by omega), ok_int (by omega) (by omega), trivial⟩ hG (fun q hq => by cases hq) rfl
      · exact uc_i (r659 hAD) (by omega) ⟨rfl, ok_int (by omega) (by omega), ok_int (by omega) (by omega), ok_int (by omega) (by omega), trivial⟩ hG (fun q hq => by cases hq) rfl
    · exact uc_i (r658 hAD) (by omega) ⟨rfl, ok_int (by omega) (by omega), ok_int (by omega) (by omega), ok_full, trivial⟩ hG (fun q hq => by cases hq) rfl
  · exact uc_i (r656 hAD) (by omega) ⟨rfl, ok_int (by omega) (by omega), ok_full, ok_full, trivial⟩ hG (fun q hq => by cases hq) rfl
theorem u_M62 (hAD : ∀ i : Nat, ad (1000 + i) = D.2 1000 i) (hG : GOK ad tys GG ws) (a1 : Int32) (a2 : Int32) (a3 : Int32) : UCP l D tys A ad 338 [.ref (ad 90), .int a1, .int a2, .int a3] ws 0 := by
  have l1 := Int32.le_toInt a1
  have u1 := Int32.toInt_lt a1
  have l2 := Int32.le_toInt a2
  have u2 := Int32.toInt_lt a2
  have l3 := Int32.le_toInt a3
  have u3 := Int32.toInt_lt a3
  rcases (show a1.toInt ≤ (-1) ∨ (0 ≤ a1.toInt ∧ a1.toInt ≤ 3) ∨ 4 ≤ a1.toInt by omega) with h | h | h
  · exact uc_i (r664 hAD) (by omega) ⟨rfl, ok_int (by omega) (by omega), ok_full, ok_full, trivial⟩ hG (fun q hq => by cases hq) rfl
  · rcases (show a2.toInt ≤ (-1) ∨ (0 ≤ a2.toInt ∧ a2.toInt ≤ 3) ∨ 4 ≤ a2.toInt by omega) with h | h | h
    · exact uc_i (r666 hAD) (by omega) ⟨rfl, ok_int (by omega) (by omega), ok_int (by omega) (by omega), ok_full, trivial⟩ hG (fun q hq => by cases hq) rfl
    · rcases (show a3.toInt ≤ (-1) ∨ (0 ≤ a3.toInt ∧ a3.toInt ≤ 60) ∨ 61 ≤ a3.toInt by omega) with h | h | h
      · exact uc_i (r669 hAD) (by omega) ⟨rfl, ok_int (by omega) (by omega), ok_int (by omega) (by omega), ok_int (by omega) (by omega), trivial⟩ hG (fun q hq => by cases hq) rfl
      · exact uc_i (r670 hAD) (by omega) ⟨rfl, ok_int (by omega) (by omega), ok_int (by omega) (by omega), ok_int (by omega) (by omega), trivial⟩ hG (fun q hq => by cases hq) rfl
      · exact uc_i (r668 hAD) (by omega) ⟨rfl, ok_int (by omega) (by omega), ok_int (by omega) (by omega), ok_int (by omega) (by omega), trivial⟩ hG (fun q hq => by cases hq) rfl
    · exact uc_i (r667 hAD) (by omega) ⟨rfl, ok_int (by omega) (by omega), ok_int (by omega) (by omega), ok_full, trivial⟩ hG (fun q hq => by cases hq) rfl
  · exact uc_i (r665 hAD) (by omega) ⟨rfl, ok_int (by omega) (by omega), ok_full, ok_full, trivial⟩ hG (fun q hq => by cases hq) rfl
theorem u_X63 (hAD : ∀ i : Nat, ad (1000 + i) = D.2 1000 i) (hG : GOK ad tys GG ws) (a1 : Int32) (a2 : Int32) (a3 : Int64) : UCP l D tys A ad 71 [.ref (ad 0), .int a1, .int a2, .long a3] ws 0 := by
  have l1 := Int32.le_toInt a1
  have u1 := Int32.toInt_lt a1
  have l2 := Int32.le_toInt a2
  have u2 := Int32.toInt_lt a2
  rcases (show a1.toInt ≤ (-1) ∨ (0 ≤ a1.toInt ∧ a1.toInt ≤ 3) ∨ 4 ≤ a1.toInt by omega) with h | h | h
  · exact uc_i (r671 hAD) (by omega) ⟨rfl, ok_int (by omega) (by omega), ok_full, ok_fullL, trivial⟩ hG (fun q hq => by cases hq) rfl
  · exact uc_i (r674 hAD) (by omega) ⟨rfl, ok_int (by omega) (by omega), ok_full, ok_fullL, trivial⟩ hG (fun q hq => by cases hq) rfl
  · exact uc_i (r672 hAD) (by omega) ⟨rfl, ok_int (by omega) (by omega), ok_full, ok_fullL, trivial⟩ hG (fun q hq => by cases hq) rfl
theorem u_M63 (hAD : ∀ i : Nat, ad (1000 + i) = D.2 1000 i) (hG : GOK ad tys GG ws) (a1 : Int32) (a2 : Int32) (a3 : Int64) : UCP l D tys A ad 339 [.ref (ad 90), .int a1, .int a2, .long a3] ws 0 := by
  have l1 := Int32.le_toInt a1
  have u1 := Int32.toInt_lt a1
  have l2 := Int32.le_toInt a2
  have u2 := Int32.toInt_lt a2
  rcases (show a1.toInt ≤ (-1) ∨ (0 ≤ a1.toInt ∧ a1.toInt ≤ 3) ∨ 4 ≤ a1.toInt by omega) with h | h | h
  · exact uc_i (r675 hAD) (by omega) ⟨rfl, ok_int (by omega) (by omega), ok_full, ok_fullL, trivial⟩ hG (fun q hq => by cases hq) rfl
  · exact uc_i (r677 hAD) (by omega) ⟨rfl, ok_int (by omega) (by omega), ok_full, ok_fullL, trivial⟩ hG (fun q hq => by cases hq) rfl
  · exact uc_i (r676 hAD) (by omega) ⟨rfl, ok_int (by omega) (by omega), ok_full, ok_fullL, trivial⟩ hG (fun q hq => by cases hq) rfl
theorem u_X64 (hAD : ∀ i : Nat, ad (1000 + i) = D.2 1000 i) (hG : GOK ad tys GG ws) (a1 : Int32) (a2 : Int32) (a3 : Int32) (a4 : Int32) (a5 : Int32) : UCP l D tys A ad 72 [.ref (ad 0), .int a1, .int a2, .int a3, .int a4, .int a5] ws 0 := by
  have l1 := Int32.le_toInt a1
  have u1 := Int32.toInt_lt a1
  have l2 := Int32.le_toInt a2
  have u2 := Int32.toInt_lt a2
  have l3 := Int32.le_toInt a3
  have u3 := Int32.toInt_lt a3
  have l4 := Int32.le_toInt a4
  have u4 := Int32.toInt_lt a4
  have l5 := Int32.le_toInt a5
  have u5 := Int32.toInt_lt a5
  rcases (show a1.toInt ≤ (-1) ∨ (0 ≤ a1.toInt ∧ a1.toInt ≤ 3) ∨ 4 ≤ a1.toInt by omega) with h | h | h
  · exact uc_i (r678 hAD) (by omega) ⟨rfl, ok_int (by omega) (by omega), ok_full, ok_full, ok_full, ok_full, trivial⟩ hG (fun q hq => by cases hq) rfl
  · rcases (show a3.toInt ≤ (-1) ∨ (0 ≤ a3.toInt ∧ a3.toInt ≤ 3) ∨ 4 ≤ a3.toInt by omega) with h | h | h
    · exact uc_i (r680 hAD) (by omega) ⟨rfl, ok_int (by omega) (by omega), ok_full, ok_int (by omega) (by omega), ok_full, ok_full, trivial⟩ hG (fun q hq => by cases hq) rfl
    · rcases (show a5.toInt ≤ (-1) ∨ a5.toInt = 0 ∨ a5.toInt = 1 ∨ a5.toInt = 2 ∨ a5.toInt = 3 ∨ a5.toInt = 4 ∨ a5.toInt = 5 ∨ a5.toInt = 6 ∨ a5.toInt = 7 ∨ a5.toInt = 8 ∨ a5.toInt = 9 ∨ a5.toInt = 10 ∨ a5.toInt = 11 ∨ a5.toInt = 12 ∨ a5.toInt = 13 ∨ a5.toInt = 14 ∨ a5.toInt = 15 ∨ a5.toInt = 16 ∨ a5.toInt = 17 ∨ a5.toInt = 18 ∨ a5.toInt = 19 ∨ a5.toInt = 20 ∨ a5.toInt = 21 ∨ a5.toInt = 22 ∨ a5.toInt = 23 ∨ a5.toInt = 24 ∨ a5.toInt = 25 ∨ a5.toInt = 26 ∨ a5.toInt = 27 ∨ a5.toInt = 28 ∨ a5.toInt = 29 ∨ a5.toInt = 30 ∨ a5.toInt = 31 ∨ a5.toInt = 32 ∨ a5.toInt = 33 ∨ a5.toInt = 34 ∨ a5.toInt = 35 ∨ a5.toInt = 36 ∨ a5.toInt = 37 ∨ a5.toInt = 38 ∨ a5.toInt = 39 ∨ a5.toInt = 40 ∨ a5.toInt = 41 ∨ a5.toInt = 42 ∨ a5.toInt = 43 ∨ a5.toInt = 44 ∨ a5.toInt = 45 ∨ a5.toInt = 46 ∨ a5.toInt = 47 ∨ a5.toInt = 48 ∨ a5.toInt = 49 ∨ a5.toInt = 50 ∨ a5.toInt = 51 ∨ a5.toInt = 52 ∨ a5.toInt = 53 ∨ a5.toInt = 54 ∨ a5.toInt = 55 ∨ a5.toInt = 56 ∨ a5.toInt = 57 ∨ a5.toInt = 58 ∨ a5.toInt = 59 ∨ a5.toInt = 60 ∨ 61 ≤ a5.toInt by omega) with h | h | h | h | h | h | h | h | h | h | h | h | h | h | h | h | h | h | h | h | h | h | h | h | h | h | h | h | h | h | h | h | h | h | h | h | h | h | h | h | h | h | h | h | h | h | h | h | h | h | h | h | h | h | h | h | h | h | h | h | h | h | h
      · exact uc_i (r682 hAD) (by omega) ⟨rfl, ok_int (by omega) (by omega), ok_full, ok_int (by omega) (by omega), ok_full, ok_int (by omega) (by omega), trivial⟩ hG (fun q hq => by cases hq) rfl
      · exact uc_i (r685 hAD) (by omega) ⟨rfl, ok_int (by omega) (by omega), ok_full, ok_int (by omega) (by omega), ok_full, ok_int (by omega) (by omega), trivial⟩ hG (fun q hq => by cases hq) rfl
      · exact uc_i (r687 hAD) (by omega) ⟨rfl, ok_int (by omega) (by omega), ok_full, ok_int (by omega) (by omega), ok_full, ok_int (by omega) (by omega), trivial⟩ hG (fun q hq => by cases hq) rfl
      · exact uc_i (r689 hAD) (by omega) ⟨rfl, ok_int (by omega) (by omega), ok_full, ok_int (by omega) (by omega), ok_full, ok_int (by omega) (by omega), trivial⟩ hG (fun q hq => by cases hq) rfl
      · exact uc_i (r691 hAD) (by omega) ⟨rfl, ok_int (by omega) (by omega), ok_full, ok_int (by omega) (by omega), ok_full, ok_int (by omega) (by omega), trivial⟩ hG (fun q hq => by cases hq) rfl
      · exact uc_i (r693 hAD) (by omega) ⟨rfl, ok_int (by omega) (by omega), ok_full, ok_int (by omega) (by omega), ok_full, ok_int (by omega) (by omega), trivial⟩ hG (fun q hq => by cases hq) rfl
      · exact uc_i (r695 hAD) (by omega) ⟨rfl, ok_int (by omega) (by omega), ok_full, ok_int (by omega) (by omega), ok_full, ok_int (by omega) (by omega), trivial⟩ hG (fun q hq => by cases hq) rfl
      · exact uc_i (r697 hAD) (by omega) ⟨rfl, ok_int (by omega) (by omega), ok_full, ok_int (by omega) (by omega), ok_full, ok_int (by omega) (by omega), trivial⟩ hG (fun q hq => by cases hq) rfl
      · exact uc_i (r699 hAD) (by omega) ⟨rfl, ok_int (by omega) (by omega), ok_full, ok_int (by omega) (by omega), ok_full, ok_int (by omega) (by omega), trivial⟩ hG (fun q hq => by cases hq) rfl
      · exact uc_i (r701 hAD) (by omega) ⟨rfl, ok_int (by omega) (by omega), ok_full, ok_int (by omega) (by omega), ok_full, ok_int (by omega) (by omega), trivial⟩ hG (fun q hq => by cases hq) rfl
      · exact uc_i (r703 hAD) (by omega) ⟨rfl, ok_int (by omega) (by omega), ok_full, ok_int (by omega) (by omega), ok_full, ok_int (by omega) (by omega), trivial⟩ hG (fun q hq => by cases hq) rfl
      · exact uc_i (r705 hAD) (by omega) ⟨rfl, ok_int (by omega) (by omega), ok_full, ok_int (by omega) (by omega), ok_full, ok_int (by omega) (by omega), trivial⟩ hG (fun q hq => by cases hq) rfl
      · exact uc_i (r707 hAD) (by omega) ⟨rfl, ok_int (by omega) (by omega), ok_full, ok_int (by omega) (by omega), ok_full, ok_int (by omega) (by omega), trivial⟩ hG (fun q hq => by cases hq) rfl
      · exact uc_i (r709 hAD) (by omega) ⟨rfl, ok_int (by omega) (by omega), ok_full, ok_int (by omega) (by omega), ok_full, ok_int (by omega) (by omega), trivial⟩ hG (fun q hq => by cases hq) rfl
      · exact uc_i (r711 hAD) (by omega) ⟨rfl, ok_int (by omega) (by omega), ok_full, ok_int (by omega) (by omega), ok_full, ok_int (by omega) (by omega), trivial⟩ hG (fun q hq => by cases hq) rfl
      · exact uc_i (r713 hAD) (by omega) ⟨rfl, ok_int (by omega) (by omega), ok_full, ok_int (by omega) (by omega), ok_full, ok_int (by omega) (by omega), trivial⟩ hG (fun q hq => by cases hq) rfl
      · exact uc_i (r715 hAD) (by omega) ⟨rfl, ok_int (by omega) (by omega), ok_full, ok_int (by omega) (by omega), ok_full, ok_int (by omega) (by omega), trivial⟩ hG (fun q hq => by cases hq) rfl
      · exact uc_i (r717 hAD) (by omega) ⟨rfl, ok_int (by omega) (by omega), ok_full, ok_int (by omega) (by omega), ok_full, ok_int (by omega) (by omega), trivial⟩ hG (fun q hq => by cases hq) rfl
      · exact uc_i (r720 hAD) (by omega) ⟨rfl, ok_int (by omega) (by omega), ok_full, ok_int (by omega) (by omega), ok_full, ok_int (by omega) (by omega), trivial⟩ hG (fun q hq => by cases hq) rfl
      · exact uc_i (r721 hAD) (by omega) ⟨rfl, ok_int (by omega) (by omega), ok_full, ok_int (by omega) (by omega), ok_full, ok_int (by omega) (by omega), trivial⟩ hG (fun q hq => by cases hq) rfl
      · exact uc_i (r722 hAD) (by omega) ⟨rfl, ok_int (by omega) (by omega), ok_full, ok_int (by omega) (by omega), ok_full, ok_int (by omega) (by omega), trivial⟩ hG (fun q hq => by cases hq) rfl
      · exact uc_i (r723 hAD) (by omega) ⟨rfl, ok_int (by omega) (by omega), ok_full, ok_int (by omega) (by omega), ok_full, ok_int (by omega) (by omega), trivial⟩ hG (fun q hq => by cases hq) rfl
      · exact uc_i (r724 hAD) (by omega) ⟨rfl, ok_int (by omega) (by omega), ok_full, ok_int (by omega) (by omega), ok_full, ok_int (by omega) (by omega), trivial⟩ hG (fun q hq => by cases hq) rfl
      · exact uc_i (r725 hAD) (by omega) ⟨rfl, ok_int (by omega) (by omega), ok_full, ok_int (by omega) (by omega), ok_full, ok_int (by omega) (by omega), trivial⟩ hG (fun q hq => by cases hq) rfl
      · exact uc_i (r726 hAD) (by omega) ⟨rfl, ok_int (by omega) (by omega), ok_full, ok_int (by omega) (by omega), ok_full, ok_int (by omega) (by omega), trivial⟩ hG (fun q hq => by cases hq) rfl
      · exact uc_i (r727 hAD) (by omega) ⟨rfl, ok_int (by omega) (by omega), ok_full, ok_int (by omega) (by omega), ok_full, ok_int (by omega) (by omega), trivial⟩ hG (fun q hq => by cases hq) rfl
      · exact uc_i (r728 hAD) (by omega) ⟨rfl, ok_int (by omega) (by omega), ok_full, ok_int (by omega) (by omega), ok_full, ok_int (by omega) (by omega), trivial⟩ hG (fun q hq => by cases hq) rfl
      · exact uc_i (r729 hAD) (by omega) ⟨rfl, ok_int (by omega) (by omega), ok_full, ok_int (by omega) (by omega), ok_full, ok_int (by omega) (by omega), trivial⟩ hG (fun q hq => by cases hq) rfl
      · exact uc_i (r730 hAD) (by omega) ⟨rfl, ok_int (by omega) (by omega), ok_full, ok_int (by omega) (by omega), ok_full, ok_int (by omega) (by omega), trivial⟩ hG (fun q hq => by cases hq) rfl
      · exact uc_i (r731 hAD) (by omega) ⟨rfl, ok_int (by omega) (by omega), ok_full, ok_int (by omega) (by omega), ok_full, ok_int (by omega) (by omega), trivial⟩ hG (fun q hq => by cases hq) rfl
      · exact uc_i (r732 hAD) (by omega) ⟨rfl, ok_int (by omega) (by omega), ok_full, ok_int (by omega) (by omega), ok_full, ok_int (by omega) (by omega), trivial⟩ hG (fun q hq => by cases hq) rfl
      · exact uc_i (r733 hAD) (by omega) ⟨rfl, ok_int (by omega) (by omega), ok_full, ok_int (by omega) (by omega), ok_full, ok_int (by omega) (by omega), trivial⟩ hG (fun q hq => by cases hq) rfl
      · exact uc_i (r734 hAD) (by omega) ⟨rfl, ok_int (by omega) (by omega), ok_full, ok_int (by omega) (by omega), ok_full, ok_int (by omega) (by omega), trivial⟩ hG (fun q hq => by cases hq) rfl
      · exact uc_i (r735 hAD) (by omega) ⟨rfl, ok_int (by omega) (by omega), ok_full, ok_int (by omega) (by omega), ok_full, ok_int (by omega) (by omega), trivial⟩ hG (fun q hq => by cases hq) rfl
      · exact uc_i (r736 hAD) (by omega) ⟨rfl, ok_int (by omega) (by omega), ok_full, ok_int (by omega) (by omega), ok_full, ok_int (by omega) (by omega), trivial⟩ hG (fun q hq => by cases hq) rfl
      · exact uc_i (r737 hAD) (by omega) ⟨rfl, ok_int (by omega) (by omega), ok_full, ok_int (by omega) (by omega), ok_full, ok_int (by omega) (by omega), trivial⟩ hG (fun q hq => by cases hq) rfl
      · exact uc_i (r738 hAD) (by omega) ⟨rfl, ok_int (by omega) (by omega), ok_full, ok_int (by omega) (by omega), ok_full, ok_int (by omega) (by omega), trivial⟩ hG (fun q hq => by cases hq) rfl
      · exact uc_i (r739 hAD) (by omega) ⟨rfl, ok_int (by omega) (by omega), ok_full, ok_int (by omega) (by omega), ok_full, ok_int (by omega) (by omega), trivial⟩ hG (fun q hq => by cases hq) rfl
      · exact uc_i (r740 hAD) (by omega) ⟨rfl, ok_int (by omega) (by omega), ok_full, ok_int (by omega) (by omega), ok_full, ok_int (by omega) (by omega), trivial⟩ hG (fun q hq => by cases hq) rfl
      · exact uc_i (r741 hAD) (by omega) ⟨rfl, ok_int (by omega) (by omega), ok_full, ok_int (by omega) (by omega), ok_full, ok_int (by omega) (by omega), trivial⟩ hG (fun q hq => by cases hq) rfl
      · exact uc_i (r742 hAD) (by omega) ⟨rfl, ok_int (by omega) (by omega), ok_full, ok_int (by omega) (by omega), ok_full, ok_int (by omega) (by omega), trivial⟩ hG (fun q hq => by cases hq) rfl
      · exact uc_i (r743 hAD) (by omega) ⟨rfl, ok_int (by omega) (by omega), ok_full, ok_int (by omega) (by omega), ok_full, ok_int (by omega) (by omega), trivial⟩ hG (fun q hq => by cases hq) rfl
      · exact uc_i (r744 hAD) (by omega) ⟨rfl, ok_int (by omega) (by omega), ok_full, ok_int (by omega) (by omega), ok_full, ok_int (by omega) (by omega), trivial⟩ hG (fun q hq => by cases hq) rfl
      · exact uc_i (r745 hAD) (by omega) ⟨rfl, ok_int (by omega) (by omega), ok_full, ok_int (by omega) (by omega), ok_full, ok_int (by omega) (by omega), trivial⟩ hG (fun q hq => by cases hq) rfl
      · exact uc_i (r746 hAD) (by omega) ⟨rfl, ok_int (by omega) (by omega), ok_full, ok_int (by omega) (by omega), ok_full, ok_int (by omega) (by omega), trivial⟩ hG (fun q hq => by cases hq) rfl
      · exact uc_i (r747 hAD) (by omega) ⟨rfl, ok_int (by omega) (by omega), ok_full, ok_int (by omega) (by omega), ok_full, ok_int (by omega) (by omega), trivial⟩ hG (fun q hq => by cases hq) rfl
      · exact uc_i (r748 hAD) (by omega) ⟨rfl, ok_int (by omega) (by omega), ok_full, ok_int (by omega) (by omega), ok_full, ok_int (by omega) (by omega), trivial⟩ hG (fun q hq => by cases hq) rfl
      · exact uc_i (r749 hAD) (by omega) ⟨rfl, ok_int (by omega) (by omega), ok_full, ok_int (by omega) (by omega), ok_full, ok_int (by omega) (by omega), trivial⟩ hG (fun q hq => by cases hq) rfl
      · exact uc_i (r750 hAD) (by omega) ⟨rfl, ok_int (by omega) (by omega), ok_full, ok_int (by omega) (by omega), ok_full, ok_int (by omega) (by omega), trivial⟩ hG (fun q hq => by cases hq) rfl
      · exact uc_i (r751 hAD) (by omega) ⟨rfl, ok_int (by omega) (by omega), ok_full, ok_int (by omega) (by omega), ok_full, ok_int (by omega) (by omega), trivial⟩ hG (fun q hq => by cases hq) rfl
      · exact uc_i (r752 hAD) (by omega) ⟨rfl, ok_int (by omega) (by omega), ok_full, ok_int (by omega) (by omega), ok_full, ok_int (by omega) (by omega), trivial⟩ hG (fun q hq => by cases hq) rfl
      · exact uc_i (r753 hAD) (by omega) ⟨rfl, ok_int (by omega) (by omega), ok_full, ok_int (by omega) (by omega), ok_full, ok_int (by omega) (by omega), trivial⟩ hG (fun q hq => by cases hq) rfl
      · exact uc_i (r754 hAD) (by omega) ⟨rfl, ok_int (by omega) (by omega), ok_full, ok_int (by omega) (by omega), ok_full, ok_int (by omega) (by omega), trivial⟩ hG (fun q hq => by cases hq) rfl
      · exact uc_i (r755 hAD) (by omega) ⟨rfl, ok_int (by omega) (by omega), ok_full, ok_int (by omega) (by omega), ok_full, ok_int (by omega) (by omega), trivial⟩ hG (fun q hq => by cases hq) rfl
      · exact uc_i (r756 hAD) (by omega) ⟨rfl, ok_int (by omega) (by omega), ok_full, ok_int (by omega) (by omega), ok_full, ok_int (by omega) (by omega), trivial⟩ hG (fun q hq => by cases hq) rfl
      · exact uc_i (r757 hAD) (by omega) ⟨rfl, ok_int (by omega) (by omega), ok_full, ok_int (by omega) (by omega), ok_full, ok_int (by omega) (by omega), trivial⟩ hG (fun q hq => by cases hq) rfl
      · exact uc_i (r758 hAD) (by omega) ⟨rfl, ok_int (by omega) (by omega), ok_full, ok_int (by omega) (by omega), ok_full, ok_int (by omega) (by omega), trivial⟩ hG (fun q hq => by cases hq) rfl
      · exact uc_i (r759 hAD) (by omega) ⟨rfl, ok_int (by omega) (by omega), ok_full, ok_int (by omega) (by omega), ok_full, ok_int (by omega) (by omega), trivial⟩ hG (fun q hq => by cases hq) rfl
      · exact uc_i (r760 hAD) (by omega) ⟨rfl, ok_int (by omega) (by omega), ok_full, ok_int (by omega) (by omega), ok_full, ok_int (by omega) (by omega), trivial⟩ hG (fun q hq => by cases hq) rfl
      · exact uc_i (r761 hAD) (by omega) ⟨rfl, ok_int (by omega) (by omega), ok_full, ok_int (by omega) (by omega), ok_full, ok_int (by omega) (by omega), trivial⟩ hG (fun q hq => by cases hq) rfl
      · exact uc_i (r762 hAD) (by omega) ⟨rfl, ok_int (by omega) (by omega), ok_full, ok_int (by omega) (by omega), ok_full, ok_int (by omega) (by omega), trivial⟩ hG (fun q hq => by cases hq) rfl
      · exact uc_i (r763 hAD) (by omega) ⟨rfl, ok_int (by omega) (by omega), ok_full, ok_int (by omega) (by omega), ok_full, ok_int (by omega) (by omega), trivial⟩ hG (fun q hq => by cases hq) rfl
      · exact uc_i (r683 hAD) (by omega) ⟨rfl, ok_int (by omega) (by omega), ok_full, ok_int (by omega) (by omega), ok_full, ok_int (by omega) (by omega), trivial⟩ hG (fun q hq => by cases hq) rfl
    · exact uc_i (r681 hAD) (by omega) ⟨rfl, ok_int (by omega) (by omega), ok_full, ok_int (by omega) (by omega), ok_full, ok_full, trivial⟩ hG (fun q hq => by cases hq) rfl
  · exact uc_i (r679 hAD) (by omega) ⟨rfl, ok_int (by omega) (by omega), ok_full, ok_full, ok_full, ok_full, trivial⟩ hG (fun q hq => by cases hq) rfl
theorem u_M64 (hAD : ∀ i : Nat, ad (1000 + i) = D.2 1000 i) (hG : GOK ad tys GG ws) (a1 : Int32) (a2 : Int32) (a3 : Int32) (a4 : Int32) (a5 : Int32) : UCP l D tys A ad 340 [.ref (ad 90), .int a1, .int a2, .int a3, .int a4, .int a5] ws 0 := by
  have l1 := Int32.le_toInt a1
  have u1 := Int32.toInt_lt a1
  have l2 := Int32.le_toInt a2
  have u2 := Int32.toInt_lt a2
  have l3 := Int32.le_toInt a3
  have u3 := Int32.toInt_lt a3
  have l4 := Int32.le_toInt a4
  have u4 := Int32.toInt_lt a4
  have l5 := Int32.le_toInt a5
  have u5 := Int32.toInt_lt a5
  rcases (show a1.toInt ≤ (-1) ∨ (0 ≤ a1.toInt ∧ a1.toInt ≤ 3) ∨ 4 ≤ a1.toInt by omega) with h | h | h
  · exact uc_i (r764 hAD) (by omega) ⟨rfl, ok_int (by omega) (by omega), ok_full, ok_full, ok_full, ok_full, trivial⟩ hG (fun q hq => by cases hq) rfl
  · rcases (show a3.toInt ≤ (-1) ∨ (0 ≤ a3.toInt ∧ a3.toInt ≤ 3) ∨ 4 ≤ a3.toInt by omega) with h | h | h
    · exact uc_i (r766 hAD) (by omega) ⟨rfl, ok_int (by omega) (by omega), ok_full, ok_int (by omega) (by omega), ok_full, ok_full, trivial⟩ hG (fun q hq => by cases hq) rfl
    · rcases (show a5.toInt ≤ (-1) ∨ a5.toInt = 0 ∨ a5.toInt = 1 ∨ a5.toInt = 2 ∨ a5.toInt = 3 ∨ a5.toInt = 4 ∨ a5.toInt = 5 ∨ a5.toInt = 6 ∨ a5.toInt = 7 ∨ a5.toInt = 8 ∨ a5.toInt = 9 ∨ a5.toInt = 10 ∨ a5.toInt = 11 ∨ a5.toInt = 12 ∨ a5.toInt = 13 ∨ a5.toInt = 14 ∨ a5.toInt = 15 ∨ a5.toInt = 16 ∨ a5.toInt = 17 ∨ a5.toInt = 18 ∨ a5.toInt = 19 ∨ a5.toInt = 20 ∨ a5.toInt = 21 ∨ a5.toInt = 22 ∨ a5.toInt = 23 ∨ a5.toInt = 24 ∨ a5.toInt = 25 ∨ a5.toInt = 26 ∨ a5.toInt = 27 ∨ a5.toInt = 28 ∨ a5.toInt = 29 ∨ a5.toInt = 30 ∨ a5.toInt = 31 ∨ a5.toInt = 32 ∨ a5.toInt = 33 ∨ a5.toInt = 34 ∨ a5.toInt = 35 ∨ a5.toInt = 36 ∨ a5.toInt = 37 ∨ a5.toInt = 38 ∨ a5.toInt = 39 ∨ a5.toInt = 40 ∨ a5.toInt = 41 ∨ a5.toInt = 42 ∨ a5.toInt = 43 ∨ a5.toInt = 44 ∨ a5.toInt = 45 ∨ a5.toInt = 46 ∨ a5.toInt = 47 ∨ a5.toInt = 48 ∨ a5.toInt = 49 ∨ a5.toInt = 50 ∨ a5.toInt = 51 ∨ a5.toInt = 52 ∨ a5.toInt = 53 ∨ a5.toInt = 54 ∨ a5.toInt = 55 ∨ a5.toInt = 56 ∨ a5.toInt = 57 ∨ a5.toInt = 58 ∨ a5.toInt = 59 ∨ a5.toInt = 60 ∨ 61 ≤ a5.toInt by omega) with h | h | h | h | h | h | h | h | h | h | h | h | h | h | h | h | h | h | h | h | h | h | h | h | h | h | h | h | h | h | h | h | h | h | h | h | h | h | h | h | h | h | h | h | h | h | h | h | h | h | h | h | h | h | h | h | h | h | h | h | h | h | h
      · exact uc_i (r768 hAD) (by omega) ⟨rfl, ok_int (by omega) (by omega), ok_full, ok_int (by omega) (by omega), ok_full, ok_int (by omega) (by omega), trivial⟩ hG (fun q hq => by cases hq) rfl
      · exact uc_i (r770 hAD) (by omega) ⟨rfl, ok_int (by omega) (by omega), ok_full, ok_int (by omega) (by omega), ok_full, ok_int (by omega) (by omega), trivial⟩ hG (fun q hq => by cases hq) rfl
      · exact uc_i (r771 hAD) (by omega) ⟨rfl, ok_int (by omega) (by omega), ok_full, ok_int (by omega) (by omega), ok_full, ok_int (by omega) (by omega), trivial⟩ hG (fun q hq => by cases hq) rfl
      · exact uc_i (r772 hAD) (by omega) ⟨rfl, ok_int (by omega) (by omega), ok_full, ok_int (by omega) (by omega), ok_full, ok_int (by omega) (by omega), trivial⟩ hG (fun q hq => by cases hq) rfl
      · exact uc_i (r773 hAD) (by omega) ⟨rfl, ok_int (by omega) (by omega), ok_full, ok_int (by omega) (by omega), ok_full, ok_int (by omega) (by omega), trivial⟩ hG (fun q hq => by cases hq) rfl
      · exact uc_i (r774 hAD) (by omega) ⟨rfl, ok_int (by omega) (by omega), ok_full, ok_int (by omega) (by omega), ok_full, ok_int (by omega) (by omega), trivial⟩ hG (fun q hq => by cases hq) rfl
      · exact uc_i (r775 hAD) (by omega) ⟨rfl, ok_int (by omega) (by omega), ok_full, ok_int (by omega) (by omega), ok_full, ok_int (by omega) (by omega), trivial⟩ hG (fun q hq => by cases hq) rfl
      · exact uc_i (r776 hAD) (by omega) ⟨rfl, ok_int (by omega) (by omega), ok_full, ok_int (by omega) (by omega), ok_full, ok_int (by omega) (by omega), trivial⟩ hG (fun q hq => by cases hq) rfl
      · exact uc_i (r777 hAD) (by omega) ⟨rfl, ok_int (by omega) (by omega), ok_full, ok_int (by omega) (by omega), ok_full, ok_int (by omega) (by omega), trivial⟩ hG (fun q hq => by cases hq) rfl
      · exact uc_i (r778 hAD) (by omega) ⟨rfl, ok_int (by omega) (by omega), ok_full, ok_int (by omega) (by omega), ok_full, ok_int (by omega) (by omega), trivial⟩ hG (fun q hq => by cases hq) rfl
      · exact uc_i (r779 hAD) (by omega) ⟨rfl, ok_int (by omega) (by omega), ok_full, ok_int (by omega) (by omega), ok_full, ok_int (by omega) (by omega), trivial⟩ hG (fun q hq => by cases hq) rfl
      · exact uc_i (r780 hAD) (by omega) ⟨rfl, ok_int (by omega) (by omega), ok_full, ok_int (by omega) (by omega), ok_full, ok_int (by omega) (by omega), trivial⟩ hG (fun q hq => by cases hq) rfl
      · exact uc_i (r781 hAD) (by omega) ⟨rfl, ok_int (by omega) (by omega), ok_full, ok_int (by omega) (by omega), ok_full, ok_int (by omega) (by omega), trivial⟩ hG (fun q hq => by cases hq) rfl
      · exact uc_i (r782 hAD) (by omega) ⟨rfl, ok_int (by omega) (by omega), ok_full, ok_int (by omega) (by omega), ok_full, ok_int (by omega) (by omega), trivial⟩ hG (fun q hq => by cases hq) rfl
      · exact uc_i (r783 hAD) (by omega) ⟨rfl, ok_int (by omega) (by omega), ok_full, ok_int (by omega) (by omega), ok_full, ok_int (by omega) (by omega), trivial⟩ hG (fun q hq => by cases hq) rfl
      · exact uc_i (r784 hAD) (by omega) ⟨rfl, ok_int (by omega) (by omega), ok_full, ok_int (by omega) (by omega), ok_full, ok_int (by omega) (by omega), trivial⟩ hG (fun q hq => by cases hq) rfl
      · exact uc_i (r785 hAD) (by omega) ⟨rfl, ok_int (by omega) (by omega), ok_full, ok_int (by omega) (by omega), ok_full, ok_int (by omega) (by omega), trivial⟩ hG (fun q hq => by cases hq) rfl
      · exact uc_i (r786 hAD) (by omega) ⟨rfl, ok_int (by omega) (by omega), ok_full, ok_int (by omega) (by omega), ok_full, ok_int (by omega) (by omega), trivial⟩ hG (fun q hq => by cases hq) rfl
      · exact uc_i (r787 hAD) (by omega) ⟨rfl, ok_int (by omega) (by omega), ok_full, ok_int (by omega) (by omega), ok_full, ok_int (by omega) (by omega), trivial⟩ hG (fun q hq => by cases hq) rfl
      · exact uc_i (r788 hAD) (by omega) ⟨rfl, ok_int (by omega) (by omega), ok_full, ok_int (by omega) (by omega), ok_full, ok_int (by omega) (by omega), trivial⟩ hG (fun q hq => by cases hq) rfl
      · exact uc_i (r789 hAD) (by omega) ⟨rfl, ok_int (by omega) (by omega), ok_full, ok_int (by omega) (by omega), ok_full, ok_int (by omega) (by omega), trivial⟩ hG (fun q hq => by cases hq) rfl
      · exact uc_i (r790 hAD) (by omega) ⟨rfl, ok_int (by omega) (by omega), ok_full, ok_int (by omega) (by omega), ok_full, ok_int (by omega) (by omega), trivial⟩ hG (fun q hq => by cases hq) rfl
      · exact uc_i (r791 hAD) (by omega) ⟨rfl, ok_int (by omega) (by omega), ok_full, ok_int (by omega) (by omega), ok_full, ok_int (by omega) (by omega), trivial⟩ hG (fun q hq => by cases hq) rfl
      · exact uc_i (r792 hAD) (by omega) ⟨rfl, ok_int (by omega) (by omega), ok_full, ok_int (by omega) (by omega), ok_full, ok_int (by omega) (by omega), trivial⟩ hG (fun q hq => by cases hq) rfl
      · exact uc_i (r793 hAD) (by omega) ⟨rfl, ok_int (by omega) (by omega), ok_full, ok_int (by omega) (by omega), ok_full, ok_int (by omega) (by omega), trivial⟩ hG (fun q hq => by cases hq) rfl
      · exact uc_i (r794 hAD) (by omega) ⟨rfl, ok_int (by omega) (by omega), ok_full, ok_int (by omega) (by omega), ok_full, ok_int (by omega) (by omega), trivial⟩ hG (fun q hq => by cases hq) rfl
      · exact uc_i (r795 hAD) (by omega) ⟨rfl, ok_int (by omega) (by omega), ok_full, ok_int (by omega) (by omega), ok_full, ok_int (by omega) (by omega), trivial⟩ hG (fun q hq => by cases hq) rfl
      · exact uc_i (r796 hAD) (by omega) ⟨rfl, ok_int (by omega) (by omega), ok_full, ok_int (by omega) (by omega), ok_full, ok_int (by omega) (by omega), trivial⟩ hG (fun q hq => by cases hq) rfl
      · exact uc_i (r797 hAD) (by omega) ⟨rfl, ok_int (by omega) (by omega), ok_full, ok_int (by omega) (by omega), ok_full, ok_int (by omega) (by omega), trivial⟩ hG (fun q hq => by cases hq) rfl
      · exact uc_i (r798 hAD) (by omega) ⟨rfl, ok_int (by omega) (by omega), ok_full, ok_int (by omega) (by omega), ok_full, ok_int (by omega) (by omega), trivial⟩ hG (fun q hq => by cases hq) rfl
      · exact uc_i (r799 hAD) (by omega) ⟨rfl, ok_int (by omega) (by omega), ok_full, ok_int (by omega) (by omega), ok_full, ok_int (by omega) (by omega), trivial⟩ hG (fun q hq => by cases hq) rfl
      · exact uc_i (r800 hAD) (by omega) ⟨rfl, ok_int (by omega) (by omega), ok_full, ok_int (by omega) (by omega), ok_full, ok_int (by omega) (by omega), trivial⟩ hG (fun q hq => by cases hq) rfl
      · exact uc_i (r801 hAD) (by omega) ⟨rfl, ok_int (by omega) (by omega), ok_full, ok_int (by omega) (by omega), ok_full, ok_int (by omega) (by omega), trivial⟩ hG (fun q hq => by cases hq) rfl
      · exact uc_i (r802 hAD) (by omega) ⟨rfl, ok_int (by omega) (by omega), ok_full, ok_int (by omega) (by omega), ok_full, ok_int (by omega) (by omega), trivial⟩ hG (fun q hq => by cases hq) rfl
      · exact uc_i (r803 hAD) (by omega) ⟨rfl, ok_int (by omega) (by omega), ok_full, ok_int (by omega) (by omega), ok_full, ok_int (by omega) (by omega), trivial⟩ hG (fun q hq => by cases hq) rfl
      · exact uc_i (r804 hAD) (by omega) ⟨rfl, ok_int (by omega) (by omega), ok_full, ok_int (by omega) (by omega), ok_full, ok_int (by omega) (by omega), trivial⟩ hG (fun q hq => by cases hq) rfl
      · exact uc_i (r805 hAD) (by omega) ⟨rfl, ok_int (by omega) (by omega), ok_full, ok_int (by omega) (by omega), ok_full, ok_int (by omega) (by omega), trivial⟩ hG (fun q hq => by cases hq) rfl
      · exact uc_i (r806 hAD) (by omega) ⟨rfl, ok_int (by omega) (by omega), ok_full, ok_int (by omega) (by omega), ok_full, ok_int (by omega) (by omega), trivial⟩ hG (fun q hq => by cases hq) rfl
      · exact uc_i (r807 hAD) (by omega) ⟨rfl, ok_int (by omega) (by omega), ok_full, ok_int (by omega) (by omega), ok_full, ok_int (by omega) (by omega), trivial⟩ hG (fun q hq => by cases hq) rfl
      · exact uc_i (r808 hAD) (by omega) ⟨rfl, ok_int (by omega) (by omega), ok_full, ok_int (by omega) (by omega), ok_full, ok_int (by omega) (by omega), trivial⟩ hG (fun q hq => by cases hq) rfl
      · exact uc_i (r809 hAD) (by omega) ⟨rfl, ok_int (by omega) (by omega), ok_full, ok_int (by omega) (by omega), ok_full, ok_int (by omega) (by omega), trivial⟩ hG (fun q hq => by cases hq) rfl
      · exact uc_i (r810 hAD) (by omega) ⟨rfl, ok_int (by omega) (by omega), ok_full, ok_int (by omega) (by omega), ok_full, ok_int (by omega) (by omega), trivial⟩ hG (fun q hq => by cases hq) rfl
      · exact uc_i (r811 hAD) (by omega) ⟨rfl, ok_int (by omega) (by omega), ok_full, ok_int (by omega) (by omega), ok_full, ok_int (by omega) (by omega), trivial⟩ hG (fun q hq => by cases hq) rfl
      · exact uc_i (r812 hAD) (by omega) ⟨rfl, ok_int (by omega) (by omega), ok_full, ok_int (by omega) (by omega), ok_full, ok_int (by omega) (by omega), trivial⟩ hG (fun q hq => by cases hq) rfl
      · exact uc_i (r813 hAD) (by omega) ⟨rfl, ok_int (by omega) (by omega), ok_full, ok_int (by omega) (by omega), ok_full, ok_int (by omega) (by omega), trivial⟩ hG (fun q hq => by cases hq) rfl
      · exact uc_i (r814 hAD) (by omega) ⟨rfl, ok_int (by omega) (by omega), ok_full, ok_int (by omega) (by omega), ok_full, ok_int (by omega) (by omega), trivial⟩ hG (fun q hq => by cases hq) rfl
      · exact uc_i (r815 hAD) (by omega) ⟨rfl, ok_int (by omega) (by omega), ok_full, ok_int (by omega) (by omega), ok_full, ok_int (by omega) (by omega), trivial⟩ hG (fun q hq => by cases hq) rfl
      · exact uc_i (r816 hAD) (by omega) ⟨rfl, ok_int (by omega) (by omega), ok_full, ok_int (by omega) (by omega), ok_full, ok_int (by omega) (by omega), trivial⟩ hG (fun q hq => by cases hq) rfl
      · exact uc_i (r817 hAD) (by omega) ⟨rfl, ok_int (by omega) (by omega), ok_full, ok_int (by omega) (by omega), ok_full, ok_int (by omega) (by omega), trivial⟩ hG (fun q hq => by cases hq) rfl
      · exact uc_i (r818 hAD) (by omega) ⟨rfl, ok_int (by omega) (by omega), ok_full, ok_int (by omega) (by omega), ok_full, ok_int (by omega) (by omega), trivial⟩ hG (fun q hq => by cases hq) rfl
      · exact uc_i (r819 hAD) (by omega) ⟨rfl, ok_int (by omega) (by omega), ok_full, ok_int (by omega) (by omega), ok_full, ok_int (by omega) (by omega), trivial⟩ hG (fun q hq => by cases hq) rfl
      · exact uc_i (r820 hAD) (by omega) ⟨rfl, ok_int (by omega) (by omega), ok_full, ok_int (by omega) (by omega), ok_full, ok_int (by omega) (by omega), trivial⟩ hG (fun q hq => by cases hq) rfl
      · exact uc_i (r821 hAD) (by omega) ⟨rfl, ok_int (by omega) (by omega), ok_full, ok_int (by omega) (by omega), ok_full, ok_int (by omega) (by omega), trivial⟩ hG (fun q hq => by cases hq) rfl
      · exact uc_i (r822 hAD) (by omega) ⟨rfl, ok_int (by omega) (by omega), ok_full, ok_int (by omega) (by omega), ok_full, ok_int (by omega) (by omega), trivial⟩ hG (fun q hq => by cases hq) rfl
      · exact uc_i (r823 hAD) (by omega) ⟨rfl, ok_int (by omega) (by omega), ok_full, ok_int (by omega) (by omega), ok_full, ok_int (by omega) (by omega), trivial⟩ hG (fun q hq => by cases hq) rfl
      · exact uc_i (r824 hAD) (by omega) ⟨rfl, ok_int (by omega) (by omega), ok_full, ok_int (by omega) (by omega), ok_full, ok_int (by omega) (by omega), trivial⟩ hG (fun q hq => by cases hq) rfl
      · exact uc_i (r825 hAD) (by omega) ⟨rfl, ok_int (by omega) (by omega), ok_full, ok_int (by omega) (by omega), ok_full, ok_int (by omega) (by omega), trivial⟩ hG (fun q hq => by cases hq) rfl
      · exact uc_i (r826 hAD) (by omega) ⟨rfl, ok_int (by omega) (by omega), ok_full, ok_int (by omega) (by omega), ok_full, ok_int (by omega) (by omega), trivial⟩ hG (fun q hq => by cases hq) rfl
      · exact uc_i (r827 hAD) (by omega) ⟨rfl, ok_int (by omega) (by omega), ok_full, ok_int (by omega) (by omega), ok_full, ok_int (by omega) (by omega), trivial⟩ hG (fun q hq => by cases hq) rfl
      · exact uc_i (r828 hAD) (by omega) ⟨rfl, ok_int (by omega) (by omega), ok_full, ok_int (by omega) (by omega), ok_full, ok_int (by omega) (by omega), trivial⟩ hG (fun q hq => by cases hq) rfl
      · exact uc_i (r829 hAD) (by omega) ⟨rfl, ok_int (by omega) (by omega), ok_full, ok_int (by omega) (by omega), ok_full, ok_int (by omega) (by omega), trivial⟩ hG (fun q hq => by cases hq) rfl
      · exact uc_i (r830 hAD) (by omega) ⟨rfl, ok_int (by omega) (by omega), ok_full, ok_int (by omega) (by omega), ok_full, ok_int (by omega) (by omega), trivial⟩ hG (fun q hq => by cases hq) rfl
      · exact uc_i (r769 hAD) (by omega) ⟨rfl, ok_int (by omega) (by omega), ok_full, ok_int (by omega) (by omega), ok_full, ok_int (by omega) (by omega), trivial⟩ hG (fun q hq => by cases hq) rfl
    · exact uc_i (r767 hAD) (by omega) ⟨rfl, ok_int (by omega) (by omega), ok_full, ok_int (by omega) (by omega), ok_full, ok_full, trivial⟩ hG (fun q hq => by cases hq) rfl
  · exact uc_i (r765 hAD) (by omega) ⟨rfl, ok_int (by omega) (by omega), ok_full, ok_full, ok_full, ok_full, trivial⟩ hG (fun q hq => by cases hq) rfl
end UCS
