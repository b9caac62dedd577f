section XHD
variable {l : Launch} {D : va_G} {tys : List (ClassId × FieldType)} {A : Nat → Prop} {ad : Nat → Nat} {ws : va_W} {k d : Nat} {post : Option Value → va_W → Prop} {pc : Nat} {lv : List (Nat × Value)} {st : List Value} {a : Int} {x y z : Nat}
theorem V_aaldI {c n j q : Nat} {segs : List SG} {ix : Int32} (hi : mI k pc = (19, a, 3, y, z)) (hix : ix = Int32.ofInt (j : Int)) (hG : GOK ad tys GG ws) (hg : GG[c]? = some ((3, 4, n), segs)) (hj : j < n) (hn : n ≤ 100000) (hs : segAt segs j = some (2, ((q : Nat) : Int), ((q : Nat) : Int))) (kk : V l D tys A k d 0 0 post 0 0 (pc + 1) lv (.ref (ad q) :: st) ws) : V l D tys A k d 0 0 post 0 0 pc lv (.int ix :: .ref (ad c) :: st) ws := by
  subst hix
  obtain ⟨e, b1, b2, b3⟩ := hG c _ hg
  obtain ⟨cA, f, rfl, c1⟩ := b2
  refine V_aald hi b1 c1 (ix_in hj hn).1 ?_
  rw [(ix_in hj hn).2]
  have hr : rdE (.inl (cA, n, .inr (.inr (.inr (.inr f))))) j = some (va_rf (f j)) := by show (if j < n then _ else _) = _; rw [if_pos hj]
  obtain ⟨sp, r1, r2⟩ := b3 j _ hr
  rw [hs] at r1
  cases r1
  have r2 : va_rf (f j) = .ref (ad ((q : Int).toNat)) := r2
  rw [Int.toNat_natCast] at r2
  rw [r2]
  exact kk
theorem V_lenR {c ty n : Nat} {segs : List SG} (hi : mI k pc = (21, a, x, y, z)) (hG : GOK ad tys GG ws) (hg : GG[c]? = some ((3, ty, n), segs)) (kk : V l D tys A k d 0 0 post 0 0 (pc + 1) lv (.int (Int32.ofInt (n : Int)) :: st) ws) : V l D tys A k d 0 0 post 0 0 pc lv (.ref (ad c) :: st) ws := by
  obtain ⟨e, b1, b2, b3⟩ := hG c _ hg
  obtain ⟨cA, f, rfl, c1⟩ := b2
  exact V_alen hi b1 c1 kk
theorem V_bst1 {c n j : Nat} {segs : List SG} {ix : Int32} (hi : mI k pc = (20, a, 1, y, z)) (hix : ix = Int32.ofInt (j : Int)) (hG : GOK ad tys GG ws) (hg : GG[c]? = some ((1, 2, n), segs)) (hj : j < n) (hn : n ≤ 100000) (hs : segAt segs j = some (0, 0, 1)) (kk : ∀ w : va_W, GOK ad tys GG w → Upd1 ws w c j (.int (Int32.ofInt 1)) → V l D tys A k d 0 0 post 0 0 (pc + 1) lv st w) : V l D tys A k d 0 0 post 0 0 pc lv (.int (Int32.ofInt 1) :: .int ix :: .ref (ad c) :: st) ws := by
  subst hix
  obtain ⟨e, b1, b2, b3⟩ := hG c _ hg
  obtain ⟨cA, f, rfl, c1, c2⟩ := b2
  refine V_zast hi b1 c1 (ix_in hj hn).1 ?_
  rw [(ix_in hj hn).2, show vp_nar .boolean (Int32.ofInt 1) = Int32.ofInt 1 by decide]
  have hu := GOK_upd (j := j) (v := .int (Int32.ofInt 1)) (e' := .inl (cA, n, .inl (upd f j (Int32.ofInt 1)))) hG hg b1 ⟨cA, _, rfl, c1, c2⟩ (fun j' => by
    show (if j' < n then some (Value.int (upd f j (Int32.ofInt 1) j')) else none) = if j' = j then some (Value.int (Int32.ofInt 1)) else if j' < n then some (Value.int (f j')) else none
    unfold upd
    by_cases h : j' = j
    · subst h; simp [hj]
    · simp [h]) hs ⟨1, rfl, by show (0 : Int) ≤ 1; omega, by show (1 : Int) ≤ 1; omega⟩
  exact kk _ hu.1 hu.2
theorem g0r11 : gOr 0 10 13 11 53 := ⟨_, rfl, by decide +kernel⟩
theorem g0f12 : gOf 0 10 13 12 0 7 := ⟨_, rfl, by decide +kernel⟩
theorem gx53i : ∃ s, GG[53]? = some ((3, 4, 3), s) ∧ segAt s 0 = some (2, ((54 : Nat) : Int), ((54 : Nat) : Int)) ∧ segAt s 1 = some (2, ((66 : Nat) : Int), ((66 : Nat) : Int)) ∧ segAt s 2 = some (2, ((78 : Nat) : Int), ((78 : Nat) : Int)) := ⟨_, rfl, by decide +kernel, by decide +kernel, by decide +kernel⟩
theorem gr2m : ∃ g, GG[90]? = some ((0, 11, 36), g) ∧ segAt g 2 = some (2, ((92 : Nat) : Int), ((92 : Nat) : Int)) := ⟨_, rfl, by decide +kernel⟩
theorem gr3m : ∃ g, GG[90]? = some ((0, 11, 36), g) ∧ segAt g 3 = some (2, ((93 : Nat) : Int), ((93 : Nat) : Int)) := ⟨_, rfl, by decide +kernel⟩
theorem gb93b : ∃ s, GG[93]? = some ((1, 2, 3), s) ∧ ∀ j, j < 3 → segAt s j = some (0, 0, 1) := by
  refine ⟨_, rfl, fun j hj => ?_⟩
  show (bif Nat.blt j 3 then some _ else _) = _
  rw [show Nat.blt j 3 = true from Nat.blt_eq.mpr hj]
  rfl
theorem g54o : gO 54 2 17 := ⟨_, rfl⟩
theorem g54r6 : gOr 54 2 17 6 55 := ⟨_, rfl, by decide +kernel⟩
theorem g54r7 : gOr 54 2 17 7 56 := ⟨_, rfl, by decide +kernel⟩
theorem g54r8 : gOr 54 2 17 8 57 := ⟨_, rfl, by decide +kernel⟩
theorem g54r9 : gOr 54 2 17 9 58 := ⟨_, rfl, by decide +kernel⟩
theorem g54r10 : gOr 54 2 17 10 59 := ⟨_, rfl, by decide +kernel⟩
theorem g54r11 : gOr 54 2 17 11 60 := ⟨_, rfl, by decide +kernel⟩
theorem g54r12 : gOr 54 2 17 12 61 := ⟨_, rfl, by decide +kernel⟩
theorem g54r13 : gOr 54 2 17 13 62 := ⟨_, rfl, by decide +kernel⟩
theorem g54r14 : gOr 54 2 17 14 63 := ⟨_, rfl, by decide +kernel⟩
theorem g54r15 : gOr 54 2 17 15 64 := ⟨_, rfl, by decide +kernel⟩
theorem g54r16 : gOr 54 2 17 16 65 := ⟨_, rfl, by decide +kernel⟩
theorem g54f0 : gOf 54 2 17 0 (-2147483648) 2147483647 := ⟨_, rfl, by decide +kernel⟩
theorem g54f1 : gOf 54 2 17 1 (0) 9 := ⟨_, rfl, by decide +kernel⟩
theorem g54f2 : gOf 54 2 17 2 (0) 4 := ⟨_, rfl, by decide +kernel⟩
theorem g54f3 : gOf 54 2 17 3 (0) 24 := ⟨_, rfl, by decide +kernel⟩
theorem g54f4 : gOf 54 2 17 4 (0) 6 := ⟨_, rfl, by decide +kernel⟩
theorem g54f5 : gOf 54 2 17 5 (0) 12 := ⟨_, rfl, by decide +kernel⟩
theorem a55 : gA 55 6 0 7 := gA_of rfl
theorem a56 : gA 56 36 (-2147483648) 2147483647 := gA_of rfl
theorem a57 : gA 57 6 (-2147483648) 2147483647 := gA_of rfl
theorem a58 : gA 58 6 (-2147483648) 2147483647 := gA_of rfl
theorem a59 : gA 59 6 (-2147483648) 2147483647 := gA_of rfl
theorem a60 : gA 60 144 (-2147483648) 2147483647 := gA_of rfl
theorem a61 : gA 61 36 (-2147483648) 2147483647 := gA_of rfl
theorem a62 : gA 62 12 (-2147483648) 2147483647 := gA_of rfl
theorem a63 : gA 63 12 (-2147483648) 2147483647 := gA_of rfl
theorem a64 : gA 64 12 (-2147483648) 2147483647 := gA_of rfl
theorem a65 : gA 65 12 (-2147483648) 2147483647 := gA_of rfl
theorem g66o : gO 66 2 17 := ⟨_, rfl⟩
theorem g66r6 : gOr 66 2 17 6 67 := ⟨_, rfl, by decide +kernel⟩
theorem g66r7 : gOr 66 2 17 7 68 := ⟨_, rfl, by decide +kernel⟩
theorem g66r8 : gOr 66 2 17 8 69 := ⟨_, rfl, by decide +kernel⟩
theorem g66r9 : gOr 66 2 17 9 70 := ⟨_, rfl, by decide +kernel⟩
theorem g66r10 : gOr 66 2 17 10 71 := ⟨_, rfl, by decide +kernel⟩
theorem g66r11 : gOr 66 2 17 11 72 := ⟨_, rfl, by decide +kernel⟩
theorem g66r12 : gOr 66 2 17 12 73 := ⟨_, rfl, by decide +kernel⟩
theorem g66r13 : gOr 66 2 17 13 74 := ⟨_, rfl, by decide +kernel⟩
theorem g66r14 : gOr 66 2 17 14 75 := ⟨_, rfl, by decide +kernel⟩
theorem g66r15 : gOr 66 2 17 15 76 := ⟨_, rfl, by decide +kernel⟩
theorem g66r16 : gOr 66 2 17 16 77 := ⟨_, rfl, by decide +kernel⟩
theorem g66f0 : gOf 66 2 17 0 (-2147483648) 2147483647 := ⟨_, rfl, by decide +kernel⟩
theorem g66f1 : gOf 66 2 17 1 (0) 9 := ⟨_, rfl, by decide +kernel⟩
theorem g66f2 : gOf 66 2 17 2 (0) 4 := ⟨_, rfl, by decide +kernel⟩
theorem g66f3 : gOf 66 2 17 3 (0) 24 := ⟨_, rfl, by decide +kernel⟩
theorem g66f4 : gOf 66 2 17 4 (0) 6 := ⟨_, rfl, by decide +kernel⟩
theorem g66f5 : gOf 66 2 17 5 (0) 12 := ⟨_, rfl, by decide +kernel⟩
theorem a67 : gA 67 6 0 7 := gA_of rfl
theorem a68 : gA 68 36 (-2147483648) 2147483647 := gA_of rfl
theorem a69 : gA 69 6 (-2147483648) 2147483647 := gA_of rfl
theorem a70 : gA 70 6 (-2147483648) 2147483647 := gA_of rfl
theorem a71 : gA 71 6 (-2147483648) 2147483647 := gA_of rfl
theorem a72 : gA 72 144 (-2147483648) 2147483647 := gA_of rfl
theorem a73 : gA 73 36 (-2147483648) 2147483647 := gA_of rfl
theorem a74 : gA 74 12 (-2147483648) 2147483647 := gA_of rfl
theorem a75 : gA 75 12 (-2147483648) 2147483647 := gA_of rfl
theorem a76 : gA 76 12 (-2147483648) 2147483647 := gA_of rfl
theorem a77 : gA 77 12 (-2147483648) 2147483647 := gA_of rfl
theorem g78o : gO 78 2 17 := ⟨_, rfl⟩
theorem g78r6 : gOr 78 2 17 6 79 := ⟨_, rfl, by decide +kernel⟩
theorem g78r7 : gOr 78 2 17 7 80 := ⟨_, rfl, by decide +kernel⟩
theorem g78r8 : gOr 78 2 17 8 81 := ⟨_, rfl, by decide +kernel⟩
theorem g78r9 : gOr 78 2 17 9 82 := ⟨_, rfl, by decide +kernel⟩
theorem g78r10 : gOr 78 2 17 10 83 := ⟨_, rfl, by decide +kernel⟩
theorem g78r11 : gOr 78 2 17 11 84 := ⟨_, rfl, by decide +kernel⟩
theorem g78r12 : gOr 78 2 17 12 85 := ⟨_, rfl, by decide +kernel⟩
theorem g78r13 : gOr 78 2 17 13 86 := ⟨_, rfl, by decide +kernel⟩
theorem g78r14 : gOr 78 2 17 14 87 := ⟨_, rfl, by decide +kernel⟩
theorem g78r15 : gOr 78 2 17 15 88 := ⟨_, rfl, by decide +kernel⟩
theorem g78r16 : gOr 78 2 17 16 89 := ⟨_, rfl, by decide +kernel⟩
theorem g78f0 : gOf 78 2 17 0 (-2147483648) 2147483647 := ⟨_, rfl, by decide +kernel⟩
theorem g78f1 : gOf 78 2 17 1 (0) 9 := ⟨_, rfl, by decide +kernel⟩
theorem g78f2 : gOf 78 2 17 2 (0) 4 := ⟨_, rfl, by decide +kernel⟩
theorem g78f3 : gOf 78 2 17 3 (0) 24 := ⟨_, rfl, by decide +kernel⟩
theorem g78f4 : gOf 78 2 17 4 (0) 6 := ⟨_, rfl, by decide +kernel⟩
theorem g78f5 : gOf 78 2 17 5 (0) 12 := ⟨_, rfl, by decide +kernel⟩
theorem a79 : gA 79 6 0 7 := gA_of rfl
theorem a80 : gA 80 36 (-2147483648) 2147483647 := gA_of rfl
theorem a81 : gA 81 6 (-2147483648) 2147483647 := gA_of rfl
theorem a82 : gA 82 6 (-2147483648) 2147483647 := gA_of rfl
theorem a83 : gA 83 6 (-2147483648) 2147483647 := gA_of rfl
theorem a84 : gA 84 144 (-2147483648) 2147483647 := gA_of rfl
theorem a85 : gA 85 36 (-2147483648) 2147483647 := gA_of rfl
theorem a86 : gA 86 12 (-2147483648) 2147483647 := gA_of rfl
theorem a87 : gA 87 12 (-2147483648) 2147483647 := gA_of rfl
theorem a88 : gA 88 12 (-2147483648) 2147483647 := gA_of rfl
theorem a89 : gA 89 12 (-2147483648) 2147483647 := gA_of rfl
theorem cpf_54_4 {g : Nat → Int} (hG : GOK ad tys GG ws) (hX : HX 4 g ws) : CT l D tys A 100 1 0 0 [.ref (ad 54), .ref (ad 4)] ws (fun r w => r = none ∧ GOK ad tys GG w ∧ HX 54 g w ∧ ∀ c i, ¬ (54 ≤ c ∧ c ≤ 65) → rd w c i = rd ws c i) := by
  refine CT_of_V (by omega) (show (2 : Nat) ≤ mML 100 by decide +kernel) ?_
  refine V_aload (v := ad 54) mi_100_0 (by simp [stL, lv_args, Value.category]) ?_
  refine V_aload (v := ad 4) mi_100_1 (by simp [stL, lv_args, Value.category]) ?_
  obtain ⟨p0, hp0, lo0, hi0⟩ := celO hG g4f0 (by omega)
  refine V_gO mi_100_2 g4o hG (hp0) ?_
  refine V_pO mi_100_5 g54f0 (by omega) (by decide +kernel) (by decide +kernel) hG (by rw [Int32.toInt_ofInt_of_le (by omega) (by omega)]; omega) (by rw [Int32.toInt_ofInt_of_le (by omega) (by omega)]; omega) (fun w0 G0 U0 => ?_)
  refine V_aload (v := ad 54) mi_100_8 (by simp [stL, lv_args, Value.category]) ?_
  refine V_aload (v := ad 4) mi_100_9 (by simp [stL, lv_args, Value.category]) ?_
  obtain ⟨p1, hp1, lo1, hi1⟩ := celO hG g4f1 (by omega)
  refine V_gO mi_100_10 g4o G0 ((upd_ne U0 (by omega)).trans hp1) ?_
  refine V_pO mi_100_13 g54f1 (by omega) (by decide +kernel) (by decide +kernel) G0 (by rw [Int32.toInt_ofInt_of_le (by omega) (by omega)]; omega) (by rw [Int32.toInt_ofInt_of_le (by omega) (by omega)]; omega) (fun w1 G1 U1 => ?_)
  refine V_aload (v := ad 54) mi_100_16 (by simp [stL, lv_args, Value.category]) ?_
  refine V_aload (v := ad 4) mi_100_17 (by simp [stL, lv_args, Value.category]) ?_
  obtain ⟨p2, hp2, lo2, hi2⟩ := celO hG g4f2 (by omega)
  refine V_gO mi_100_18 g4o G1 ((upd_ne U1 (by omega)).trans ((upd_ne U0 (by omega)).trans hp2)) ?_
  refine V_pO mi_100_21 g54f2 (by omega) (by decide +kernel) (by decide +kernel) G1 (by rw [Int32.toInt_ofInt_of_le (by omega) (by omega)]; omega) (by rw [Int32.toInt_ofInt_of_le (by omega) (by omega)]; omega) (fun w2 G2 U2 => ?_)
  refine V_aload (v := ad 54) mi_100_24 (by simp [stL, lv_args, Value.category]) ?_
  refine V_aload (v := ad 4) mi_100_25 (by simp [stL, lv_args, Value.category]) ?_
  obtain ⟨p3, hp3, lo3, hi3⟩ := celO hG g4f3 (by omega)
  refine V_gO mi_100_26 g4o G2 ((upd_ne U2 (by omega)).trans ((upd_ne U1 (by omega)).trans ((upd_ne U0 (by omega)).trans hp3))) ?_
  refine V_pO mi_100_29 g54f3 (by omega) (by decide +kernel) (by decide +kernel) G2 (by rw [Int32.toInt_ofInt_of_le (by omega) (by omega)]; omega) (by rw [Int32.toInt_ofInt_of_le (by omega) (by omega)]; omega) (fun w3 G3 U3 => ?_)
  refine V_aload (v := ad 54) mi_100_32 (by simp [stL, lv_args, Value.category]) ?_
  refine V_aload (v := ad 4) mi_100_33 (by simp [stL, lv_args, Value.category]) ?_
  obtain ⟨p4, hp4, lo4, hi4⟩ := celO hG g4f4 (by omega)
  refine V_gO mi_100_34 g4o G3 ((upd_ne U3 (by omega)).trans ((upd_ne U2 (by omega)).trans ((upd_ne U1 (by omega)).trans ((upd_ne U0 (by omega)).trans hp4)))) ?_
  refine V_pO mi_100_37 g54f4 (by omega) (by decide +kernel) (by decide +kernel) G3 (by rw [Int32.toInt_ofInt_of_le (by omega) (by omega)]; omega) (by rw [Int32.toInt_ofInt_of_le (by omega) (by omega)]; omega) (fun w4 G4 U4 => ?_)
  refine V_aload (v := ad 54) mi_100_40 (by simp [stL, lv_args, Value.category]) ?_
  refine V_aload (v := ad 4) mi_100_41 (by simp [stL, lv_args, Value.category]) ?_
  obtain ⟨p5, hp5, lo5, hi5⟩ := celO hG g4f5 (by omega)
  refine V_gO mi_100_42 g4o G4 ((upd_ne U4 (by omega)).trans ((upd_ne U3 (by omega)).trans ((upd_ne U2 (by omega)).trans ((upd_ne U1 (by omega)).trans ((upd_ne U0 (by omega)).trans hp5))))) ?_
  refine V_pO mi_100_45 g54f5 (by omega) (by decide +kernel) (by decide +kernel) G4 (by rw [Int32.toInt_ofInt_of_le (by omega) (by omega)]; omega) (by rw [Int32.toInt_ofInt_of_le (by omega) (by omega)]; omega) (fun w5 G5 U5 => ?_)
  have ho : ∀ c i, c ≠ 54 → rd w5 c i = rd ws c i := fun c i hc => (upd_ne U5 (by omega)).trans ((upd_ne U4 (by omega)).trans ((upd_ne U3 (by omega)).trans ((upd_ne U2 (by omega)).trans ((upd_ne U1 (by omega)).trans (upd_ne U0 (by omega))))))
  have h : HY 54 1 g w5 := fun k hk i hi => by
    have k0 : k = 0 := by omega
    subst k0
    have hi : i < 6 := hi
    rw [← hx0 hX hi]
    have e0 : rd w5 54 0 = rd ws 4 0 := by rw [hp0]; exact (upd_ne U5 (by omega)).trans ((upd_ne U4 (by omega)).trans ((upd_ne U3 (by omega)).trans ((upd_ne U2 (by omega)).trans ((upd_ne U1 (by omega)).trans (upd_eq U0)))))
    have e1 : rd w5 54 1 = rd ws 4 1 := by rw [hp1]; exact (upd_ne U5 (by omega)).trans ((upd_ne U4 (by omega)).trans ((upd_ne U3 (by omega)).trans ((upd_ne U2 (by omega)).trans (upd_eq U1))))
    have e2 : rd w5 54 2 = rd ws 4 2 := by rw [hp2]; exact (upd_ne U5 (by omega)).trans ((upd_ne U4 (by omega)).trans ((upd_ne U3 (by omega)).trans (upd_eq U2)))
    have e3 : rd w5 54 3 = rd ws 4 3 := by rw [hp3]; exact (upd_ne U5 (by omega)).trans ((upd_ne U4 (by omega)).trans (upd_eq U3))
    have e4 : rd w5 54 4 = rd ws 4 4 := by rw [hp4]; exact (upd_ne U5 (by omega)).trans (upd_eq U4)
    have e5 : rd w5 54 5 = rd ws 4 5 := by rw [hp5]; exact upd_eq U5
    rcases i with _ | _ | _ | _ | _ | _ | i
    · exact e0
    · exact e1
    · exact e2
    · exact e3
    · exact e4
    · exact e5
    · omega
  refine V_aload (v := ad 4) mi_100_48 (by simp [stL, lv_args, Value.category]) ?_
  refine V_gR mi_100_49 g4r6 (by omega) G5 ?_
  refine V_aload (v := ad 54) mi_100_52 (by simp [stL, lv_args, Value.category]) ?_
  refine V_gR mi_100_53 g54r6 (by omega) G5 ?_
  refine V_stat (As := [.ref (ad 5), .ref (ad 55)]) (st := []) mi_100_56 (by omega) (copy_ct a5 a55 G5 (by omega) (by omega) ⟨by omega, by omega⟩ ⟨by omega, by omega⟩) (by omega) (show 2 = mN 150 by decide +kernel) (by simp [Value.category]) ⟨Nat.le_refl _, Nat.le_refl _⟩ ?_
  rintro r v1 ⟨rfl, H1, o1, d1⟩
  replace h := HY_step h o1 (fun i hi => by rw [d1 i hi, ho _ _ (by omega)]; exact HX_HY hX 1 (by omega) i hi)
  replace ho : ∀ c i, ¬ (54 ≤ c ∧ c ≤ 65) → rd v1 c i = rd ws c i := fun c i hc => (o1 c i (by omega)).trans (ho c i (by omega))
  refine V_aload (v := ad 4) mi_100_59 (by simp [stL, lv_args, Value.category]) ?_
  refine V_gR mi_100_60 g4r7 (by omega) H1 ?_
  refine V_aload (v := ad 54) mi_100_63 (by simp [stL, lv_args, Value.category]) ?_
  refine V_gR mi_100_64 g54r7 (by omega) H1 ?_
  refine V_stat (As := [.ref (ad 6), .ref (ad 56)]) (st := []) mi_100_67 (by omega) (copy_ct a6 a56 H1 (by omega) (by omega) ⟨by omega, by omega⟩ ⟨by omega, by omega⟩) (by omega) (show 2 = mN 150 by decide +kernel) (by simp [Value.category]) ⟨Nat.le_refl _, Nat.le_refl _⟩ ?_
  rintro r v2 ⟨rfl, H2, o2, d2⟩
  replace h := HY_step h o2 (fun i hi => by rw [d2 i hi, ho _ _ (by omega)]; exact HX_HY hX 2 (by omega) i hi)
  replace ho : ∀ c i, ¬ (54 ≤ c ∧ c ≤ 65) → rd v2 c i = rd ws c i := fun c i hc => (o2 c i (by omega)).trans (ho c i (by omega))
  refine V_aload (v := ad 4) mi_100_70 (by simp [stL, lv_args, Value.category]) ?_
  refine V_gR mi_100_71 g4r8 (by omega) H2 ?_
  refine V_aload (v := ad 54) mi_100_74 (by simp [stL, lv_args, Value.category]) ?_
  refine V_gR mi_100_75 g54r8 (by omega) H2 ?_
  refine V_stat (As := [.ref (ad 7), .ref (ad 57)]) (st := []) mi_100_78 (by omega) (copy_ct a7 a57 H2 (by omega) (by omega) ⟨by omega, by omega⟩ ⟨by omega, by omega⟩) (by omega) (show 2 = mN 150 by decide +kernel) (by simp [Value.category]) ⟨Nat.le_refl _, Nat.le_refl _⟩ ?_
  rintro r v3 ⟨rfl, H3, o3, d3⟩
  replace h := HY_step h o3 (fun i hi => by rw [d3 i hi, ho _ _ (by omega)]; exact HX_HY hX 3 (by omega) i hi)
  replace ho : ∀ c i, ¬ (54 ≤ c ∧ c ≤ 65) → rd v3 c i = rd ws c i := fun c i hc => (o3 c i (by omega)).trans (ho c i (by omega))
  refine V_aload (v := ad 4) mi_100_81 (by simp [stL, lv_args, Value.category]) ?_
  refine V_gR mi_100_82 g4r9 (by omega) H3 ?_
  refine V_aload (v := ad 54) mi_100_85 (by simp [stL, lv_args, Value.category]) ?_
  refine V_gR mi_100_86 g54r9 (by omega) H3 ?_
  refine V_stat (As := [.ref (ad 8), .ref (ad 58)]) (st := []) mi_100_89 (by omega) (copy_ct a8 a58 H3 (by omega) (by omega) ⟨by omega, by omega⟩ ⟨by omega, by omega⟩) (by omega) (show 2 = mN 150 by decide +kernel) (by simp [Value.category]) ⟨Nat.le_refl _, Nat.le_refl _⟩ ?_
  rintro r v4 ⟨rfl, H4, o4, d4⟩
  replace h := HY_step h o4 (fun i hi => by rw [d4 i hi, ho _ _ (by omega)]; exact HX_HY hX 4 (by omega) i hi)
  replace ho : ∀ c i, ¬ (54 ≤ c ∧ c ≤ 65) → rd v4 c i = rd ws c i := fun c i hc => (o4 c i (by omega)).trans (ho c i (by omega))
  refine V_aload (v := ad 4) mi_100_92 (by simp [stL, lv_args, Value.category]) ?_
  refine V_gR mi_100_93 g4r10 (by omega) H4 ?_
  refine V_aload (v := ad 54) mi_100_96 (by simp [stL, lv_args, Value.category]) ?_
  refine V_gR mi_100_97 g54r10 (by omega) H4 ?_
  refine V_stat (As := [.ref (ad 9), .ref (ad 59)]) (st := []) mi_100_100 (by omega) (copy_ct a9 a59 H4 (by omega) (by omega) ⟨by omega, by omega⟩ ⟨by omega, by omega⟩) (by omega) (show 2 = mN 150 by decide +kernel) (by simp [Value.category]) ⟨Nat.le_refl _, Nat.le_refl _⟩ ?_
  rintro r v5 ⟨rfl, H5, o5, d5⟩
  replace h := HY_step h o5 (fun i hi => by rw [d5 i hi, ho _ _ (by omega)]; exact HX_HY hX 5 (by omega) i hi)
  replace ho : ∀ c i, ¬ (54 ≤ c ∧ c ≤ 65) → rd v5 c i = rd ws c i := fun c i hc => (o5 c i (by omega)).trans (ho c i (by omega))
  refine V_aload (v := ad 4) mi_100_103 (by simp [stL, lv_args, Value.category]) ?_
  refine V_gR mi_100_104 g4r11 (by omega) H5 ?_
  refine V_aload (v := ad 54) mi_100_107 (by simp [stL, lv_args, Value.category]) ?_
  refine V_gR mi_100_108 g54r11 (by omega) H5 ?_
  refine V_stat (As := [.ref (ad 10), .ref (ad 60)]) (st := []) mi_100_111 (by omega) (copy_ct a10 a60 H5 (by omega) (by omega) ⟨by omega, by omega⟩ ⟨by omega, by omega⟩) (by omega) (show 2 = mN 150 by decide +kernel) (by simp [Value.category]) ⟨Nat.le_refl _, Nat.le_refl _⟩ ?_
  rintro r v6 ⟨rfl, H6, o6, d6⟩
  replace h := HY_step h o6 (fun i hi => by rw [d6 i hi, ho _ _ (by omega)]; exact HX_HY hX 6 (by omega) i hi)
  replace ho : ∀ c i, ¬ (54 ≤ c ∧ c ≤ 65) → rd v6 c i = rd ws c i := fun c i hc => (o6 c i (by omega)).trans (ho c i (by omega))
  refine V_aload (v := ad 4) mi_100_114 (by simp [stL, lv_args, Value.category]) ?_
  refine V_gR mi_100_115 g4r12 (by omega) H6 ?_
  refine V_aload (v := ad 54) mi_100_118 (by simp [stL, lv_args, Value.category]) ?_
  refine V_gR mi_100_119 g54r12 (by omega) H6 ?_
  refine V_stat (As := [.ref (ad 11), .ref (ad 61)]) (st := []) mi_100_122 (by omega) (copy_ct a11 a61 H6 (by omega) (by omega) ⟨by omega, by omega⟩ ⟨by omega, by omega⟩) (by omega) (show 2 = mN 150 by decide +kernel) (by simp [Value.category]) ⟨Nat.le_refl _, Nat.le_refl _⟩ ?_
  rintro r v7 ⟨rfl, H7, o7, d7⟩
  replace h := HY_step h o7 (fun i hi => by rw [d7 i hi, ho _ _ (by omega)]; exact HX_HY hX 7 (by omega) i hi)
  replace ho : ∀ c i, ¬ (54 ≤ c ∧ c ≤ 65) → rd v7 c i = rd ws c i := fun c i hc => (o7 c i (by omega)).trans (ho c i (by omega))
  refine V_aload (v := ad 4) mi_100_125 (by simp [stL, lv_args, Value.category]) ?_
  refine V_gR mi_100_126 g4r13 (by omega) H7 ?_
  refine V_aload (v := ad 54) mi_100_129 (by simp [stL, lv_args, Value.category]) ?_
  refine V_gR mi_100_130 g54r13 (by omega) H7 ?_
  refine V_stat (As := [.ref (ad 12), .ref (ad 62)]) (st := []) mi_100_133 (by omega) (copy_ct a12 a62 H7 (by omega) (by omega) ⟨by omega, by omega⟩ ⟨by omega, by omega⟩) (by omega) (show 2 = mN 150 by decide +kernel) (by simp [Value.category]) ⟨Nat.le_refl _, Nat.le_refl _⟩ ?_
  rintro r v8 ⟨rfl, H8, o8, d8⟩
  replace h := HY_step h o8 (fun i hi => by rw [d8 i hi, ho _ _ (by omega)]; exact HX_HY hX 8 (by omega) i hi)
  replace ho : ∀ c i, ¬ (54 ≤ c ∧ c ≤ 65) → rd v8 c i = rd ws c i := fun c i hc => (o8 c i (by omega)).trans (ho c i (by omega))
  refine V_aload (v := ad 4) mi_100_136 (by simp [stL, lv_args, Value.category]) ?_
  refine V_gR mi_100_137 g4r14 (by omega) H8 ?_
  refine V_aload (v := ad 54) mi_100_140 (by simp [stL, lv_args, Value.category]) ?_
  refine V_gR mi_100_141 g54r14 (by omega) H8 ?_
  refine V_stat (As := [.ref (ad 13), .ref (ad 63)]) (st := []) mi_100_144 (by omega) (copy_ct a13 a63 H8 (by omega) (by omega) ⟨by omega, by omega⟩ ⟨by omega, by omega⟩) (by omega) (show 2 = mN 150 by decide +kernel) (by simp [Value.category]) ⟨Nat.le_refl _, Nat.le_refl _⟩ ?_
  rintro r v9 ⟨rfl, H9, o9, d9⟩
  replace h := HY_step h o9 (fun i hi => by rw [d9 i hi, ho _ _ (by omega)]; exact HX_HY hX 9 (by omega) i hi)
  replace ho : ∀ c i, ¬ (54 ≤ c ∧ c ≤ 65) → rd v9 c i = rd ws c i := fun c i hc => (o9 c i (by omega)).trans (ho c i (by omega))
  refine V_aload (v := ad 4) mi_100_147 (by simp [stL, lv_args, Value.category]) ?_
  refine V_gR mi_100_148 g4r15 (by omega) H9 ?_
  refine V_aload (v := ad 54) mi_100_151 (by simp [stL, lv_args, Value.category]) ?_
  refine V_gR mi_100_152 g54r15 (by omega) H9 ?_
  refine V_stat (As := [.ref (ad 14), .ref (ad 64)]) (st := []) mi_100_155 (by omega) (copy_ct a14 a64 H9 (by omega) (by omega) ⟨by omega, by omega⟩ ⟨by omega, by omega⟩) (by omega) (show 2 = mN 150 by decide +kernel) (by simp [Value.category]) ⟨Nat.le_refl _, Nat.le_refl _⟩ ?_
  rintro r v10 ⟨rfl, H10, o10, d10⟩
  replace h := HY_step h o10 (fun i hi => by rw [d10 i hi, ho _ _ (by omega)]; exact HX_HY hX 10 (by omega) i hi)
  replace ho : ∀ c i, ¬ (54 ≤ c ∧ c ≤ 65) → rd v10 c i = rd ws c i := fun c i hc => (o10 c i (by omega)).trans (ho c i (by omega))
  refine V_aload (v := ad 4) mi_100_158 (by simp [stL, lv_args, Value.category]) ?_
  refine V_gR mi_100_159 g4r16 (by omega) H10 ?_
  refine V_aload (v := ad 54) mi_100_162 (by simp [stL, lv_args, Value.category]) ?_
  refine V_gR mi_100_163 g54r16 (by omega) H10 ?_
  refine V_stat (As := [.ref (ad 15), .ref (ad 65)]) (st := []) mi_100_166 (by omega) (copy_ct a15 a65 H10 (by omega) (by omega) ⟨by omega, by omega⟩ ⟨by omega, by omega⟩) (by omega) (show 2 = mN 150 by decide +kernel) (by simp [Value.category]) ⟨Nat.le_refl _, Nat.le_refl _⟩ ?_
  rintro r v11 ⟨rfl, H11, o11, d11⟩
  replace h := HY_step h o11 (fun i hi => by rw [d11 i hi, ho _ _ (by omega)]; exact HX_HY hX 11 (by omega) i hi)
  replace ho : ∀ c i, ¬ (54 ≤ c ∧ c ≤ 65) → rd v11 c i = rd ws c i := fun c i hc => (o11 c i (by omega)).trans (ho c i (by omega))
  exact V_retV mi_100_169 ⟨rfl, H11, HY_HX h, ho⟩
theorem cpf_4_54 {g : Nat → Int} (hG : GOK ad tys GG ws) (hX : HX 54 g ws) : CT l D tys A 100 1 0 0 [.ref (ad 4), .ref (ad 54)] ws (fun r w => r = none ∧ GOK ad tys GG w ∧ HX 4 g w ∧ ∀ c i, ¬ (4 ≤ c ∧ c ≤ 15) → rd w c i = rd ws c i) := by
  refine CT_of_V (by omega) (show (2 : Nat) ≤ mML 100 by decide +kernel) ?_
  refine V_aload (v := ad 4) mi_100_0 (by simp [stL, lv_args, Value.category]) ?_
  refine V_aload (v := ad 54) mi_100_1 (by simp [stL, lv_args, Value.category]) ?_
  obtain ⟨p0, hp0, lo0, hi0⟩ := celO hG g54f0 (by omega)
  refine V_gO mi_100_2 g54o hG (hp0) ?_
  refine V_pO mi_100_5 g4f0 (by omega) (by decide +kernel) (by decide +kernel) hG (by rw [Int32.toInt_ofInt_of_le (by omega) (by omega)]; omega) (by rw [Int32.toInt_ofInt_of_le (by omega) (by omega)]; omega) (fun w0 G0 U0 => ?_)
  refine V_aload (v := ad 4) mi_100_8 (by simp [stL, lv_args, Value.category]) ?_
  refine V_aload (v := ad 54) mi_100_9 (by simp [stL, lv_args, Value.category]) ?_
  obtain ⟨p1, hp1, lo1, hi1⟩ := celO hG g54f1 (by omega)
  refine V_gO mi_100_10 g54o G0 ((upd_ne U0 (by omega)).trans hp1) ?_
  refine V_pO mi_100_13 g4f1 (by omega) (by decide +kernel) (by decide +kernel) G0 (by rw [Int32.toInt_ofInt_of_le (by omega) (by omega)]; omega) (by rw [Int32.toInt_ofInt_of_le (by omega) (by omega)]; omega) (fun w1 G1 U1 => ?_)
  refine V_aload (v := ad 4) mi_100_16 (by simp [stL, lv_args, Value.category]) ?_
  refine V_aload (v := ad 54) mi_100_17 (by simp [stL, lv_args, Value.category]) ?_
  obtain ⟨p2, hp2, lo2, hi2⟩ := celO hG g54f2 (by omega)
  refine V_gO mi_100_18 g54o G1 ((upd_ne U1 (by omega)).trans ((upd_ne U0 (by omega)).trans hp2)) ?_
  refine V_pO mi_100_21 g4f2 (by omega) (by decide +kernel) (by decide +kernel) G1 (by rw [Int32.toInt_ofInt_of_le (by omega) (by omega)]; omega) (by rw [Int32.toInt_ofInt_of_le (by omega) (by omega)]; omega) (fun w2 G2 U2 => ?_)
  refine V_aload (v := ad 4) mi_100_24 (by simp [stL, lv_args, Value.category]) ?_
  refine V_aload (v := ad 54) mi_100_25 (by simp [stL, lv_args, Value.category]) ?_
  obtain ⟨p3, hp3, lo3, hi3⟩ := celO hG g54f3 (by omega)
  refine V_gO mi_100_26 g54o G2 ((upd_ne U2 (by omega)).trans ((upd_ne U1 (by omega)).trans ((upd_ne U0 (by omega)).trans hp3))) ?_
  refine V_pO mi_100_29 g4f3 (by omega) (by decide +kernel) (by decide +kernel) G2 (by rw [Int32.toInt_ofInt_of_le (by omega) (by omega)]; omega) (by rw [Int32.toInt_ofInt_of_le (by omega) (by omega)]; omega) (fun w3 G3 U3 => ?_)
  refine V_aload (v := ad 4) mi_100_32 (by simp [stL, lv_args, Value.category]) ?_
  refine V_aload (v := ad 54) mi_100_33 (by simp [stL, lv_args, Value.category]) ?_
  obtain ⟨p4, hp4, lo4, hi4⟩ := celO hG g54f4 (by omega)
  refine V_gO mi_100_34 g54o G3 ((upd_ne U3 (by omega)).trans ((upd_ne U2 (by omega)).trans ((upd_ne U1 (by omega)).trans ((upd_ne U0 (by omega)).trans hp4)))) ?_
  refine V_pO mi_100_37 g4f4 (by omega) (by decide +kernel) (by decide +kernel) G3 (by rw [Int32.toInt_ofInt_of_le (by omega) (by omega)]; omega) (by rw [Int32.toInt_ofInt_of_le (by omega) (by omega)]; omega) (fun w4 G4 U4 => ?_)
  refine V_aload (v := ad 4) mi_100_40 (by simp [stL, lv_args, Value.category]) ?_
  refine V_aload (v := ad 54) mi_100_41 (by simp [stL, lv_args, Value.category]) ?_
  obtain ⟨p5, hp5, lo5, hi5⟩ := celO hG g54f5 (by omega)
  refine V_gO mi_100_42 g54o G4 ((upd_ne U4 (by omega)).trans ((upd_ne U3 (by omega)).trans ((upd_ne U2 (by omega)).trans ((upd_ne U1 (by omega)).trans ((upd_ne U0 (by omega)).trans hp5))))) ?_
  refine V_pO mi_100_45 g4f5 (by omega) (by decide +kernel) (by decide +kernel) G4 (by rw [Int32.toInt_ofInt_of_le (by omega) (by omega)]; omega) (by rw [Int32.toInt_ofInt_of_le (by omega) (by omega)]; omega) (fun w5 G5 U5 => ?_)
  have ho : ∀ c i, c ≠ 4 → rd w5 c i = rd ws c i := fun c i hc => (upd_ne U5 (by omega)).trans ((upd_ne U4 (by omega)).trans ((upd_ne U3 (by omega)).trans ((upd_ne U2 (by omega)).trans ((upd_ne U1 (by omega)).trans (upd_ne U0 (by omega))))))
  have h : HY 4 1 g w5 := fun k hk i hi => by
    have k0 : k = 0 := by omega
    subst k0
    have hi : i < 6 := hi
    rw [← hx0 hX hi]
    have e0 : rd w5 4 0 = rd ws 54 0 := by rw [hp0]; exact (upd_ne U5 (by omega)).trans ((upd_ne U4 (by omega)).trans ((upd_ne U3 (by omega)).trans ((upd_ne U2 (by omega)).trans ((upd_ne U1 (by omega)).trans (upd_eq U0)))))
    have e1 : rd w5 4 1 = rd ws 54 1 := by rw [hp1]; exact (upd_ne U5 (by omega)).trans ((upd_ne U4 (by omega)).trans ((upd_ne U3 (by omega)).trans ((upd_ne U2 (by omega)).trans (upd_eq U1))))
    have e2 : rd w5 4 2 = rd ws 54 2 := by rw [hp2]; exact (upd_ne U5 (by omega)).trans ((upd_ne U4 (by omega)).trans ((upd_ne U3 (by omega)).trans (upd_eq U2)))
    have e3 : rd w5 4 3 = rd ws 54 3 := by rw [hp3]; exact (upd_ne U5 (by omega)).trans ((upd_ne U4 (by omega)).trans (upd_eq U3))
    have e4 : rd w5 4 4 = rd ws 54 4 := by rw [hp4]; exact (upd_ne U5 (by omega)).trans (upd_eq U4)
    have e5 : rd w5 4 5 = rd ws 54 5 := by rw [hp5]; exact upd_eq U5
    rcases i with _ | _ | _ | _ | _ | _ | i
    · exact e0
    · exact e1
    · exact e2
    · exact e3
    · exact e4
    · exact e5
    · omega
  refine V_aload (v := ad 54) mi_100_48 (by simp [stL, lv_args, Value.category]) ?_
  refine V_gR mi_100_49 g54r6 (by omega) G5 ?_
  refine V_aload (v := ad 4) mi_100_52 (by simp [stL, lv_args, Value.category]) ?_
  refine V_gR mi_100_53 g4r6 (by omega) G5 ?_
  refine V_stat (As := [.ref (ad 55), .ref (ad 5)]) (st := []) mi_100_56 (by omega) (copy_ct a55 a5 G5 (by omega) (by omega) ⟨by omega, by omega⟩ ⟨by omega, by omega⟩) (by omega) (show 2 = mN 150 by decide +kernel) (by simp [Value.category]) ⟨Nat.le_refl _, Nat.le_refl _⟩ ?_
  rintro r v1 ⟨rfl, H1, o1, d1⟩
  replace h := HY_step h o1 (fun i hi => by rw [d1 i hi, ho _ _ (by omega)]; exact HX_HY hX 1 (by omega) i hi)
  replace ho : ∀ c i, ¬ (4 ≤ c ∧ c ≤ 15) → rd v1 c i = rd ws c i := fun c i hc => (o1 c i (by omega)).trans (ho c i (by omega))
  refine V_aload (v := ad 54) mi_100_59 (by simp [stL, lv_args, Value.category]) ?_
  refine V_gR mi_100_60 g54r7 (by omega) H1 ?_
  refine V_aload (v := ad 4) mi_100_63 (by simp [stL, lv_args, Value.category]) ?_
  refine V_gR mi_100_64 g4r7 (by omega) H1 ?_
  refine V_stat (As := [.ref (ad 56), .ref (ad 6)]) (st := []) mi_100_67 (by omega) (copy_ct a56 a6 H1 (by omega) (by omega) ⟨by omega, by omega⟩ ⟨by omega, by omega⟩) (by omega) (show 2 = mN 150 by decide +kernel) (by simp [Value.category]) ⟨Nat.le_refl _, Nat.le_refl _⟩ ?_
  rintro r v2 ⟨rfl, H2, o2, d2⟩
  replace h := HY_step h o2 (fun i hi => by rw [d2 i hi, ho _ _ (by omega)]; exact HX_HY hX 2 (by omega) i hi)
  replace ho : ∀ c i, ¬ (4 ≤ c ∧ c ≤ 15) → rd v2 c i = rd ws c i := fun c i hc => (o2 c i (by omega)).trans (ho c i (by omega))
  refine V_aload (v := ad 54) mi_100_70 (by simp [stL, lv_args, Value.category]) ?_
  refine V_gR mi_100_71 g54r8 (by omega) H2 ?_
  refine V_aload (v := ad 4) mi_100_74 (by simp [stL, lv_args, Value.category]) ?_
  refine V_gR mi_100_75 g4r8 (by omega) H2 ?_
  refine V_stat (As := [.ref (ad 57), .ref (ad 7)]) (st := []) mi_100_78 (by omega) (copy_ct a57 a7 H2 (by omega) (by omega) ⟨by omega, by omega⟩ ⟨by omega, by omega⟩) (by omega) (show 2 = mN 150 by decide +kernel) (by simp [Value.category]) ⟨Nat.le_refl _, Nat.le_refl _⟩ ?_
  rintro r v3 ⟨rfl, H3, o3, d3⟩
  replace h := HY_step h o3 (fun i hi => by rw [d3 i hi, ho _ _ (by omega)]; exact HX_HY hX 3 (by omega) i hi)
  replace ho : ∀ c i, ¬ (4 ≤ c ∧ c ≤ 15) → rd v3 c i = rd ws c i := fun c i hc => (o3 c i (by omega)).trans (ho c i (by omega))
  refine V_aload (v := ad 54) mi_100_81 (by simp [stL, lv_args, Value.category]) ?_
  refine V_gR mi_100_82 g54r9 (by omega) H3 ?_
  refine V_aload (v := ad 4) mi_100_85 (by simp [stL, lv_args, Value.category]) ?_
  refine V_gR mi_100_86 g4r9 (by omega) H3 ?_
  refine V_stat (As := [.ref (ad 58), .ref (ad 8)]) (st := []) mi_100_89 (by omega) (copy_ct a58 a8 H3 (by omega) (by omega) ⟨by omega, by omega⟩ ⟨by omega, by omega⟩) (by omega) (show 2 = mN 150 by decide +kernel) (by simp [Value.category]) ⟨Nat.le_refl _, Nat.le_refl _⟩ ?_
  rintro r v4 ⟨rfl, H4, o4, d4⟩
  replace h := HY_step h o4 (fun i hi => by rw [d4 i hi, ho _ _ (by omega)]; exact HX_HY hX 4 (by omega) i hi)
  replace ho : ∀ c i, ¬ (4 ≤ c ∧ c ≤ 15) → rd v4 c i = rd ws c i := fun c i hc => (o4 c i (by omega)).trans (ho c i (by omega))
  refine V_aload (v := ad 54) mi_100_92 (by simp [stL, lv_args, Value.category]) ?_
  refine V_gR mi_100_93 g54r10 (by omega) H4 ?_
  refine V_aload (v := ad 4) mi_100_96 (by simp [stL, lv_args, Value.category]) ?_
  refine V_gR mi_100_97 g4r10 (by omega) H4 ?_
  refine V_stat (As := [.ref (ad 59), .ref (ad 9)]) (st := []) mi_100_100 (by omega) (copy_ct a59 a9 H4 (by omega) (by omega) ⟨by omega, by omega⟩ ⟨by omega, by omega⟩) (by omega) (show 2 = mN 150 by decide +kernel) (by simp [Value.category]) ⟨Nat.le_refl _, Nat.le_refl _⟩ ?_
  rintro r v5 ⟨rfl, H5, o5, d5⟩
  replace h := HY_step h o5 (fun i hi => by rw [d5 i hi, ho _ _ (by omega)]; exact HX_HY hX 5 (by omega) i hi)
  replace ho : ∀ c i, ¬ (4 ≤ c ∧ c ≤ 15) → rd v5 c i = rd ws c i := fun c i hc => (o5 c i (by omega)).trans (ho c i (by omega))
  refine V_aload (v := ad 54) mi_100_103 (by simp [stL, lv_args, Value.category]) ?_
  refine V_gR mi_100_104 g54r11 (by omega) H5 ?_
  refine V_aload (v := ad 4) mi_100_107 (by simp [stL, lv_args, Value.category]) ?_
  refine V_gR mi_100_108 g4r11 (by omega) H5 ?_
  refine V_stat (As := [.ref (ad 60), .ref (ad 10)]) (st := []) mi_100_111 (by omega) (copy_ct a60 a10 H5 (by omega) (by omega) ⟨by omega, by omega⟩ ⟨by omega, by omega⟩) (by omega) (show 2 = mN 150 by decide +kernel) (by simp [Value.category]) ⟨Nat.le_refl _, Nat.le_refl _⟩ ?_
  rintro r v6 ⟨rfl, H6, o6, d6⟩
  replace h := HY_step h o6 (fun i hi => by rw [d6 i hi, ho _ _ (by omega)]; exact HX_HY hX 6 (by omega) i hi)
  replace ho : ∀ c i, ¬ (4 ≤ c ∧ c ≤ 15) → rd v6 c i = rd ws c i := fun c i hc => (o6 c i (by omega)).trans (ho c i (by omega))
  refine V_aload (v := ad 54) mi_100_114 (by simp [stL, lv_args, Value.category]) ?_
  refine V_gR mi_100_115 g54r12 (by omega) H6 ?_
  refine V_aload (v := ad 4) mi_100_118 (by simp [stL, lv_args, Value.category]) ?_
  refine V_gR mi_100_119 g4r12 (by omega) H6 ?_
  refine V_stat (As := [.ref (ad 61), .ref (ad 11)]) (st := []) mi_100_122 (by omega) (copy_ct a61 a11 H6 (by omega) (by omega) ⟨by omega, by omega⟩ ⟨by omega, by omega⟩) (by omega) (show 2 = mN 150 by decide +kernel) (by simp [Value.category]) ⟨Nat.le_refl _, Nat.le_refl _⟩ ?_
  rintro r v7 ⟨rfl, H7, o7, d7⟩
  replace h := HY_step h o7 (fun i hi => by rw [d7 i hi, ho _ _ (by omega)]; exact HX_HY hX 7 (by omega) i hi)
  replace ho : ∀ c i, ¬ (4 ≤ c ∧ c ≤ 15) → rd v7 c i = rd ws c i := fun c i hc => (o7 c i (by omega)).trans (ho c i (by omega))
  refine V_aload (v := ad 54) mi_100_125 (by simp [stL, lv_args, Value.category]) ?_
  refine V_gR mi_100_126 g54r13 (by omega) H7 ?_
  refine V_aload (v := ad 4) mi_100_129 (by simp [stL, lv_args, Value.category]) ?_
  refine V_gR mi_100_130 g4r13 (by omega) H7 ?_
  refine V_stat (As := [.ref (ad 62), .ref (ad 12)]) (st := []) mi_100_133 (by omega) (copy_ct a62 a12 H7 (by omega) (by omega) ⟨by omega, by omega⟩ ⟨by omega, by omega⟩) (by omega) (show 2 = mN 150 by decide +kernel) (by simp [Value.category]) ⟨Nat.le_refl _, Nat.le_refl _⟩ ?_
  rintro r v8 ⟨rfl, H8, o8, d8⟩
  replace h := HY_step h o8 (fun i hi => by rw [d8 i hi, ho _ _ (by omega)]; exact HX_HY hX 8 (by omega) i hi)
  replace ho : ∀ c i, ¬ (4 ≤ c ∧ c ≤ 15) → rd v8 c i = rd ws c i := fun c i hc => (o8 c i (by omega)).trans (ho c i (by omega))
  refine V_aload (v := ad 54) mi_100_136 (by simp [stL, lv_args, Value.category]) ?_
  refine V_gR mi_100_137 g54r14 (by omega) H8 ?_
  refine V_aload (v := ad 4) mi_100_140 (by simp [stL, lv_args, Value.category]) ?_
  refine V_gR mi_100_141 g4r14 (by omega) H8 ?_
  refine V_stat (As := [.ref (ad 63), .ref (ad 13)]) (st := []) mi_100_144 (by omega) (copy_ct a63 a13 H8 (by omega) (by omega) ⟨by omega, by omega⟩ ⟨by omega, by omega⟩) (by omega) (show 2 = mN 150 by decide +kernel) (by simp [Value.category]) ⟨Nat.le_refl _, Nat.le_refl _⟩ ?_
  rintro r v9 ⟨rfl, H9, o9, d9⟩
  replace h := HY_step h o9 (fun i hi => by rw [d9 i hi, ho _ _ (by omega)]; exact HX_HY hX 9 (by omega) i hi)
  replace ho : ∀ c i, ¬ (4 ≤ c ∧ c ≤ 15) → rd v9 c i = rd ws c i := fun c i hc => (o9 c i (by omega)).trans (ho c i (by omega))
  refine V_aload (v := ad 54) mi_100_147 (by simp [stL, lv_args, Value.category]) ?_
  refine V_gR mi_100_148 g54r15 (by omega) H9 ?_
  refine V_aload (v := ad 4) mi_100_151 (by simp [stL, lv_args, Value.category]) ?_
  refine V_gR mi_100_152 g4r15 (by omega) H9 ?_
  refine V_stat (As := [.ref (ad 64), .ref (ad 14)]) (st := []) mi_100_155 (by omega) (copy_ct a64 a14 H9 (by omega) (by omega) ⟨by omega, by omega⟩ ⟨by omega, by omega⟩) (by omega) (show 2 = mN 150 by decide +kernel) (by simp [Value.category]) ⟨Nat.le_refl _, Nat.le_refl _⟩ ?_
  rintro r v10 ⟨rfl, H10, o10, d10⟩
  replace h := HY_step h o10 (fun i hi => by rw [d10 i hi, ho _ _ (by omega)]; exact HX_HY hX 10 (by omega) i hi)
  replace ho : ∀ c i, ¬ (4 ≤ c ∧ c ≤ 15) → rd v10 c i = rd ws c i := fun c i hc => (o10 c i (by omega)).trans (ho c i (by omega))
  refine V_aload (v := ad 54) mi_100_158 (by simp [stL, lv_args, Value.category]) ?_
  refine V_gR mi_100_159 g54r16 (by omega) H10 ?_
  refine V_aload (v := ad 4) mi_100_162 (by simp [stL, lv_args, Value.category]) ?_
  refine V_gR mi_100_163 g4r16 (by omega) H10 ?_
  refine V_stat (As := [.ref (ad 65), .ref (ad 15)]) (st := []) mi_100_166 (by omega) (copy_ct a65 a15 H10 (by omega) (by omega) ⟨by omega, by omega⟩ ⟨by omega, by omega⟩) (by omega) (show 2 = mN 150 by decide +kernel) (by simp [Value.category]) ⟨Nat.le_refl _, Nat.le_refl _⟩ ?_
  rintro r v11 ⟨rfl, H11, o11, d11⟩
  replace h := HY_step h o11 (fun i hi => by rw [d11 i hi, ho _ _ (by omega)]; exact HX_HY hX 11 (by omega) i hi)
  replace ho : ∀ c i, ¬ (4 ≤ c ∧ c ≤ 15) → rd v11 c i = rd ws c i := fun c i hc => (o11 c i (by omega)).trans (ho c i (by omega))
  exact V_retV mi_100_169 ⟨rfl, H11, HY_HX h, ho⟩
theorem cpf_66_4 {g : Nat → Int} (hG : GOK ad tys GG ws) (hX : HX 4 g ws) : CT l D tys A 100 1 0 0 [.ref (ad 66), .ref (ad 4)] ws (fun r w => r = none ∧ GOK ad tys GG w ∧ HX 66 g w ∧ ∀ c i, ¬ (66 ≤ c ∧ c ≤ 77) → rd w c i = rd ws c i) := by
  refine CT_of_V (by omega) (show (2 : Nat) ≤ mML 100 by decide +kernel) ?_
  refine V_aload (v := ad 66) mi_100_0 (by simp [stL, lv_args, Value.category]) ?_
  refine V_aload (v := ad 4) mi_100_1 (by simp [stL, lv_args, Value.category]) ?_
  obtain ⟨p0, hp0, lo0, hi0⟩ := celO hG g4f0 (by omega)
  refine V_gO mi_100_2 g4o hG (hp0) ?_
  refine V_pO mi_100_5 g66f0 (by omega) (by decide +kernel) (by decide +kernel) hG (by rw [Int32.toInt_ofInt_of_le (by omega) (by omega)]; omega) (by rw [Int32.toInt_ofInt_of_le (by omega) (by omega)]; omega) (fun w0 G0 U0 => ?_)
  refine V_aload (v := ad 66) mi_100_8 (by simp [stL, lv_args, Value.category]) ?_
  refine V_aload (v := ad 4) mi_100_9 (by simp [stL, lv_args, Value.category]) ?_
  obtain ⟨p1, hp1, lo1, hi1⟩ := celO hG g4f1 (by omega)
  refine V_gO mi_100_10 g4o G0 ((upd_ne U0 (by omega)).trans hp1) ?_
  refine V_pO mi_100_13 g66f1 (by omega) (by decide +kernel) (by decide +kernel) G0 (by rw [Int32.toInt_ofInt_of_le (by omega) (by omega)]; omega) (by rw [Int32.toInt_ofInt_of_le (by omega) (by omega)]; omega) (fun w1 G1 U1 => ?_)
  refine V_aload (v := ad 66) mi_100_16 (by simp [stL, lv_args, Value.category]) ?_
  refine V_aload (v := ad 4) mi_100_17 (by simp [stL, lv_args, Value.category]) ?_
  obtain ⟨p2, hp2, lo2, hi2⟩ := celO hG g4f2 (by omega)
  refine V_gO mi_100_18 g4o G1 ((upd_ne U1 (by omega)).trans ((upd_ne U0 (by omega)).trans hp2)) ?_
  refine V_pO mi_100_21 g66f2 (by omega) (by decide +kernel) (by decide +kernel) G1 (by rw [Int32.toInt_ofInt_of_le (by omega) (by omega)]; omega) (by rw [Int32.toInt_ofInt_of_le (by omega) (by omega)]; omega) (fun w2 G2 U2 => ?_)
  refine V_aload (v := ad 66) mi_100_24 (by simp [stL, lv_args, Value.category]) ?_
  refine V_aload (v := ad 4) mi_100_25 (by simp [stL, lv_args, Value.category]) ?_
  obtain ⟨p3, hp3, lo3, hi3⟩ := celO hG g4f3 (by omega)
  refine V_gO mi_100_26 g4o G2 ((upd_ne U2 (by omega)).trans ((upd_ne U1 (by omega)).trans ((upd_ne U0 (by omega)).trans hp3))) ?_
  refine V_pO mi_100_29 g66f3 (by omega) (by decide +kernel) (by decide +kernel) G2 (by rw [Int32.toInt_ofInt_of_le (by omega) (by omega)]; omega) (by rw [Int32.toInt_ofInt_of_le (by omega) (by omega)]; omega) (fun w3 G3 U3 => ?_)
  refine V_aload (v := ad 66) mi_100_32 (by simp [stL, lv_args, Value.category]) ?_
  refine V_aload (v := ad 4) mi_100_33 (by simp [stL, lv_args, Value.category]) ?_
  obtain ⟨p4, hp4, lo4, hi4⟩ := celO hG g4f4 (by omega)
  refine V_gO mi_100_34 g4o G3 ((upd_ne U3 (by omega)).trans ((upd_ne U2 (by omega)).trans ((upd_ne U1 (by omega)).trans ((upd_ne U0 (by omega)).trans hp4)))) ?_
  refine V_pO mi_100_37 g66f4 (by omega) (by decide +kernel) (by decide +kernel) G3 (by rw [Int32.toInt_ofInt_of_le (by omega) (by omega)]; omega) (by rw [Int32.toInt_ofInt_of_le (by omega) (by omega)]; omega) (fun w4 G4 U4 => ?_)
  refine V_aload (v := ad 66) mi_100_40 (by simp [stL, lv_args, Value.category]) ?_
  refine V_aload (v := ad 4) mi_100_41 (by simp [stL, lv_args, Value.category]) ?_
  obtain ⟨p5, hp5, lo5, hi5⟩ := celO hG g4f5 (by omega)
  refine V_gO mi_100_42 g4o G4 ((upd_ne U4 (by omega)).trans ((upd_ne U3 (by omega)).trans ((upd_ne U2 (by omega)).trans ((upd_ne U1 (by omega)).trans ((upd_ne U0 (by omega)).trans hp5))))) ?_
  refine V_pO mi_100_45 g66f5 (by omega) (by decide +kernel) (by decide +kernel) G4 (by rw [Int32.toInt_ofInt_of_le (by omega) (by omega)]; omega) (by rw [Int32.toInt_ofInt_of_le (by omega) (by omega)]; omega) (fun w5 G5 U5 => ?_)
  have ho : ∀ c i, c ≠ 66 → rd w5 c i = rd ws c i := fun c i hc => (upd_ne U5 (by omega)).trans ((upd_ne U4 (by omega)).trans ((upd_ne U3 (by omega)).trans ((upd_ne U2 (by omega)).trans ((upd_ne U1 (by omega)).trans (upd_ne U0 (by omega))))))
  have h : HY 66 1 g w5 := fun k hk i hi => by
    have k0 : k = 0 := by omega
    subst k0
    have hi : i < 6 := hi
    rw [← hx0 hX hi]
    have e0 : rd w5 66 0 = rd ws 4 0 := by rw [hp0]; exact (upd_ne U5 (by omega)).trans ((upd_ne U4 (by omega)).trans ((upd_ne U3 (by omega)).trans ((upd_ne U2 (by omega)).trans ((upd_ne U1 (by omega)).trans (upd_eq U0)))))
    have e1 : rd w5 66 1 = rd ws 4 1 := by rw [hp1]; exact (upd_ne U5 (by omega)).trans ((upd_ne U4 (by omega)).trans ((upd_ne U3 (by omega)).trans ((upd_ne U2 (by omega)).trans (upd_eq U1))))
    have e2 : rd w5 66 2 = rd ws 4 2 := by rw [hp2]; exact (upd_ne U5 (by omega)).trans ((upd_ne U4 (by omega)).trans ((upd_ne U3 (by omega)).trans (upd_eq U2)))
    have e3 : rd w5 66 3 = rd ws 4 3 := by rw [hp3]; exact (upd_ne U5 (by omega)).trans ((upd_ne U4 (by omega)).trans (upd_eq U3))
    have e4 : rd w5 66 4 = rd ws 4 4 := by rw [hp4]; exact (upd_ne U5 (by omega)).trans (upd_eq U4)
    have e5 : rd w5 66 5 = rd ws 4 5 := by rw [hp5]; exact upd_eq U5
    rcases i with _ | _ | _ | _ | _ | _ | i
    · exact e0
    · exact e1
    · exact e2
    · exact e3
    · exact e4
    · exact e5
    · omega
  refine V_aload (v := ad 4) mi_100_48 (by simp [stL, lv_args, Value.category]) ?_
  refine V_gR mi_100_49 g4r6 (by omega) G5 ?_
  refine V_aload (v := ad 66) mi_100_52 (by simp [stL, lv_args, Value.category]) ?_
  refine V_gR mi_100_53 g66r6 (by omega) G5 ?_
  refine V_stat (As := [.ref (ad 5), .ref (ad 67)]) (st := []) mi_100_56 (by omega) (copy_ct a5 a67 G5 (by omega) (by omega) ⟨by omega, by omega⟩ ⟨by omega, by omega⟩) (by omega) (show 2 = mN 150 by decide +kernel) (by simp [Value.category]) ⟨Nat.le_refl _, Nat.le_refl _⟩ ?_
  rintro r v1 ⟨rfl, H1, o1, d1⟩
  replace h := HY_step h o1 (fun i hi => by rw [d1 i hi, ho _ _ (by omega)]; exact HX_HY hX 1 (by omega) i hi)
  replace ho : ∀ c i, ¬ (66 ≤ c ∧ c ≤ 77) → rd v1 c i = rd ws c i := fun c i hc => (o1 c i (by omega)).trans (ho c i (by omega))
  refine V_aload (v := ad 4) mi_100_59 (by simp [stL, lv_args, Value.category]) ?_
  refine V_gR mi_100_60 g4r7 (by omega) H1 ?_
  refine V_aload (v := ad 66) mi_100_63 (by simp [stL, lv_args, Value.category]) ?_
  refine V_gR mi_100_64 g66r7 (by omega) H1 ?_
  refine V_stat (As := [.ref (ad 6), .ref (ad 68)]) (st := []) mi_100_67 (by omega) (copy_ct a6 a68 H1 (by omega) (by omega) ⟨by omega, by omega⟩ ⟨by omega, by omega⟩) (by omega) (show 2 = mN 150 by decide +kernel) (by simp [Value.category]) ⟨Nat.le_refl _, Nat.le_refl _⟩ ?_
  rintro r v2 ⟨rfl, H2, o2, d2⟩
  replace h := HY_step h o2 (fun i hi => by rw [d2 i hi, ho _ _ (by omega)]; exact HX_HY hX 2 (by omega) i hi)
  replace ho : ∀ c i, ¬ (66 ≤ c ∧ c ≤ 77) → rd v2 c i = rd ws c i := fun c i hc => (o2 c i (by omega)).trans (ho c i (by omega))
  refine V_aload (v := ad 4) mi_100_70 (by simp [stL, lv_args, Value.category]) ?_
  refine V_gR mi_100_71 g4r8 (by omega) H2 ?_
  refine V_aload (v := ad 66) mi_100_74 (by simp [stL, lv_args, Value.category]) ?_
  refine V_gR mi_100_75 g66r8 (by omega) H2 ?_
  refine V_stat (As := [.ref (ad 7), .ref (ad 69)]) (st := []) mi_100_78 (by omega) (copy_ct a7 a69 H2 (by omega) (by omega) ⟨by omega, by omega⟩ ⟨by omega, by omega⟩) (by omega) (show 2 = mN 150 by decide +kernel) (by simp [Value.category]) ⟨Nat.le_refl _, Nat.le_refl _⟩ ?_
  rintro r v3 ⟨rfl, H3, o3, d3⟩
  replace h := HY_step h o3 (fun i hi => by rw [d3 i hi, ho _ _ (by omega)]; exact HX_HY hX 3 (by omega) i hi)
  replace ho : ∀ c i, ¬ (66 ≤ c ∧ c ≤ 77) → rd v3 c i = rd ws c i := fun c i hc => (o3 c i (by omega)).trans (ho c i (by omega))
  refine V_aload (v := ad 4) mi_100_81 (by simp [stL, lv_args, Value.category]) ?_
  refine V_gR mi_100_82 g4r9 (by omega) H3 ?_
  refine V_aload (v := ad 66) mi_100_85 (by simp [stL, lv_args, Value.category]) ?_
  refine V_gR mi_100_86 g66r9 (by omega) H3 ?_
  refine V_stat (As := [.ref (ad 8), .ref (ad 70)]) (st := []) mi_100_89 (by omega) (copy_ct a8 a70 H3 (by omega) (by omega) ⟨by omega, by omega⟩ ⟨by omega, by omega⟩) (by omega) (show 2 = mN 150 by decide +kernel) (by simp [Value.category]) ⟨Nat.le_refl _, Nat.le_refl _⟩ ?_
  rintro r v4 ⟨rfl, H4, o4, d4⟩
  replace h := HY_step h o4 (fun i hi => by rw [d4 i hi, ho _ _ (by omega)]; exact HX_HY hX 4 (by omega) i hi)
  replace ho : ∀ c i, ¬ (66 ≤ c ∧ c ≤ 77) → rd v4 c i = rd ws c i := fun c i hc => (o4 c i (by omega)).trans (ho c i (by omega))
  refine V_aload (v := ad 4) mi_100_92 (by simp [stL, lv_args, Value.category]) ?_
  refine V_gR mi_100_93 g4r10 (by omega) H4 ?_
  refine V_aload (v := ad 66) mi_100_96 (by simp [stL, lv_args, Value.category]) ?_
  refine V_gR mi_100_97 g66r10 (by omega) H4 ?_
  refine V_stat (As := [.ref (ad 9), .ref (ad 71)]) (st := []) mi_100_100 (by omega) (copy_ct a9 a71 H4 (by omega) (by omega) ⟨by omega, by omega⟩ ⟨by omega, by omega⟩) (by omega) (show 2 = mN 150 by decide +kernel) (by simp [Value.category]) ⟨Nat.le_refl _, Nat.le_refl _⟩ ?_
  rintro r v5 ⟨rfl, H5, o5, d5⟩
  replace h := HY_step h o5 (fun i hi => by rw [d5 i hi, ho _ _ (by omega)]; exact HX_HY hX 5 (by omega) i hi)
  replace ho : ∀ c i, ¬ (66 ≤ c ∧ c ≤ 77) → rd v5 c i = rd ws c i := fun c i hc => (o5 c i (by omega)).trans (ho c i (by omega))
  refine V_aload (v := ad 4) mi_100_103 (by simp [stL, lv_args, Value.category]) ?_
  refine V_gR mi_100_104 g4r11 (by omega) H5 ?_
  refine V_aload (v := ad 66) mi_100_107 (by simp [stL, lv_args, Value.category]) ?_
  refine V_gR mi_100_108 g66r11 (by omega) H5 ?_
  refine V_stat (As := [.ref (ad 10), .ref (ad 72)]) (st := []) mi_100_111 (by omega) (copy_ct a10 a72 H5 (by omega) (by omega) ⟨by omega, by omega⟩ ⟨by omega, by omega⟩) (by omega) (show 2 = mN 150 by decide +kernel) (by simp [Value.category]) ⟨Nat.le_refl _, Nat.le_refl _⟩ ?_
  rintro r v6 ⟨rfl, H6, o6, d6⟩
  replace h := HY_step h o6 (fun i hi => by rw [d6 i hi, ho _ _ (by omega)]; exact HX_HY hX 6 (by omega) i hi)
  replace ho : ∀ c i, ¬ (66 ≤ c ∧ c ≤ 77) → rd v6 c i = rd ws c i := fun c i hc => (o6 c i (by omega)).trans (ho c i (by omega))
  refine V_aload (v := ad 4) mi_100_114 (by simp [stL, lv_args, Value.category]) ?_
  refine V_gR mi_100_115 g4r12 (by omega) H6 ?_
  refine V_aload (v := ad 66) mi_100_118 (by simp [stL, lv_args, Value.category]) ?_
  refine V_gR mi_100_119 g66r12 (by omega) H6 ?_
  refine V_stat (As := [.ref (ad 11), .ref (ad 73)]) (st := []) mi_100_122 (by omega) (copy_ct a11 a73 H6 (by omega) (by omega) ⟨by omega, by omega⟩ ⟨by omega, by omega⟩) (by omega) (show 2 = mN 150 by decide +kernel) (by simp [Value.category]) ⟨Nat.le_refl _, Nat.le_refl _⟩ ?_
  rintro r v7 ⟨rfl, H7, o7, d7⟩
  replace h := HY_step h o7 (fun i hi => by rw [d7 i hi, ho _ _ (by omega)]; exact HX_HY hX 7 (by omega) i hi)
  replace ho : ∀ c i, ¬ (66 ≤ c ∧ c ≤ 77) → rd v7 c i = rd ws c i := fun c i hc => (o7 c i (by omega)).trans (ho c i (by omega))
  refine V_aload (v := ad 4) mi_100_125 (by simp [stL, lv_args, Value.category]) ?_
  refine V_gR mi_100_126 g4r13 (by omega) H7 ?_
  refine V_aload (v := ad 66) mi_100_129 (by simp [stL, lv_args, Value.category]) ?_
  refine V_gR mi_100_130 g66r13 (by omega) H7 ?_
  refine V_stat (As := [.ref (ad 12), .ref (ad 74)]) (st := []) mi_100_133 (by omega) (copy_ct a12 a74 H7 (by omega) (by omega) ⟨by omega, by omega⟩ ⟨by omega, by omega⟩) (by omega) (show 2 = mN 150 by decide +kernel) (by simp [Value.category]) ⟨Nat.le_refl _, Nat.le_refl _⟩ ?_
  rintro r v8 ⟨rfl, H8, o8, d8⟩
  replace h := HY_step h o8 (fun i hi => by rw [d8 i hi, ho _ _ (by omega)]; exact HX_HY hX 8 (by omega) i hi)
  replace ho : ∀ c i, ¬ (66 ≤ c ∧ c ≤ 77) → rd v8 c i = rd ws c i := fun c i hc => (o8 c i (by omega)).trans (ho c i (by omega))
  refine V_aload (v := ad 4) mi_100_136 (by simp [stL, lv_args, Value.category]) ?_
  refine V_gR mi_100_137 g4r14 (by omega) H8 ?_
  refine V_aload (v := ad 66) mi_100_140 (by simp [stL, lv_args, Value.category]) ?_
  refine V_gR mi_100_141 g66r14 (by omega) H8 ?_
  refine V_stat (As := [.ref (ad 13), .ref (ad 75)]) (st := []) mi_100_144 (by omega) (copy_ct a13 a75 H8 (by omega) (by omega) ⟨by omega, by omega⟩ ⟨by omega, by omega⟩) (by omega) (show 2 = mN 150 by decide +kernel) (by simp [Value.category]) ⟨Nat.le_refl _, Nat.le_refl _⟩ ?_
  rintro r v9 ⟨rfl, H9, o9, d9⟩
  replace h := HY_step h o9 (fun i hi => by rw [d9 i hi, ho _ _ (by omega)]; exact HX_HY hX 9 (by omega) i hi)
  replace ho : ∀ c i, ¬ (66 ≤ c ∧ c ≤ 77) → rd v9 c i = rd ws c i := fun c i hc => (o9 c i (by omega)).trans (ho c i (by omega))
  refine V_aload (v := ad 4) mi_100_147 (by simp [stL, lv_args, Value.category]) ?_
  refine V_gR mi_100_148 g4r15 (by omega) H9 ?_
  refine V_aload (v := ad 66) mi_100_151 (by simp [stL, lv_args, Value.category]) ?_
  refine V_gR mi_100_152 g66r15 (by omega) H9 ?_
  refine V_stat (As := [.ref (ad 14), .ref (ad 76)]) (st := []) mi_100_155 (by omega) (copy_ct a14 a76 H9 (by omega) (by omega) ⟨by omega, by omega⟩ ⟨by omega, by omega⟩) (by omega) (show 2 = mN 150 by decide +kernel) (by simp [Value.category]) ⟨Nat.le_refl _, Nat.le_refl _⟩ ?_
  rintro r v10 ⟨rfl, H10, o10, d10⟩
  replace h := HY_step h o10 (fun i hi => by rw [d10 i hi, ho _ _ (by omega)]; exact HX_HY hX 10 (by omega) i hi)
  replace ho : ∀ c i, ¬ (66 ≤ c ∧ c ≤ 77) → rd v10 c i = rd ws c i := fun c i hc => (o10 c i (by omega)).trans (ho c i (by omega))
  refine V_aload (v := ad 4) mi_100_158 (by simp [stL, lv_args, Value.category]) ?_
  refine V_gR mi_100_159 g4r16 (by omega) H10 ?_
  refine V_aload (v := ad 66) mi_100_162 (by simp [stL, lv_args, Value.category]) ?_
  refine V_gR mi_100_163 g66r16 (by omega) H10 ?_
  refine V_stat (As := [.ref (ad 15), .ref (ad 77)]) (st := []) mi_100_166 (by omega) (copy_ct a15 a77 H10 (by omega) (by omega) ⟨by omega, by omega⟩ ⟨by omega, by omega⟩) (by omega) (show 2 = mN 150 by decide +kernel) (by simp [Value.category]) ⟨Nat.le_refl _, Nat.le_refl _⟩ ?_
  rintro r v11 ⟨rfl, H11, o11, d11⟩
  replace h := HY_step h o11 (fun i hi => by rw [d11 i hi, ho _ _ (by omega)]; exact HX_HY hX 11 (by omega) i hi)
  replace ho : ∀ c i, ¬ (66 ≤ c ∧ c ≤ 77) → rd v11 c i = rd ws c i := fun c i hc => (o11 c i (by omega)).trans (ho c i (by omega))
  exact V_retV mi_100_169 ⟨rfl, H11, HY_HX h, ho⟩
theorem cpf_4_66 {g : Nat → Int} (hG : GOK ad tys GG ws) (hX : HX 66 g ws) : CT l D tys A 100 1 0 0 [.ref (ad 4), .ref (ad 66)] ws (fun r w => r = none ∧ GOK ad tys GG w ∧ HX 4 g w ∧ ∀ c i, ¬ (4 ≤ c ∧ c ≤ 15) → rd w c i = rd ws c i) := by
  refine CT_of_V (by omega) (show (2 : Nat) ≤ mML 100 by decide +kernel) ?_
  refine V_aload (v := ad 4) mi_100_0 (by simp [stL, lv_args, Value.category]) ?_
  refine V_aload (v := ad 66) mi_100_1 (by simp [stL, lv_args, Value.category]) ?_
  obtain ⟨p0, hp0, lo0, hi0⟩ := celO hG g66f0 (by omega)
  refine V_gO mi_100_2 g66o hG (hp0) ?_
  refine V_pO mi_100_5 g4f0 (by omega) (by decide +kernel) (by decide +kernel) hG (by rw [Int32.toInt_ofInt_of_le (by omega) (by omega)]; omega) (by rw [Int32.toInt_ofInt_of_le (by omega) (by omega)]; omega) (fun w0 G0 U0 => ?_)
  refine V_aload (v := ad 4) mi_100_8 (by simp [stL, lv_args, Value.category]) ?_
  refine V_aload (v := ad 66) mi_100_9 (by simp [stL, lv_args, Value.category]) ?_
  obtain ⟨p1, hp1, lo1, hi1⟩ := celO hG g66f1 (by omega)
  refine V_gO mi_100_10 g66o G0 ((upd_ne U0 (by omega)).trans hp1) ?_
  refine V_pO mi_100_13 g4f1 (by omega) (by decide +kernel) (by decide +kernel) G0 (by rw [Int32.toInt_ofInt_of_le (by omega) (by omega)]; omega) (by rw [Int32.toInt_ofInt_of_le (by omega) (by omega)]; omega) (fun w1 G1 U1 => ?_)
  refine V_aload (v := ad 4) mi_100_16 (by simp [stL, lv_args, Value.category]) ?_
  refine V_aload (v := ad 66) mi_100_17 (by simp [stL, lv_args, Value.category]) ?_
  obtain ⟨p2, hp2, lo2, hi2⟩ := celO hG g66f2 (by omega)
  refine V_gO mi_100_18 g66o G1 ((upd_ne U1 (by omega)).trans ((upd_ne U0 (by omega)).trans hp2)) ?_
  refine V_pO mi_100_21 g4f2 (by omega) (by decide +kernel) (by decide +kernel) G1 (by rw [Int32.toInt_ofInt_of_le (by omega) (by omega)]; omega) (by rw [Int32.toInt_ofInt_of_le (by omega) (by omega)]; omega) (fun w2 G2 U2 => ?_)
  refine V_aload (v := ad 4) mi_100_24 (by simp [stL, lv_args, Value.category]) ?_
  refine V_aload (v := ad 66) mi_100_25 (by simp [stL, lv_args, Value.category]) ?_
  obtain ⟨p3, hp3, lo3, hi3⟩ := celO hG g66f3 (by omega)
  refine V_gO mi_100_26 g66o G2 ((upd_ne U2 (by omega)).trans ((upd_ne U1 (by omega)).trans ((upd_ne U0 (by omega)).trans hp3))) ?_
  refine V_pO mi_100_29 g4f3 (by omega) (by decide +kernel) (by decide +kernel) G2 (by rw [Int32.toInt_ofInt_of_le (by omega) (by omega)]; omega) (by rw [Int32.toInt_ofInt_of_le (by omega) (by omega)]; omega) (fun w3 G3 U3 => ?_)
  refine V_aload (v := ad 4) mi_100_32 (by simp [stL, lv_args, Value.category]) ?_
  refine V_aload (v := ad 66) mi_100_33 (by simp [stL, lv_args, Value.category]) ?_
  obtain ⟨p4, hp4, lo4, hi4⟩ := celO hG g66f4 (by omega)
  refine V_gO mi_100_34 g66o G3 ((upd_ne U3 (by omega)).trans ((upd_ne U2 (by omega)).trans ((upd_ne U1 (by omega)).trans ((upd_ne U0 (by omega)).trans hp4)))) ?_
  refine V_pO mi_100_37 g4f4 (by omega) (by decide +kernel) (by decide +kernel) G3 (by rw [Int32.toInt_ofInt_of_le (by omega) (by omega)]; omega) (by rw [Int32.toInt_ofInt_of_le (by omega) (by omega)]; omega) (fun w4 G4 U4 => ?_)
  refine V_aload (v := ad 4) mi_100_40 (by simp [stL, lv_args, Value.category]) ?_
  refine V_aload (v := ad 66) mi_100_41 (by simp [stL, lv_args, Value.category]) ?_
  obtain ⟨p5, hp5, lo5, hi5⟩ := celO hG g66f5 (by omega)
  refine V_gO mi_100_42 g66o G4 ((upd_ne U4 (by omega)).trans ((upd_ne U3 (by omega)).trans ((upd_ne U2 (by omega)).trans ((upd_ne U1 (by omega)).trans ((upd_ne U0 (by omega)).trans hp5))))) ?_
  refine V_pO mi_100_45 g4f5 (by omega) (by decide +kernel) (by decide +kernel) G4 (by rw [Int32.toInt_ofInt_of_le (by omega) (by omega)]; omega) (by rw [Int32.toInt_ofInt_of_le (by omega) (by omega)]; omega) (fun w5 G5 U5 => ?_)
  have ho : ∀ c i, c ≠ 4 → rd w5 c i = rd ws c i := fun c i hc => (upd_ne U5 (by omega)).trans ((upd_ne U4 (by omega)).trans ((upd_ne U3 (by omega)).trans ((upd_ne U2 (by omega)).trans ((upd_ne U1 (by omega)).trans (upd_ne U0 (by omega))))))
  have h : HY 4 1 g w5 := fun k hk i hi => by
    have k0 : k = 0 := by omega
    subst k0
    have hi : i < 6 := hi
    rw [← hx0 hX hi]
    have e0 : rd w5 4 0 = rd ws 66 0 := by rw [hp0]; exact (upd_ne U5 (by omega)).trans ((upd_ne U4 (by omega)).trans ((upd_ne U3 (by omega)).trans ((upd_ne U2 (by omega)).trans ((upd_ne U1 (by omega)).trans (upd_eq U0)))))
    have e1 : rd w5 4 1 = rd ws 66 1 := by rw [hp1]; exact (upd_ne U5 (by omega)).trans ((upd_ne U4 (by omega)).trans ((upd_ne U3 (by omega)).trans ((upd_ne U2 (by omega)).trans (upd_eq U1))))
    have e2 : rd w5 4 2 = rd ws 66 2 := by rw [hp2]; exact (upd_ne U5 (by omega)).trans ((upd_ne U4 (by omega)).trans ((upd_ne U3 (by omega)).trans (upd_eq U2)))
    have e3 : rd w5 4 3 = rd ws 66 3 := by rw [hp3]; exact (upd_ne U5 (by omega)).trans ((upd_ne U4 (by omega)).trans (upd_eq U3))
    have e4 : rd w5 4 4 = rd ws 66 4 := by rw [hp4]; exact (upd_ne U5 (by omega)).trans (upd_eq U4)
    have e5 : rd w5 4 5 = rd ws 66 5 := by rw [hp5]; exact upd_eq U5
    rcases i with _ | _ | _ | _ | _ | _ | i
    · exact e0
    · exact e1
    · exact e2
    · exact e3
    · exact e4
    · exact e5
    · omega
  refine V_aload (v := ad 66) mi_100_48 (by simp [stL, lv_args, Value.category]) ?_
  refine V_gR mi_100_49 g66r6 (by omega) G5 ?_
  refine V_aload (v := ad 4) mi_100_52 (by simp [stL, lv_args, Value.category]) ?_
  refine V_gR mi_100_53 g4r6 (by omega) G5 ?_
  refine V_stat (As := [.ref (ad 67), .ref (ad 5)]) (st := []) mi_100_56 (by omega) (copy_ct a67 a5 G5 (by omega) (by omega) ⟨by omega, by omega⟩ ⟨by omega, by omega⟩) (by omega) (show 2 = mN 150 by decide +kernel) (by simp [Value.category]) ⟨Nat.le_refl _, Nat.le_refl _⟩ ?_
  rintro r v1 ⟨rfl, H1, o1, d1⟩
  replace h := HY_step h o1 (fun i hi => by rw [d1 i hi, ho _ _ (by omega)]; exact HX_HY hX 1 (by omega) i hi)
  replace ho : ∀ c i, ¬ (4 ≤ c ∧ c ≤ 15) → rd v1 c i = rd ws c i := fun c i hc => (o1 c i (by omega)).trans (ho c i (by omega))
  refine V_aload (v := ad 66) mi_100_59 (by simp [stL, lv_args, Value.category]) ?_
  refine V_gR mi_100_60 g66r7 (by omega) H1 ?_
  refine V_aload (v := ad 4) mi_100_63 (by simp [stL, lv_args, Value.category]) ?_
  refine V_gR mi_100_64 g4r7 (by omega) H1 ?_
  refine V_stat (As := [.ref (ad 68), .ref (ad 6)]) (st := []) mi_100_67 (by omega) (copy_ct a68 a6 H1 (by omega) (by omega) ⟨by omega, by omega⟩ ⟨by omega, by omega⟩) (by omega) (show 2 = mN 150 by decide +kernel) (by simp [Value.category]) ⟨Nat.le_refl _, Nat.le_refl _⟩ ?_
  rintro r v2 ⟨rfl, H2, o2, d2⟩
  replace h := HY_step h o2 (fun i hi => by rw [d2 i hi, ho _ _ (by omega)]; exact HX_HY hX 2 (by omega) i hi)
  replace ho : ∀ c i, ¬ (4 ≤ c ∧ c ≤ 15) → rd v2 c i = rd ws c i := fun c i hc => (o2 c i (by omega)).trans (ho c i (by omega))
  refine V_aload (v := ad 66) mi_100_70 (by simp [stL, lv_args, Value.category]) ?_
  refine V_gR mi_100_71 g66r8 (by omega) H2 ?_
  refine V_aload (v := ad 4) mi_100_74 (by simp [stL, lv_args, Value.category]) ?_
  refine V_gR mi_100_75 g4r8 (by omega) H2 ?_
  refine V_stat (As := [.ref (ad 69), .ref (ad 7)]) (st := []) mi_100_78 (by omega) (copy_ct a69 a7 H2 (by omega) (by omega) ⟨by omega, by omega⟩ ⟨by omega, by omega⟩) (by omega) (show 2 = mN 150 by decide +kernel) (by simp [Value.category]) ⟨Nat.le_refl _, Nat.le_refl _⟩ ?_
  rintro r v3 ⟨rfl, H3, o3, d3⟩
  replace h := HY_step h o3 (fun i hi => by rw [d3 i hi, ho _ _ (by omega)]; exact HX_HY hX 3 (by omega) i hi)
  replace ho : ∀ c i, ¬ (4 ≤ c ∧ c ≤ 15) → rd v3 c i = rd ws c i := fun c i hc => (o3 c i (by omega)).trans (ho c i (by omega))
  refine V_aload (v := ad 66) mi_100_81 (by simp [stL, lv_args, Value.category]) ?_
  refine V_gR mi_100_82 g66r9 (by omega) H3 ?_
  refine V_aload (v := ad 4) mi_100_85 (by simp [stL, lv_args, Value.category]) ?_
  refine V_gR mi_100_86 g4r9 (by omega) H3 ?_
  refine V_stat (As := [.ref (ad 70), .ref (ad 8)]) (st := []) mi_100_89 (by omega) (copy_ct a70 a8 H3 (by omega) (by omega) ⟨by omega, by omega⟩ ⟨by omega, by omega⟩) (by omega) (show 2 = mN 150 by decide +kernel) (by simp [Value.category]) ⟨Nat.le_refl _, Nat.le_refl _⟩ ?_
  rintro r v4 ⟨rfl, H4, o4, d4⟩
  replace h := HY_step h o4 (fun i hi => by rw [d4 i hi, ho _ _ (by omega)]; exact HX_HY hX 4 (by omega) i hi)
  replace ho : ∀ c i, ¬ (4 ≤ c ∧ c ≤ 15) → rd v4 c i = rd ws c i := fun c i hc => (o4 c i (by omega)).trans (ho c i (by omega))
  refine V_aload (v := ad 66) mi_100_92 (by simp [stL, lv_args, Value.category]) ?_
  refine V_gR mi_100_93 g66r10 (by omega) H4 ?_
  refine V_aload (v := ad 4) mi_100_96 (by simp [stL, lv_args, Value.category]) ?_
  refine V_gR mi_100_97 g4r10 (by omega) H4 ?_
  refine V_stat (As := [.ref (ad 71), .ref (ad 9)]) (st := []) mi_100_100 (by omega) (copy_ct a71 a9 H4 (by omega) (by omega) ⟨by omega, by omega⟩ ⟨by omega, by omega⟩) (by omega) (show 2 = mN 150 by decide +kernel) (by simp [Value.category]) ⟨Nat.le_refl _, Nat.le_refl _⟩ ?_
  rintro r v5 ⟨rfl, H5, o5, d5⟩
  replace h := HY_step h o5 (fun i hi => by rw [d5 i hi, ho _ _ (by omega)]; exact HX_HY hX 5 (by omega) i hi)
  replace ho : ∀ c i, ¬ (4 ≤ c ∧ c ≤ 15) → rd v5 c i = rd ws c i := fun c i hc => (o5 c i (by omega)).trans (ho c i (by omega))
  refine V_aload (v := ad 66) mi_100_103 (by simp [stL, lv_args, Value.category]) ?_
  refine V_gR mi_100_104 g66r11 (by omega) H5 ?_
  refine V_aload (v := ad 4) mi_100_107 (by simp [stL, lv_args, Value.category]) ?_
  refine V_gR mi_100_108 g4r11 (by omega) H5 ?_
  refine V_stat (As := [.ref (ad 72), .ref (ad 10)]) (st := []) mi_100_111 (by omega) (copy_ct a72 a10 H5 (by omega) (by omega) ⟨by omega, by omega⟩ ⟨by omega, by omega⟩) (by omega) (show 2 = mN 150 by decide +kernel) (by simp [Value.category]) ⟨Nat.le_refl _, Nat.le_refl _⟩ ?_
  rintro r v6 ⟨rfl, H6, o6, d6⟩
  replace h := HY_step h o6 (fun i hi => by rw [d6 i hi, ho _ _ (by omega)]; exact HX_HY hX 6 (by omega) i hi)
  replace ho : ∀ c i, ¬ (4 ≤ c ∧ c ≤ 15) → rd v6 c i = rd ws c i := fun c i hc => (o6 c i (by omega)).trans (ho c i (by omega))
  refine V_aload (v := ad 66) mi_100_114 (by simp [stL, lv_args, Value.category]) ?_
  refine V_gR mi_100_115 g66r12 (by omega) H6 ?_
  refine V_aload (v := ad 4) mi_100_118 (by simp [stL, lv_args, Value.category]) ?_
  refine V_gR mi_100_119 g4r12 (by omega) H6 ?_
  refine V_stat (As := [.ref (ad 73), .ref (ad 11)]) (st := []) mi_100_122 (by omega) (copy_ct a73 a11 H6 (by omega) (by omega) ⟨by omega, by omega⟩ ⟨by omega, by omega⟩) (by omega) (show 2 = mN 150 by decide +kernel) (by simp [Value.category]) ⟨Nat.le_refl _, Nat.le_refl _⟩ ?_
  rintro r v7 ⟨rfl, H7, o7, d7⟩
  replace h := HY_step h o7 (fun i hi => by rw [d7 i hi, ho _ _ (by omega)]; exact HX_HY hX 7 (by omega) i hi)
  replace ho : ∀ c i, ¬ (4 ≤ c ∧ c ≤ 15) → rd v7 c i = rd ws c i := fun c i hc => (o7 c i (by omega)).trans (ho c i (by omega))
  refine V_aload (v := ad 66) mi_100_125 (by simp [stL, lv_args, Value.category]) ?_
  refine V_gR mi_100_126 g66r13 (by omega) H7 ?_
  refine V_aload (v := ad 4) mi_100_129 (by simp [stL, lv_args, Value.category]) ?_
  refine V_gR mi_100_130 g4r13 (by omega) H7 ?_
  refine V_stat (As := [.ref (ad 74), .ref (ad 12)]) (st := []) mi_100_133 (by omega) (copy_ct a74 a12 H7 (by omega) (by omega) ⟨by omega, by omega⟩ ⟨by omega, by omega⟩) (by omega) (show 2 = mN 150 by decide +kernel) (by simp [Value.category]) ⟨Nat.le_refl _, Nat.le_refl _⟩ ?_
  rintro r v8 ⟨rfl, H8, o8, d8⟩
  replace h := HY_step h o8 (fun i hi => by rw [d8 i hi, ho _ _ (by omega)]; exact HX_HY hX 8 (by omega) i hi)
  replace ho : ∀ c i, ¬ (4 ≤ c ∧ c ≤ 15) → rd v8 c i = rd ws c i := fun c i hc => (o8 c i (by omega)).trans (ho c i (by omega))
  refine V_aload (v := ad 66) mi_100_136 (by simp [stL, lv_args, Value.category]) ?_
  refine V_gR mi_100_137 g66r14 (by omega) H8 ?_
  refine V_aload (v := ad 4) mi_100_140 (by simp [stL, lv_args, Value.category]) ?_
  refine V_gR mi_100_141 g4r14 (by omega) H8 ?_
  refine V_stat (As := [.ref (ad 75), .ref (ad 13)]) (st := []) mi_100_144 (by omega) (copy_ct a75 a13 H8 (by omega) (by omega) ⟨by omega, by omega⟩ ⟨by omega, by omega⟩) (by omega) (show 2 = mN 150 by decide +kernel) (by simp [Value.category]) ⟨Nat.le_refl _, Nat.le_refl _⟩ ?_
  rintro r v9 ⟨rfl, H9, o9, d9⟩
  replace h := HY_step h o9 (fun i hi => by rw [d9 i hi, ho _ _ (by omega)]; exact HX_HY hX 9 (by omega) i hi)
  replace ho : ∀ c i, ¬ (4 ≤ c ∧ c ≤ 15) → rd v9 c i = rd ws c i := fun c i hc => (o9 c i (by omega)).trans (ho c i (by omega))
  refine V_aload (v := ad 66) mi_100_147 (by simp [stL, lv_args, Value.category]) ?_
  refine V_gR mi_100_148 g66r15 (by omega) H9 ?_
  refine V_aload (v := ad 4) mi_100_151 (by simp [stL, lv_args, Value.category]) ?_
  refine V_gR mi_100_152 g4r15 (by omega) H9 ?_
  refine V_stat (As := [.ref (ad 76), .ref (ad 14)]) (st := []) mi_100_155 (by omega) (copy_ct a76 a14 H9 (by omega) (by omega) ⟨by omega, by omega⟩ ⟨by omega, by omega⟩) (by omega) (show 2 = mN 150 by decide +kernel) (by simp [Value.category]) ⟨Nat.le_refl _, Nat.le_refl _⟩ ?_
  rintro r v10 ⟨rfl, H10, o10, d10⟩
  replace h := HY_step h o10 (fun i hi => by rw [d10 i hi, ho _ _ (by omega)]; exact HX_HY hX 10 (by omega) i hi)
  replace ho : ∀ c i, ¬ (4 ≤ c ∧ c ≤ 15) → rd v10 c i = rd ws c i := fun c i hc => (o10 c i (by omega)).trans (ho c i (by omega))
  refine V_aload (v := ad 66) mi_100_158 (by simp [stL, lv_args, Value.category]) ?_
  refine V_gR mi_100_159 g66r16 (by omega) H10 ?_
  refine V_aload (v := ad 4) mi_100_162 (by simp [stL, lv_args, Value.category]) ?_
  refine V_gR mi_100_163 g4r16 (by omega) H10 ?_
  refine V_stat (As := [.ref (ad 77), .ref (ad 15)]) (st := []) mi_100_166 (by omega) (copy_ct a77 a15 H10 (by omega) (by omega) ⟨by omega, by omega⟩ ⟨by omega, by omega⟩) (by omega) (show 2 = mN 150 by decide +kernel) (by simp [Value.category]) ⟨Nat.le_refl _, Nat.le_refl _⟩ ?_
  rintro r v11 ⟨rfl, H11, o11, d11⟩
  replace h := HY_step h o11 (fun i hi => by rw [d11 i hi, ho _ _ (by omega)]; exact HX_HY hX 11 (by omega) i hi)
  replace ho : ∀ c i, ¬ (4 ≤ c ∧ c ≤ 15) → rd v11 c i = rd ws c i := fun c i hc => (o11 c i (by omega)).trans (ho c i (by omega))
  exact V_retV mi_100_169 ⟨rfl, H11, HY_HX h, ho⟩
theorem cpf_78_4 {g : Nat → Int} (hG : GOK ad tys GG ws) (hX : HX 4 g ws) : CT l D tys A 100 1 0 0 [.ref (ad 78), .ref (ad 4)] ws (fun r w => r = none ∧ GOK ad tys GG w ∧ HX 78 g w ∧ ∀ c i, ¬ (78 ≤ c ∧ c ≤ 89) → rd w c i = rd ws c i) := by
  refine CT_of_V (by omega) (show (2 : Nat) ≤ mML 100 by decide +kernel) ?_
  refine V_aload (v := ad 78) mi_100_0 (by simp [stL, lv_args, Value.category]) ?_
  refine V_aload (v := ad 4) mi_100_1 (by simp [stL, lv_args, Value.category]) ?_
  obtain ⟨p0, hp0, lo0, hi0⟩ := celO hG g4f0 (by omega)
  refine V_gO mi_100_2 g4o hG (hp0) ?_
  refine V_pO mi_100_5 g78f0 (by omega) (by decide +kernel) (by decide +kernel) hG (by rw [Int32.toInt_ofInt_of_le (by omega) (by omega)]; omega) (by rw [Int32.toInt_ofInt_of_le (by omega) (by omega)]; omega) (fun w0 G0 U0 => ?_)
  refine V_aload (v := ad 78) mi_100_8 (by simp [stL, lv_args, Value.category]) ?_
  refine V_aload (v := ad 4) mi_100_9 (by simp [stL, lv_args, Value.category]) ?_
  obtain ⟨p1, hp1, lo1, hi1⟩ := celO hG g4f1 (by omega)
  refine V_gO mi_100_10 g4o G0 ((upd_ne U0 (by omega)).trans hp1) ?_
  refine V_pO mi_100_13 g78f1 (by omega) (by decide +kernel) (by decide +kernel) G0 (by rw [Int32.toInt_ofInt_of_le (by omega) (by omega)]; omega) (by rw [Int32.toInt_ofInt_of_le (by omega) (by omega)]; omega) (fun w1 G1 U1 => ?_)
  refine V_aload (v := ad 78) mi_100_16 (by simp [stL, lv_args, Value.category]) ?_
  refine V_aload (v := ad 4) mi_100_17 (by simp [stL, lv_args, Value.category]) ?_
  obtain ⟨p2, hp2, lo2, hi2⟩ := celO hG g4f2 (by omega)
  refine V_gO mi_100_18 g4o G1 ((upd_ne U1 (by omega)).trans ((upd_ne U0 (by omega)).trans hp2)) ?_
  refine V_pO mi_100_21 g78f2 (by omega) (by decide +kernel) (by decide +kernel) G1 (by rw [Int32.toInt_ofInt_of_le (by omega) (by omega)]; omega) (by rw [Int32.toInt_ofInt_of_le (by omega) (by omega)]; omega) (fun w2 G2 U2 => ?_)
  refine V_aload (v := ad 78) mi_100_24 (by simp [stL, lv_args, Value.category]) ?_
  refine V_aload (v := ad 4) mi_100_25 (by simp [stL, lv_args, Value.category]) ?_
  obtain ⟨p3, hp3, lo3, hi3⟩ := celO hG g4f3 (by omega)
  refine V_gO mi_100_26 g4o G2 ((upd_ne U2 (by omega)).trans ((upd_ne U1 (by omega)).trans ((upd_ne U0 (by omega)).trans hp3))) ?_
  refine V_pO mi_100_29 g78f3 (by omega) (by decide +kernel) (by decide +kernel) G2 (by rw [Int32.toInt_ofInt_of_le (by omega) (by omega)]; omega) (by rw [Int32.toInt_ofInt_of_le (by omega) (by omega)]; omega) (fun w3 G3 U3 => ?_)
  refine V_aload (v := ad 78) mi_100_32 (by simp [stL, lv_args, Value.category]) ?_
  refine V_aload (v := ad 4) mi_100_33 (by simp [stL, lv_args, Value.category]) ?_
  obtain ⟨p4, hp4, lo4, hi4⟩ := celO hG g4f4 (by omega)
  refine V_gO mi_100_34 g4o G3 ((upd_ne U3 (by omega)).trans ((upd_ne U2 (by omega)).trans ((upd_ne U1 (by omega)).trans ((upd_ne U0 (by omega)).trans hp4)))) ?_
  refine V_pO mi_100_37 g78f4 (by omega) (by decide +kernel) (by decide +kernel) G3 (by rw [Int32.toInt_ofInt_of_le (by omega) (by omega)]; omega) (by rw [Int32.toInt_ofInt_of_le (by omega) (by omega)]; omega) (fun w4 G4 U4 => ?_)
  refine V_aload (v := ad 78) mi_100_40 (by simp [stL, lv_args, Value.category]) ?_
  refine V_aload (v := ad 4) mi_100_41 (by simp [stL, lv_args, Value.category]) ?_
  obtain ⟨p5, hp5, lo5, hi5⟩ := celO hG g4f5 (by omega)
  refine V_gO mi_100_42 g4o G4 ((upd_ne U4 (by omega)).trans ((upd_ne U3 (by omega)).trans ((upd_ne U2 (by omega)).trans ((upd_ne U1 (by omega)).trans ((upd_ne U0 (by omega)).trans hp5))))) ?_
  refine V_pO mi_100_45 g78f5 (by omega) (by decide +kernel) (by decide +kernel) G4 (by rw [Int32.toInt_ofInt_of_le (by omega) (by omega)]; omega) (by rw [Int32.toInt_ofInt_of_le (by omega) (by omega)]; omega) (fun w5 G5 U5 => ?_)
  have ho : ∀ c i, c ≠ 78 → rd w5 c i = rd ws c i := fun c i hc => (upd_ne U5 (by omega)).trans ((upd_ne U4 (by omega)).trans ((upd_ne U3 (by omega)).trans ((upd_ne U2 (by omega)).trans ((upd_ne U1 (by omega)).trans (upd_ne U0 (by omega))))))
  have h : HY 78 1 g w5 := fun k hk i hi => by
    have k0 : k = 0 := by omega
    subst k0
    have hi : i < 6 := hi
    rw [← hx0 hX hi]
    have e0 : rd w5 78 0 = rd ws 4 0 := by rw [hp0]; exact (upd_ne U5 (by omega)).trans ((upd_ne U4 (by omega)).trans ((upd_ne U3 (by omega)).trans ((upd_ne U2 (by omega)).trans ((upd_ne U1 (by omega)).trans (upd_eq U0)))))
    have e1 : rd w5 78 1 = rd ws 4 1 := by rw [hp1]; exact (upd_ne U5 (by omega)).trans ((upd_ne U4 (by omega)).trans ((upd_ne U3 (by omega)).trans ((upd_ne U2 (by omega)).trans (upd_eq U1))))
    have e2 : rd w5 78 2 = rd ws 4 2 := by rw [hp2]; exact (upd_ne U5 (by omega)).trans ((upd_ne U4 (by omega)).trans ((upd_ne U3 (by omega)).trans (upd_eq U2)))
    have e3 : rd w5 78 3 = rd ws 4 3 := by rw [hp3]; exact (upd_ne U5 (by omega)).trans ((upd_ne U4 (by omega)).trans (upd_eq U3))
    have e4 : rd w5 78 4 = rd ws 4 4 := by rw [hp4]; exact (upd_ne U5 (by omega)).trans (upd_eq U4)
    have e5 : rd w5 78 5 = rd ws 4 5 := by rw [hp5]; exact upd_eq U5
    rcases i with _ | _ | _ | _ | _ | _ | i
    · exact e0
    · exact e1
    · exact e2
    · exact e3
    · exact e4
    · exact e5
    · omega
  refine V_aload (v := ad 4) mi_100_48 (by simp [stL, lv_args, Value.category]) ?_
  refine V_gR mi_100_49 g4r6 (by omega) G5 ?_
  refine V_aload (v := ad 78) mi_100_52 (by simp [stL, lv_args, Value.category]) ?_
  refine V_gR mi_100_53 g78r6 (by omega) G5 ?_
  refine V_stat (As := [.ref (ad 5), .ref (ad 79)]) (st := []) mi_100_56 (by omega) (copy_ct a5 a79 G5 (by omega) (by omega) ⟨by omega, by omega⟩ ⟨by omega, by omega⟩) (by omega) (show 2 = mN 150 by decide +kernel) (by simp [Value.category]) ⟨Nat.le_refl _, Nat.le_refl _⟩ ?_
  rintro r v1 ⟨rfl, H1, o1, d1⟩
  replace h := HY_step h o1 (fun i hi => by rw [d1 i hi, ho _ _ (by omega)]; exact HX_HY hX 1 (by omega) i hi)
  replace ho : ∀ c i, ¬ (78 ≤ c ∧ c ≤ 89) → rd v1 c i = rd ws c i := fun c i hc => (o1 c i (by omega)).trans (ho c i (by omega))
  refine V_aload (v := ad 4) mi_100_59 (by simp [stL, lv_args, Value.category]) ?_
  refine V_gR mi_100_60 g4r7 (by omega) H1 ?_
  refine V_aload (v := ad 78) mi_100_63 (by simp [stL, lv_args, Value.category]) ?_
  refine V_gR mi_100_64 g78r7 (by omega) H1 ?_
  refine V_stat (As := [.ref (ad 6), .ref (ad 80)]) (st := []) mi_100_67 (by omega) (copy_ct a6 a80 H1 (by omega) (by omega) ⟨by omega, by omega⟩ ⟨by omega, by omega⟩) (by omega) (show 2 = mN 150 by decide +kernel) (by simp [Value.category]) ⟨Nat.le_refl _, Nat.le_refl _⟩ ?_
  rintro r v2 ⟨rfl, H2, o2, d2⟩
  replace h := HY_step h o2 (fun i hi => by rw [d2 i hi, ho _ _ (by omega)]; exact HX_HY hX 2 (by omega) i hi)
  replace ho : ∀ c i, ¬ (78 ≤ c ∧ c ≤ 89) → rd v2 c i = rd ws c i := fun c i hc => (o2 c i (by omega)).trans (ho c i (by omega))
  refine V_aload (v := ad 4) mi_100_70 (by simp [stL, lv_args, Value.category]) ?_
  refine V_gR mi_100_71 g4r8 (by omega) H2 ?_
  refine V_aload (v := ad 78) mi_100_74 (by simp [stL, lv_args, Value.category]) ?_
  refine V_gR mi_100_75 g78r8 (by omega) H2 ?_
  refine V_stat (As := [.ref (ad 7), .ref (ad 81)]) (st := []) mi_100_78 (by omega) (copy_ct a7 a81 H2 (by omega) (by omega) ⟨by omega, by omega⟩ ⟨by omega, by omega⟩) (by omega) (show 2 = mN 150 by decide +kernel) (by simp [Value.category]) ⟨Nat.le_refl _, Nat.le_refl _⟩ ?_
  rintro r v3 ⟨rfl, H3, o3, d3⟩
  replace h := HY_step h o3 (fun i hi => by rw [d3 i hi, ho _ _ (by omega)]; exact HX_HY hX 3 (by omega) i hi)
  replace ho : ∀ c i, ¬ (78 ≤ c ∧ c ≤ 89) → rd v3 c i = rd ws c i := fun c i hc => (o3 c i (by omega)).trans (ho c i (by omega))
  refine V_aload (v := ad 4) mi_100_81 (by simp [stL, lv_args, Value.category]) ?_
  refine V_gR mi_100_82 g4r9 (by omega) H3 ?_
  refine V_aload (v := ad 78) mi_100_85 (by simp [stL, lv_args, Value.category]) ?_
  refine V_gR mi_100_86 g78r9 (by omega) H3 ?_
  refine V_stat (As := [.ref (ad 8), .ref (ad 82)]) (st := []) mi_100_89 (by omega) (copy_ct a8 a82 H3 (by omega) (by omega) ⟨by omega, by omega⟩ ⟨by omega, by omega⟩) (by omega) (show 2 = mN 150 by decide +kernel) (by simp [Value.category]) ⟨Nat.le_refl _, Nat.le_refl _⟩ ?_
  rintro r v4 ⟨rfl, H4, o4, d4⟩
  replace h := HY_step h o4 (fun i hi => by rw [d4 i hi, ho _ _ (by omega)]; exact HX_HY hX 4 (by omega) i hi)
  replace ho : ∀ c i, ¬ (78 ≤ c ∧ c ≤ 89) → rd v4 c i = rd ws c i := fun c i hc => (o4 c i (by omega)).trans (ho c i (by omega))
  refine V_aload (v := ad 4) mi_100_92 (by simp [stL, lv_args, Value.category]) ?_
  refine V_gR mi_100_93 g4r10 (by omega) H4 ?_
  refine V_aload (v := ad 78) mi_100_96 (by simp [stL, lv_args, Value.category]) ?_
  refine V_gR mi_100_97 g78r10 (by omega) H4 ?_
  refine V_stat (As := [.ref (ad 9), .ref (ad 83)]) (st := []) mi_100_100 (by omega) (copy_ct a9 a83 H4 (by omega) (by omega) ⟨by omega, by omega⟩ ⟨by omega, by omega⟩) (by omega) (show 2 = mN 150 by decide +kernel) (by simp [Value.category]) ⟨Nat.le_refl _, Nat.le_refl _⟩ ?_
  rintro r v5 ⟨rfl, H5, o5, d5⟩
  replace h := HY_step h o5 (fun i hi => by rw [d5 i hi, ho _ _ (by omega)]; exact HX_HY hX 5 (by omega) i hi)
  replace ho : ∀ c i, ¬ (78 ≤ c ∧ c ≤ 89) → rd v5 c i = rd ws c i := fun c i hc => (o5 c i (by omega)).trans (ho c i (by omega))
  refine V_aload (v := ad 4) mi_100_103 (by simp [stL, lv_args, Value.category]) ?_
  refine V_gR mi_100_104 g4r11 (by omega) H5 ?_
  refine V_aload (v := ad 78) mi_100_107 (by simp [stL, lv_args, Value.category]) ?_
  refine V_gR mi_100_108 g78r11 (by omega) H5 ?_
  refine V_stat (As := [.ref (ad 10), .ref (ad 84)]) (st := []) mi_100_111 (by omega) (copy_ct a10 a84 H5 (by omega) (by omega) ⟨by omega, by omega⟩ ⟨by omega, by omega⟩) (by omega) (show 2 = mN 150 by decide +kernel) (by simp [Value.category]) ⟨Nat.le_refl _, Nat.le_refl _⟩ ?_
  rintro r v6 ⟨rfl, H6, o6, d6⟩
  replace h := HY_step h o6 (fun i hi => by rw [d6 i hi, ho _ _ (by omega)]; exact HX_HY hX 6 (by omega) i hi)
  replace ho : ∀ c i, ¬ (78 ≤ c ∧ c ≤ 89) → rd v6 c i = rd ws c i := fun c i hc => (o6 c i (by omega)).trans (ho c i (by omega))
  refine V_aload (v := ad 4) mi_100_114 (by simp [stL, lv_args, Value.category]) ?_
  refine V_gR mi_100_115 g4r12 (by omega) H6 ?_
  refine V_aload (v := ad 78) mi_100_118 (by simp [stL, lv_args, Value.category]) ?_
  refine V_gR mi_100_119 g78r12 (by omega) H6 ?_
  refine V_stat (As := [.ref (ad 11), .ref (ad 85)]) (st := []) mi_100_122 (by omega) (copy_ct a11 a85 H6 (by omega) (by omega) ⟨by omega, by omega⟩ ⟨by omega, by omega⟩) (by omega) (show 2 = mN 150 by decide +kernel) (by simp [Value.category]) ⟨Nat.le_refl _, Nat.le_refl _⟩ ?_
  rintro r v7 ⟨rfl, H7, o7, d7⟩
  replace h := HY_step h o7 (fun i hi => by rw [d7 i hi, ho _ _ (by omega)]; exact HX_HY hX 7 (by omega) i hi)
  replace ho : ∀ c i, ¬ (78 ≤ c ∧ c ≤ 89) → rd v7 c i = rd ws c i := fun c i hc => (o7 c i (by omega)).trans (ho c i (by omega))
  refine V_aload (v := ad 4) mi_100_125 (by simp [stL, lv_args, Value.category]) ?_
  refine V_gR mi_100_126 g4r13 (by omega) H7 ?_
  refine V_aload (v := ad 78) mi_100_129 (by simp [stL, lv_args, Value.category]) ?_
  refine V_gR mi_100_130 g78r13 (by omega) H7 ?_
  refine V_stat (As := [.ref (ad 12), .ref (ad 86)]) (st := []) mi_100_133 (by omega) (copy_ct a12 a86 H7 (by omega) (by omega) ⟨by omega, by omega⟩ ⟨by omega, by omega⟩) (by omega) (show 2 = mN 150 by decide +kernel) (by simp [Value.category]) ⟨Nat.le_refl _, Nat.le_refl _⟩ ?_
  rintro r v8 ⟨rfl, H8, o8, d8⟩
  replace h := HY_step h o8 (fun i hi => by rw [d8 i hi, ho _ _ (by omega)]; exact HX_HY hX 8 (by omega) i hi)
  replace ho : ∀ c i, ¬ (78 ≤ c ∧ c ≤ 89) → rd v8 c i = rd ws c i := fun c i hc => (o8 c i (by omega)).trans (ho c i (by omega))
  refine V_aload (v := ad 4) mi_100_136 (by simp [stL, lv_args, Value.category]) ?_
  refine V_gR mi_100_137 g4r14 (by omega) H8 ?_
  refine V_aload (v := ad 78) mi_100_140 (by simp [stL, lv_args, Value.category]) ?_
  refine V_gR mi_100_141 g78r14 (by omega) H8 ?_
  refine V_stat (As := [.ref (ad 13), .ref (ad 87)]) (st := []) mi_100_144 (by omega) (copy_ct a13 a87 H8 (by omega) (by omega) ⟨by omega, by omega⟩ ⟨by omega, by omega⟩) (by omega) (show 2 = mN 150 by decide +kernel) (by simp [Value.category]) ⟨Nat.le_refl _, Nat.le_refl _⟩ ?_
  rintro r v9 ⟨rfl, H9, o9, d9⟩
  replace h := HY_step h o9 (fun i hi => by rw [d9 i hi, ho _ _ (by omega)]; exact HX_HY hX 9 (by omega) i hi)
  replace ho : ∀ c i, ¬ (78 ≤ c ∧ c ≤ 89) → rd v9 c i = rd ws c i := fun c i hc => (o9 c i (by omega)).trans (ho c i (by omega))
  refine V_aload (v := ad 4) mi_100_147 (by simp [stL, lv_args, Value.category]) ?_
  refine V_gR mi_100_148 g4r15 (by omega) H9 ?_
  refine V_aload (v := ad 78) mi_100_151 (by simp [stL, lv_args, Value.category]) ?_
  refine V_gR mi_100_152 g78r15 (by omega) H9 ?_
  refine V_stat (As := [.ref (ad 14), .ref (ad 88)]) (st := []) mi_100_155 (by omega) (copy_ct a14 a88 H9 (by omega) (by omega) ⟨by omega, by omega⟩ ⟨by omega, by omega⟩) (by omega) (show 2 = mN 150 by decide +kernel) (by simp [Value.category]) ⟨Nat.le_refl _, Nat.le_refl _⟩ ?_
  rintro r v10 ⟨rfl, H10, o10, d10⟩
  replace h := HY_step h o10 (fun i hi => by rw [d10 i hi, ho _ _ (by omega)]; exact HX_HY hX 10 (by omega) i hi)
  replace ho : ∀ c i, ¬ (78 ≤ c ∧ c ≤ 89) → rd v10 c i = rd ws c i := fun c i hc => (o10 c i (by omega)).trans (ho c i (by omega))
  refine V_aload (v := ad 4) mi_100_158 (by simp [stL, lv_args, Value.category]) ?_
  refine V_gR mi_100_159 g4r16 (by omega) H10 ?_
  refine V_aload (v := ad 78) mi_100_162 (by simp [stL, lv_args, Value.category]) ?_
  refine V_gR mi_100_163 g78r16 (by omega) H10 ?_
  refine V_stat (As := [.ref (ad 15), .ref (ad 89)]) (st := []) mi_100_166 (by omega) (copy_ct a15 a89 H10 (by omega) (by omega) ⟨by omega, by omega⟩ ⟨by omega, by omega⟩) (by omega) (show 2 = mN 150 by decide +kernel) (by simp [Value.category]) ⟨Nat.le_refl _, Nat.le_refl _⟩ ?_
  rintro r v11 ⟨rfl, H11, o11, d11⟩
  replace h := HY_step h o11 (fun i hi => by rw [d11 i hi, ho _ _ (by omega)]; exact HX_HY hX 11 (by omega) i hi)
  replace ho : ∀ c i, ¬ (78 ≤ c ∧ c ≤ 89) → rd v11 c i = rd ws c i := fun c i hc => (o11 c i (by omega)).trans (ho c i (by omega))
  exact V_retV mi_100_169 ⟨rfl, H11, HY_HX h, ho⟩
theorem cpf_4_78 {g : Nat → Int} (hG : GOK ad tys GG ws) (hX : HX 78 g ws) : CT l D tys A 100 1 0 0 [.ref (ad 4), .ref (ad 78)] ws (fun r w => r = none ∧ GOK ad tys GG w ∧ HX 4 g w ∧ ∀ c i, ¬ (4 ≤ c ∧ c ≤ 15) → rd w c i = rd ws c i) := by
  refine CT_of_V (by omega) (show (2 : Nat) ≤ mML 100 by decide +kernel) ?_
  refine V_aload (v := ad 4) mi_100_0 (by simp [stL, lv_args, Value.category]) ?_
  refine V_aload (v := ad 78) mi_100_1 (by simp [stL, lv_args, Value.category]) ?_
  obtain ⟨p0, hp0, lo0, hi0⟩ := celO hG g78f0 (by omega)
  refine V_gO mi_100_2 g78o hG (hp0) ?_
  refine V_pO mi_100_5 g4f0 (by omega) (by decide +kernel) (by decide +kernel) hG (by rw [Int32.toInt_ofInt_of_le (by omega) (by omega)]; omega) (by rw [Int32.toInt_ofInt_of_le (by omega) (by omega)]; omega) (fun w0 G0 U0 => ?_)
  refine V_aload (v := ad 4) mi_100_8 (by simp [stL, lv_args, Value.category]) ?_
  refine V_aload (v := ad 78) mi_100_9 (by simp [stL, lv_args, Value.category]) ?_
  obtain ⟨p1, hp1, lo1, hi1⟩ := celO hG g78f1 (by omega)
  refine V_gO mi_100_10 g78o G0 ((upd_ne U0 (by omega)).trans hp1) ?_
  refine V_pO mi_100_13 g4f1 (by omega) (by decide +kernel) (by decide +kernel) G0 (by rw [Int32.toInt_ofInt_of_le (by omega) (by omega)]; omega) (by rw [Int32.toInt_ofInt_of_le (by omega) (by omega)]; omega) (fun w1 G1 U1 => ?_)
  refine V_aload (v := ad 4) mi_100_16 (by simp [stL, lv_args, Value.category]) ?_
  refine V_aload (v := ad 78) mi_100_17 (by simp [stL, lv_args, Value.category]) ?_
  obtain ⟨p2, hp2, lo2, hi2⟩ := celO hG g78f2 (by omega)
  refine V_gO mi_100_18 g78o G1 ((upd_ne U1 (by omega)).trans ((upd_ne U0 (by omega)).trans hp2)) ?_
  refine V_pO mi_100_21 g4f2 (by omega) (by decide +kernel) (by decide +kernel) G1 (by rw [Int32.toInt_ofInt_of_le (by omega) (by omega)]; omega) (by rw [Int32.toInt_ofInt_of_le (by omega) (by omega)]; omega) (fun w2 G2 U2 => ?_)
  refine V_aload (v := ad 4) mi_100_24 (by simp [stL, lv_args, Value.category]) ?_
  refine V_aload (v := ad 78) mi_100_25 (by simp [stL, lv_args, Value.category]) ?_
  obtain ⟨p3, hp3, lo3, hi3⟩ := celO hG g78f3 (by omega)
  refine V_gO mi_100_26 g78o G2 ((upd_ne U2 (by omega)).trans ((upd_ne U1 (by omega)).trans ((upd_ne U0 (by omega)).trans hp3))) ?_
  refine V_pO mi_100_29 g4f3 (by omega) (by decide +kernel) (by decide +kernel) G2 (by rw [Int32.toInt_ofInt_of_le (by omega) (by omega)]; omega) (by rw [Int32.toInt_ofInt_of_le (by omega) (by omega)]; omega) (fun w3 G3 U3 => ?_)
  refine V_aload (v := ad 4) mi_100_32 (by simp [stL, lv_args, Value.category]) ?_
  refine V_aload (v := ad 78) mi_100_33 (by simp [stL, lv_args, Value.category]) ?_
  obtain ⟨p4, hp4, lo4, hi4⟩ := celO hG g78f4 (by omega)
  refine V_gO mi_100_34 g78o G3 ((upd_ne U3 (by omega)).trans ((upd_ne U2 (by omega)).trans ((upd_ne U1 (by omega)).trans ((upd_ne U0 (by omega)).trans hp4)))) ?_
  refine V_pO mi_100_37 g4f4 (by omega) (by decide +kernel) (by decide +kernel) G3 (by rw [Int32.toInt_ofInt_of_le (by omega) (by omega)]; omega) (by rw [Int32.toInt_ofInt_of_le (by omega) (by omega)]; omega) (fun w4 G4 U4 => ?_)
  refine V_aload (v := ad 4) mi_100_40 (by simp [stL, lv_args, Value.category]) ?_
  refine V_aload (v := ad 78) mi_100_41 (by simp [stL, lv_args, Value.category]) ?_
  obtain ⟨p5, hp5, lo5, hi5⟩ := celO hG g78f5 (by omega)
  refine V_gO mi_100_42 g78o G4 ((upd_ne U4 (by omega)).trans ((upd_ne U3 (by omega)).trans ((upd_ne U2 (by omega)).trans ((upd_ne U1 (by omega)).trans ((upd_ne U0 (by omega)).trans hp5))))) ?_
  refine V_pO mi_100_45 g4f5 (by omega) (by decide +kernel) (by decide +kernel) G4 (by rw [Int32.toInt_ofInt_of_le (by omega) (by omega)]; omega) (by rw [Int32.toInt_ofInt_of_le (by omega) (by omega)]; omega) (fun w5 G5 U5 => ?_)
  have ho : ∀ c i, c ≠ 4 → rd w5 c i = rd ws c i := fun c i hc => (upd_ne U5 (by omega)).trans ((upd_ne U4 (by omega)).trans ((upd_ne U3 (by omega)).trans ((upd_ne U2 (by omega)).trans ((upd_ne U1 (by omega)).trans (upd_ne U0 (by omega))))))
  have h : HY 4 1 g w5 := fun k hk i hi => by
    have k0 : k = 0 := by omega
    subst k0
    have hi : i < 6 := hi
    rw [← hx0 hX hi]
    have e0 : rd w5 4 0 = rd ws 78 0 := by rw [hp0]; exact (upd_ne U5 (by omega)).trans ((upd_ne U4 (by omega)).trans ((upd_ne U3 (by omega)).trans ((upd_ne U2 (by omega)).trans ((upd_ne U1 (by omega)).trans (upd_eq U0)))))
    have e1 : rd w5 4 1 = rd ws 78 1 := by rw [hp1]; exact (upd_ne U5 (by omega)).trans ((upd_ne U4 (by omega)).trans ((upd_ne U3 (by omega)).trans ((upd_ne U2 (by omega)).trans (upd_eq U1))))
    have e2 : rd w5 4 2 = rd ws 78 2 := by rw [hp2]; exact (upd_ne U5 (by omega)).trans ((upd_ne U4 (by omega)).trans ((upd_ne U3 (by omega)).trans (upd_eq U2)))
    have e3 : rd w5 4 3 = rd ws 78 3 := by rw [hp3]; exact (upd_ne U5 (by omega)).trans ((upd_ne U4 (by omega)).trans (upd_eq U3))
    have e4 : rd w5 4 4 = rd ws 78 4 := by rw [hp4]; exact (upd_ne U5 (by omega)).trans (upd_eq U4)
    have e5 : rd w5 4 5 = rd ws 78 5 := by rw [hp5]; exact upd_eq U5
    rcases i with _ | _ | _ | _ | _ | _ | i
    · exact e0
    · exact e1
    · exact e2
    · exact e3
    · exact e4
    · exact e5
    · omega
  refine V_aload (v := ad 78) mi_100_48 (by simp [stL, lv_args, Value.category]) ?_
  refine V_gR mi_100_49 g78r6 (by omega) G5 ?_
  refine V_aload (v := ad 4) mi_100_52 (by simp [stL, lv_args, Value.category]) ?_
  refine V_gR mi_100_53 g4r6 (by omega) G5 ?_
  refine V_stat (As := [.ref (ad 79), .ref (ad 5)]) (st := []) mi_100_56 (by omega) (copy_ct a79 a5 G5 (by omega) (by omega) ⟨by omega, by omega⟩ ⟨by omega, by omega⟩) (by omega) (show 2 = mN 150 by decide +kernel) (by simp [Value.category]) ⟨Nat.le_refl _, Nat.le_refl _⟩ ?_
  rintro r v1 ⟨rfl, H1, o1, d1⟩
  replace h := HY_step h o1 (fun i hi => by rw [d1 i hi, ho _ _ (by omega)]; exact HX_HY hX 1 (by omega) i hi)
  replace ho : ∀ c i, ¬ (4 ≤ c ∧ c ≤ 15) → rd v1 c i = rd ws c i := fun c i hc => (o1 c i (by omega)).trans (ho c i (by omega))
  refine V_aload (v := ad 78) mi_100_59 (by simp [stL, lv_args, Value.category]) ?_
  refine V_gR mi_100_60 g78r7 (by omega) H1 ?_
  refine V_aload (v := ad 4) mi_100_63 (by simp [stL, lv_args, Value.category]) ?_
  refine V_gR mi_100_64 g4r7 (by omega) H1 ?_
  refine V_stat (As := [.ref (ad 80), .ref (ad 6)]) (st := []) mi_100_67 (by omega) (copy_ct a80 a6 H1 (by omega) (by omega) ⟨by omega, by omega⟩ ⟨by omega, by omega⟩) (by omega) (show 2 = mN 150 by decide +kernel) (by simp [Value.category]) ⟨Nat.le_refl _, Nat.le_refl _⟩ ?_
  rintro r v2 ⟨rfl, H2, o2, d2⟩
  replace h := HY_step h o2 (fun i hi => by rw [d2 i hi, ho _ _ (by omega)]; exact HX_HY hX 2 (by omega) i hi)
  replace ho : ∀ c i, ¬ (4 ≤ c ∧ c ≤ 15) → rd v2 c i = rd ws c i := fun c i hc => (o2 c i (by omega)).trans (ho c i (by omega))
  refine V_aload (v := ad 78) mi_100_70 (by simp [stL, lv_args, Value.category]) ?_
  refine V_gR mi_100_71 g78r8 (by omega) H2 ?_
  refine V_aload (v := ad 4) mi_100_74 (by simp [stL, lv_args, Value.category]) ?_
  refine V_gR mi_100_75 g4r8 (by omega) H2 ?_
  refine V_stat (As := [.ref (ad 81), .ref (ad 7)]) (st := []) mi_100_78 (by omega) (copy_ct a81 a7 H2 (by omega) (by omega) ⟨by omega, by omega⟩ ⟨by omega, by omega⟩) (by omega) (show 2 = mN 150 by decide +kernel) (by simp [Value.category]) ⟨Nat.le_refl _, Nat.le_refl _⟩ ?_
  rintro r v3 ⟨rfl, H3, o3, d3⟩
  replace h := HY_step h o3 (fun i hi => by rw [d3 i hi, ho _ _ (by omega)]; exact HX_HY hX 3 (by omega) i hi)
  replace ho : ∀ c i, ¬ (4 ≤ c ∧ c ≤ 15) → rd v3 c i = rd ws c i := fun c i hc => (o3 c i (by omega)).trans (ho c i (by omega))
  refine V_aload (v := ad 78) mi_100_81 (by simp [stL, lv_args, Value.category]) ?_
  refine V_gR mi_100_82 g78r9 (by omega) H3 ?_
  refine V_aload (v := ad 4) mi_100_85 (by simp [stL, lv_args, Value.category]) ?_
  refine V_gR mi_100_86 g4r9 (by omega) H3 ?_
  refine V_stat (As := [.ref (ad 82), .ref (ad 8)]) (st := []) mi_100_89 (by omega) (copy_ct a82 a8 H3 (by omega) (by omega) ⟨by omega, by omega⟩ ⟨by omega, by omega⟩) (by omega) (show 2 = mN 150 by decide +kernel) (by simp [Value.category]) ⟨Nat.le_refl _, Nat.le_refl _⟩ ?_
  rintro r v4 ⟨rfl, H4, o4, d4⟩
  replace h := HY_step h o4 (fun i hi => by rw [d4 i hi, ho _ _ (by omega)]; exact HX_HY hX 4 (by omega) i hi)
  replace ho : ∀ c i, ¬ (4 ≤ c ∧ c ≤ 15) → rd v4 c i = rd ws c i := fun c i hc => (o4 c i (by omega)).trans (ho c i (by omega))
  refine V_aload (v := ad 78) mi_100_92 (by simp [stL, lv_args, Value.category]) ?_
  refine V_gR mi_100_93 g78r10 (by omega) H4 ?_
  refine V_aload (v := ad 4) mi_100_96 (by simp [stL, lv_args, Value.category]) ?_
  refine V_gR mi_100_97 g4r10 (by omega) H4 ?_
  refine V_stat (As := [.ref (ad 83), .ref (ad 9)]) (st := []) mi_100_100 (by omega) (copy_ct a83 a9 H4 (by omega) (by omega) ⟨by omega, by omega⟩ ⟨by omega, by omega⟩) (by omega) (show 2 = mN 150 by decide +kernel) (by simp [Value.category]) ⟨Nat.le_refl _, Nat.le_refl _⟩ ?_
  rintro r v5 ⟨rfl, H5, o5, d5⟩
  replace h := HY_step h o5 (fun i hi => by rw [d5 i hi, ho _ _ (by omega)]; exact HX_HY hX 5 (by omega) i hi)
  replace ho : ∀ c i, ¬ (4 ≤ c ∧ c ≤ 15) → rd v5 c i = rd ws c i := fun c i hc => (o5 c i (by omega)).trans (ho c i (by omega))
  refine V_aload (v := ad 78) mi_100_103 (by simp [stL, lv_args, Value.category]) ?_
  refine V_gR mi_100_104 g78r11 (by omega) H5 ?_
  refine V_aload (v := ad 4) mi_100_107 (by simp [stL, lv_args, Value.category]) ?_
  refine V_gR mi_100_108 g4r11 (by omega) H5 ?_
  refine V_stat (As := [.ref (ad 84), .ref (ad 10)]) (st := []) mi_100_111 (by omega) (copy_ct a84 a10 H5 (by omega) (by omega) ⟨by omega, by omega⟩ ⟨by omega, by omega⟩) (by omega) (show 2 = mN 150 by decide +kernel) (by simp [Value.category]) ⟨Nat.le_refl _, Nat.le_refl _⟩ ?_
  rintro r v6 ⟨rfl, H6, o6, d6⟩
  replace h := HY_step h o6 (fun i hi => by rw [d6 i hi, ho _ _ (by omega)]; exact HX_HY hX 6 (by omega) i hi)
  replace ho : ∀ c i, ¬ (4 ≤ c ∧ c ≤ 15) → rd v6 c i = rd ws c i := fun c i hc => (o6 c i (by omega)).trans (ho c i (by omega))
  refine V_aload (v := ad 78) mi_100_114 (by simp [stL, lv_args, Value.category]) ?_
  refine V_gR mi_100_115 g78r12 (by omega) H6 ?_
  refine V_aload (v := ad 4) mi_100_118 (by simp [stL, lv_args, Value.category]) ?_
  refine V_gR mi_100_119 g4r12 (by omega) H6 ?_
  refine V_stat (As := [.ref (ad 85), .ref (ad 11)]) (st := []) mi_100_122 (by omega) (copy_ct a85 a11 H6 (by omega) (by omega) ⟨by omega, by omega⟩ ⟨by omega, by omega⟩) (by omega) (show 2 = mN 150 by decide +kernel) (by simp [Value.category]) ⟨Nat.le_refl _, Nat.le_refl _⟩ ?_
  rintro r v7 ⟨rfl, H7, o7, d7⟩
  replace h := HY_step h o7 (fun i hi => by rw [d7 i hi, ho _ _ (by omega)]; exact HX_HY hX 7 (by omega) i hi)
  replace ho : ∀ c i, ¬ (4 ≤ c ∧ c ≤ 15) → rd v7 c i = rd ws c i := fun c i hc => (o7 c i (by omega)).trans (ho c i (by omega))
  refine V_aload (v := ad 78) mi_100_125 (by simp [stL, lv_args, Value.category]) ?_
  refine V_gR mi_100_126 g78r13 (by omega) H7 ?_
  refine V_aload (v := ad 4) mi_100_129 (by simp [stL, lv_args, Value.category]) ?_
  refine V_gR mi_100_130 g4r13 (by omega) H7 ?_
  refine V_stat (As := [.ref (ad 86), .ref (ad 12)]) (st := []) mi_100_133 (by omega) (copy_ct a86 a12 H7 (by omega) (by omega) ⟨by omega, by omega⟩ ⟨by omega, by omega⟩) (by omega) (show 2 = mN 150 by decide +kernel) (by simp [Value.category]) ⟨Nat.le_refl _, Nat.le_refl _⟩ ?_
  rintro r v8 ⟨rfl, H8, o8, d8⟩
  replace h := HY_step h o8 (fun i hi => by rw [d8 i hi, ho _ _ (by omega)]; exact HX_HY hX 8 (by omega) i hi)
  replace ho : ∀ c i, ¬ (4 ≤ c ∧ c ≤ 15) → rd v8 c i = rd ws c i := fun c i hc => (o8 c i (by omega)).trans (ho c i (by omega))
  refine V_aload (v := ad 78) mi_100_136 (by simp [stL, lv_args, Value.category]) ?_
  refine V_gR mi_100_137 g78r14 (by omega) H8 ?_
  refine V_aload (v := ad 4) mi_100_140 (by simp [stL, lv_args, Value.category]) ?_
  refine V_gR mi_100_141 g4r14 (by omega) H8 ?_
  refine V_stat (As := [.ref (ad 87), .ref (ad 13)]) (st := []) mi_100_144 (by omega) (copy_ct a87 a13 H8 (by omega) (by omega) ⟨by omega, by omega⟩ ⟨by omega, by omega⟩) (by omega) (show 2 = mN 150 by decide +kernel) (by simp [Value.category]) ⟨Nat.le_refl _, Nat.le_refl _⟩ ?_
  rintro r v9 ⟨rfl, H9, o9, d9⟩
  replace h := HY_step h o9 (fun i hi => by rw [d9 i hi, ho _ _ (by omega)]; exact HX_HY hX 9 (by omega) i hi)
  replace ho : ∀ c i, ¬ (4 ≤ c ∧ c ≤ 15) → rd v9 c i = rd ws c i := fun c i hc => (o9 c i (by omega)).trans (ho c i (by omega))
  refine V_aload (v := ad 78) mi_100_147 (by simp [stL, lv_args, Value.category]) ?_
  refine V_gR mi_100_148 g78r15 (by omega) H9 ?_
  refine V_aload (v := ad 4) mi_100_151 (by simp [stL, lv_args, Value.category]) ?_
  refine V_gR mi_100_152 g4r15 (by omega) H9 ?_
  refine V_stat (As := [.ref (ad 88), .ref (ad 14)]) (st := []) mi_100_155 (by omega) (copy_ct a88 a14 H9 (by omega) (by omega) ⟨by omega, by omega⟩ ⟨by omega, by omega⟩) (by omega) (show 2 = mN 150 by decide +kernel) (by simp [Value.category]) ⟨Nat.le_refl _, Nat.le_refl _⟩ ?_
  rintro r v10 ⟨rfl, H10, o10, d10⟩
  replace h := HY_step h o10 (fun i hi => by rw [d10 i hi, ho _ _ (by omega)]; exact HX_HY hX 10 (by omega) i hi)
  replace ho : ∀ c i, ¬ (4 ≤ c ∧ c ≤ 15) → rd v10 c i = rd ws c i := fun c i hc => (o10 c i (by omega)).trans (ho c i (by omega))
  refine V_aload (v := ad 78) mi_100_158 (by simp [stL, lv_args, Value.category]) ?_
  refine V_gR mi_100_159 g78r16 (by omega) H10 ?_
  refine V_aload (v := ad 4) mi_100_162 (by simp [stL, lv_args, Value.category]) ?_
  refine V_gR mi_100_163 g4r16 (by omega) H10 ?_
  refine V_stat (As := [.ref (ad 89), .ref (ad 15)]) (st := []) mi_100_166 (by omega) (copy_ct a89 a15 H10 (by omega) (by omega) ⟨by omega, by omega⟩ ⟨by omega, by omega⟩) (by omega) (show 2 = mN 150 by decide +kernel) (by simp [Value.category]) ⟨Nat.le_refl _, Nat.le_refl _⟩ ?_
  rintro r v11 ⟨rfl, H11, o11, d11⟩
  replace h := HY_step h o11 (fun i hi => by rw [d11 i hi, ho _ _ (by omega)]; exact HX_HY hX 11 (by omega) i hi)
  replace ho : ∀ c i, ¬ (4 ≤ c ∧ c ≤ 15) → rd v11 c i = rd ws c i := fun c i hc => (o11 c i (by omega)).trans (ho c i (by omega))
  exact V_retV mi_100_169 ⟨rfl, H11, HY_HX h, ho⟩
theorem iat_0 (hG : GOK ad tys GG ws) : CT l D tys A 69 0 0 0 [.ref (ad 0), .int (Int32.ofInt 0)] ws (fun r w => w = ws ∧ r = some (.ref (ad 54))) := by
  refine CT_of_V (by omega) (show (2 : Nat) ≤ mML 69 by decide +kernel) ?_
  obtain ⟨s53, e53, t0, t1, t2⟩ := gx53i
  refine V_iload (v := Int32.ofInt (0)) mi_69_0 (by simp [stL, lv_args, Value.category]) ?_
  refine V_zlt mi_69_1 ⟨by omega, by omega⟩ (fun q => ?_) (fun q => ?_)
  · exact absurd q (by omega)
  · refine V_iload (v := Int32.ofInt (0)) mi_69_4 (by simp [stL, lv_args, Value.category]) ?_
    refine V_aload (v := ad 0) mi_69_5 (by simp [stL, lv_args, Value.category]) ?_
    refine V_gR mi_69_6 g0r11 (by omega) hG ?_
    refine V_lenR mi_69_9 hG e53 ?_
    refine V_cge mi_69_10 ⟨by omega, by omega⟩ ⟨by omega, by omega⟩ (fun q2 => ?_) (fun q2 => ?_)
    · exact absurd q2 (by omega)
    · refine V_aload (v := ad 0) mi_69_13 (by simp [stL, lv_args, Value.category]) ?_
      refine V_gR mi_69_14 g0r11 (by omega) hG ?_
      refine V_iload (v := Int32.ofInt (0)) mi_69_17 (by simp [stL, lv_args, Value.category]) ?_
      refine V_aaldI (j := 0) mi_69_18 rfl hG e53 (by omega) (by omega) t0 ?_
      refine V_goto mi_69_19 ?_
      exact V_retA (v := .ref (ad 54)) mi_69_23 (Or.inr ⟨_, rfl⟩) ⟨rfl, rfl⟩
theorem iat_1 (hG : GOK ad tys GG ws) : CT l D tys A 69 0 0 0 [.ref (ad 0), .int (Int32.ofInt 1)] ws (fun r w => w = ws ∧ r = some (.ref (ad 66))) := by
  refine CT_of_V (by omega) (show (2 : Nat) ≤ mML 69 by decide +kernel) ?_
  obtain ⟨s53, e53, t0, t1, t2⟩ := gx53i
  refine V_iload (v := Int32.ofInt (1)) mi_69_0 (by simp [stL, lv_args, Value.category]) ?_
  refine V_zlt mi_69_1 ⟨by omega, by omega⟩ (fun q => ?_) (fun q => ?_)
  · exact absurd q (by omega)
  · refine V_iload (v := Int32.ofInt (1)) mi_69_4 (by simp [stL, lv_args, Value.category]) ?_
    refine V_aload (v := ad 0) mi_69_5 (by simp [stL, lv_args, Value.category]) ?_
    refine V_gR mi_69_6 g0r11 (by omega) hG ?_
    refine V_lenR mi_69_9 hG e53 ?_
    refine V_cge mi_69_10 ⟨by omega, by omega⟩ ⟨by omega, by omega⟩ (fun q2 => ?_) (fun q2 => ?_)
    · exact absurd q2 (by omega)
    · refine V_aload (v := ad 0) mi_69_13 (by simp [stL, lv_args, Value.category]) ?_
      refine V_gR mi_69_14 g0r11 (by omega) hG ?_
      refine V_iload (v := Int32.ofInt (1)) mi_69_17 (by simp [stL, lv_args, Value.category]) ?_
      refine V_aaldI (j := 1) mi_69_18 rfl hG e53 (by omega) (by omega) t1 ?_
      refine V_goto mi_69_19 ?_
      exact V_retA (v := .ref (ad 66)) mi_69_23 (Or.inr ⟨_, rfl⟩) ⟨rfl, rfl⟩
theorem iat_2 (hG : GOK ad tys GG ws) : CT l D tys A 69 0 0 0 [.ref (ad 0), .int (Int32.ofInt 2)] ws (fun r w => w = ws ∧ r = some (.ref (ad 78))) := by
  refine CT_of_V (by omega) (show (2 : Nat) ≤ mML 69 by decide +kernel) ?_
  obtain ⟨s53, e53, t0, t1, t2⟩ := gx53i
  refine V_iload (v := Int32.ofInt (2)) mi_69_0 (by simp [stL, lv_args, Value.category]) ?_
  refine V_zlt mi_69_1 ⟨by omega, by omega⟩ (fun q => ?_) (fun q => ?_)
  · exact absurd q (by omega)
  · refine V_iload (v := Int32.ofInt (2)) mi_69_4 (by simp [stL, lv_args, Value.category]) ?_
    refine V_aload (v := ad 0) mi_69_5 (by simp [stL, lv_args, Value.category]) ?_
    refine V_gR mi_69_6 g0r11 (by omega) hG ?_
    refine V_lenR mi_69_9 hG e53 ?_
    refine V_cge mi_69_10 ⟨by omega, by omega⟩ ⟨by omega, by omega⟩ (fun q2 => ?_) (fun q2 => ?_)
    · exact absurd q2 (by omega)
    · refine V_aload (v := ad 0) mi_69_13 (by simp [stL, lv_args, Value.category]) ?_
      refine V_gR mi_69_14 g0r11 (by omega) hG ?_
      refine V_iload (v := Int32.ofInt (2)) mi_69_17 (by simp [stL, lv_args, Value.category]) ?_
      refine V_aaldI (j := 2) mi_69_18 rfl hG e53 (by omega) (by omega) t2 ?_
      refine V_goto mi_69_19 ?_
      exact V_retA (v := .ref (ad 78)) mi_69_23 (Or.inr ⟨_, rfl⟩) ⟨rfl, rfl⟩
theorem iat_n {k : Int} (kI : I32 k) (hk : ¬ (0 ≤ k ∧ k ≤ 2)) (hG : GOK ad tys GG ws) : CT l D tys A 69 0 0 0 [.ref (ad 0), .int (Int32.ofInt k)] ws (fun r w => w = ws ∧ r = some .null) := by
  refine CT_of_V (by omega) (show (2 : Nat) ≤ mML 69 by decide +kernel) ?_
  obtain ⟨s53, e53, t0, t1, t2⟩ := gx53i
  refine V_iload (v := Int32.ofInt (k)) mi_69_0 (by simp [stL, lv_args, Value.category]) ?_
  refine V_zlt mi_69_1 kI (fun q => ?_) (fun q => ?_)
  · refine V_null mi_69_22 ?_
    exact V_retA (v := .null) mi_69_23 (Or.inl rfl) ⟨rfl, rfl⟩
  · refine V_iload (v := Int32.ofInt (k)) mi_69_4 (by simp [stL, lv_args, Value.category]) ?_
    refine V_aload (v := ad 0) mi_69_5 (by simp [stL, lv_args, Value.category]) ?_
    refine V_gR mi_69_6 g0r11 (by omega) hG ?_
    refine V_lenR mi_69_9 hG e53 ?_
    refine V_cge mi_69_10 kI ⟨by omega, by omega⟩ (fun q2 => ?_) (fun q2 => ?_)
    · refine V_null mi_69_22 ?_
      exact V_retA (v := .null) mi_69_23 (Or.inl rfl) ⟨rfl, rfl⟩
    · exact absurd q2 (by omega)
theorem kep_all : (List.range 8).all (fun z => (List.range 3).all (fun q => (@decide _ (instDecidableEqInt32 (ibF 6 (Int32.ofInt (z : Nat)) (ibF 8 (Int32.ofInt 1) (Int32.ofInt (q : Nat)))) (Int32.ofInt ((z ||| 1 <<< q : Nat) : Int)))) && (decide (z ||| 1 <<< q < 8) && (@decide _ (instDecidableEqInt32 (ibF 5 (ibF 9 (Int32.ofInt (z : Nat)) (Int32.ofInt (q : Nat))) (Int32.ofInt 1)) (bI (z.testBit q))))) && (List.range 3).all (fun p => (z ||| 1 <<< q).testBit p == (z.testBit p || Nat.beq p q)))) = true := by decide +kernel
theorem kep_k {z q : Nat} (hz : z < 8) (hq : q < 3) : ibF 6 (Int32.ofInt (z : Int)) (ibF 8 (Int32.ofInt 1) (Int32.ofInt (q : Int))) = Int32.ofInt ((z ||| 1 <<< q : Nat) : Int) ∧ z ||| 1 <<< q < 8 ∧ ibF 5 (ibF 9 (Int32.ofInt (z : Int)) (Int32.ofInt (q : Int))) (Int32.ofInt 1) = bI (z.testBit q) ∧ ∀ p, p < 3 → (z ||| 1 <<< q).testBit p = (z.testBit p || Nat.beq p q) := by
  have h := List.all_eq_true.mp (List.all_eq_true.mp kep_all z (List.mem_range.mpr hz)) q (List.mem_range.mpr hq)
  rw [Bool.and_eq_true, Bool.and_eq_true, Bool.and_eq_true, decide_eq_true_eq, decide_eq_true_eq, decide_eq_true_eq] at h
  obtain ⟨⟨h1, h2, h3⟩, h4⟩ := h
  exact ⟨h1, h2, h3, fun p hp => beq_iff_eq.mp (List.all_eq_true.mp h4 p (List.mem_range.mpr hp))⟩
theorem imgX_0 {G : Nat → Int} {z : Nat} (z8 : z < 8) (hG : GOK ad tys GG ws) (hX : HX 4 G ws) (hz : rd ws 0 12 = some (.int (Int32.ofInt (z : Int)))) : CT l D tys A 67 2 0 0 [.ref (ad 0), .int (Int32.ofInt 0)] ws (fun r w => r = some (.int (Int32.ofInt 0)) ∧ GOK ad tys GG w ∧ (∀ c i, ¬ (54 ≤ c ∧ c ≤ 65) → ¬ (c = 0 ∧ i = 12) → rd w c i = rd ws c i) ∧ rd w 0 12 = some (.int (Int32.ofInt ((z ||| 1 <<< 0 : Nat) : Int))) ∧ HX 54 G w) := by
  refine CT_of_V (by omega) (show (2 : Nat) ≤ mML 67 by decide +kernel) ?_
  refine V_aload (v := ad 0) mi_67_0 (by simp [stL, lv_args, Value.category]) ?_
  refine V_iload (v := Int32.ofInt (0)) mi_67_1 (by simp [stL, lv_args, Value.category]) ?_
  refine V_cO (As := [.int (Int32.ofInt (0))]) (st := []) mi_67_2 (by omega) (by decide +kernel) (by decide +kernel) (by omega) g0o hG (iat_0 hG) (by omega) (show 1 = mN 69 by decide +kernel) (by simp [Value.category]) ?_
  rintro r w1 ⟨rfl, rfl⟩
  refine V_astore (v := ad 54) mi_67_5 ?_
  refine V_aload (v := ad 54) mi_67_6 (by simp [stL, lv_args, Value.category]) ?_
  refine V_nnR mi_67_7 ?_
  refine V_aload (v := ad 54) mi_67_13 (by simp [stL, lv_args, Value.category]) ?_
  refine V_aload (v := ad 0) mi_67_14 (by simp [stL, lv_args, Value.category]) ?_
  refine V_gR mi_67_15 g0r2 (by omega) hG ?_
  refine V_cO (As := [.ref (ad 4)]) (st := []) mi_67_18 (by omega) (by decide +kernel) (by decide +kernel) (by omega) g54o hG (cpf_54_4 hG hX) (by omega) (show 1 = mN 100 by decide +kernel) (by simp [Value.category]) ?_
  rintro r w2 ⟨rfl, G2, hX2, O2⟩
  refine V_aload (v := ad 0) mi_67_21 (by simp [stL, lv_args, Value.category]) ?_
  refine V_dup mi_67_22 (by simp [Value.category]) ?_
  refine V_gO mi_67_23 g0o G2 ((O2 _ _ (by omega)).trans hz) ?_
  refine V_ipush mi_67_26 ?_
  refine V_iload (v := Int32.ofInt (0)) mi_67_27 (by simp [stL, lv_args, Value.category]) ?_
  refine V_ibin mi_67_28 (by omega) ?_
  refine V_ibin mi_67_29 (by omega) ?_
  obtain ⟨k1, k2, k3, k4⟩ := kep_k (q := 0) z8 (by omega)
  rw [show ibF 6 (Int32.ofInt (z : Int)) (ibF 8 (Int32.ofInt 1) (Int32.ofInt 0)) = Int32.ofInt ((z ||| 1 <<< 0 : Nat) : Int) from k1]
  refine V_pO mi_67_30 g0f12 (by omega) (by decide +kernel) (by decide +kernel) G2 (by rw [Int32.toInt_ofInt_of_le (by omega) (by omega)]; omega) (by rw [Int32.toInt_ofInt_of_le (by omega) (by omega)]; omega) (fun w3 G3 U3 => ?_)
  refine V_ipush mi_67_33 ?_
  exact V_retI mi_67_34 (fun h => absurd h (by decide +kernel)) ⟨rfl, G3, fun c i hc h0 => (upd_ne U3 h0).trans (O2 c i hc), upd_eq U3, HX_keep hX2 (fun c i h1 h2 => upd_ne U3 (by omega))⟩
theorem bakX_0 {G : Nat → Int} {z : Nat} (z8 : z < 8) (hAD : ∀ i : Nat, ad (1000 + i) = D.2 1000 i) (hG : GOK ad tys GG ws) (hX : z.testBit 0 = true → HX 54 G ws) (hz : rd ws 0 12 = some (.int (Int32.ofInt (z : Int)))) : CT l D tys A 68 8 0 0 [.ref (ad 0), .int (Int32.ofInt 0)] ws (fun r w => GOK ad tys GG w ∧ XO ws w ∧ (z.testBit 0 = true → r = some (.int (Int32.ofInt 0)) ∧ HX 4 G w) ∧ (z.testBit 0 = false → r = some (.int (Int32.ofInt (-6))) ∧ w = ws)) := by
  refine CT_of_V (by omega) (show (2 : Nat) ≤ mML 68 by decide +kernel) ?_
  refine V_aload (v := ad 0) mi_68_0 (by simp [stL, lv_args, Value.category]) ?_
  refine V_iload (v := Int32.ofInt (0)) mi_68_1 (by simp [stL, lv_args, Value.category]) ?_
  refine V_cO (As := [.int (Int32.ofInt (0))]) (st := []) mi_68_2 (by omega) (by decide +kernel) (by decide +kernel) (by omega) g0o hG (iat_0 hG) (by omega) (show 1 = mN 69 by decide +kernel) (by simp [Value.category]) ?_
  rintro r w1 ⟨rfl, rfl⟩
  refine V_astore (v := ad 54) mi_68_5 ?_
  refine V_aload (v := ad 54) mi_68_6 (by simp [stL, lv_args, Value.category]) ?_
  refine V_nnR mi_68_7 ?_
  refine V_aload (v := ad 0) mi_68_13 (by simp [stL, lv_args, Value.category]) ?_
  refine V_gO mi_68_14 g0o hG (hz) ?_
  refine V_iload (v := Int32.ofInt (0)) mi_68_17 (by simp [stL, lv_args, Value.category]) ?_
  refine V_ibin mi_68_18 (by omega) ?_
  refine V_ipush mi_68_19 ?_
  refine V_ibin mi_68_20 (by omega) ?_
  obtain ⟨k1, k2, k3, k4⟩ := kep_k (q := 0) z8 (by omega)
  rw [show ibF 5 (ibF 9 (Int32.ofInt (z : Int)) (Int32.ofInt 0)) (Int32.ofInt 1) = bI (z.testBit 0) from k3]
  refine V_bne mi_68_21  (fun q => ?_) (fun q => ?_)
  · refine V_aload (v := ad 0) mi_68_27 (by simp [stL, lv_args, Value.category]) ?_
    refine V_gR mi_68_28 g0r2 (by omega) hG ?_
    refine V_aload (v := ad 54) mi_68_31 (by simp [stL, lv_args, Value.category]) ?_
    refine V_cO (As := [.ref (ad 54)]) (st := []) mi_68_32 (by omega) (by decide +kernel) (by decide +kernel) (by omega) g4o hG (cpf_4_54 hG (hX q)) (by omega) (show 1 = mN 100 by decide +kernel) (by simp [Value.category]) ?_
    rintro r w2 ⟨rfl, G2, hX2, O2⟩
    obtain ⟨ds, dl, sc⟩ := set_ct (l := l) (A := A) hAD G2
    refine V_aload (v := ad 0) mi_68_35 (by simp [stL, lv_args, Value.category]) ?_
    refine V_cO (As := []) (st := []) mi_68_36 (by omega) (by decide +kernel) (by decide +kernel) (by omega) g0o G2 (sc) (by omega) (show 0 = mN 73 by decide +kernel) (by simp [Value.category]) ?_
    rintro r w3 ⟨rfl, G3, O3⟩
    refine V_ipush mi_68_39 ?_
    exact V_retI mi_68_40 (fun h => absurd h (by decide +kernel)) ⟨G3, fun c i hn => (O3 c i (by omega)).trans (O2 c i (by omega)), fun _ => ⟨rfl, HX_keep hX2 (fun c i h1 h2 => O3 c i (by omega))⟩, fun h => absurd (h.symm.trans q) Bool.false_ne_true⟩
  · refine V_ipush mi_68_24 ?_
    exact V_retI mi_68_26 (fun h => absurd h (by decide +kernel)) ⟨hG, XO_rf, fun h => absurd (q.symm.trans h) Bool.false_ne_true, fun _ => ⟨rfl, rfl⟩⟩
theorem imgX_1 {G : Nat → Int} {z : Nat} (z8 : z < 8) (hG : GOK ad tys GG ws) (hX : HX 4 G ws) (hz : rd ws 0 12 = some (.int (Int32.ofInt (z : Int)))) : CT l D tys A 67 2 0 0 [.ref (ad 0), .int (Int32.ofInt 1)] ws (fun r w => r = some (.int (Int32.ofInt 0)) ∧ GOK ad tys GG w ∧ (∀ c i, ¬ (66 ≤ c ∧ c ≤ 77) → ¬ (c = 0 ∧ i = 12) → rd w c i = rd ws c i) ∧ rd w 0 12 = some (.int (Int32.ofInt ((z ||| 1 <<< 1 : Nat) : Int))) ∧ HX 66 G w) := by
  refine CT_of_V (by omega) (show (2 : Nat) ≤ mML 67 by decide +kernel) ?_
  refine V_aload (v := ad 0) mi_67_0 (by simp [stL, lv_args, Value.category]) ?_
  refine V_iload (v := Int32.ofInt (1)) mi_67_1 (by simp [stL, lv_args, Value.category]) ?_
  refine V_cO (As := [.int (Int32.ofInt (1))]) (st := []) mi_67_2 (by omega) (by decide +kernel) (by decide +kernel) (by omega) g0o hG (iat_1 hG) (by omega) (show 1 = mN 69 by decide +kernel) (by simp [Value.category]) ?_
  rintro r w1 ⟨rfl, rfl⟩
  refine V_astore (v := ad 66) mi_67_5 ?_
  refine V_aload (v := ad 66) mi_67_6 (by simp [stL, lv_args, Value.category]) ?_
  refine V_nnR mi_67_7 ?_
  refine V_aload (v := ad 66) mi_67_13 (by simp [stL, lv_args, Value.category]) ?_
  refine V_aload (v := ad 0) mi_67_14 (by simp [stL, lv_args, Value.category]) ?_
  refine V_gR mi_67_15 g0r2 (by omega) hG ?_
  refine V_cO (As := [.ref (ad 4)]) (st := []) mi_67_18 (by omega) (by decide +kernel) (by decide +kernel) (by omega) g66o hG (cpf_66_4 hG hX) (by omega) (show 1 = mN 100 by decide +kernel) (by simp [Value.category]) ?_
  rintro r w2 ⟨rfl, G2, hX2, O2⟩
  refine V_aload (v := ad 0) mi_67_21 (by simp [stL, lv_args, Value.category]) ?_
  refine V_dup mi_67_22 (by simp [Value.category]) ?_
  refine V_gO mi_67_23 g0o G2 ((O2 _ _ (by omega)).trans hz) ?_
  refine V_ipush mi_67_26 ?_
  refine V_iload (v := Int32.ofInt (1)) mi_67_27 (by simp [stL, lv_args, Value.category]) ?_
  refine V_ibin mi_67_28 (by omega) ?_
  refine V_ibin mi_67_29 (by omega) ?_
  obtain ⟨k1, k2, k3, k4⟩ := kep_k (q := 1) z8 (by omega)
  rw [show ibF 6 (Int32.ofInt (z : Int)) (ibF 8 (Int32.ofInt 1) (Int32.ofInt 1)) = Int32.ofInt ((z ||| 1 <<< 1 : Nat) : Int) from k1]
  refine V_pO mi_67_30 g0f12 (by omega) (by decide +kernel) (by decide +kernel) G2 (by rw [Int32.toInt_ofInt_of_le (by omega) (by omega)]; omega) (by rw [Int32.toInt_ofInt_of_le (by omega) (by omega)]; omega) (fun w3 G3 U3 => ?_)
  refine V_ipush mi_67_33 ?_
  exact V_retI mi_67_34 (fun h => absurd h (by decide +kernel)) ⟨rfl, G3, fun c i hc h0 => (upd_ne U3 h0).trans (O2 c i hc), upd_eq U3, HX_keep hX2 (fun c i h1 h2 => upd_ne U3 (by omega))⟩
theorem bakX_1 {G : Nat → Int} {z : Nat} (z8 : z < 8) (hAD : ∀ i : Nat, ad (1000 + i) = D.2 1000 i) (hG : GOK ad tys GG ws) (hX : z.testBit 1 = true → HX 66 G ws) (hz : rd ws 0 12 = some (.int (Int32.ofInt (z : Int)))) : CT l D tys A 68 8 0 0 [.ref (ad 0), .int (Int32.ofInt 1)] ws (fun r w => GOK ad tys GG w ∧ XO ws w ∧ (z.testBit 1 = true → r = some (.int (Int32.ofInt 0)) ∧ HX 4 G w) ∧ (z.testBit 1 = false → r = some (.int (Int32.ofInt (-6))) ∧ w = ws)) := by
  refine CT_of_V (by omega) (show (2 : Nat) ≤ mML 68 by decide +kernel) ?_
  refine V_aload (v := ad 0) mi_68_0 (by simp [stL, lv_args, Value.category]) ?_
  refine V_iload (v := Int32.ofInt (1)) mi_68_1 (by simp [stL, lv_args, Value.category]) ?_
  refine V_cO (As := [.int (Int32.ofInt (1))]) (st := []) mi_68_2 (by omega) (by decide +kernel) (by decide +kernel) (by omega) g0o hG (iat_1 hG) (by omega) (show 1 = mN 69 by decide +kernel) (by simp [Value.category]) ?_
  rintro r w1 ⟨rfl, rfl⟩
  refine V_astore (v := ad 66) mi_68_5 ?_
  refine V_aload (v := ad 66) mi_68_6 (by simp [stL, lv_args, Value.category]) ?_
  refine V_nnR mi_68_7 ?_
  refine V_aload (v := ad 0) mi_68_13 (by simp [stL, lv_args, Value.category]) ?_
  refine V_gO mi_68_14 g0o hG (hz) ?_
  refine V_iload (v := Int32.ofInt (1)) mi_68_17 (by simp [stL, lv_args, Value.category]) ?_
  refine V_ibin mi_68_18 (by omega) ?_
  refine V_ipush mi_68_19 ?_
  refine V_ibin mi_68_20 (by omega) ?_
  obtain ⟨k1, k2, k3, k4⟩ := kep_k (q := 1) z8 (by omega)
  rw [show ibF 5 (ibF 9 (Int32.ofInt (z : Int)) (Int32.ofInt 1)) (Int32.ofInt 1) = bI (z.testBit 1) from k3]
  refine V_bne mi_68_21  (fun q => ?_) (fun q => ?_)
  · refine V_aload (v := ad 0) mi_68_27 (by simp [stL, lv_args, Value.category]) ?_
    refine V_gR mi_68_28 g0r2 (by omega) hG ?_
    refine V_aload (v := ad 66) mi_68_31 (by simp [stL, lv_args, Value.category]) ?_
    refine V_cO (As := [.ref (ad 66)]) (st := []) mi_68_32 (by omega) (by decide +kernel) (by decide +kernel) (by omega) g4o hG (cpf_4_66 hG (hX q)) (by omega) (show 1 = mN 100 by decide +kernel) (by simp [Value.category]) ?_
    rintro r w2 ⟨rfl, G2, hX2, O2⟩
    obtain ⟨ds, dl, sc⟩ := set_ct (l := l) (A := A) hAD G2
    refine V_aload (v := ad 0) mi_68_35 (by simp [stL, lv_args, Value.category]) ?_
    refine V_cO (As := []) (st := []) mi_68_36 (by omega) (by decide +kernel) (by decide +kernel) (by omega) g0o G2 (sc) (by omega) (show 0 = mN 73 by decide +kernel) (by simp [Value.category]) ?_
    rintro r w3 ⟨rfl, G3, O3⟩
    refine V_ipush mi_68_39 ?_
    exact V_retI mi_68_40 (fun h => absurd h (by decide +kernel)) ⟨G3, fun c i hn => (O3 c i (by omega)).trans (O2 c i (by omega)), fun _ => ⟨rfl, HX_keep hX2 (fun c i h1 h2 => O3 c i (by omega))⟩, fun h => absurd (h.symm.trans q) Bool.false_ne_true⟩
  · refine V_ipush mi_68_24 ?_
    exact V_retI mi_68_26 (fun h => absurd h (by decide +kernel)) ⟨hG, XO_rf, fun h => absurd (q.symm.trans h) Bool.false_ne_true, fun _ => ⟨rfl, rfl⟩⟩
theorem imgX_2 {G : Nat → Int} {z : Nat} (z8 : z < 8) (hG : GOK ad tys GG ws) (hX : HX 4 G ws) (hz : rd ws 0 12 = some (.int (Int32.ofInt (z : Int)))) : CT l D tys A 67 2 0 0 [.ref (ad 0), .int (Int32.ofInt 2)] ws (fun r w => r = some (.int (Int32.ofInt 0)) ∧ GOK ad tys GG w ∧ (∀ c i, ¬ (78 ≤ c ∧ c ≤ 89) → ¬ (c = 0 ∧ i = 12) → rd w c i = rd ws c i) ∧ rd w 0 12 = some (.int (Int32.ofInt ((z ||| 1 <<< 2 : Nat) : Int))) ∧ HX 78 G w) := by
  refine CT_of_V (by omega) (show (2 : Nat) ≤ mML 67 by decide +kernel) ?_
  refine V_aload (v := ad 0) mi_67_0 (by simp [stL, lv_args, Value.category]) ?_
  refine V_iload (v := Int32.ofInt (2)) mi_67_1 (by simp [stL, lv_args, Value.category]) ?_
  refine V_cO (As := [.int (Int32.ofInt (2))]) (st := []) mi_67_2 (by omega) (by decide +kernel) (by decide +kernel) (by omega) g0o hG (iat_2 hG) (by omega) (show 1 = mN 69 by decide +kernel) (by simp [Value.category]) ?_
  rintro r w1 ⟨rfl, rfl⟩
  refine V_astore (v := ad 78) mi_67_5 ?_
  refine V_aload (v := ad 78) mi_67_6 (by simp [stL, lv_args, Value.category]) ?_
  refine V_nnR mi_67_7 ?_
  refine V_aload (v := ad 78) mi_67_13 (by simp [stL, lv_args, Value.category]) ?_
  refine V_aload (v := ad 0) mi_67_14 (by simp [stL, lv_args, Value.category]) ?_
  refine V_gR mi_67_15 g0r2 (by omega) hG ?_
  refine V_cO (As := [.ref (ad 4)]) (st := []) mi_67_18 (by omega) (by decide +kernel) (by decide +kernel) (by omega) g78o hG (cpf_78_4 hG hX) (by omega) (show 1 = mN 100 by decide +kernel) (by simp [Value.category]) ?_
  rintro r w2 ⟨rfl, G2, hX2, O2⟩
  refine V_aload (v := ad 0) mi_67_21 (by simp [stL, lv_args, Value.category]) ?_
  refine V_dup mi_67_22 (by simp [Value.category]) ?_
  refine V_gO mi_67_23 g0o G2 ((O2 _ _ (by omega)).trans hz) ?_
  refine V_ipush mi_67_26 ?_
  refine V_iload (v := Int32.ofInt (2)) mi_67_27 (by simp [stL, lv_args, Value.category]) ?_
  refine V_ibin mi_67_28 (by omega) ?_
  refine V_ibin mi_67_29 (by omega) ?_
  obtain ⟨k1, k2, k3, k4⟩ := kep_k (q := 2) z8 (by omega)
  rw [show ibF 6 (Int32.ofInt (z : Int)) (ibF 8 (Int32.ofInt 1) (Int32.ofInt 2)) = Int32.ofInt ((z ||| 1 <<< 2 : Nat) : Int) from k1]
  refine V_pO mi_67_30 g0f12 (by omega) (by decide +kernel) (by decide +kernel) G2 (by rw [Int32.toInt_ofInt_of_le (by omega) (by omega)]; omega) (by rw [Int32.toInt_ofInt_of_le (by omega) (by omega)]; omega) (fun w3 G3 U3 => ?_)
  refine V_ipush mi_67_33 ?_
  exact V_retI mi_67_34 (fun h => absurd h (by decide +kernel)) ⟨rfl, G3, fun c i hc h0 => (upd_ne U3 h0).trans (O2 c i hc), upd_eq U3, HX_keep hX2 (fun c i h1 h2 => upd_ne U3 (by omega))⟩
theorem bakX_2 {G : Nat → Int} {z : Nat} (z8 : z < 8) (hAD : ∀ i : Nat, ad (1000 + i) = D.2 1000 i) (hG : GOK ad tys GG ws) (hX : z.testBit 2 = true → HX 78 G ws) (hz : rd ws 0 12 = some (.int (Int32.ofInt (z : Int)))) : CT l D tys A 68 8 0 0 [.ref (ad 0), .int (Int32.ofInt 2)] ws (fun r w => GOK ad tys GG w ∧ XO ws w ∧ (z.testBit 2 = true → r = some (.int (Int32.ofInt 0)) ∧ HX 4 G w) ∧ (z.testBit 2 = false → r = some (.int (Int32.ofInt (-6))) ∧ w = ws)) := by
  refine CT_of_V (by omega) (show (2 : Nat) ≤ mML 68 by decide +kernel) ?_
  refine V_aload (v := ad 0) mi_68_0 (by simp [stL, lv_args, Value.category]) ?_
  refine V_iload (v := Int32.ofInt (2)) mi_68_1 (by simp [stL, lv_args, Value.category]) ?_
  refine V_cO (As := [.int (Int32.ofInt (2))]) (st := []) mi_68_2 (by omega) (by decide +kernel) (by decide +kernel) (by omega) g0o hG (iat_2 hG) (by omega) (show 1 = mN 69 by decide +kernel) (by simp [Value.category]) ?_
  rintro r w1 ⟨rfl, rfl⟩
  refine V_astore (v := ad 78) mi_68_5 ?_
  refine V_aload (v := ad 78) mi_68_6 (by simp [stL, lv_args, Value.category]) ?_
  refine V_nnR mi_68_7 ?_
  refine V_aload (v := ad 0) mi_68_13 (by simp [stL, lv_args, Value.category]) ?_
  refine V_gO mi_68_14 g0o hG (hz) ?_
  refine V_iload (v := Int32.ofInt (2)) mi_68_17 (by simp [stL, lv_args, Value.category]) ?_
  refine V_ibin mi_68_18 (by omega) ?_
  refine V_ipush mi_68_19 ?_
  refine V_ibin mi_68_20 (by omega) ?_
  obtain ⟨k1, k2, k3, k4⟩ := kep_k (q := 2) z8 (by omega)
  rw [show ibF 5 (ibF 9 (Int32.ofInt (z : Int)) (Int32.ofInt 2)) (Int32.ofInt 1) = bI (z.testBit 2) from k3]
  refine V_bne mi_68_21  (fun q => ?_) (fun q => ?_)
  · refine V_aload (v := ad 0) mi_68_27 (by simp [stL, lv_args, Value.category]) ?_
    refine V_gR mi_68_28 g0r2 (by omega) hG ?_
    refine V_aload (v := ad 78) mi_68_31 (by simp [stL, lv_args, Value.category]) ?_
    refine V_cO (As := [.ref (ad 78)]) (st := []) mi_68_32 (by omega) (by decide +kernel) (by decide +kernel) (by omega) g4o hG (cpf_4_78 hG (hX q)) (by omega) (show 1 = mN 100 by decide +kernel) (by simp [Value.category]) ?_
    rintro r w2 ⟨rfl, G2, hX2, O2⟩
    obtain ⟨ds, dl, sc⟩ := set_ct (l := l) (A := A) hAD G2
    refine V_aload (v := ad 0) mi_68_35 (by simp [stL, lv_args, Value.category]) ?_
    refine V_cO (As := []) (st := []) mi_68_36 (by omega) (by decide +kernel) (by decide +kernel) (by omega) g0o G2 (sc) (by omega) (show 0 = mN 73 by decide +kernel) (by simp [Value.category]) ?_
    rintro r w3 ⟨rfl, G3, O3⟩
    refine V_ipush mi_68_39 ?_
    exact V_retI mi_68_40 (fun h => absurd h (by decide +kernel)) ⟨G3, fun c i hn => (O3 c i (by omega)).trans (O2 c i (by omega)), fun _ => ⟨rfl, HX_keep hX2 (fun c i h1 h2 => O3 c i (by omega))⟩, fun h => absurd (h.symm.trans q) Bool.false_ne_true⟩
  · refine V_ipush mi_68_24 ?_
    exact V_retI mi_68_26 (fun h => absurd h (by decide +kernel)) ⟨hG, XO_rf, fun h => absurd (q.symm.trans h) Bool.false_ne_true, fun _ => ⟨rfl, rfl⟩⟩
theorem imgX_n {k : Int} (kI : I32 k) (hk : ¬ (0 ≤ k ∧ k ≤ 2)) (hG : GOK ad tys GG ws) : CT l D tys A 67 2 0 0 [.ref (ad 0), .int (Int32.ofInt k)] ws (fun r w => w = ws ∧ r = some (.int (Int32.ofInt (-2)))) := by
  refine CT_of_V (by omega) (show (2 : Nat) ≤ mML 67 by decide +kernel) ?_
  refine V_aload (v := ad 0) mi_67_0 (by simp [stL, lv_args, Value.category]) ?_
  refine V_iload (v := Int32.ofInt (k)) mi_67_1 (by simp [stL, lv_args, Value.category]) ?_
  refine V_cO (As := [.int (Int32.ofInt (k))]) (st := []) mi_67_2 (by omega) (by decide +kernel) (by decide +kernel) (by omega) g0o hG (iat_n kI hk hG) (by omega) (show 1 = mN 69 by decide +kernel) (by simp [Value.category]) ?_
  rintro r w1 ⟨rfl, rfl⟩
  refine V_astoreN mi_67_5 ?_
  refine V_aloadN mi_67_6 (by simp [stL, lv_args, Value.category]) ?_
  refine V_nnN mi_67_7 ?_
  refine V_ipush mi_67_10 ?_
  exact V_retI mi_67_12 (fun h => absurd h (by decide +kernel)) ⟨rfl, rfl⟩
theorem bakX_n {k : Int} (kI : I32 k) (hk : ¬ (0 ≤ k ∧ k ≤ 2)) (hG : GOK ad tys GG ws) : CT l D tys A 68 2 0 0 [.ref (ad 0), .int (Int32.ofInt k)] ws (fun r w => w = ws ∧ r = some (.int (Int32.ofInt (-2)))) := by
  refine CT_of_V (by omega) (show (2 : Nat) ≤ mML 68 by decide +kernel) ?_
  refine V_aload (v := ad 0) mi_68_0 (by simp [stL, lv_args, Value.category]) ?_
  refine V_iload (v := Int32.ofInt (k)) mi_68_1 (by simp [stL, lv_args, Value.category]) ?_
  refine V_cO (As := [.int (Int32.ofInt (k))]) (st := []) mi_68_2 (by omega) (by decide +kernel) (by decide +kernel) (by omega) g0o hG (iat_n kI hk hG) (by omega) (show 1 = mN 69 by decide +kernel) (by simp [Value.category]) ?_
  rintro r w1 ⟨rfl, rfl⟩
  refine V_astoreN mi_68_5 ?_
  refine V_aloadN mi_68_6 (by simp [stL, lv_args, Value.category]) ?_
  refine V_nnN mi_68_7 ?_
  refine V_ipush mi_68_10 ?_
  exact V_retI mi_68_12 (fun h => absurd h (by decide +kernel)) ⟨rfl, rfl⟩
theorem gw92 : ∃ s s2, GG[91]? = some ((1, 0, 294), s) ∧ GG[92]? = some ((1, 0, 882), s2) ∧ ∀ q, q < 3 → ∀ j, j < 294 → ∃ lo hi, segAt s j = some (0, lo, hi) ∧ segAt s2 (294 * q + j) = some (0, lo, hi) ∧ -2147483648 ≤ lo ∧ hi ≤ 2147483647 := by
  refine ⟨_, _, rfl, rfl, fun q hq j hj => ?_⟩
  have h : ∀ q : Fin 3, ∀ j : Fin 294, (match segAt ((GG.getD 91 ((0, 0, 0), [])).2) j.1, segAt ((GG.getD 92 ((0, 0, 0), [])).2) (294 * q.1 + j.1) with | some (0, lo, hi), some (0, lo2, hi2) => decide (lo = lo2) && decide (hi = hi2) && decide (-2147483648 ≤ lo) && decide (hi ≤ 2147483647) | _, _ => false) = true := by decide +kernel
  have h := h ⟨q, hq⟩ ⟨j, hj⟩
  revert h
  show (match segAt ((GG.getD 91 ((0, 0, 0), [])).2) j, segAt ((GG.getD 92 ((0, 0, 0), [])).2) (294 * q + j) with | some (0, lo, hi), some (0, lo2, hi2) => decide (lo = lo2) && decide (hi = hi2) && decide (-2147483648 ≤ lo) && decide (hi ≤ 2147483647) | _, _ => false) = true → ∃ lo hi, segAt ((GG.getD 91 ((0, 0, 0), [])).2) j = some (0, lo, hi) ∧ segAt ((GG.getD 92 ((0, 0, 0), [])).2) (294 * q + j) = some (0, lo, hi) ∧ -2147483648 ≤ lo ∧ hi ≤ 2147483647
  cases segAt ((GG.getD 91 ((0, 0, 0), [])).2) j with
  | none => exact fun h => absurd h Bool.false_ne_true
  | some u =>
    obtain ⟨a, lo, hi⟩ := u
    cases segAt ((GG.getD 92 ((0, 0, 0), [])).2) (294 * q + j) with
    | none =>
      cases a with
      | zero => exact fun h => absurd h Bool.false_ne_true
      | succ a => exact fun h => absurd h Bool.false_ne_true
    | some u2 =>
      obtain ⟨b, lo2, hi2⟩ := u2
      cases a with
      | succ a => exact fun h => absurd h Bool.false_ne_true
      | zero =>
        cases b with
        | succ b => exact fun h => absurd h Bool.false_ne_true
        | zero =>
          intro h
          have h : (decide (lo = lo2) && decide (hi = hi2) && decide (-2147483648 ≤ lo) && decide (hi ≤ 2147483647)) = true := h
          simp only [Bool.and_eq_true, decide_eq_true_eq] at h
          obtain ⟨⟨⟨rfl, rfl⟩, h3⟩, h4⟩ := h
          exact ⟨lo, hi, rfl, rfl, h3, h4⟩
theorem im_17 {w0 : va_W} {post : Option Value → va_W → Prop} {q : Nat} (hq : q < 3) : ∀ (m i : Nat) (w : va_W), i + m = 294 → GOK ad tys GG w → (∀ c j, ¬ (c = 92 ∧ 294 * q ≤ j ∧ j < 294 * q + 294) → rd w c j = rd w0 c j) → (∀ j, j < i → rd w 92 (294 * q + j) = rd w0 91 j) → (∀ w' : va_W, GOK ad tys GG w' → (∀ c j, ¬ (c = 92 ∧ 294 * q ≤ j ∧ j < 294 * q + 294) → rd w' c j = rd w0 c j) → (∀ j, j < 294 → rd w' 92 (294 * q + j) = rd w0 91 j) → V l D tys A 196 4 0 0 post 0 0 48 [(0, .ref (ad 90)), (1, .int (Int32.ofInt (q : Int)))] [] w') → V l D tys A 196 4 0 0 post 0 0 17 [(0, .ref (ad 90)), (1, .int (Int32.ofInt (q : Int))), (2, .int (Int32.ofInt (i : Int)))] [] w
  | 0, i, w, hm, hG, ho, hd, kk => by
    refine V_iload (v := Int32.ofInt ((i : Int))) mi_196_17 (by simp [stL, lv_args, Value.category]) ?_
    refine V_ipush mi_196_18 ?_
    refine V_cge mi_196_21 ⟨by omega, by omega⟩ ⟨by omega, by omega⟩ (fun g => ?_) (fun g => ?_)
    · refine V_sub (lv' := [(0, .ref (ad 90)), (1, .int (Int32.ofInt (q : Int)))]) (fun q hq => ?_) (kk w hG ho (fun j hj => hd j (by omega)))
      simp only [List.mem_cons, List.not_mem_nil, or_false] at hq
      rcases hq with rfl | rfl <;> simp [stL, lv_args, Value.category]
    · exact absurd g (by omega)
  | m + 1, i, w, hm, hG, ho, hd, kk => by
    obtain ⟨s91, s92, e91, e92, hsg⟩ := gw92
    obtain ⟨lo, hi, q1, q2, l0, h0⟩ := hsg q hq i (by omega)
    obtain ⟨z, hz, z0, z1⟩ := cel hG e91 (j := i) (by omega) q1
    refine V_iload (v := Int32.ofInt ((i : Int))) mi_196_17 (by simp [stL, lv_args, Value.category]) ?_
    refine V_ipush mi_196_18 ?_
    refine V_cge mi_196_21 ⟨by omega, by omega⟩ ⟨by omega, by omega⟩ (fun g => ?_) (fun g => ?_)
    · exact absurd g (by omega)
    · refine V_aload (v := ad 90) mi_196_24 (by simp [stL, lv_args, Value.category]) ?_
      refine V_getI mi_196_25 hG (rref gr2m (by omega) hG) ?_
      refine V_ipush mi_196_28 ?_
      refine V_iload (v := Int32.ofInt ((q : Int))) mi_196_31 (by simp [stL, lv_args, Value.category]) ?_
      refine V_ibin mi_196_32 (by omega) ?_
      rw [ib2]
      refine V_iload (v := Int32.ofInt ((i : Int))) mi_196_33 (by simp [stL, lv_args, Value.category]) ?_
      refine V_ibin mi_196_34 (by omega) ?_
      rw [ib0]
      refine V_aload (v := ad 90) mi_196_35 (by simp [stL, lv_args, Value.category]) ?_
      refine V_getI mi_196_36 hG (rref gr1m (by omega) hG) ?_
      refine V_iload (v := Int32.ofInt ((i : Int))) mi_196_39 (by simp [stL, lv_args, Value.category]) ?_
      refine V_aldX (j := i) mi_196_40 rfl hG e91 (by omega) (by omega) hz ?_
      refine V_astX (j := 294 * q + i) mi_196_41 (by rw [show ((294) * ((q : Int))) + ((i : Int)) = ((294 * q + i : Nat) : Int) by omega]) hG e92 (by omega) (by omega) q2 (by rw [Int32.toInt_ofInt_of_le (by omega) (by omega)]; omega) (by rw [Int32.toInt_ofInt_of_le (by omega) (by omega)]; omega) (fun w2 G2 U => ?_)
      refine V_iinc (v := Int32.ofInt ((i : Int))) mi_196_42 (by simp [stL, lv_args, Value.category]) ?_
      rw [ia2]
      refine V_goto mi_196_45 ?_
      refine V_sub (lv' := [(0, .ref (ad 90)), (1, .int (Int32.ofInt (q : Int))), (2, .int (Int32.ofInt ((i + 1 : Nat) : Int)))]) (fun q hq => ?_) ?_
      · simp only [List.mem_cons, List.not_mem_nil, or_false] at hq
        rcases hq with rfl | rfl | rfl <;> simp [stL, lv_args, Value.category]
      · refine im_17 hq m (i + 1) w2 (by omega) G2 (fun c j hc => (upd_ne U (by omega)).trans (ho c j hc)) (fun j hj => ?_) kk
        by_cases e : j = i
        · subst e
          rw [upd_eq U, ← ho _ _ (by omega), hz]
        · exact (upd_ne U (by omega)).trans (hd j (by omega))
theorem ba_29 {w0 : va_W} {post : Option Value → va_W → Prop} {q : Nat} (hq : q < 3) : ∀ (m i : Nat) (w : va_W), i + m = 294 → GOK ad tys GG w → (∀ c j, c ≠ 91 → rd w c j = rd w0 c j) → (∀ j, j < i → rd w 91 j = rd w0 92 (294 * q + j)) → (∀ w' : va_W, GOK ad tys GG w' → (∀ c j, c ≠ 91 → rd w' c j = rd w0 c j) → (∀ j, j < 294 → rd w' 91 j = rd w0 92 (294 * q + j)) → V l D tys A 197 4 0 0 post 0 0 60 [(0, .ref (ad 90)), (1, .int (Int32.ofInt (q : Int)))] [] w') → V l D tys A 197 4 0 0 post 0 0 29 [(0, .ref (ad 90)), (1, .int (Int32.ofInt (q : Int))), (2, .int (Int32.ofInt (i : Int)))] [] w
  | 0, i, w, hm, hG, ho, hd, kk => by
    refine V_iload (v := Int32.ofInt ((i : Int))) mi_197_29 (by simp [stL, lv_args, Value.category]) ?_
    refine V_ipush mi_197_30 ?_
    refine V_cge mi_197_33 ⟨by omega, by omega⟩ ⟨by omega, by omega⟩ (fun g => ?_) (fun g => ?_)
    · refine V_sub (lv' := [(0, .ref (ad 90)), (1, .int (Int32.ofInt (q : Int)))]) (fun q hq => ?_) (kk w hG ho (fun j hj => hd j (by omega)))
      simp only [List.mem_cons, List.not_mem_nil, or_false] at hq
      rcases hq with rfl | rfl <;> simp [stL, lv_args, Value.category]
    · exact absurd g (by omega)
  | m + 1, i, w, hm, hG, ho, hd, kk => by
    obtain ⟨s91, s92, e91, e92, hsg⟩ := gw92
    obtain ⟨lo, hi, q1, q2, l0, h0⟩ := hsg q hq i (by omega)
    obtain ⟨z, hz, z0, z1⟩ := cel hG e92 (j := 294 * q + i) (by omega) q2
    refine V_iload (v := Int32.ofInt ((i : Int))) mi_197_29 (by simp [stL, lv_args, Value.category]) ?_
    refine V_ipush mi_197_30 ?_
    refine V_cge mi_197_33 ⟨by omega, by omega⟩ ⟨by omega, by omega⟩ (fun g => ?_) (fun g => ?_)
    · exact absurd g (by omega)
    · refine V_aload (v := ad 90) mi_197_36 (by simp [stL, lv_args, Value.category]) ?_
      refine V_getI mi_197_37 hG (rref gr1m (by omega) hG) ?_
      refine V_iload (v := Int32.ofInt ((i : Int))) mi_197_40 (by simp [stL, lv_args, Value.category]) ?_
      refine V_aload (v := ad 90) mi_197_41 (by simp [stL, lv_args, Value.category]) ?_
      refine V_getI mi_197_42 hG (rref gr2m (by omega) hG) ?_
      refine V_ipush mi_197_45 ?_
      refine V_iload (v := Int32.ofInt ((q : Int))) mi_197_48 (by simp [stL, lv_args, Value.category]) ?_
      refine V_ibin mi_197_49 (by omega) ?_
      rw [ib2]
      refine V_iload (v := Int32.ofInt ((i : Int))) mi_197_50 (by simp [stL, lv_args, Value.category]) ?_
      refine V_ibin mi_197_51 (by omega) ?_
      rw [ib0]
      refine V_aldX (j := 294 * q + i) mi_197_52 (by rw [show ((294) * ((q : Int))) + ((i : Int)) = ((294 * q + i : Nat) : Int) by omega]) hG e92 (by omega) (by omega) hz ?_
      refine V_astX (j := i) mi_197_53 rfl hG e91 (by omega) (by omega) q1 (by rw [Int32.toInt_ofInt_of_le (by omega) (by omega)]; omega) (by rw [Int32.toInt_ofInt_of_le (by omega) (by omega)]; omega) (fun w2 G2 U => ?_)
      refine V_iinc (v := Int32.ofInt ((i : Int))) mi_197_54 (by simp [stL, lv_args, Value.category]) ?_
      rw [ia2]
      refine V_goto mi_197_57 ?_
      refine V_sub (lv' := [(0, .ref (ad 90)), (1, .int (Int32.ofInt (q : Int))), (2, .int (Int32.ofInt ((i + 1 : Nat) : Int)))]) (fun q hq => ?_) ?_
      · simp only [List.mem_cons, List.not_mem_nil, or_false] at hq
        rcases hq with rfl | rfl | rfl <;> simp [stL, lv_args, Value.category]
      · refine ba_29 hq m (i + 1) w2 (by omega) G2 (fun c j hc => (upd_ne U (by omega)).trans (ho c j hc)) (fun j hj => ?_) kk
        by_cases e : j = i
        · subst e
          rw [upd_eq U, ← ho _ _ (by omega), hz]
        · exact (upd_ne U (by omega)).trans (hd j (by omega))
theorem imgM_n {k : Int} (kI : I32 k) (hk : ¬ (0 ≤ k ∧ k ≤ 2)) (hG : GOK ad tys GG ws) : CT l D tys A 196 4 0 0 [.ref (ad 90), .int (Int32.ofInt k)] ws (fun r w => w = ws ∧ r = some (.int (Int32.ofInt (-2)))) := by
  refine CT_of_V (by omega) (show (2 : Nat) ≤ mML 196 by decide +kernel) ?_
  refine V_iload (v := Int32.ofInt (k)) mi_196_0 (by simp [stL, lv_args, Value.category]) ?_
  refine V_i2l mi_196_1 ?_
  rw [i2lx ⟨by omega, by omega⟩]
  refine V_lpush mi_196_2 ?_
  refine V_lpush mi_196_3 ?_
  refine V_stat (As := [.long (Int64.ofInt (k)), .long (Int64.ofInt (0)), .long (Int64.ofInt (2))]) (st := []) mi_196_6 (by omega) (inM2 (m := k) (lo := 0) (hi := 2) (by omega) (by omega) (by omega) (by omega) (by omega) (by omega)) (by omega) (show 3 = mN 193 by decide +kernel) (by simp [Value.category]) ⟨Nat.le_refl _, Nat.le_refl _⟩ ?_
  rintro r w1 ⟨rfl, rfl⟩
  refine V_bne mi_196_9  (fun c => ?_) (fun c => ?_)
  · exact absurd (of_decide_eq_true c) hk
  · refine V_ipush mi_196_12 ?_
    exact V_retI mi_196_14 (fun h => absurd h (by decide +kernel)) ⟨rfl, rfl⟩
theorem imgM_ct {q : Nat} (hq : q < 3) (hG : GOK ad tys GG ws) : CT l D tys A 196 4 0 0 [.ref (ad 90), .int (Int32.ofInt (q : Int))] ws (fun r w => r = some (.int (Int32.ofInt 0)) ∧ GOK ad tys GG w ∧ (∀ c j, ¬ (c = 92 ∧ 294 * q ≤ j ∧ j < 294 * q + 294) → ¬ (c = 93 ∧ j = q) → rd w c j = rd ws c j) ∧ (∀ j, j < 294 → rd w 92 (294 * q + j) = rd ws 91 j) ∧ rd w 93 q = some (.int (Int32.ofInt 1))) := by
  refine CT_of_V (by omega) (show (2 : Nat) ≤ mML 196 by decide +kernel) ?_
  obtain ⟨s93, e93, t93⟩ := gb93b
  refine V_iload (v := Int32.ofInt ((q : Int))) mi_196_0 (by simp [stL, lv_args, Value.category]) ?_
  refine V_i2l mi_196_1 ?_
  rw [i2lx ⟨by omega, by omega⟩]
  refine V_lpush mi_196_2 ?_
  refine V_lpush mi_196_3 ?_
  refine V_stat (As := [.long (Int64.ofInt ((q : Int))), .long (Int64.ofInt (0)), .long (Int64.ofInt (2))]) (st := []) mi_196_6 (by omega) (inM2 (m := (q : Int)) (lo := 0) (hi := 2) (by omega) (by omega) (by omega) (by omega) (by omega) (by omega)) (by omega) (show 3 = mN 193 by decide +kernel) (by simp [Value.category]) ⟨Nat.le_refl _, Nat.le_refl _⟩ ?_
  rintro r w1 ⟨rfl, rfl⟩
  refine V_bne mi_196_9  (fun c => ?_) (fun c => ?_)
  · refine V_ipush mi_196_15 ?_
    refine V_istore mi_196_16 ?_
    refine V_sub (lv' := [(0, .ref (ad 90)), (1, .int (Int32.ofInt (q : Int))), (2, .int (Int32.ofInt ((0 : Nat) : Int)))]) (fun q hq => ?_) ?_
    · simp only [List.mem_cons, List.not_mem_nil, or_false] at hq
      rcases hq with rfl | rfl | rfl <;> simp [stL, lv_args, Value.category]
    refine im_17 (w0 := w1) hq 294 0 w1 (by omega) hG (fun _ _ _ => rfl) (fun j hj => by omega) (fun w2 G2 O2 D2 => ?_)
    refine V_aload (v := ad 90) mi_196_48 (by simp [stL, lv_args, Value.category]) ?_
    refine V_getI mi_196_49 G2 (rref gr3m (by omega) G2) ?_
    refine V_iload (v := Int32.ofInt ((q : Int))) mi_196_52 (by simp [stL, lv_args, Value.category]) ?_
    refine V_ipush mi_196_53 ?_
    refine V_bst1 (j := q) mi_196_54 rfl G2 e93 hq (by omega) (t93 q hq) (fun w3 G3 U3 => ?_)
    refine V_ipush mi_196_55 ?_
    exact V_retI mi_196_56 (fun h => absurd h (by decide +kernel)) ⟨rfl, G3, fun c j h1 h2 => (upd_ne U3 h2).trans (O2 c j h1), fun j hj => (upd_ne U3 (by omega)).trans (D2 j hj), upd_eq U3⟩
  · exact absurd (show 0 ≤ (q : Int) ∧ (q : Int) ≤ 2 by omega) (of_decide_eq_false c)
theorem bakM_n {k : Int} (kI : I32 k) (hk : ¬ (0 ≤ k ∧ k ≤ 2)) (hG : GOK ad tys GG ws) : CT l D tys A 197 4 0 0 [.ref (ad 90), .int (Int32.ofInt k)] ws (fun r w => w = ws ∧ r = some (.int (Int32.ofInt (-2)))) := by
  refine CT_of_V (by omega) (show (2 : Nat) ≤ mML 197 by decide +kernel) ?_
  refine V_iload (v := Int32.ofInt (k)) mi_197_0 (by simp [stL, lv_args, Value.category]) ?_
  refine V_i2l mi_197_1 ?_
  rw [i2lx ⟨by omega, by omega⟩]
  refine V_lpush mi_197_2 ?_
  refine V_lpush mi_197_3 ?_
  refine V_stat (As := [.long (Int64.ofInt (k)), .long (Int64.ofInt (0)), .long (Int64.ofInt (2))]) (st := []) mi_197_6 (by omega) (inM2 (m := k) (lo := 0) (hi := 2) (by omega) (by omega) (by omega) (by omega) (by omega) (by omega)) (by omega) (show 3 = mN 193 by decide +kernel) (by simp [Value.category]) ⟨Nat.le_refl _, Nat.le_refl _⟩ ?_
  rintro r w1 ⟨rfl, rfl⟩
  refine V_bne mi_197_9  (fun c => ?_) (fun c => ?_)
  · exact absurd (of_decide_eq_true c) hk
  · refine V_ipush mi_197_12 ?_
    exact V_retI mi_197_14 (fun h => absurd h (by decide +kernel)) ⟨rfl, rfl⟩
theorem bakM_ct {q : Nat} {b : Bool} (hq : q < 3) (hG : GOK ad tys GG ws) (hb : rd ws 93 q = some (.int (bI b))) : CT l D tys A 197 4 0 0 [.ref (ad 90), .int (Int32.ofInt (q : Int))] ws (fun r w => GOK ad tys GG w ∧ MO ws w ∧ (b = true → r = some (.int (Int32.ofInt 0)) ∧ ∀ j, j < 294 → rd w 91 j = rd ws 92 (294 * q + j)) ∧ (b = false → r = some (.int (Int32.ofInt (-6))) ∧ w = ws)) := by
  refine CT_of_V (by omega) (show (2 : Nat) ≤ mML 197 by decide +kernel) ?_
  obtain ⟨s93, e93, t93⟩ := gb93b
  refine V_iload (v := Int32.ofInt ((q : Int))) mi_197_0 (by simp [stL, lv_args, Value.category]) ?_
  refine V_i2l mi_197_1 ?_
  rw [i2lx ⟨by omega, by omega⟩]
  refine V_lpush mi_197_2 ?_
  refine V_lpush mi_197_3 ?_
  refine V_stat (As := [.long (Int64.ofInt ((q : Int))), .long (Int64.ofInt (0)), .long (Int64.ofInt (2))]) (st := []) mi_197_6 (by omega) (inM2 (m := (q : Int)) (lo := 0) (hi := 2) (by omega) (by omega) (by omega) (by omega) (by omega) (by omega)) (by omega) (show 3 = mN 193 by decide +kernel) (by simp [Value.category]) ⟨Nat.le_refl _, Nat.le_refl _⟩ ?_
  rintro r w1 ⟨rfl, rfl⟩
  refine V_bne mi_197_9  (fun c => ?_) (fun c => ?_)
  · refine V_aload (v := ad 90) mi_197_15 (by simp [stL, lv_args, Value.category]) ?_
    refine V_getI mi_197_16 hG (rref gr3m (by omega) hG) ?_
    refine V_iload (v := Int32.ofInt ((q : Int))) mi_197_19 (by simp [stL, lv_args, Value.category]) ?_
    refine V_zldR (j := q) mi_197_20 hG e93 hq (by omega) (show rd w1 93 q = some (.int (bI b)) from hb) ?_
    refine V_bne mi_197_21  (fun c2 => ?_) (fun c2 => ?_)
    · refine V_ipush mi_197_27 ?_
      refine V_istore mi_197_28 ?_
      refine V_sub (lv' := [(0, .ref (ad 90)), (1, .int (Int32.ofInt (q : Int))), (2, .int (Int32.ofInt ((0 : Nat) : Int)))]) (fun q hq => ?_) ?_
      · simp only [List.mem_cons, List.not_mem_nil, or_false] at hq
        rcases hq with rfl | rfl | rfl <;> simp [stL, lv_args, Value.category]
      refine ba_29 (w0 := w1) hq 294 0 w1 (by omega) hG (fun _ _ _ => rfl) (fun j hj => by omega) (fun w2 G2 O2 D2 => ?_)
      refine V_ipush mi_197_60 ?_
      exact V_retI mi_197_61 (fun h => absurd h (by decide +kernel)) ⟨G2, O2, fun _ => ⟨rfl, D2⟩, fun h => absurd (h.symm.trans c2) Bool.false_ne_true⟩
    · refine V_ipush mi_197_24 ?_
      exact V_retI mi_197_26 (fun h => absurd h (by decide +kernel)) ⟨hG, MO_rf, fun h => absurd (c2.symm.trans h) Bool.false_ne_true, fun _ => ⟨rfl, rfl⟩⟩
  · exact absurd (show 0 ≤ (q : Int) ∧ (q : Int) ≤ 2 by omega) (of_decide_eq_false c)
end XHD
