section
noncomputable def KS : List Nat := [0, 1, 2, 3, 4, 5, 6, 7, 8, 9, 10, 11, 12, 13, 14, 15, 54, 55, 56, 57, 58, 59, 60, 61, 62, 63, 64, 65, 66, 67, 68, 69, 70, 71, 72, 73, 74, 75, 76, 77, 78, 79, 80, 81, 82, 83, 84, 85, 86, 87, 88, 89, 91, 92, 93, 94]
noncomputable def KEP (w0 w : va_W) : Prop := (∀ c ∈ KS, ∀ j, rd w c j = rd w0 c j) ∧ ∀ j, spK j → rd w 90 j = rd w0 90 j
noncomputable def kpB (ms : List Nat) : Bool := KS.all (fun c => !(memN c ms))
theorem mem_memN {c : Nat} : ∀ {l : List Nat}, c ∈ l → memN c l = true
  | [], h => by cases h
  | x :: t, h => by
    unfold memN
    rcases List.mem_cons.mp h with rfl | h
    · rw [Nat.beq_refl, Bool.true_or]
    · rw [mem_memN h, Bool.or_true]
theorem KEP_of {ms : List Nat} {w0 w : va_W} (h : KEEP ms w0 w) (hb : kpB ms = true) : KEP w0 w := ⟨fun c hc j => h.1 c (fun q => by
  have e := List.all_eq_true.mp hb c hc
  rw [mem_memN q] at e
  cases e) j, h.2⟩
theorem KS_mem : (List.range 95).all (fun c => !(Nat.ble c 15 || (Nat.ble 54 c && Nat.ble c 89) || Nat.ble 91 c) || memN c KS) = true := by decide +kernel
theorem KEP_rels {w0 w : va_W} (h : RELH w0) (k : KEP w0 w) : RELH w := relh_keep h (fun c hc j => k.1 c (memN_in (by
  have q := List.all_eq_true.mp KS_mem c (List.mem_range.mpr (by omega))
  have e : (Nat.ble c 15 || (Nat.ble 54 c && Nat.ble c 89) || Nat.ble 91 c) = true := by
    simp only [Bool.or_eq_true, Bool.and_eq_true, Nat.ble_eq]
    omega
  rw [e] at q
  simpa using q)) j) k.2
noncomputable def UPk (ad : Nat → Nat) (tys : List (ClassId × FieldType)) (t : Nat) (w0 : va_W) (r : Option Value) (w : va_W) : Prop := UPo ad tys t r w ∧ KEP w0 w
noncomputable def UCP (l : Launch) (D : va_G) (tys : List (ClassId × FieldType)) (A : Nat → Prop) (ad : Nat → Nat) (y : Nat) (vs : List Value) (ws : va_W) (t : Nat) : Prop := ∃ d', d' < 11 ∧ CT l D tys A y d' 0 0 vs ws (UPk ad tys t ws)
section UCS
variable {l : Launch} {D : va_G} {tys : List (ClassId × FieldType)} {A : Nat → Prop} {ad : Nat → Nat} {ws : va_W}
theorem uc_i {c : CR} {d y : Nat} {lo hi : Int} {vs : List Value} (h : CRok l D tys A ad GG d c) (hy : c.1 = y) (hd : d ≤ 11) (hv : okvs ad c.2.1 vs) (hG : GOK ad tys GG ws) (hp : preOK ad c.2.2.1 ws) (hr : c.2.2.2.1 = some (0, lo, hi)) (hm : kpB c.2.2.2.2.2 = true) : UCP l D tys A ad y vs ws 0 := by
  subst hy
  obtain ⟨d', h1, h2⟩ := h vs ws hv hG hp
  refine ⟨d', Nat.lt_of_lt_of_le h1 hd, CT_post h2 ?_⟩
  rintro r w ⟨q1, q2, q3, q4⟩
  rw [hr] at q3
  cases r with
  | none => exact q3.elim
  | some v =>
    obtain ⟨z, rfl, -, -⟩ := q3
    exact ⟨⟨q1, Or.inl ⟨rfl, _, rfl⟩⟩, KEP_of (KEEP_F q2) hm⟩
theorem uc_k {K0 : va_W → Prop} {c : CR} {d y : Nat} {lo hi : Int} {vs : List Value} (h : CRokK l D tys A ad GG K0 d c) (hy : c.1 = y) (hd : d ≤ 11) (hv : okvs ad c.2.1 vs) (hG : GOK ad tys GG ws) (hp : preOK ad c.2.2.1 ws) (hk : K0 ws) (hr : c.2.2.2.1 = some (0, lo, hi)) (hm : kpB c.2.2.2.2.2 = true) : UCP l D tys A ad y vs ws 0 := by
  subst hy
  obtain ⟨d', h1, h2⟩ := h vs ws hv hG hp hk
  refine ⟨d', Nat.lt_of_lt_of_le h1 hd, CT_post h2 ?_⟩
  rintro r w ⟨q1, q2, q3, q4⟩
  rw [hr] at q3
  cases r with
  | none => exact q3.elim
  | some v =>
    obtain ⟨z, rfl, -, -⟩ := q3
    exact ⟨⟨q1, Or.inl ⟨rfl, _, rfl⟩⟩, KEP_of (KEEP_F q2) hm⟩
theorem uc_l {c : CR} {d y : Nat} {lo hi : Int} {vs : List Value} (h : CRok l D tys A ad GG d c) (hy : c.1 = y) (hd : d ≤ 11) (hv : okvs ad c.2.1 vs) (hG : GOK ad tys GG ws) (hp : preOK ad c.2.2.1 ws) (hr : c.2.2.2.1 = some (1, lo, hi)) (hm : kpB c.2.2.2.2.2 = true) : UCP l D tys A ad y vs ws 1 := by
  subst hy
  obtain ⟨d', h1, h2⟩ := h vs ws hv hG hp
  refine ⟨d', Nat.lt_of_lt_of_le h1 hd, CT_post h2 ?_⟩
  rintro r w ⟨q1, q2, q3, q4⟩
  rw [hr] at q3
  cases r with
  | none => exact q3.elim
  | some v =>
    obtain ⟨z, rfl, -, -⟩ := q3
    exact ⟨⟨q1, Or.inr ⟨rfl, _, rfl⟩⟩, KEP_of (KEEP_F q2) hm⟩
theorem cell_bd {c j ty n : Nat} {lo hi : Int} {segs : List SG} (hG : GOK ad tys GG ws) (hg : GG[c]? = some ((1, ty, n), segs)) (hj : j < n) (hs : segAt segs j = some (0, lo, hi)) : ∃ z : Int, rd ws c j = some (.int (Int32.ofInt z)) ∧ lo ≤ z ∧ z ≤ hi := by
  obtain ⟨e, b1, b2, b3⟩ := hG c _ hg
  obtain ⟨cA, f, rfl, c1, -⟩ := b2
  have hr : rdE (.inl (cA, n, .inl f)) j = some (.int (f j)) := by show (if j < n then _ else _) = _; rw [if_pos hj]
  obtain ⟨sp, r1, r2⟩ := b3 j _ hr
  rw [hs] at r1
  cases r1
  obtain ⟨z, z1, z2, z3⟩ := r2
  exact ⟨z, by rw [rd_at b1, hr, z1], z2, z3⟩
theorem pre_one {c j : Nat} {lo hi z : Int} (h : rd ws c j = some (.int (Int32.ofInt z))) (h1 : lo ≤ z) (h2 : z ≤ hi) : preOK ad [((c, j), (0, lo, hi))] ws := by
  intro q hq
  rw [List.mem_singleton.mp hq]
  exact ⟨_, h, z, rfl, h1, h2⟩
end UCS
end
section
section UCS0
variable {l : Launch} {D : va_G} {tys : List (ClassId × FieldType)} {A : Nat → Prop} {ad : Nat → Nat} {ws : va_W}
theorem u_X9 (hAD : ∀ i : Nat, ad (1000 + i) = D.2 1000 i) (hG : GOK ad tys GG ws) (a1 : Int32) (a2 : Int32) : UCP l D tys A ad 10 [.ref (ad 0), .int a1, .int a2] ws 0 := by
  have l1 := Int32.le_toInt a1
  have u1 := Int32.toInt_lt a1
  have l2 := Int32.le_toInt a2
  have u2 := Int32.toInt_lt a2
  exact uc_i (r92 hAD) rfl (by omega) ⟨rfl, ok_full, ok_full, trivial⟩ hG (fun q hq => by cases hq) rfl rfl
theorem u_M9 (hAD : ∀ i : Nat, ad (1000 + i) = D.2 1000 i) (hG : GOK ad tys GG ws) (a1 : Int32) (a2 : Int32) : UCP l D tys A ad 248 [.ref (ad 90), .int a1, .int a2] ws 0 := by
  have l1 := Int32.le_toInt a1
  have u1 := Int32.toInt_lt a1
  have l2 := Int32.le_toInt a2
  have u2 := Int32.toInt_lt a2
  exact uc_i (r93 hAD) rfl (by omega) ⟨rfl, ok_full, ok_full, trivial⟩ hG (fun q hq => by cases hq) rfl rfl
theorem u_X10 (hAD : ∀ i : Nat, ad (1000 + i) = D.2 1000 i) (hG : GOK ad tys GG ws) (a1 : Int32) (a2 : Int32) (a3 : Int32) : UCP l D tys A ad 11 [.ref (ad 0), .int a1, .int a2, .int a3] ws 0 := by
  have l1 := Int32.le_toInt a1
  have u1 := Int32.toInt_lt a1
  have l2 := Int32.le_toInt a2
  have u2 := Int32.toInt_lt a2
  have l3 := Int32.le_toInt a3
  have u3 := Int32.toInt_lt a3
  exact uc_i (r94 hAD) rfl (by omega) ⟨rfl, ok_full, ok_full, ok_full, trivial⟩ hG (fun q hq => by cases hq) rfl rfl
theorem u_M10 (hAD : ∀ i : Nat, ad (1000 + i) = D.2 1000 i) (hG : GOK ad tys GG ws) (a1 : Int32) (a2 : Int32) (a3 : Int32) : UCP l D tys A ad 249 [.ref (ad 90), .int a1, .int a2, .int a3] ws 0 := by
  have l1 := Int32.le_toInt a1
  have u1 := Int32.toInt_lt a1
  have l2 := Int32.le_toInt a2
  have u2 := Int32.toInt_lt a2
  have l3 := Int32.le_toInt a3
  have u3 := Int32.toInt_lt a3
  exact uc_i (r97 hAD) rfl (by omega) ⟨rfl, ok_full, ok_full, ok_full, trivial⟩ hG (fun q hq => by cases hq) rfl rfl
theorem u_X11 (hAD : ∀ i : Nat, ad (1000 + i) = D.2 1000 i) (hG : GOK ad tys GG ws) (a1 : Int32) : UCP l D tys A ad 12 [.ref (ad 0), .int a1] ws 0 := by
  have l1 := Int32.le_toInt a1
  have u1 := Int32.toInt_lt a1
  exact uc_i (r98 hAD) rfl (by omega) ⟨rfl, ok_full, trivial⟩ hG (fun q hq => by cases hq) rfl rfl
theorem u_M11 (hAD : ∀ i : Nat, ad (1000 + i) = D.2 1000 i) (hG : GOK ad tys GG ws) (a1 : Int32) : UCP l D tys A ad 250 [.ref (ad 90), .int a1] ws 0 := by
  have l1 := Int32.le_toInt a1
  have u1 := Int32.toInt_lt a1
  exact uc_i (r99 hAD) rfl (by omega) ⟨rfl, ok_full, trivial⟩ hG (fun q hq => by cases hq) rfl rfl
theorem u_X12 (hAD : ∀ i : Nat, ad (1000 + i) = D.2 1000 i) (hG : GOK ad tys GG ws) (a1 : Int32) : UCP l D tys A ad 13 [.ref (ad 0), .int a1] ws 0 := by
  have l1 := Int32.le_toInt a1
  have u1 := Int32.toInt_lt a1
  exact uc_i (r100 hAD) rfl (by omega) ⟨rfl, ok_full, trivial⟩ hG (fun q hq => by cases hq) rfl rfl
theorem u_M12 (hAD : ∀ i : Nat, ad (1000 + i) = D.2 1000 i) (hG : GOK ad tys GG ws) (a1 : Int32) : UCP l D tys A ad 251 [.ref (ad 90), .int a1] ws 0 := by
  have l1 := Int32.le_toInt a1
  have u1 := Int32.toInt_lt a1
  exact uc_i (r101 hAD) rfl (by omega) ⟨rfl, ok_full, trivial⟩ hG (fun q hq => by cases hq) rfl rfl
theorem u_X13 (hAD : ∀ i : Nat, ad (1000 + i) = D.2 1000 i) (hG : GOK ad tys GG ws) (a1 : Int32) : UCP l D tys A ad 14 [.ref (ad 0), .int a1] ws 0 := by
  have l1 := Int32.le_toInt a1
  have u1 := Int32.toInt_lt a1
  exact uc_i (r102 hAD) rfl (by omega) ⟨rfl, ok_full, trivial⟩ hG (fun q hq => by cases hq) rfl rfl
theorem u_M13 (hAD : ∀ i : Nat, ad (1000 + i) = D.2 1000 i) (hG : GOK ad tys GG ws) (a1 : Int32) : UCP l D tys A ad 252 [.ref (ad 90), .int a1] ws 0 := by
  have l1 := Int32.le_toInt a1
  have u1 := Int32.toInt_lt a1
  exact uc_i (r103 hAD) rfl (by omega) ⟨rfl, ok_full, trivial⟩ hG (fun q hq => by cases hq) rfl rfl
theorem u_X14 (hAD : ∀ i : Nat, ad (1000 + i) = D.2 1000 i) (hG : GOK ad tys GG ws) (a1 : Int32) (a2 : Int32) : UCP l D tys A ad 15 [.ref (ad 0), .int a1, .int a2] ws 0 := by
  have l1 := Int32.le_toInt a1
  have u1 := Int32.toInt_lt a1
  have l2 := Int32.le_toInt a2
  have u2 := Int32.toInt_lt a2
  exact uc_i (r105 hAD) rfl (by omega) ⟨rfl, ok_full, ok_full, trivial⟩ hG (fun q hq => by cases hq) rfl rfl
theorem u_M14 (hAD : ∀ i : Nat, ad (1000 + i) = D.2 1000 i) (hG : GOK ad tys GG ws) (a1 : Int32) (a2 : Int32) : UCP l D tys A ad 254 [.ref (ad 90), .int a1, .int a2] ws 0 := by
  have l1 := Int32.le_toInt a1
  have u1 := Int32.toInt_lt a1
  have l2 := Int32.le_toInt a2
  have u2 := Int32.toInt_lt a2
  exact uc_i (r107 hAD) rfl (by omega) ⟨rfl, ok_full, ok_full, trivial⟩ hG (fun q hq => by cases hq) rfl rfl
theorem u_X15 (hAD : ∀ i : Nat, ad (1000 + i) = D.2 1000 i) (hG : GOK ad tys GG ws) (a1 : Int32) (a2 : Int32) : UCP l D tys A ad 16 [.ref (ad 0), .int a1, .int a2] ws 0 := by
  have l1 := Int32.le_toInt a1
  have u1 := Int32.toInt_lt a1
  have l2 := Int32.le_toInt a2
  have u2 := Int32.toInt_lt a2
  exact uc_i (r109 hAD) rfl (by omega) ⟨rfl, ok_full, ok_full, trivial⟩ hG (fun q hq => by cases hq) rfl rfl
theorem u_M15 (hAD : ∀ i : Nat, ad (1000 + i) = D.2 1000 i) (hG : GOK ad tys GG ws) (a1 : Int32) (a2 : Int32) : UCP l D tys A ad 256 [.ref (ad 90), .int a1, .int a2] ws 0 := by
  have l1 := Int32.le_toInt a1
  have u1 := Int32.toInt_lt a1
  have l2 := Int32.le_toInt a2
  have u2 := Int32.toInt_lt a2
  exact uc_i (r111 hAD) rfl (by omega) ⟨rfl, ok_full, ok_full, trivial⟩ hG (fun q hq => by cases hq) rfl rfl
theorem u_X16 (hAD : ∀ i : Nat, ad (1000 + i) = D.2 1000 i) (hG : GOK ad tys GG ws) (a1 : Int32) : UCP l D tys A ad 17 [.ref (ad 0), .int a1] ws 0 := by
  have l1 := Int32.le_toInt a1
  have u1 := Int32.toInt_lt a1
  exact uc_i (r113 hAD) rfl (by omega) ⟨rfl, ok_full, trivial⟩ hG (fun q hq => by cases hq) rfl rfl
theorem u_M16 (hAD : ∀ i : Nat, ad (1000 + i) = D.2 1000 i) (hG : GOK ad tys GG ws) (a1 : Int32) : UCP l D tys A ad 258 [.ref (ad 90), .int a1] ws 0 := by
  have l1 := Int32.le_toInt a1
  have u1 := Int32.toInt_lt a1
  exact uc_i (r115 hAD) rfl (by omega) ⟨rfl, ok_full, trivial⟩ hG (fun q hq => by cases hq) rfl rfl
theorem u_X17 (hAD : ∀ i : Nat, ad (1000 + i) = D.2 1000 i) (hG : GOK ad tys GG ws) (a1 : Int32) : UCP l D tys A ad 18 [.ref (ad 0), .int a1] ws 0 := by
  have l1 := Int32.le_toInt a1
  have u1 := Int32.toInt_lt a1
  exact uc_i (r116 hAD) rfl (by omega) ⟨rfl, ok_full, trivial⟩ hG (fun q hq => by cases hq) rfl rfl
theorem u_M17 (hAD : ∀ i : Nat, ad (1000 + i) = D.2 1000 i) (hG : GOK ad tys GG ws) (a1 : Int32) : UCP l D tys A ad 259 [.ref (ad 90), .int a1] ws 0 := by
  have l1 := Int32.le_toInt a1
  have u1 := Int32.toInt_lt a1
  exact uc_i (r117 hAD) rfl (by omega) ⟨rfl, ok_full, trivial⟩ hG (fun q hq => by cases hq) rfl rfl
theorem u_X18 (hAD : ∀ i : Nat, ad (1000 + i) = D.2 1000 i) (hG : GOK ad tys GG ws) (a1 : Int32) : UCP l D tys A ad 19 [.ref (ad 0), .int a1] ws 0 := by
  have l1 := Int32.le_toInt a1
  have u1 := Int32.toInt_lt a1
  exact uc_i (r118 hAD) rfl (by omega) ⟨rfl, ok_full, trivial⟩ hG (fun q hq => by cases hq) rfl rfl
theorem u_M18 (hAD : ∀ i : Nat, ad (1000 + i) = D.2 1000 i) (hG : GOK ad tys GG ws) (a1 : Int32) : UCP l D tys A ad 260 [.ref (ad 90), .int a1] ws 0 := by
  have l1 := Int32.le_toInt a1
  have u1 := Int32.toInt_lt a1
  exact uc_i (r119 hAD) rfl (by omega) ⟨rfl, ok_full, trivial⟩ hG (fun q hq => by cases hq) rfl rfl
theorem u_X19 (hAD : ∀ i : Nat, ad (1000 + i) = D.2 1000 i) (hG : GOK ad tys GG ws) (a1 : Int32) (a2 : Int32) : UCP l D tys A ad 20 [.ref (ad 0), .int a1, .int a2] ws 0 := by
  have l1 := Int32.le_toInt a1
  have u1 := Int32.toInt_lt a1
  have l2 := Int32.le_toInt a2
  have u2 := Int32.toInt_lt a2
  exact uc_i (r121 hAD) rfl (by omega) ⟨rfl, ok_full, ok_full, trivial⟩ hG (fun q hq => by cases hq) rfl rfl
theorem u_M19 (hAD : ∀ i : Nat, ad (1000 + i) = D.2 1000 i) (hG : GOK ad tys GG ws) (a1 : Int32) (a2 : Int32) : UCP l D tys A ad 262 [.ref (ad 90), .int a1, .int a2] ws 0 := by
  have l1 := Int32.le_toInt a1
  have u1 := Int32.toInt_lt a1
  have l2 := Int32.le_toInt a2
  have u2 := Int32.toInt_lt a2
  exact uc_i (r124 hAD) rfl (by omega) ⟨rfl, ok_full, ok_full, trivial⟩ hG (fun q hq => by cases hq) rfl rfl
theorem u_X20 (hAD : ∀ i : Nat, ad (1000 + i) = D.2 1000 i) (hG : GOK ad tys GG ws) (a1 : Int32) : UCP l D tys A ad 21 [.ref (ad 0), .int a1] ws 0 := by
  have l1 := Int32.le_toInt a1
  have u1 := Int32.toInt_lt a1
  exact uc_i (r125 hAD) rfl (by omega) ⟨rfl, ok_full, trivial⟩ hG (fun q hq => by cases hq) rfl rfl
theorem u_M20 (hAD : ∀ i : Nat, ad (1000 + i) = D.2 1000 i) (hG : GOK ad tys GG ws) (a1 : Int32) : UCP l D tys A ad 263 [.ref (ad 90), .int a1] ws 0 := by
  have l1 := Int32.le_toInt a1
  have u1 := Int32.toInt_lt a1
  exact uc_i (r126 hAD) rfl (by omega) ⟨rfl, ok_full, trivial⟩ hG (fun q hq => by cases hq) rfl rfl
end UCS0
end
section
section UCS1
variable {l : Launch} {D : va_G} {tys : List (ClassId × FieldType)} {A : Nat → Prop} {ad : Nat → Nat} {ws : va_W}
theorem u_X21 (hAD : ∀ i : Nat, ad (1000 + i) = D.2 1000 i) (hG : GOK ad tys GG ws) (a1 : Int32) (a2 : Int32) (a3 : Int32) : UCP l D tys A ad 22 [.ref (ad 0), .int a1, .int a2, .int a3] ws 0 := by
  have l1 := Int32.le_toInt a1
  have u1 := Int32.toInt_lt a1
  have l2 := Int32.le_toInt a2
  have u2 := Int32.toInt_lt a2
  have l3 := Int32.le_toInt a3
  have u3 := Int32.toInt_lt a3
  exact uc_i (r128 hAD) rfl (by omega) ⟨rfl, ok_full, ok_full, ok_full, trivial⟩ hG (fun q hq => by cases hq) rfl rfl
theorem u_M21 (hAD : ∀ i : Nat, ad (1000 + i) = D.2 1000 i) (hG : GOK ad tys GG ws) (a1 : Int32) (a2 : Int32) (a3 : Int32) : UCP l D tys A ad 266 [.ref (ad 90), .int a1, .int a2, .int a3] ws 0 := by
  have l1 := Int32.le_toInt a1
  have u1 := Int32.toInt_lt a1
  have l2 := Int32.le_toInt a2
  have u2 := Int32.toInt_lt a2
  have l3 := Int32.le_toInt a3
  have u3 := Int32.toInt_lt a3
  exact uc_i (r130 hAD) rfl (by omega) ⟨rfl, ok_full, ok_full, ok_full, trivial⟩ hG (fun q hq => by cases hq) rfl rfl
theorem u_X22 (hAD : ∀ i : Nat, ad (1000 + i) = D.2 1000 i) (hG : GOK ad tys GG ws) (a1 : Int32) (a2 : Int32) : UCP l D tys A ad 23 [.ref (ad 0), .int a1, .int a2] ws 0 := by
  have l1 := Int32.le_toInt a1
  have u1 := Int32.toInt_lt a1
  have l2 := Int32.le_toInt a2
  have u2 := Int32.toInt_lt a2
  exact uc_i (r131 hAD) rfl (by omega) ⟨rfl, ok_full, ok_full, trivial⟩ hG (fun q hq => by cases hq) rfl rfl
theorem u_M22 (hAD : ∀ i : Nat, ad (1000 + i) = D.2 1000 i) (hG : GOK ad tys GG ws) (a1 : Int32) (a2 : Int32) : UCP l D tys A ad 267 [.ref (ad 90), .int a1, .int a2] ws 0 := by
  have l1 := Int32.le_toInt a1
  have u1 := Int32.toInt_lt a1
  have l2 := Int32.le_toInt a2
  have u2 := Int32.toInt_lt a2
  exact uc_i (r132 hAD) rfl (by omega) ⟨rfl, ok_full, ok_full, trivial⟩ hG (fun q hq => by cases hq) rfl rfl
theorem u_X23 (hAD : ∀ i : Nat, ad (1000 + i) = D.2 1000 i) (hG : GOK ad tys GG ws) (a1 : Int32) (a2 : Int32) : UCP l D tys A ad 24 [.ref (ad 0), .int a1, .int a2] ws 0 := by
  have l1 := Int32.le_toInt a1
  have u1 := Int32.toInt_lt a1
  have l2 := Int32.le_toInt a2
  have u2 := Int32.toInt_lt a2
  exact uc_i (r133 hAD) rfl (by omega) ⟨rfl, ok_full, ok_full, trivial⟩ hG (fun q hq => by cases hq) rfl rfl
theorem u_M23 (hAD : ∀ i : Nat, ad (1000 + i) = D.2 1000 i) (hG : GOK ad tys GG ws) (a1 : Int32) (a2 : Int32) : UCP l D tys A ad 268 [.ref (ad 90), .int a1, .int a2] ws 0 := by
  have l1 := Int32.le_toInt a1
  have u1 := Int32.toInt_lt a1
  have l2 := Int32.le_toInt a2
  have u2 := Int32.toInt_lt a2
  exact uc_i (r134 hAD) rfl (by omega) ⟨rfl, ok_full, ok_full, trivial⟩ hG (fun q hq => by cases hq) rfl rfl
theorem u_X24 (hAD : ∀ i : Nat, ad (1000 + i) = D.2 1000 i) (hG : GOK ad tys GG ws) (a1 : Int32) (a2 : Int32) : UCP l D tys A ad 25 [.ref (ad 0), .int a1, .int a2] ws 0 := by
  have l1 := Int32.le_toInt a1
  have u1 := Int32.toInt_lt a1
  have l2 := Int32.le_toInt a2
  have u2 := Int32.toInt_lt a2
  exact uc_i (r135 hAD) rfl (by omega) ⟨rfl, ok_full, ok_full, trivial⟩ hG (fun q hq => by cases hq) rfl rfl
theorem u_M24 (hAD : ∀ i : Nat, ad (1000 + i) = D.2 1000 i) (hG : GOK ad tys GG ws) (a1 : Int32) (a2 : Int32) : UCP l D tys A ad 269 [.ref (ad 90), .int a1, .int a2] ws 0 := by
  have l1 := Int32.le_toInt a1
  have u1 := Int32.toInt_lt a1
  have l2 := Int32.le_toInt a2
  have u2 := Int32.toInt_lt a2
  exact uc_i (r136 hAD) rfl (by omega) ⟨rfl, ok_full, ok_full, trivial⟩ hG (fun q hq => by cases hq) rfl rfl
theorem u_X26 (hAD : ∀ i : Nat, ad (1000 + i) = D.2 1000 i) (hG : GOK ad tys GG ws) (a1 : Int32) : UCP l D tys A ad 28 [.ref (ad 0), .int a1] ws 0 := by
  have l1 := Int32.le_toInt a1
  have u1 := Int32.toInt_lt a1
  exact uc_i (r139 hAD) rfl (by omega) ⟨rfl, ok_full, trivial⟩ hG (fun q hq => by cases hq) rfl rfl
theorem u_M26 (hAD : ∀ i : Nat, ad (1000 + i) = D.2 1000 i) (hG : GOK ad tys GG ws) (a1 : Int32) : UCP l D tys A ad 271 [.ref (ad 90), .int a1] ws 0 := by
  have l1 := Int32.le_toInt a1
  have u1 := Int32.toInt_lt a1
  exact uc_i (r140 hAD) rfl (by omega) ⟨rfl, ok_full, trivial⟩ hG (fun q hq => by cases hq) rfl rfl
theorem u_X29 (hAD : ∀ i : Nat, ad (1000 + i) = D.2 1000 i) (hG : GOK ad tys GG ws) (a1 : Int32) : UCP l D tys A ad 32 [.ref (ad 0), .int a1] ws 0 := by
  have l1 := Int32.le_toInt a1
  have u1 := Int32.toInt_lt a1
  exact uc_i (r149 hAD) rfl (by omega) ⟨rfl, ok_full, trivial⟩ hG (fun q hq => by cases hq) rfl rfl
theorem u_M29 (hAD : ∀ i : Nat, ad (1000 + i) = D.2 1000 i) (hG : GOK ad tys GG ws) (a1 : Int32) : UCP l D tys A ad 278 [.ref (ad 90), .int a1] ws 0 := by
  have l1 := Int32.le_toInt a1
  have u1 := Int32.toInt_lt a1
  exact uc_i (r150 hAD) rfl (by omega) ⟨rfl, ok_full, trivial⟩ hG (fun q hq => by cases hq) rfl rfl
theorem u_X30 (hAD : ∀ i : Nat, ad (1000 + i) = D.2 1000 i) (hG : GOK ad tys GG ws) (a1 : Int32) (a2 : Int32) : UCP l D tys A ad 33 [.ref (ad 0), .int a1, .int a2] ws 0 := by
  have l1 := Int32.le_toInt a1
  have u1 := Int32.toInt_lt a1
  have l2 := Int32.le_toInt a2
  have u2 := Int32.toInt_lt a2
  exact uc_i (r153 hAD) rfl (by omega) ⟨rfl, ok_full, ok_full, trivial⟩ hG (fun q hq => by cases hq) rfl rfl
theorem u_M30 (hAD : ∀ i : Nat, ad (1000 + i) = D.2 1000 i) (hG : GOK ad tys GG ws) (a1 : Int32) (a2 : Int32) : UCP l D tys A ad 280 [.ref (ad 90), .int a1, .int a2] ws 0 := by
  have l1 := Int32.le_toInt a1
  have u1 := Int32.toInt_lt a1
  have l2 := Int32.le_toInt a2
  have u2 := Int32.toInt_lt a2
  exact uc_i (r155 hAD) rfl (by omega) ⟨rfl, ok_full, ok_full, trivial⟩ hG (fun q hq => by cases hq) rfl rfl
theorem u_X31 (hAD : ∀ i : Nat, ad (1000 + i) = D.2 1000 i) (hG : GOK ad tys GG ws) (a1 : Int32) (a2 : Int32) : UCP l D tys A ad 34 [.ref (ad 0), .int a1, .int a2] ws 0 := by
  have l1 := Int32.le_toInt a1
  have u1 := Int32.toInt_lt a1
  have l2 := Int32.le_toInt a2
  have u2 := Int32.toInt_lt a2
  exact uc_i (r156 hAD) rfl (by omega) ⟨rfl, ok_full, ok_full, trivial⟩ hG (fun q hq => by cases hq) rfl rfl
theorem u_M31 (hAD : ∀ i : Nat, ad (1000 + i) = D.2 1000 i) (hG : GOK ad tys GG ws) (a1 : Int32) (a2 : Int32) : UCP l D tys A ad 281 [.ref (ad 90), .int a1, .int a2] ws 0 := by
  have l1 := Int32.le_toInt a1
  have u1 := Int32.toInt_lt a1
  have l2 := Int32.le_toInt a2
  have u2 := Int32.toInt_lt a2
  exact uc_i (r157 hAD) rfl (by omega) ⟨rfl, ok_full, ok_full, trivial⟩ hG (fun q hq => by cases hq) rfl rfl
theorem u_X32 (hAD : ∀ i : Nat, ad (1000 + i) = D.2 1000 i) (hG : GOK ad tys GG ws)  : UCP l D tys A ad 35 [.ref (ad 0)] ws 0 := by
  exact uc_i (r161 hAD) rfl (by omega) ⟨rfl, trivial⟩ hG (fun q hq => by cases hq) rfl rfl
theorem u_M32 (hAD : ∀ i : Nat, ad (1000 + i) = D.2 1000 i) (hG : GOK ad tys GG ws)  : UCP l D tys A ad 283 [.ref (ad 90)] ws 0 := by
  exact uc_i (r163 hAD) rfl (by omega) ⟨rfl, trivial⟩ hG (fun q hq => by cases hq) rfl rfl
theorem u_X33 (hAD : ∀ i : Nat, ad (1000 + i) = D.2 1000 i) (hG : GOK ad tys GG ws) (a1 : Int32) (a2 : Int32) : UCP l D tys A ad 36 [.ref (ad 0), .int a1, .int a2] ws 0 := by
  have l1 := Int32.le_toInt a1
  have u1 := Int32.toInt_lt a1
  have l2 := Int32.le_toInt a2
  have u2 := Int32.toInt_lt a2
  exact uc_i (r166 hAD) rfl (by omega) ⟨rfl, ok_full, ok_full, trivial⟩ hG (fun q hq => by cases hq) rfl rfl
theorem u_M33 (hAD : ∀ i : Nat, ad (1000 + i) = D.2 1000 i) (hG : GOK ad tys GG ws) (a1 : Int32) (a2 : Int32) : UCP l D tys A ad 286 [.ref (ad 90), .int a1, .int a2] ws 0 := by
  have l1 := Int32.le_toInt a1
  have u1 := Int32.toInt_lt a1
  have l2 := Int32.le_toInt a2
  have u2 := Int32.toInt_lt a2
  exact uc_i (r168 hAD) rfl (by omega) ⟨rfl, ok_full, ok_full, trivial⟩ hG (fun q hq => by cases hq) rfl rfl
theorem u_X34 (hAD : ∀ i : Nat, ad (1000 + i) = D.2 1000 i) (hG : GOK ad tys GG ws) (a1 : Int32) (a2 : Int32) : UCP l D tys A ad 37 [.ref (ad 0), .int a1, .int a2] ws 0 := by
  have l1 := Int32.le_toInt a1
  have u1 := Int32.toInt_lt a1
  have l2 := Int32.le_toInt a2
  have u2 := Int32.toInt_lt a2
  exact uc_i (r170 hAD) rfl (by omega) ⟨rfl, ok_full, ok_full, trivial⟩ hG (fun q hq => by cases hq) rfl rfl
theorem u_M34 (hAD : ∀ i : Nat, ad (1000 + i) = D.2 1000 i) (hG : GOK ad tys GG ws) (a1 : Int32) (a2 : Int32) : UCP l D tys A ad 287 [.ref (ad 90), .int a1, .int a2] ws 0 := by
  have l1 := Int32.le_toInt a1
  have u1 := Int32.toInt_lt a1
  have l2 := Int32.le_toInt a2
  have u2 := Int32.toInt_lt a2
  exact uc_i (r171 hAD) rfl (by omega) ⟨rfl, ok_full, ok_full, trivial⟩ hG (fun q hq => by cases hq) rfl rfl
theorem u_X35 (hAD : ∀ i : Nat, ad (1000 + i) = D.2 1000 i) (hG : GOK ad tys GG ws) (a1 : Int32) (a2 : Int32) : UCP l D tys A ad 38 [.ref (ad 0), .int a1, .int a2] ws 0 := by
  have l1 := Int32.le_toInt a1
  have u1 := Int32.toInt_lt a1
  have l2 := Int32.le_toInt a2
  have u2 := Int32.toInt_lt a2
  exact uc_i (r173 hAD) rfl (by omega) ⟨rfl, ok_full, ok_full, trivial⟩ hG (fun q hq => by cases hq) rfl rfl
end UCS1
end
section
section UCS2
variable {l : Launch} {D : va_G} {tys : List (ClassId × FieldType)} {A : Nat → Prop} {ad : Nat → Nat} {ws : va_W}
theorem u_M35 (hAD : ∀ i : Nat, ad (1000 + i) = D.2 1000 i) (hG : GOK ad tys GG ws) (a1 : Int32) (a2 : Int32) : UCP l D tys A ad 289 [.ref (ad 90), .int a1, .int a2] ws 0 := by
  have l1 := Int32.le_toInt a1
  have u1 := Int32.toInt_lt a1
  have l2 := Int32.le_toInt a2
  have u2 := Int32.toInt_lt a2
  exact uc_i (r176 hAD) rfl (by omega) ⟨rfl, ok_full, ok_full, trivial⟩ hG (fun q hq => by cases hq) rfl rfl
theorem u_X36 (hAD : ∀ i : Nat, ad (1000 + i) = D.2 1000 i) (hG : GOK ad tys GG ws) (a1 : Int32) (a2 : Int32) : UCP l D tys A ad 39 [.ref (ad 0), .int a1, .int a2] ws 0 := by
  have l1 := Int32.le_toInt a1
  have u1 := Int32.toInt_lt a1
  have l2 := Int32.le_toInt a2
  have u2 := Int32.toInt_lt a2
  exact uc_i (r177 hAD) rfl (by omega) ⟨rfl, ok_full, ok_full, trivial⟩ hG (fun q hq => by cases hq) rfl rfl
theorem u_M36 (hAD : ∀ i : Nat, ad (1000 + i) = D.2 1000 i) (hG : GOK ad tys GG ws) (a1 : Int32) (a2 : Int32) : UCP l D tys A ad 290 [.ref (ad 90), .int a1, .int a2] ws 0 := by
  have l1 := Int32.le_toInt a1
  have u1 := Int32.toInt_lt a1
  have l2 := Int32.le_toInt a2
  have u2 := Int32.toInt_lt a2
  exact uc_i (r178 hAD) rfl (by omega) ⟨rfl, ok_full, ok_full, trivial⟩ hG (fun q hq => by cases hq) rfl rfl
theorem u_X40 (hAD : ∀ i : Nat, ad (1000 + i) = D.2 1000 i) (hG : GOK ad tys GG ws) (a1 : Int32) (a2 : Int32) (a3 : Int32) : UCP l D tys A ad 45 [.ref (ad 0), .int a1, .int a2, .int a3] ws 0 := by
  have l1 := Int32.le_toInt a1
  have u1 := Int32.toInt_lt a1
  have l2 := Int32.le_toInt a2
  have u2 := Int32.toInt_lt a2
  have l3 := Int32.le_toInt a3
  have u3 := Int32.toInt_lt a3
  exact uc_i (r186 hAD) rfl (by omega) ⟨rfl, ok_full, ok_full, ok_full, trivial⟩ hG (fun q hq => by cases hq) rfl rfl
theorem u_M40 (hAD : ∀ i : Nat, ad (1000 + i) = D.2 1000 i) (hG : GOK ad tys GG ws) (a1 : Int32) (a2 : Int32) (a3 : Int32) : UCP l D tys A ad 296 [.ref (ad 90), .int a1, .int a2, .int a3] ws 0 := by
  have l1 := Int32.le_toInt a1
  have u1 := Int32.toInt_lt a1
  have l2 := Int32.le_toInt a2
  have u2 := Int32.toInt_lt a2
  have l3 := Int32.le_toInt a3
  have u3 := Int32.toInt_lt a3
  exact uc_i (r188 hAD) rfl (by omega) ⟨rfl, ok_full, ok_full, ok_full, trivial⟩ hG (fun q hq => by cases hq) rfl rfl
theorem u_X41 (hAD : ∀ i : Nat, ad (1000 + i) = D.2 1000 i) (hG : GOK ad tys GG ws) (a1 : Int32) (a2 : Int32) : UCP l D tys A ad 46 [.ref (ad 0), .int a1, .int a2] ws 0 := by
  have l1 := Int32.le_toInt a1
  have u1 := Int32.toInt_lt a1
  have l2 := Int32.le_toInt a2
  have u2 := Int32.toInt_lt a2
  exact uc_i (r190 hAD) rfl (by omega) ⟨rfl, ok_full, ok_full, trivial⟩ hG (fun q hq => by cases hq) rfl rfl
theorem u_M41 (hAD : ∀ i : Nat, ad (1000 + i) = D.2 1000 i) (hG : GOK ad tys GG ws) (a1 : Int32) (a2 : Int32) : UCP l D tys A ad 298 [.ref (ad 90), .int a1, .int a2] ws 0 := by
  have l1 := Int32.le_toInt a1
  have u1 := Int32.toInt_lt a1
  have l2 := Int32.le_toInt a2
  have u2 := Int32.toInt_lt a2
  exact uc_i (r192 hAD) rfl (by omega) ⟨rfl, ok_full, ok_full, trivial⟩ hG (fun q hq => by cases hq) rfl rfl
theorem u_X42 (hAD : ∀ i : Nat, ad (1000 + i) = D.2 1000 i) (hG : GOK ad tys GG ws) (a1 : Int32) (a2 : Int32) : UCP l D tys A ad 47 [.ref (ad 0), .int a1, .int a2] ws 0 := by
  have l1 := Int32.le_toInt a1
  have u1 := Int32.toInt_lt a1
  have l2 := Int32.le_toInt a2
  have u2 := Int32.toInt_lt a2
  exact uc_i (r193 hAD) rfl (by omega) ⟨rfl, ok_full, ok_full, trivial⟩ hG (fun q hq => by cases hq) rfl rfl
theorem u_M42 (hAD : ∀ i : Nat, ad (1000 + i) = D.2 1000 i) (hG : GOK ad tys GG ws) (a1 : Int32) (a2 : Int32) : UCP l D tys A ad 299 [.ref (ad 90), .int a1, .int a2] ws 0 := by
  have l1 := Int32.le_toInt a1
  have u1 := Int32.toInt_lt a1
  have l2 := Int32.le_toInt a2
  have u2 := Int32.toInt_lt a2
  exact uc_i (r194 hAD) rfl (by omega) ⟨rfl, ok_full, ok_full, trivial⟩ hG (fun q hq => by cases hq) rfl rfl
theorem u_X43 (hAD : ∀ i : Nat, ad (1000 + i) = D.2 1000 i) (hG : GOK ad tys GG ws) (a1 : Int32) (a2 : Int32) (a3 : Int32) : UCP l D tys A ad 48 [.ref (ad 0), .int a1, .int a2, .int a3] ws 0 := by
  have l1 := Int32.le_toInt a1
  have u1 := Int32.toInt_lt a1
  have l2 := Int32.le_toInt a2
  have u2 := Int32.toInt_lt a2
  have l3 := Int32.le_toInt a3
  have u3 := Int32.toInt_lt a3
  rcases (show a1.toInt ≤ 0 ∨ (1 ≤ a1.toInt ∧ a1.toInt ≤ 6) ∨ 7 ≤ a1.toInt by omega) with h | h | h
  · exact uc_i (r196 hAD) rfl (by omega) ⟨rfl, ok_int (by omega) (by omega), ok_full, ok_full, trivial⟩ hG (fun q hq => by cases hq) rfl rfl
  · rcases (show a2.toInt ≤ (-1) ∨ (0 ≤ a2.toInt ∧ a2.toInt ≤ 3) ∨ 4 ≤ a2.toInt by omega) with h | h | h
    · exact uc_i (r200 hAD) rfl (by omega) ⟨rfl, ok_int (by omega) (by omega), ok_int (by omega) (by omega), ok_full, trivial⟩ hG (fun q hq => by cases hq) rfl rfl
    · rcases (show a3.toInt ≤ (-1) ∨ (0 ≤ a3.toInt ∧ a3.toInt ≤ 3) ∨ 4 ≤ a3.toInt by omega) with h | h | h
      · exact uc_i (r204 hAD) rfl (by omega) ⟨rfl, ok_int (by omega) (by omega), ok_int (by omega) (by omega), ok_int (by omega) (by omega), trivial⟩ hG (fun q hq => by cases hq) rfl rfl
      · exact uc_i (r215 hAD) rfl (by omega) ⟨rfl, ok_int (by omega) (by omega), ok_int (by omega) (by omega), ok_int (by omega) (by omega), trivial⟩ hG (fun q hq => by cases hq) rfl rfl
      · exact uc_i (r206 hAD) rfl (by omega) ⟨rfl, ok_int (by omega) (by omega), ok_int (by omega) (by omega), ok_int (by omega) (by omega), trivial⟩ hG (fun q hq => by cases hq) rfl rfl
    · exact uc_i (r202 hAD) rfl (by omega) ⟨rfl, ok_int (by omega) (by omega), ok_int (by omega) (by omega), ok_full, trivial⟩ hG (fun q hq => by cases hq) rfl rfl
  · exact uc_i (r198 hAD) rfl (by omega) ⟨rfl, ok_int (by omega) (by omega), ok_full, ok_full, trivial⟩ hG (fun q hq => by cases hq) rfl rfl
end UCS2
end
section
section UCS3
variable {l : Launch} {D : va_G} {tys : List (ClassId × FieldType)} {A : Nat → Prop} {ad : Nat → Nat} {ws : va_W}
theorem u_M43 (hAD : ∀ i : Nat, ad (1000 + i) = D.2 1000 i) (hG : GOK ad tys GG ws) (a1 : Int32) (a2 : Int32) (a3 : Int32) : UCP l D tys A ad 303 [.ref (ad 90), .int a1, .int a2, .int a3] ws 0 := by
  have l1 := Int32.le_toInt a1
  have u1 := Int32.toInt_lt a1
  have l2 := Int32.le_toInt a2
  have u2 := Int32.toInt_lt a2
  have l3 := Int32.le_toInt a3
  have u3 := Int32.toInt_lt a3
  obtain ⟨z107_0, hz107_0, zl107_0, zu107_0⟩ := cell_bd (c := 107) (j := 0) hG rfl (by omega) (show segAt _ 0 = some (0, (-1), 60) by decide +kernel)
  obtain ⟨z107_1, hz107_1, zl107_1, zu107_1⟩ := cell_bd (c := 107) (j := 1) hG rfl (by omega) (show segAt _ 1 = some (0, (-1), 60) by decide +kernel)
  obtain ⟨z107_2, hz107_2, zl107_2, zu107_2⟩ := cell_bd (c := 107) (j := 2) hG rfl (by omega) (show segAt _ 2 = some (0, (-1), 60) by decide +kernel)
  obtain ⟨z107_3, hz107_3, zl107_3, zu107_3⟩ := cell_bd (c := 107) (j := 3) hG rfl (by omega) (show segAt _ 3 = some (0, (-1), 60) by decide +kernel)
  rcases (show a1.toInt ≤ 0 ∨ (1 ≤ a1.toInt ∧ a1.toInt ≤ 6) ∨ 7 ≤ a1.toInt by omega) with h | h | h
  · exact uc_i (r217 hAD) rfl (by omega) ⟨rfl, ok_int (by omega) (by omega), ok_full, ok_full, trivial⟩ hG (fun q hq => by cases hq) rfl rfl
  · rcases (show a2.toInt ≤ (-1) ∨ (0 ≤ a2.toInt ∧ a2.toInt ≤ 3) ∨ 4 ≤ a2.toInt by omega) with h | h | h
    · exact uc_i (r221 hAD) rfl (by omega) ⟨rfl, ok_int (by omega) (by omega), ok_int (by omega) (by omega), ok_full, trivial⟩ hG (fun q hq => by cases hq) rfl rfl
    · rcases (show a3.toInt ≤ 1 ∨ 2 ≤ a3.toInt by omega) with h | h
      · rcases (show a3.toInt ≤ (-1) ∨ a3.toInt = 0 ∨ a3.toInt = 1 by omega) with h | h | h
        · exact uc_i (r225 hAD) rfl (by omega) ⟨rfl, ok_int (by omega) (by omega), ok_int (by omega) (by omega), ok_int (by omega) (by omega), trivial⟩ hG (fun q hq => by cases hq) rfl rfl
        · rcases (show z107_0 = (-1) ∨ (0 ≤ z107_0 ∧ z107_0 ≤ 8) ∨ (9 ≤ z107_0 ∧ z107_0 ≤ 60) by omega) with h | h | h
          · exact uc_i (r229 hAD) rfl (by omega) ⟨rfl, ok_int (by omega) (by omega), ok_int (by omega) (by omega), ok_int (by omega) (by omega), trivial⟩ hG (pre_one hz107_0 (by omega) (by omega)) rfl rfl
          · exact uc_i (r232 hAD) rfl (by omega) ⟨rfl, ok_int (by omega) (by omega), ok_int (by omega) (by omega), ok_int (by omega) (by omega), trivial⟩ hG (pre_one hz107_0 (by omega) (by omega)) rfl rfl
          · exact uc_i (r234 hAD) rfl (by omega) ⟨rfl, ok_int (by omega) (by omega), ok_int (by omega) (by omega), ok_int (by omega) (by omega), trivial⟩ hG (pre_one hz107_0 (by omega) (by omega)) rfl rfl
        · rcases (show z107_1 = (-1) ∨ (0 ≤ z107_1 ∧ z107_1 ≤ 8) ∨ (9 ≤ z107_1 ∧ z107_1 ≤ 60) by omega) with h | h | h
          · exact uc_i (r236 hAD) rfl (by omega) ⟨rfl, ok_int (by omega) (by omega), ok_int (by omega) (by omega), ok_int (by omega) (by omega), trivial⟩ hG (pre_one hz107_1 (by omega) (by omega)) rfl rfl
          · exact uc_i (r239 hAD) rfl (by omega) ⟨rfl, ok_int (by omega) (by omega), ok_int (by omega) (by omega), ok_int (by omega) (by omega), trivial⟩ hG (pre_one hz107_1 (by omega) (by omega)) rfl rfl
          · exact uc_i (r241 hAD) rfl (by omega) ⟨rfl, ok_int (by omega) (by omega), ok_int (by omega) (by omega), ok_int (by omega) (by omega), trivial⟩ hG (pre_one hz107_1 (by omega) (by omega)) rfl rfl
      · rcases (show a3.toInt = 2 ∨ a3.toInt = 3 ∨ 4 ≤ a3.toInt by omega) with h | h | h
        · rcases (show z107_2 = (-1) ∨ (0 ≤ z107_2 ∧ z107_2 ≤ 8) ∨ (9 ≤ z107_2 ∧ z107_2 ≤ 60) by omega) with h | h | h
          · exact uc_i (r243 hAD) rfl (by omega) ⟨rfl, ok_int (by omega) (by omega), ok_int (by omega) (by omega), ok_int (by omega) (by omega), trivial⟩ hG (pre_one hz107_2 (by omega) (by omega)) rfl rfl
          · exact uc_i (r246 hAD) rfl (by omega) ⟨rfl, ok_int (by omega) (by omega), ok_int (by omega) (by omega), ok_int (by omega) (by omega), trivial⟩ hG (pre_one hz107_2 (by omega) (by omega)) rfl rfl
          · exact uc_i (r248 hAD) rfl (by omega) ⟨rfl, ok_int (by omega) (by omega), ok_int (by omega) (by omega), ok_int (by omega) (by omega), trivial⟩ hG (pre_one hz107_2 (by omega) (by omega)) rfl rfl
        · rcases (show z107_3 = (-1) ∨ (0 ≤ z107_3 ∧ z107_3 ≤ 8) ∨ (9 ≤ z107_3 ∧ z107_3 ≤ 60) by omega) with h | h | h
          · exact uc_i (r250 hAD) rfl (by omega) ⟨rfl, ok_int (by omega) (by omega), ok_int (by omega) (by omega), ok_int (by omega) (by omega), trivial⟩ hG (pre_one hz107_3 (by omega) (by omega)) rfl rfl
          · exact uc_i (r253 hAD) rfl (by omega) ⟨rfl, ok_int (by omega) (by omega), ok_int (by omega) (by omega), ok_int (by omega) (by omega), trivial⟩ hG (pre_one hz107_3 (by omega) (by omega)) rfl rfl
          · exact uc_i (r255 hAD) rfl (by omega) ⟨rfl, ok_int (by omega) (by omega), ok_int (by omega) (by omega), ok_int (by omega) (by omega), trivial⟩ hG (pre_one hz107_3 (by omega) (by omega)) rfl rfl
        · exact uc_i (r227 hAD) rfl (by omega) ⟨rfl, ok_int (by omega) (by omega), ok_int (by omega) (by omega), ok_int (by omega) (by omega), trivial⟩ hG (fun q hq => by cases hq) rfl rfl
    · exact uc_i (r223 hAD) rfl (by omega) ⟨rfl, ok_int (by omega) (by omega), ok_int (by omega) (by omega), ok_full, trivial⟩ hG (fun q hq => by cases hq) rfl rfl
  · exact uc_i (r219 hAD) rfl (by omega) ⟨rfl, ok_int (by omega) (by omega), ok_full, ok_full, trivial⟩ hG (fun q hq => by cases hq) rfl rfl
theorem u_X44 (hAD : ∀ i : Nat, ad (1000 + i) = D.2 1000 i) (hG : GOK ad tys GG ws) (a1 : Int32) (a2 : Int32) (a3 : Int32) (a4 : Int32) : UCP l D tys A ad 49 [.ref (ad 0), .int a1, .int a2, .int a3, .int a4] ws 0 := by
  have l1 := Int32.le_toInt a1
  have u1 := Int32.toInt_lt a1
  have l2 := Int32.le_toInt a2
  have u2 := Int32.toInt_lt a2
  have l3 := Int32.le_toInt a3
  have u3 := Int32.toInt_lt a3
  have l4 := Int32.le_toInt a4
  have u4 := Int32.toInt_lt a4
  rcases (show a1.toInt ≤ 0 ∨ (1 ≤ a1.toInt ∧ a1.toInt ≤ 6) ∨ 7 ≤ a1.toInt by omega) with h | h | h
  · exact uc_i (r256 hAD) rfl (by omega) ⟨rfl, ok_int (by omega) (by omega), ok_full, ok_full, ok_full, trivial⟩ hG (fun q hq => by cases hq) rfl rfl
  · rcases (show a2.toInt ≤ (-1) ∨ (0 ≤ a2.toInt ∧ a2.toInt ≤ 3) ∨ 4 ≤ a2.toInt by omega) with h | h | h
    · exact uc_i (r258 hAD) rfl (by omega) ⟨rfl, ok_int (by omega) (by omega), ok_int (by omega) (by omega), ok_full, ok_full, trivial⟩ hG (fun q hq => by cases hq) rfl rfl
    · rcases (show a3.toInt ≤ (-1) ∨ (0 ≤ a3.toInt ∧ a3.toInt ≤ 3) ∨ 4 ≤ a3.toInt by omega) with h | h | h
      · exact uc_i (r260 hAD) rfl (by omega) ⟨rfl, ok_int (by omega) (by omega), ok_int (by omega) (by omega), ok_int (by omega) (by omega), ok_full, trivial⟩ hG (fun q hq => by cases hq) rfl rfl
      · exact uc_i (r262 hAD) rfl (by omega) ⟨rfl, ok_int (by omega) (by omega), ok_int (by omega) (by omega), ok_int (by omega) (by omega), ok_full, trivial⟩ hG (fun q hq => by cases hq) rfl rfl
      · exact uc_i (r261 hAD) rfl (by omega) ⟨rfl, ok_int (by omega) (by omega), ok_int (by omega) (by omega), ok_int (by omega) (by omega), ok_full, trivial⟩ hG (fun q hq => by cases hq) rfl rfl
    · exact uc_i (r259 hAD) rfl (by omega) ⟨rfl, ok_int (by omega) (by omega), ok_int (by omega) (by omega), ok_full, ok_full, trivial⟩ hG (fun q hq => by cases hq) rfl rfl
  · exact uc_i (r257 hAD) rfl (by omega) ⟨rfl, ok_int (by omega) (by omega), ok_full, ok_full, ok_full, trivial⟩ hG (fun q hq => by cases hq) rfl rfl
theorem u_M44 (hAD : ∀ i : Nat, ad (1000 + i) = D.2 1000 i) (hG : GOK ad tys GG ws) (a1 : Int32) (a2 : Int32) (a3 : Int32) (a4 : Int32) : UCP l D tys A ad 304 [.ref (ad 90), .int a1, .int a2, .int a3, .int a4] ws 0 := ⟨4, by omega, CT_post (gv_ct hAD hG a1 a2 a3 a4) (fun r w h => ⟨⟨h.1, Or.inl ⟨rfl, h.2.1⟩⟩, KEP_of h.2.2 rfl⟩)⟩
theorem u_X45 (hAD : ∀ i : Nat, ad (1000 + i) = D.2 1000 i) (hG : GOK ad tys GG ws) (a1 : Int32) : UCP l D tys A ad 51 [.ref (ad 0), .int a1] ws 0 := by
  have l1 := Int32.le_toInt a1
  have u1 := Int32.toInt_lt a1
  rcases (show a1.toInt ≤ (-1) ∨ (0 ≤ a1.toInt ∧ a1.toInt ≤ 3) ∨ 4 ≤ a1.toInt by omega) with h | h | h
  · exact uc_i (r263 hAD) rfl (by omega) ⟨rfl, ok_int (by omega) (by omega), trivial⟩ hG (fun q hq => by cases hq) rfl rfl
  · exact uc_i (r268 hAD) rfl (by omega) ⟨rfl, ok_int (by omega) (by omega), trivial⟩ hG (fun q hq => by cases hq) rfl rfl
  · exact uc_i (r264 hAD) rfl (by omega) ⟨rfl, ok_int (by omega) (by omega), trivial⟩ hG (fun q hq => by cases hq) rfl rfl
end UCS3
end
section
section UCS4
variable {l : Launch} {D : va_G} {tys : List (ClassId × FieldType)} {A : Nat → Prop} {ad : Nat → Nat} {ws : va_W}
theorem u_M45 (hAD : ∀ i : Nat, ad (1000 + i) = D.2 1000 i) (hG : GOK ad tys GG ws) (a1 : Int32) : UCP l D tys A ad 308 [.ref (ad 90), .int a1] ws 0 := by
  have l1 := Int32.le_toInt a1
  have u1 := Int32.toInt_lt a1
  rcases (show a1.toInt ≤ (-1) ∨ (0 ≤ a1.toInt ∧ a1.toInt ≤ 3) ∨ 4 ≤ a1.toInt by omega) with h | h | h
  · exact uc_i (r270 hAD) rfl (by omega) ⟨rfl, ok_int (by omega) (by omega), trivial⟩ hG (fun q hq => by cases hq) rfl rfl
  · exact uc_i (r311 hAD) rfl (by omega) ⟨rfl, ok_int (by omega) (by omega), trivial⟩ hG (fun q hq => by cases hq) rfl rfl
  · exact uc_i (r272 hAD) rfl (by omega) ⟨rfl, ok_int (by omega) (by omega), trivial⟩ hG (fun q hq => by cases hq) rfl rfl
theorem u_X46 (hAD : ∀ i : Nat, ad (1000 + i) = D.2 1000 i) (hG : GOK ad tys GG ws) (a1 : Int32) (a2 : Int32) : UCP l D tys A ad 52 [.ref (ad 0), .int a1, .int a2] ws 0 := by
  have l1 := Int32.le_toInt a1
  have u1 := Int32.toInt_lt a1
  have l2 := Int32.le_toInt a2
  have u2 := Int32.toInt_lt a2
  rcases (show a1.toInt ≤ (-1) ∨ (0 ≤ a1.toInt ∧ a1.toInt ≤ 3) ∨ 4 ≤ a1.toInt by omega) with h | h | h
  · exact uc_i (r312 hAD) rfl (by omega) ⟨rfl, ok_int (by omega) (by omega), ok_full, trivial⟩ hG (fun q hq => by cases hq) rfl rfl
  · rcases (show a2.toInt ≤ 3 ∨ 4 ≤ a2.toInt by omega) with h | h
    · rcases (show a2.toInt ≤ 1 ∨ 2 ≤ a2.toInt by omega) with h | h
      · rcases (show a2.toInt ≤ 0 ∨ a2.toInt = 1 by omega) with h | h
        · exact uc_i (r314 hAD) rfl (by omega) ⟨rfl, ok_int (by omega) (by omega), ok_int (by omega) (by omega), trivial⟩ hG (fun q hq => by cases hq) rfl rfl
        · exact uc_i (r321 hAD) rfl (by omega) ⟨rfl, ok_int (by omega) (by omega), ok_int (by omega) (by omega), trivial⟩ hG (fun q hq => by cases hq) rfl rfl
      · rcases (show a2.toInt = 2 ∨ a2.toInt = 3 by omega) with h | h
        · exact uc_i (r323 hAD) rfl (by omega) ⟨rfl, ok_int (by omega) (by omega), ok_int (by omega) (by omega), trivial⟩ hG (fun q hq => by cases hq) rfl rfl
        · exact uc_i (r325 hAD) rfl (by omega) ⟨rfl, ok_int (by omega) (by omega), ok_int (by omega) (by omega), trivial⟩ hG (fun q hq => by cases hq) rfl rfl
    · rcases (show a2.toInt ≤ 5 ∨ 6 ≤ a2.toInt by omega) with h | h
      · rcases (show a2.toInt = 4 ∨ a2.toInt = 5 by omega) with h | h
        · exact uc_i (r327 hAD) rfl (by omega) ⟨rfl, ok_int (by omega) (by omega), ok_int (by omega) (by omega), trivial⟩ hG (fun q hq => by cases hq) rfl rfl
        · exact uc_i (r330 hAD) rfl (by omega) ⟨rfl, ok_int (by omega) (by omega), ok_int (by omega) (by omega), trivial⟩ hG (fun q hq => by cases hq) rfl rfl
      · rcases (show a2.toInt = 6 ∨ 7 ≤ a2.toInt by omega) with h | h
        · exact uc_i (r332 hAD) rfl (by omega) ⟨rfl, ok_int (by omega) (by omega), ok_int (by omega) (by omega), trivial⟩ hG (fun q hq => by cases hq) rfl rfl
        · exact uc_i (r315 hAD) rfl (by omega) ⟨rfl, ok_int (by omega) (by omega), ok_int (by omega) (by omega), trivial⟩ hG (fun q hq => by cases hq) rfl rfl
  · exact uc_i (r313 hAD) rfl (by omega) ⟨rfl, ok_int (by omega) (by omega), ok_full, trivial⟩ hG (fun q hq => by cases hq) rfl rfl
theorem u_M46 (hAD : ∀ i : Nat, ad (1000 + i) = D.2 1000 i) (hG : GOK ad tys GG ws) (a1 : Int32) (a2 : Int32) : UCP l D tys A ad 311 [.ref (ad 90), .int a1, .int a2] ws 0 := by
  have l1 := Int32.le_toInt a1
  have u1 := Int32.toInt_lt a1
  have l2 := Int32.le_toInt a2
  have u2 := Int32.toInt_lt a2
  obtain ⟨z91_0, hz91_0, zl91_0, zu91_0⟩ := cell_bd (c := 91) (j := 0) hG rfl (by omega) (show segAt _ 0 = some (0, 0, 9) by decide +kernel)
  rcases (show a1.toInt ≤ (-1) ∨ (0 ≤ a1.toInt ∧ a1.toInt ≤ 3) ∨ 4 ≤ a1.toInt by omega) with h | h | h
  · rcases (show z91_0 = 0 ∨ (1 ≤ z91_0 ∧ z91_0 ≤ 9) by omega) with h | h
    · exact uc_i (r335 hAD) rfl (by omega) ⟨rfl, ok_int (by omega) (by omega), ok_full, trivial⟩ hG (pre_one hz91_0 (by omega) (by omega)) rfl rfl
    · exact uc_i (r338 hAD) rfl (by omega) ⟨rfl, ok_int (by omega) (by omega), ok_full, trivial⟩ hG (pre_one hz91_0 (by omega) (by omega)) rfl rfl
  · rcases (show a2.toInt ≤ 3 ∨ 4 ≤ a2.toInt by omega) with h | h
    · rcases (show a2.toInt ≤ 1 ∨ 2 ≤ a2.toInt by omega) with h | h
      · rcases (show a2.toInt ≤ 0 ∨ a2.toInt = 1 by omega) with h | h
        · rcases (show z91_0 = 0 ∨ (1 ≤ z91_0 ∧ z91_0 ≤ 9) by omega) with h | h
          · exact uc_i (r346 hAD) rfl (by omega) ⟨rfl, ok_int (by omega) (by omega), ok_int (by omega) (by omega), trivial⟩ hG (pre_one hz91_0 (by omega) (by omega)) rfl rfl
          · exact uc_i (r348 hAD) rfl (by omega) ⟨rfl, ok_int (by omega) (by omega), ok_int (by omega) (by omega), trivial⟩ hG (pre_one hz91_0 (by omega) (by omega)) rfl rfl
        · rcases (show z91_0 = 0 ∨ (1 ≤ z91_0 ∧ z91_0 ≤ 9) by omega) with h | h
          · exact uc_i (r353 hAD) rfl (by omega) ⟨rfl, ok_int (by omega) (by omega), ok_int (by omega) (by omega), trivial⟩ hG (pre_one hz91_0 (by omega) (by omega)) rfl rfl
          · exact uc_i (r393 hAD) rfl (by omega) ⟨rfl, ok_int (by omega) (by omega), ok_int (by omega) (by omega), trivial⟩ hG (pre_one hz91_0 (by omega) (by omega)) rfl rfl
      · rcases (show a2.toInt = 2 ∨ a2.toInt = 3 by omega) with h | h
        · rcases (show z91_0 = 0 ∨ (1 ≤ z91_0 ∧ z91_0 ≤ 9) by omega) with h | h
          · exact uc_i (r395 hAD) rfl (by omega) ⟨rfl, ok_int (by omega) (by omega), ok_int (by omega) (by omega), trivial⟩ hG (pre_one hz91_0 (by omega) (by omega)) rfl rfl
          · exact uc_i (r398 hAD) rfl (by omega) ⟨rfl, ok_int (by omega) (by omega), ok_int (by omega) (by omega), trivial⟩ hG (pre_one hz91_0 (by omega) (by omega)) rfl rfl
        · rcases (show z91_0 = 0 ∨ (1 ≤ z91_0 ∧ z91_0 ≤ 9) by omega) with h | h
          · exact uc_i (r400 hAD) rfl (by omega) ⟨rfl, ok_int (by omega) (by omega), ok_int (by omega) (by omega), trivial⟩ hG (pre_one hz91_0 (by omega) (by omega)) rfl rfl
          · exact uc_i (r403 hAD) rfl (by omega) ⟨rfl, ok_int (by omega) (by omega), ok_int (by omega) (by omega), trivial⟩ hG (pre_one hz91_0 (by omega) (by omega)) rfl rfl
    · rcases (show a2.toInt ≤ 5 ∨ 6 ≤ a2.toInt by omega) with h | h
      · rcases (show a2.toInt = 4 ∨ a2.toInt = 5 by omega) with h | h
        · rcases (show z91_0 = 0 ∨ (1 ≤ z91_0 ∧ z91_0 ≤ 9) by omega) with h | h
          · exact uc_i (r405 hAD) rfl (by omega) ⟨rfl, ok_int (by omega) (by omega), ok_int (by omega) (by omega), trivial⟩ hG (pre_one hz91_0 (by omega) (by omega)) rfl rfl
          · exact uc_i (r408 hAD) rfl (by omega) ⟨rfl, ok_int (by omega) (by omega), ok_int (by omega) (by omega), trivial⟩ hG (pre_one hz91_0 (by omega) (by omega)) rfl rfl
        · rcases (show z91_0 = 0 ∨ (1 ≤ z91_0 ∧ z91_0 ≤ 9) by omega) with h | h
          · exact uc_i (r410 hAD) rfl (by omega) ⟨rfl, ok_int (by omega) (by omega), ok_int (by omega) (by omega), trivial⟩ hG (pre_one hz91_0 (by omega) (by omega)) rfl rfl
          · exact uc_i (r413 hAD) rfl (by omega) ⟨rfl, ok_int (by omega) (by omega), ok_int (by omega) (by omega), trivial⟩ hG (pre_one hz91_0 (by omega) (by omega)) rfl rfl
      · rcases (show a2.toInt = 6 ∨ 7 ≤ a2.toInt by omega) with h | h
        · rcases (show z91_0 = 0 ∨ (1 ≤ z91_0 ∧ z91_0 ≤ 9) by omega) with h | h
          · exact uc_i (r415 hAD) rfl (by omega) ⟨rfl, ok_int (by omega) (by omega), ok_int (by omega) (by omega), trivial⟩ hG (pre_one hz91_0 (by omega) (by omega)) rfl rfl
          · exact uc_i (r418 hAD) rfl (by omega) ⟨rfl, ok_int (by omega) (by omega), ok_int (by omega) (by omega), trivial⟩ hG (pre_one hz91_0 (by omega) (by omega)) rfl rfl
        · rcases (show z91_0 = 0 ∨ (1 ≤ z91_0 ∧ z91_0 ≤ 9) by omega) with h | h
          · exact uc_i (r349 hAD) rfl (by omega) ⟨rfl, ok_int (by omega) (by omega), ok_int (by omega) (by omega), trivial⟩ hG (pre_one hz91_0 (by omega) (by omega)) rfl rfl
          · exact uc_i (r350 hAD) rfl (by omega) ⟨rfl, ok_int (by omega) (by omega), ok_int (by omega) (by omega), trivial⟩ hG (pre_one hz91_0 (by omega) (by omega)) rfl rfl
  · rcases (show z91_0 = 0 ∨ (1 ≤ z91_0 ∧ z91_0 ≤ 9) by omega) with h | h
    · exact uc_i (r341 hAD) rfl (by omega) ⟨rfl, ok_int (by omega) (by omega), ok_full, trivial⟩ hG (pre_one hz91_0 (by omega) (by omega)) rfl rfl
    · exact uc_i (r344 hAD) rfl (by omega) ⟨rfl, ok_int (by omega) (by omega), ok_full, trivial⟩ hG (pre_one hz91_0 (by omega) (by omega)) rfl rfl
end UCS4
end
section
section UCS5
variable {l : Launch} {D : va_G} {tys : List (ClassId × FieldType)} {A : Nat → Prop} {ad : Nat → Nat} {ws : va_W}
theorem u_X47 (hAD : ∀ i : Nat, ad (1000 + i) = D.2 1000 i) (hG : GOK ad tys GG ws) (a1 : Int32) : UCP l D tys A ad 54 [.ref (ad 0), .int a1] ws 0 := by
  have l1 := Int32.le_toInt a1
  have u1 := Int32.toInt_lt a1
  rcases (show a1.toInt ≤ 1 ∨ 2 ≤ a1.toInt by omega) with h | h
  · rcases (show a1.toInt ≤ (-1) ∨ a1.toInt = 0 ∨ a1.toInt = 1 by omega) with h | h | h
    · exact uc_i (r419 hAD) rfl (by omega) ⟨rfl, ok_int (by omega) (by omega), trivial⟩ hG (fun q hq => by cases hq) rfl rfl
    · exact uc_i (r423 hAD) rfl (by omega) ⟨rfl, ok_int (by omega) (by omega), trivial⟩ hG (fun q hq => by cases hq) rfl rfl
    · exact uc_i (r426 hAD) rfl (by omega) ⟨rfl, ok_int (by omega) (by omega), trivial⟩ hG (fun q hq => by cases hq) rfl rfl
  · rcases (show a1.toInt = 2 ∨ a1.toInt = 3 ∨ 4 ≤ a1.toInt by omega) with h | h | h
    · exact uc_i (r429 hAD) rfl (by omega) ⟨rfl, ok_int (by omega) (by omega), trivial⟩ hG (fun q hq => by cases hq) rfl rfl
    · exact uc_i (r432 hAD) rfl (by omega) ⟨rfl, ok_int (by omega) (by omega), trivial⟩ hG (fun q hq => by cases hq) rfl rfl
    · exact uc_i (r420 hAD) rfl (by omega) ⟨rfl, ok_int (by omega) (by omega), trivial⟩ hG (fun q hq => by cases hq) rfl rfl
theorem u_M47 (hAD : ∀ i : Nat, ad (1000 + i) = D.2 1000 i) (hG : GOK ad tys GG ws) (a1 : Int32) : UCP l D tys A ad 315 [.ref (ad 90), .int a1] ws 0 := by
  have l1 := Int32.le_toInt a1
  have u1 := Int32.toInt_lt a1
  rcases (show a1.toInt ≤ 1 ∨ 2 ≤ a1.toInt by omega) with h | h
  · rcases (show a1.toInt ≤ (-1) ∨ a1.toInt = 0 ∨ a1.toInt = 1 by omega) with h | h | h
    · exact uc_i (r434 hAD) rfl (by omega) ⟨rfl, ok_int (by omega) (by omega), trivial⟩ hG (fun q hq => by cases hq) rfl rfl
    · exact (Classical.em (PG 0 ws)).elim (fun hP => uc_k (K0 := PG 0) (r438 hAD) rfl (by omega) ⟨rfl, ok_int (by omega) (by omega), trivial⟩ hG (fun q hq => by cases hq) hP rfl rfl) (fun hP => uc_k (K0 := fun w => ¬ PG 0 w) (rn438 hAD) rfl (by omega) ⟨rfl, ok_int (by omega) (by omega), trivial⟩ hG (fun q hq => by cases hq) hP rfl rfl)
    · exact (Classical.em (PG 1 ws)).elim (fun hP => uc_k (K0 := PG 1) (r440 hAD) rfl (by omega) ⟨rfl, ok_int (by omega) (by omega), trivial⟩ hG (fun q hq => by cases hq) hP rfl rfl) (fun hP => uc_k (K0 := fun w => ¬ PG 1 w) (rn440 hAD) rfl (by omega) ⟨rfl, ok_int (by omega) (by omega), trivial⟩ hG (fun q hq => by cases hq) hP rfl rfl)
  · rcases (show a1.toInt = 2 ∨ a1.toInt = 3 ∨ 4 ≤ a1.toInt by omega) with h | h | h
    · exact (Classical.em (PG 2 ws)).elim (fun hP => uc_k (K0 := PG 2) (r442 hAD) rfl (by omega) ⟨rfl, ok_int (by omega) (by omega), trivial⟩ hG (fun q hq => by cases hq) hP rfl rfl) (fun hP => uc_k (K0 := fun w => ¬ PG 2 w) (rn442 hAD) rfl (by omega) ⟨rfl, ok_int (by omega) (by omega), trivial⟩ hG (fun q hq => by cases hq) hP rfl rfl)
    · exact (Classical.em (PG 3 ws)).elim (fun hP => uc_k (K0 := PG 3) (r444 hAD) rfl (by omega) ⟨rfl, ok_int (by omega) (by omega), trivial⟩ hG (fun q hq => by cases hq) hP rfl rfl) (fun hP => uc_k (K0 := fun w => ¬ PG 3 w) (rn444 hAD) rfl (by omega) ⟨rfl, ok_int (by omega) (by omega), trivial⟩ hG (fun q hq => by cases hq) hP rfl rfl)
    · exact uc_i (r436 hAD) rfl (by omega) ⟨rfl, ok_int (by omega) (by omega), trivial⟩ hG (fun q hq => by cases hq) rfl rfl
theorem u_X48 (hAD : ∀ i : Nat, ad (1000 + i) = D.2 1000 i) (hG : GOK ad tys GG ws) (a1 : Int32) : UCP l D tys A ad 55 [.ref (ad 0), .int a1] ws 0 := by
  have l1 := Int32.le_toInt a1
  have u1 := Int32.toInt_lt a1
  rcases (show a1.toInt ≤ 1 ∨ 2 ≤ a1.toInt by omega) with h | h
  · rcases (show a1.toInt ≤ (-1) ∨ a1.toInt = 0 ∨ a1.toInt = 1 by omega) with h | h | h
    · exact uc_i (r445 hAD) rfl (by omega) ⟨rfl, ok_int (by omega) (by omega), trivial⟩ hG (fun q hq => by cases hq) rfl rfl
    · exact uc_i (r449 hAD) rfl (by omega) ⟨rfl, ok_int (by omega) (by omega), trivial⟩ hG (fun q hq => by cases hq) rfl rfl
    · exact uc_i (r450 hAD) rfl (by omega) ⟨rfl, ok_int (by omega) (by omega), trivial⟩ hG (fun q hq => by cases hq) rfl rfl
  · rcases (show a1.toInt = 2 ∨ a1.toInt = 3 ∨ 4 ≤ a1.toInt by omega) with h | h | h
    · exact uc_i (r451 hAD) rfl (by omega) ⟨rfl, ok_int (by omega) (by omega), trivial⟩ hG (fun q hq => by cases hq) rfl rfl
    · exact uc_i (r452 hAD) rfl (by omega) ⟨rfl, ok_int (by omega) (by omega), trivial⟩ hG (fun q hq => by cases hq) rfl rfl
    · exact uc_i (r446 hAD) rfl (by omega) ⟨rfl, ok_int (by omega) (by omega), trivial⟩ hG (fun q hq => by cases hq) rfl rfl
theorem u_M48 (hAD : ∀ i : Nat, ad (1000 + i) = D.2 1000 i) (hG : GOK ad tys GG ws) (a1 : Int32) : UCP l D tys A ad 318 [.ref (ad 90), .int a1] ws 0 := by
  have l1 := Int32.le_toInt a1
  have u1 := Int32.toInt_lt a1
  rcases (show a1.toInt ≤ 1 ∨ 2 ≤ a1.toInt by omega) with h | h
  · rcases (show a1.toInt ≤ (-1) ∨ a1.toInt = 0 ∨ a1.toInt = 1 by omega) with h | h | h
    · exact uc_i (r455 hAD) rfl (by omega) ⟨rfl, ok_int (by omega) (by omega), trivial⟩ hG (fun q hq => by cases hq) rfl rfl
    · exact (Classical.em (PG 0 ws)).elim (fun hP => uc_k (K0 := PG 0) (r457 hAD) rfl (by omega) ⟨rfl, ok_int (by omega) (by omega), trivial⟩ hG (fun q hq => by cases hq) hP rfl rfl) (fun hP => uc_k (K0 := fun w => ¬ PG 0 w) (rn457 hAD) rfl (by omega) ⟨rfl, ok_int (by omega) (by omega), trivial⟩ hG (fun q hq => by cases hq) hP rfl rfl)
    · exact (Classical.em (PG 1 ws)).elim (fun hP => uc_k (K0 := PG 1) (r458 hAD) rfl (by omega) ⟨rfl, ok_int (by omega) (by omega), trivial⟩ hG (fun q hq => by cases hq) hP rfl rfl) (fun hP => uc_k (K0 := fun w => ¬ PG 1 w) (rn458 hAD) rfl (by omega) ⟨rfl, ok_int (by omega) (by omega), trivial⟩ hG (fun q hq => by cases hq) hP rfl rfl)
  · rcases (show a1.toInt = 2 ∨ a1.toInt = 3 ∨ 4 ≤ a1.toInt by omega) with h | h | h
    · exact (Classical.em (PG 2 ws)).elim (fun hP => uc_k (K0 := PG 2) (r459 hAD) rfl (by omega) ⟨rfl, ok_int (by omega) (by omega), trivial⟩ hG (fun q hq => by cases hq) hP rfl rfl) (fun hP => uc_k (K0 := fun w => ¬ PG 2 w) (rn459 hAD) rfl (by omega) ⟨rfl, ok_int (by omega) (by omega), trivial⟩ hG (fun q hq => by cases hq) hP rfl rfl)
    · exact (Classical.em (PG 3 ws)).elim (fun hP => uc_k (K0 := PG 3) (r460 hAD) rfl (by omega) ⟨rfl, ok_int (by omega) (by omega), trivial⟩ hG (fun q hq => by cases hq) hP rfl rfl) (fun hP => uc_k (K0 := fun w => ¬ PG 3 w) (rn460 hAD) rfl (by omega) ⟨rfl, ok_int (by omega) (by omega), trivial⟩ hG (fun q hq => by cases hq) hP rfl rfl)
    · exact uc_i (r456 hAD) rfl (by omega) ⟨rfl, ok_int (by omega) (by omega), trivial⟩ hG (fun q hq => by cases hq) rfl rfl
theorem u_X49 (hAD : ∀ i : Nat, ad (1000 + i) = D.2 1000 i) (hG : GOK ad tys GG ws) (a1 : Int32) : UCP l D tys A ad 56 [.ref (ad 0), .int a1] ws 0 := by
  have l1 := Int32.le_toInt a1
  have u1 := Int32.toInt_lt a1
  rcases (show a1.toInt ≤ 1 ∨ 2 ≤ a1.toInt by omega) with h | h
  · rcases (show a1.toInt ≤ (-1) ∨ a1.toInt = 0 ∨ a1.toInt = 1 by omega) with h | h | h
    · exact uc_i (r461 hAD) rfl (by omega) ⟨rfl, ok_int (by omega) (by omega), trivial⟩ hG (fun q hq => by cases hq) rfl rfl
    · exact uc_i (r463 hAD) rfl (by omega) ⟨rfl, ok_int (by omega) (by omega), trivial⟩ hG (fun q hq => by cases hq) rfl rfl
    · exact uc_i (r464 hAD) rfl (by omega) ⟨rfl, ok_int (by omega) (by omega), trivial⟩ hG (fun q hq => by cases hq) rfl rfl
  · rcases (show a1.toInt = 2 ∨ a1.toInt = 3 ∨ 4 ≤ a1.toInt by omega) with h | h | h
    · exact uc_i (r465 hAD) rfl (by omega) ⟨rfl, ok_int (by omega) (by omega), trivial⟩ hG (fun q hq => by cases hq) rfl rfl
    · exact uc_i (r466 hAD) rfl (by omega) ⟨rfl, ok_int (by omega) (by omega), trivial⟩ hG (fun q hq => by cases hq) rfl rfl
    · exact uc_i (r462 hAD) rfl (by omega) ⟨rfl, ok_int (by omega) (by omega), trivial⟩ hG (fun q hq => by cases hq) rfl rfl
end UCS5
end
section
section UCS6
variable {l : Launch} {D : va_G} {tys : List (ClassId × FieldType)} {A : Nat → Prop} {ad : Nat → Nat} {ws : va_W}
theorem u_M49 (hAD : ∀ i : Nat, ad (1000 + i) = D.2 1000 i) (hG : GOK ad tys GG ws) (a1 : Int32) : UCP l D tys A ad 319 [.ref (ad 90), .int a1] ws 0 := by
  have l1 := Int32.le_toInt a1
  have u1 := Int32.toInt_lt a1
  rcases (show a1.toInt ≤ 1 ∨ 2 ≤ a1.toInt by omega) with h | h
  · rcases (show a1.toInt ≤ (-1) ∨ a1.toInt = 0 ∨ a1.toInt = 1 by omega) with h | h | h
    · exact uc_i (r467 hAD) rfl (by omega) ⟨rfl, ok_int (by omega) (by omega), trivial⟩ hG (fun q hq => by cases hq) rfl rfl
    · exact (Classical.em (PG 0 ws)).elim (fun hP => uc_k (K0 := PG 0) (r469 hAD) rfl (by omega) ⟨rfl, ok_int (by omega) (by omega), trivial⟩ hG (fun q hq => by cases hq) hP rfl rfl) (fun hP => uc_k (K0 := fun w => ¬ PG 0 w) (rn469 hAD) rfl (by omega) ⟨rfl, ok_int (by omega) (by omega), trivial⟩ hG (fun q hq => by cases hq) hP rfl rfl)
    · exact (Classical.em (PG 1 ws)).elim (fun hP => uc_k (K0 := PG 1) (r470 hAD) rfl (by omega) ⟨rfl, ok_int (by omega) (by omega), trivial⟩ hG (fun q hq => by cases hq) hP rfl rfl) (fun hP => uc_k (K0 := fun w => ¬ PG 1 w) (rn470 hAD) rfl (by omega) ⟨rfl, ok_int (by omega) (by omega), trivial⟩ hG (fun q hq => by cases hq) hP rfl rfl)
  · rcases (show a1.toInt = 2 ∨ a1.toInt = 3 ∨ 4 ≤ a1.toInt by omega) with h | h | h
    · exact (Classical.em (PG 2 ws)).elim (fun hP => uc_k (K0 := PG 2) (r471 hAD) rfl (by omega) ⟨rfl, ok_int (by omega) (by omega), trivial⟩ hG (fun q hq => by cases hq) hP rfl rfl) (fun hP => uc_k (K0 := fun w => ¬ PG 2 w) (rn471 hAD) rfl (by omega) ⟨rfl, ok_int (by omega) (by omega), trivial⟩ hG (fun q hq => by cases hq) hP rfl rfl)
    · exact (Classical.em (PG 3 ws)).elim (fun hP => uc_k (K0 := PG 3) (r472 hAD) rfl (by omega) ⟨rfl, ok_int (by omega) (by omega), trivial⟩ hG (fun q hq => by cases hq) hP rfl rfl) (fun hP => uc_k (K0 := fun w => ¬ PG 3 w) (rn472 hAD) rfl (by omega) ⟨rfl, ok_int (by omega) (by omega), trivial⟩ hG (fun q hq => by cases hq) hP rfl rfl)
    · exact uc_i (r468 hAD) rfl (by omega) ⟨rfl, ok_int (by omega) (by omega), trivial⟩ hG (fun q hq => by cases hq) rfl rfl
theorem u_X50 (hAD : ∀ i : Nat, ad (1000 + i) = D.2 1000 i) (hG : GOK ad tys GG ws) (a1 : Int32) (a2 : Int32) (a3 : Int32) : UCP l D tys A ad 58 [.ref (ad 0), .int a1, .int a2, .int a3] ws 0 := by
  have l1 := Int32.le_toInt a1
  have u1 := Int32.toInt_lt a1
  have l2 := Int32.le_toInt a2
  have u2 := Int32.toInt_lt a2
  have l3 := Int32.le_toInt a3
  have u3 := Int32.toInt_lt a3
  exact uc_i (r475 hAD) rfl (by omega) ⟨rfl, ok_full, ok_full, ok_full, trivial⟩ hG (fun q hq => by cases hq) rfl rfl
theorem u_M50 (hAD : ∀ i : Nat, ad (1000 + i) = D.2 1000 i) (hG : GOK ad tys GG ws) (a1 : Int32) (a2 : Int32) (a3 : Int32) : UCP l D tys A ad 321 [.ref (ad 90), .int a1, .int a2, .int a3] ws 0 := by
  have l1 := Int32.le_toInt a1
  have u1 := Int32.toInt_lt a1
  have l2 := Int32.le_toInt a2
  have u2 := Int32.toInt_lt a2
  have l3 := Int32.le_toInt a3
  have u3 := Int32.toInt_lt a3
  exact uc_i (r484 hAD) rfl (by omega) ⟨rfl, ok_full, ok_full, ok_full, trivial⟩ hG (fun q hq => by cases hq) rfl rfl
theorem u_X51 (hAD : ∀ i : Nat, ad (1000 + i) = D.2 1000 i) (hG : GOK ad tys GG ws) (a1 : Int32) (a2 : Int32) : UCP l D tys A ad 59 [.ref (ad 0), .int a1, .int a2] ws 0 := by
  have l1 := Int32.le_toInt a1
  have u1 := Int32.toInt_lt a1
  have l2 := Int32.le_toInt a2
  have u2 := Int32.toInt_lt a2
  exact uc_i (r485 hAD) rfl (by omega) ⟨rfl, ok_full, ok_full, trivial⟩ hG (fun q hq => by cases hq) rfl rfl
theorem u_M51 (hAD : ∀ i : Nat, ad (1000 + i) = D.2 1000 i) (hG : GOK ad tys GG ws) (a1 : Int32) (a2 : Int32) : UCP l D tys A ad 322 [.ref (ad 90), .int a1, .int a2] ws 0 := by
  have l1 := Int32.le_toInt a1
  have u1 := Int32.toInt_lt a1
  have l2 := Int32.le_toInt a2
  have u2 := Int32.toInt_lt a2
  exact uc_i (r486 hAD) rfl (by omega) ⟨rfl, ok_full, ok_full, trivial⟩ hG (fun q hq => by cases hq) rfl rfl
theorem u_X52 (hAD : ∀ i : Nat, ad (1000 + i) = D.2 1000 i) (hG : GOK ad tys GG ws) (a1 : Int32) : UCP l D tys A ad 60 [.ref (ad 0), .int a1] ws 0 := by
  have l1 := Int32.le_toInt a1
  have u1 := Int32.toInt_lt a1
  rcases (show a1.toInt ≤ 3 ∨ 4 ≤ a1.toInt by omega) with h | h
  · rcases (show a1.toInt ≤ 1 ∨ 2 ≤ a1.toInt by omega) with h | h
    · rcases (show a1.toInt ≤ 0 ∨ a1.toInt = 1 by omega) with h | h
      · exact uc_i (r487 hAD) rfl (by omega) ⟨rfl, ok_int (by omega) (by omega), trivial⟩ hG (fun q hq => by cases hq) rfl rfl
      · exact uc_i (r495 hAD) rfl (by omega) ⟨rfl, ok_int (by omega) (by omega), trivial⟩ hG (fun q hq => by cases hq) rfl rfl
    · rcases (show a1.toInt = 2 ∨ a1.toInt = 3 by omega) with h | h
      · exact uc_i (r498 hAD) rfl (by omega) ⟨rfl, ok_int (by omega) (by omega), trivial⟩ hG (fun q hq => by cases hq) rfl rfl
      · exact uc_i (r502 hAD) rfl (by omega) ⟨rfl, ok_int (by omega) (by omega), trivial⟩ hG (fun q hq => by cases hq) rfl rfl
  · rcases (show a1.toInt ≤ 5 ∨ 6 ≤ a1.toInt by omega) with h | h
    · rcases (show a1.toInt = 4 ∨ a1.toInt = 5 by omega) with h | h
      · exact uc_i (r506 hAD) rfl (by omega) ⟨rfl, ok_int (by omega) (by omega), trivial⟩ hG (fun q hq => by cases hq) rfl rfl
      · exact uc_i (r510 hAD) rfl (by omega) ⟨rfl, ok_int (by omega) (by omega), trivial⟩ hG (fun q hq => by cases hq) rfl rfl
    · rcases (show a1.toInt = 6 ∨ 7 ≤ a1.toInt by omega) with h | h
      · exact uc_i (r514 hAD) rfl (by omega) ⟨rfl, ok_int (by omega) (by omega), trivial⟩ hG (fun q hq => by cases hq) rfl rfl
      · exact uc_i (r488 hAD) rfl (by omega) ⟨rfl, ok_int (by omega) (by omega), trivial⟩ hG (fun q hq => by cases hq) rfl rfl
end UCS6
end
section
section UCS7
variable {l : Launch} {D : va_G} {tys : List (ClassId × FieldType)} {A : Nat → Prop} {ad : Nat → Nat} {ws : va_W}
theorem u_M52 (hAD : ∀ i : Nat, ad (1000 + i) = D.2 1000 i) (hG : GOK ad tys GG ws) (a1 : Int32) : UCP l D tys A ad 325 [.ref (ad 90), .int a1] ws 0 := by
  have l1 := Int32.le_toInt a1
  have u1 := Int32.toInt_lt a1
  obtain ⟨z91_0, hz91_0, zl91_0, zu91_0⟩ := cell_bd (c := 91) (j := 0) hG rfl (by omega) (show segAt _ 0 = some (0, 0, 9) by decide +kernel)
  rcases (show a1.toInt ≤ 3 ∨ 4 ≤ a1.toInt by omega) with h | h
  · rcases (show a1.toInt ≤ 1 ∨ 2 ≤ a1.toInt by omega) with h | h
    · rcases (show a1.toInt ≤ 0 ∨ a1.toInt = 1 by omega) with h | h
      · rcases (show z91_0 = 0 ∨ (1 ≤ z91_0 ∧ z91_0 ≤ 9) by omega) with h | h
        · exact uc_i (r515 hAD) rfl (by omega) ⟨rfl, ok_int (by omega) (by omega), trivial⟩ hG (pre_one hz91_0 (by omega) (by omega)) rfl rfl
        · exact uc_i (r516 hAD) rfl (by omega) ⟨rfl, ok_int (by omega) (by omega), trivial⟩ hG (pre_one hz91_0 (by omega) (by omega)) rfl rfl
      · rcases (show z91_0 = 0 ∨ (1 ≤ z91_0 ∧ z91_0 ≤ 9) by omega) with h | h
        · exact uc_i (r519 hAD) rfl (by omega) ⟨rfl, ok_int (by omega) (by omega), trivial⟩ hG (pre_one hz91_0 (by omega) (by omega)) rfl rfl
        · exact uc_i (r522 hAD) rfl (by omega) ⟨rfl, ok_int (by omega) (by omega), trivial⟩ hG (pre_one hz91_0 (by omega) (by omega)) rfl rfl
    · rcases (show a1.toInt = 2 ∨ a1.toInt = 3 by omega) with h | h
      · rcases (show z91_0 = 0 ∨ (1 ≤ z91_0 ∧ z91_0 ≤ 9) by omega) with h | h
        · exact uc_i (r523 hAD) rfl (by omega) ⟨rfl, ok_int (by omega) (by omega), trivial⟩ hG (pre_one hz91_0 (by omega) (by omega)) rfl rfl
        · exact uc_i (r524 hAD) rfl (by omega) ⟨rfl, ok_int (by omega) (by omega), trivial⟩ hG (pre_one hz91_0 (by omega) (by omega)) rfl rfl
      · rcases (show z91_0 = 0 ∨ (1 ≤ z91_0 ∧ z91_0 ≤ 9) by omega) with h | h
        · exact uc_i (r525 hAD) rfl (by omega) ⟨rfl, ok_int (by omega) (by omega), trivial⟩ hG (pre_one hz91_0 (by omega) (by omega)) rfl rfl
        · exact uc_i (r526 hAD) rfl (by omega) ⟨rfl, ok_int (by omega) (by omega), trivial⟩ hG (pre_one hz91_0 (by omega) (by omega)) rfl rfl
  · rcases (show a1.toInt ≤ 5 ∨ 6 ≤ a1.toInt by omega) with h | h
    · rcases (show a1.toInt = 4 ∨ a1.toInt = 5 by omega) with h | h
      · rcases (show z91_0 = 0 ∨ (1 ≤ z91_0 ∧ z91_0 ≤ 9) by omega) with h | h
        · exact uc_i (r527 hAD) rfl (by omega) ⟨rfl, ok_int (by omega) (by omega), trivial⟩ hG (pre_one hz91_0 (by omega) (by omega)) rfl rfl
        · exact uc_i (r528 hAD) rfl (by omega) ⟨rfl, ok_int (by omega) (by omega), trivial⟩ hG (pre_one hz91_0 (by omega) (by omega)) rfl rfl
      · rcases (show z91_0 = 0 ∨ (1 ≤ z91_0 ∧ z91_0 ≤ 9) by omega) with h | h
        · exact uc_i (r529 hAD) rfl (by omega) ⟨rfl, ok_int (by omega) (by omega), trivial⟩ hG (pre_one hz91_0 (by omega) (by omega)) rfl rfl
        · exact uc_i (r530 hAD) rfl (by omega) ⟨rfl, ok_int (by omega) (by omega), trivial⟩ hG (pre_one hz91_0 (by omega) (by omega)) rfl rfl
    · rcases (show a1.toInt = 6 ∨ 7 ≤ a1.toInt by omega) with h | h
      · rcases (show z91_0 = 0 ∨ (1 ≤ z91_0 ∧ z91_0 ≤ 9) by omega) with h | h
        · exact uc_i (r531 hAD) rfl (by omega) ⟨rfl, ok_int (by omega) (by omega), trivial⟩ hG (pre_one hz91_0 (by omega) (by omega)) rfl rfl
        · exact uc_i (r532 hAD) rfl (by omega) ⟨rfl, ok_int (by omega) (by omega), trivial⟩ hG (pre_one hz91_0 (by omega) (by omega)) rfl rfl
      · rcases (show z91_0 = 0 ∨ (1 ≤ z91_0 ∧ z91_0 ≤ 9) by omega) with h | h
        · exact uc_i (r517 hAD) rfl (by omega) ⟨rfl, ok_int (by omega) (by omega), trivial⟩ hG (pre_one hz91_0 (by omega) (by omega)) rfl rfl
        · exact uc_i (r518 hAD) rfl (by omega) ⟨rfl, ok_int (by omega) (by omega), trivial⟩ hG (pre_one hz91_0 (by omega) (by omega)) rfl rfl
theorem u_X53 (hAD : ∀ i : Nat, ad (1000 + i) = D.2 1000 i) (hG : GOK ad tys GG ws) (a1 : Int32) : UCP l D tys A ad 61 [.ref (ad 0), .int a1] ws 0 := by
  have l1 := Int32.le_toInt a1
  have u1 := Int32.toInt_lt a1
  exact uc_i (r539 hAD) rfl (by omega) ⟨rfl, ok_full, trivial⟩ hG (fun q hq => by cases hq) rfl rfl
theorem u_M53 (hAD : ∀ i : Nat, ad (1000 + i) = D.2 1000 i) (hG : GOK ad tys GG ws) (a1 : Int32) : UCP l D tys A ad 326 [.ref (ad 90), .int a1] ws 0 := by
  have l1 := Int32.le_toInt a1
  have u1 := Int32.toInt_lt a1
  obtain ⟨z91_0, hz91_0, zl91_0, zu91_0⟩ := cell_bd (c := 91) (j := 0) hG rfl (by omega) (show segAt _ 0 = some (0, 0, 9) by decide +kernel)
  rcases (show z91_0 = 0 ∨ (1 ≤ z91_0 ∧ z91_0 ≤ 9) by omega) with h | h
  · exact uc_i (r541 hAD) rfl (by omega) ⟨rfl, ok_full, trivial⟩ hG (pre_one hz91_0 (by omega) (by omega)) rfl rfl
  · exact uc_i (r544 hAD) rfl (by omega) ⟨rfl, ok_full, trivial⟩ hG (pre_one hz91_0 (by omega) (by omega)) rfl rfl
theorem u_X55 (hAD : ∀ i : Nat, ad (1000 + i) = D.2 1000 i) (hG : GOK ad tys GG ws) (a1 : Int32) (a2 : Int32) (a3 : Int32) : UCP l D tys A ad 62 [.ref (ad 0), .int a1, .int a2, .int a3] ws 1 := by
  have l1 := Int32.le_toInt a1
  have u1 := Int32.toInt_lt a1
  have l2 := Int32.le_toInt a2
  have u2 := Int32.toInt_lt a2
  have l3 := Int32.le_toInt a3
  have u3 := Int32.toInt_lt a3
  exact uc_l (r554 hAD) rfl (by omega) ⟨rfl, ok_full, ok_full, ok_full, trivial⟩ hG (fun q hq => by cases hq) rfl rfl
theorem u_M55 (hAD : ∀ i : Nat, ad (1000 + i) = D.2 1000 i) (hG : GOK ad tys GG ws) (a1 : Int32) (a2 : Int32) (a3 : Int32) : UCP l D tys A ad 330 [.ref (ad 90), .int a1, .int a2, .int a3] ws 1 := by
  have l1 := Int32.le_toInt a1
  have u1 := Int32.toInt_lt a1
  have l2 := Int32.le_toInt a2
  have u2 := Int32.toInt_lt a2
  have l3 := Int32.le_toInt a3
  have u3 := Int32.toInt_lt a3
  exact uc_l (r557 hAD) rfl (by omega) ⟨rfl, ok_full, ok_full, ok_full, trivial⟩ hG (fun q hq => by cases hq) rfl rfl
theorem u_X56 (hAD : ∀ i : Nat, ad (1000 + i) = D.2 1000 i) (hG : GOK ad tys GG ws) (a1 : Int32) (a2 : Int32) (a3 : Int32) : UCP l D tys A ad 64 [.ref (ad 0), .int a1, .int a2, .int a3] ws 0 := by
  have l1 := Int32.le_toInt a1
  have u1 := Int32.toInt_lt a1
  have l2 := Int32.le_toInt a2
  have u2 := Int32.toInt_lt a2
  have l3 := Int32.le_toInt a3
  have u3 := Int32.toInt_lt a3
  exact uc_i (r559 hAD) rfl (by omega) ⟨rfl, ok_full, ok_full, ok_full, trivial⟩ hG (fun q hq => by cases hq) rfl rfl
theorem u_M56 (hAD : ∀ i : Nat, ad (1000 + i) = D.2 1000 i) (hG : GOK ad tys GG ws) (a1 : Int32) (a2 : Int32) (a3 : Int32) : UCP l D tys A ad 333 [.ref (ad 90), .int a1, .int a2, .int a3] ws 0 := by
  have l1 := Int32.le_toInt a1
  have u1 := Int32.toInt_lt a1
  have l2 := Int32.le_toInt a2
  have u2 := Int32.toInt_lt a2
  have l3 := Int32.le_toInt a3
  have u3 := Int32.toInt_lt a3
  exact uc_i (r560 hAD) rfl (by omega) ⟨rfl, ok_full, ok_full, ok_full, trivial⟩ hG (fun q hq => by cases hq) rfl rfl
theorem u_X57 (hAD : ∀ i : Nat, ad (1000 + i) = D.2 1000 i) (hG : GOK ad tys GG ws) (a1 : Int32) (a2 : Int32) (a3 : Int32) (a4 : Int32) : UCP l D tys A ad 65 [.ref (ad 0), .int a1, .int a2, .int a3, .int a4] ws 0 := by
  have l1 := Int32.le_toInt a1
  have u1 := Int32.toInt_lt a1
  have l2 := Int32.le_toInt a2
  have u2 := Int32.toInt_lt a2
  have l3 := Int32.le_toInt a3
  have u3 := Int32.toInt_lt a3
  have l4 := Int32.le_toInt a4
  have u4 := Int32.toInt_lt a4
  exact uc_i (r562 hAD) rfl (by omega) ⟨rfl, ok_full, ok_full, ok_full, ok_full, trivial⟩ hG (fun q hq => by cases hq) rfl rfl
theorem u_M57 (hAD : ∀ i : Nat, ad (1000 + i) = D.2 1000 i) (hG : GOK ad tys GG ws) (a1 : Int32) (a2 : Int32) (a3 : Int32) (a4 : Int32) : UCP l D tys A ad 334 [.ref (ad 90), .int a1, .int a2, .int a3, .int a4] ws 0 := by
  have l1 := Int32.le_toInt a1
  have u1 := Int32.toInt_lt a1
  have l2 := Int32.le_toInt a2
  have u2 := Int32.toInt_lt a2
  have l3 := Int32.le_toInt a3
  have u3 := Int32.toInt_lt a3
  have l4 := Int32.le_toInt a4
  have u4 := Int32.toInt_lt a4
  exact uc_i (r563 hAD) rfl (by omega) ⟨rfl, ok_full, ok_full, ok_full, ok_full, trivial⟩ hG (fun q hq => by cases hq) rfl rfl
theorem u_X59 (hAD : ∀ i : Nat, ad (1000 + i) = D.2 1000 i) (hG : GOK ad tys GG ws) (a1 : Int32) : UCP l D tys A ad 66 [.ref (ad 0), .int a1] ws 0 := by
  have l1 := Int32.le_toInt a1
  have u1 := Int32.toInt_lt a1
  exact uc_i (r567 hAD) rfl (by omega) ⟨rfl, ok_full, trivial⟩ hG (fun q hq => by cases hq) rfl rfl
theorem u_M59 (hAD : ∀ i : Nat, ad (1000 + i) = D.2 1000 i) (hG : GOK ad tys GG ws) (a1 : Int32) : UCP l D tys A ad 335 [.ref (ad 90), .int a1] ws 0 := by
  have l1 := Int32.le_toInt a1
  have u1 := Int32.toInt_lt a1
  exact uc_i (r568 hAD) rfl (by omega) ⟨rfl, ok_full, trivial⟩ hG (fun q hq => by cases hq) rfl rfl
end UCS7
end
section
section UCS8
variable {l : Launch} {D : va_G} {tys : List (ClassId × FieldType)} {A : Nat → Prop} {ad : Nat → Nat} {ws : va_W}
theorem u_X62 (hAD : ∀ i : Nat, ad (1000 + i) = D.2 1000 i) (hG : GOK ad tys GG ws) (a1 : Int32) (a2 : Int32) (a3 : Int32) : UCP l D tys A ad 70 [.ref (ad 0), .int a1, .int a2, .int a3] ws 0 := by
  have l1 := Int32.le_toInt a1
  have u1 := Int32.toInt_lt a1
  have l2 := Int32.le_toInt a2
  have u2 := Int32.toInt_lt a2
  have l3 := Int32.le_toInt a3
  have u3 := Int32.toInt_lt a3
  rcases (show a1.toInt ≤ (-1) ∨ (0 ≤ a1.toInt ∧ a1.toInt ≤ 3) ∨ 4 ≤ a1.toInt by omega) with h | h | h
  · exact uc_i (r655 hAD) rfl (by omega) ⟨rfl, ok_int (by omega) (by omega), ok_full, ok_full, trivial⟩ hG (fun q hq => by cases hq) rfl rfl
  · rcases (show a2.toInt ≤ (-1) ∨ (0 ≤ a2.toInt ∧ a2.toInt ≤ 3) ∨ 4 ≤ a2.toInt by omega) with h | h | h
    · exact uc_i (r657 hAD) rfl (by omega) ⟨rfl, ok_int (by omega) (by omega), ok_int (by omega) (by omega), ok_full, trivial⟩ hG (fun q hq => by cases hq) rfl rfl
    · rcases (show a3.toInt ≤ (-1) ∨ (0 ≤ a3.toInt ∧ a3.toInt ≤ 60) ∨ 61 ≤ a3.toInt by omega) with h | h | h
      · exact uc_i (r660 hAD) rfl (by omega) ⟨rfl, ok_int (by omega) (by omega), ok_int (by omega) (by omega), ok_int (by omega) (by omega), trivial⟩ hG (fun q hq => by cases hq) rfl rfl
      · exact uc_i (r663 hAD) rfl (by omega) ⟨rfl, ok_int (by omega) (by omega), ok_int (by omega) (by omega), ok_int (by omega) (by omega), trivial⟩ hG (fun q hq => by cases hq) rfl rfl
      · exact uc_i (r659 hAD) rfl (by omega) ⟨rfl, ok_int (by omega) (by omega), ok_int (by omega) (by omega), ok_int (by omega) (by omega), trivial⟩ hG (fun q hq => by cases hq) rfl rfl
    · exact uc_i (r658 hAD) rfl (by omega) ⟨rfl, ok_int (by omega) (by omega), ok_int (by omega) (by omega), ok_full, trivial⟩ hG (fun q hq => by cases hq) rfl rfl
  · exact uc_i (r656 hAD) rfl (by omega) ⟨rfl, ok_int (by omega) (by omega), ok_full, ok_full, trivial⟩ hG (fun q hq => by cases hq) rfl rfl
theorem u_M62 (hAD : ∀ i : Nat, ad (1000 + i) = D.2 1000 i) (hG : GOK ad tys GG ws) (a1 : Int32) (a2 : Int32) (a3 : Int32) : UCP l D tys A ad 338 [.ref (ad 90), .int a1, .int a2, .int a3] ws 0 := by
  have l1 := Int32.le_toInt a1
  have u1 := Int32.toInt_lt a1
  have l2 := Int32.le_toInt a2
  have u2 := Int32.toInt_lt a2
  have l3 := Int32.le_toInt a3
  have u3 := Int32.toInt_lt a3
  rcases (show a1.toInt ≤ (-1) ∨ (0 ≤ a1.toInt ∧ a1.toInt ≤ 3) ∨ 4 ≤ a1.toInt by omega) with h | h | h
  · exact uc_i (r664 hAD) rfl (by omega) ⟨rfl, ok_int (by omega) (by omega), ok_full, ok_full, trivial⟩ hG (fun q hq => by cases hq) rfl rfl
  · rcases (show a2.toInt ≤ (-1) ∨ (0 ≤ a2.toInt ∧ a2.toInt ≤ 3) ∨ 4 ≤ a2.toInt by omega) with h | h | h
    · exact uc_i (r666 hAD) rfl (by omega) ⟨rfl, ok_int (by omega) (by omega), ok_int (by omega) (by omega), ok_full, trivial⟩ hG (fun q hq => by cases hq) rfl rfl
    · rcases (show a3.toInt ≤ (-1) ∨ (0 ≤ a3.toInt ∧ a3.toInt ≤ 60) ∨ 61 ≤ a3.toInt by omega) with h | h | h
      · exact uc_i (r669 hAD) rfl (by omega) ⟨rfl, ok_int (by omega) (by omega), ok_int (by omega) (by omega), ok_int (by omega) (by omega), trivial⟩ hG (fun q hq => by cases hq) rfl rfl
      · exact uc_i (r670 hAD) rfl (by omega) ⟨rfl, ok_int (by omega) (by omega), ok_int (by omega) (by omega), ok_int (by omega) (by omega), trivial⟩ hG (fun q hq => by cases hq) rfl rfl
      · exact uc_i (r668 hAD) rfl (by omega) ⟨rfl, ok_int (by omega) (by omega), ok_int (by omega) (by omega), ok_int (by omega) (by omega), trivial⟩ hG (fun q hq => by cases hq) rfl rfl
    · exact uc_i (r667 hAD) rfl (by omega) ⟨rfl, ok_int (by omega) (by omega), ok_int (by omega) (by omega), ok_full, trivial⟩ hG (fun q hq => by cases hq) rfl rfl
  · exact uc_i (r665 hAD) rfl (by omega) ⟨rfl, ok_int (by omega) (by omega), ok_full, ok_full, trivial⟩ hG (fun q hq => by cases hq) rfl rfl
theorem u_X63 (hAD : ∀ i : Nat, ad (1000 + i) = D.2 1000 i) (hG : GOK ad tys GG ws) (a1 : Int32) (a2 : Int32) (a3 : Int64) : UCP l D tys A ad 71 [.ref (ad 0), .int a1, .int a2, .long a3] ws 0 := by
  have l1 := Int32.le_toInt a1
  have u1 := Int32.toInt_lt a1
  have l2 := Int32.le_toInt a2
  have u2 := Int32.toInt_lt a2
  rcases (show a1.toInt ≤ (-1) ∨ (0 ≤ a1.toInt ∧ a1.toInt ≤ 3) ∨ 4 ≤ a1.toInt by omega) with h | h | h
  · exact uc_i (r671 hAD) rfl (by omega) ⟨rfl, ok_int (by omega) (by omega), ok_full, ok_fullL, trivial⟩ hG (fun q hq => by cases hq) rfl rfl
  · exact uc_i (r674 hAD) rfl (by omega) ⟨rfl, ok_int (by omega) (by omega), ok_full, ok_fullL, trivial⟩ hG (fun q hq => by cases hq) rfl rfl
  · exact uc_i (r672 hAD) rfl (by omega) ⟨rfl, ok_int (by omega) (by omega), ok_full, ok_fullL, trivial⟩ hG (fun q hq => by cases hq) rfl rfl
theorem u_M63 (hAD : ∀ i : Nat, ad (1000 + i) = D.2 1000 i) (hG : GOK ad tys GG ws) (a1 : Int32) (a2 : Int32) (a3 : Int64) : UCP l D tys A ad 339 [.ref (ad 90), .int a1, .int a2, .long a3] ws 0 := by
  have l1 := Int32.le_toInt a1
  have u1 := Int32.toInt_lt a1
  have l2 := Int32.le_toInt a2
  have u2 := Int32.toInt_lt a2
  rcases (show a1.toInt ≤ (-1) ∨ (0 ≤ a1.toInt ∧ a1.toInt ≤ 3) ∨ 4 ≤ a1.toInt by omega) with h | h | h
  · exact uc_i (r675 hAD) rfl (by omega) ⟨rfl, ok_int (by omega) (by omega), ok_full, ok_fullL, trivial⟩ hG (fun q hq => by cases hq) rfl rfl
  · exact uc_i (r677 hAD) rfl (by omega) ⟨rfl, ok_int (by omega) (by omega), ok_full, ok_fullL, trivial⟩ hG (fun q hq => by cases hq) rfl rfl
  · exact uc_i (r676 hAD) rfl (by omega) ⟨rfl, ok_int (by omega) (by omega), ok_full, ok_fullL, trivial⟩ hG (fun q hq => by cases hq) rfl rfl
theorem u_X64 (hAD : ∀ i : Nat, ad (1000 + i) = D.2 1000 i) (hG : GOK ad tys GG ws) (a1 : Int32) (a2 : Int32) (a3 : Int32) (a4 : Int32) (a5 : Int32) : UCP l D tys A ad 72 [.ref (ad 0), .int a1, .int a2, .int a3, .int a4, .int a5] ws 0 := by
  obtain ⟨d2, h1, h2⟩ := upx (l := l) (A := A) hAD hG a1 a2 a3 a4 a5
  exact ⟨d2, h1, CT_post h2 (fun r w h => ⟨⟨h.2.1, Or.inl ⟨rfl, h.1⟩⟩, KEP_of (KEEP_F h.2.2) rfl⟩)⟩
theorem u_M64 (hAD : ∀ i : Nat, ad (1000 + i) = D.2 1000 i) (hG : GOK ad tys GG ws) (a1 : Int32) (a2 : Int32) (a3 : Int32) (a4 : Int32) (a5 : Int32) : UCP l D tys A ad 340 [.ref (ad 90), .int a1, .int a2, .int a3, .int a4, .int a5] ws 0 := by
  obtain ⟨d2, h1, h2⟩ := upm (l := l) (D := D) (A := A) hG a1 a2 a3 a4 a5
  exact ⟨d2, h1, CT_post h2 (fun r w h => ⟨⟨h.2.1, Or.inl ⟨rfl, h.1⟩⟩, KEP_of (KEEP_F h.2.2) rfl⟩)⟩
end UCS8
end
section
noncomputable def USP (l : Launch) (D : va_G) (tys : List (ClassId × FieldType)) (A : Nat → Prop) (ad : Nat → Nat) (y : Nat) (vs : List Value) (ws : va_W) (v : Int) : Prop := ∃ d', d' < 11 ∧ CT l D tys A y d' 0 0 vs ws (fun r w => r = some (.int (Int32.ofInt v)) ∧ GOK ad tys GG w ∧ KEP ws w)
theorem us_i {l : Launch} {D : va_G} {tys : List (ClassId × FieldType)} {A : Nat → Prop} {ad : Nat → Nat} {ws : va_W} {c : CR} {d y : Nat} {z : Int} {vs : List Value} (h : CRok l D tys A ad GG d c) (hy : c.1 = y) (hd : d ≤ 11) (hv : okvs ad c.2.1 vs) (hG : GOK ad tys GG ws) (hp : preOK ad c.2.2.1 ws) (hr : c.2.2.2.1 = some (0, z, z)) (hm : kpB c.2.2.2.2.2 = true) : USP l D tys A ad y vs ws z := by
  subst hy
  obtain ⟨d', h1, h2⟩ := h vs ws hv hG hp
  refine ⟨d', Nat.lt_of_lt_of_le h1 hd, CT_post h2 ?_⟩
  rintro r w ⟨q1, q2, q3, q4⟩
  rw [hr] at q3
  exact ⟨rt_int q3, q1, KEP_of (KEEP_F q2) hm⟩
end
