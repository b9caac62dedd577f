section
noncomputable def KS : List Nat := [0, 1, 2, 3, 4, 5, 6, 7, 8, 9, 10, 11, 12, 13, 14, 15, 29, 30, 32, 33, 34, 35, 54, 55, 56, 57, 58, 59, 60, 61, 62, 63, 64, 65, 66, 67, 68, 69, 70, 71, 72, 73, 74, 75, 76, 77, 78, 79, 80, 81, 82, 83, 84, 85, 86, 87, 88, 89, 91, 92, 93, 94]
noncomputable def Z0 (w : va_W) : Prop := rd w 90 22 = some (.int (Int32.ofInt (-1))) ∧ rd w 90 24 = some (.int (Int32.ofInt 0))
noncomputable def KEP (w0 w : va_W) : Prop := (∀ c ∈ KS, ∀ j, rd w c j = rd w0 c j) ∧ (∀ j, spK j → rd w 90 j = rd w0 90 j) ∧ (Z0 w0 → Z0 w)
noncomputable def kpZ (ms : List Nat) : Bool := KS.all (fun c => !(memN c ms))
noncomputable def kpB (ms : List Nat) : Bool := !(memN 1022 ms) && (!(memN 1024 ms) && kpZ ms)
theorem mem_memN {c : Nat} : ∀ {l : List Nat}, c ∈ l → memN c l = true
  | [], h => by cases h
  | x :: t, h => by
    unfold memN
    rcases List.mem_cons.mp h with rfl | h
    · rw [Nat.beq_refl, Bool.true_or]
    · rw [mem_memN h, Bool.or_true]
theorem KEP_z {ms : List Nat} {w0 w : va_W} (h : KEEP ms w0 w) (hb : kpZ ms = true) (hz : Z0 w0 → Z0 w) : KEP w0 w := ⟨fun c hc j => h.1 c (fun q => by
  have e := List.all_eq_true.mp hb c hc
  rw [mem_memN q] at e
  cases e) j, fun j hj => h.2 j (Or.inl hj), hz⟩
theorem KEP_of {ms : List Nat} {w0 w : va_W} (h : KEEP ms w0 w) (hb : kpB ms = true) : KEP w0 w := by
  unfold kpB at hb
  rw [Bool.and_eq_true, Bool.and_eq_true] at hb
  refine KEP_z h hb.2.2 (fun z => ⟨(h.2 22 (Or.inr (Or.inl ⟨rfl, memN_not (by simpa using hb.1)⟩))).trans z.1, (h.2 24 (Or.inr (Or.inr ⟨rfl, memN_not (by simpa using hb.2.1)⟩))).trans z.2⟩)
noncomputable def postZ : List ((Nat × Nat) × SP3) := [((90, 22), (0, (-1), (-1))), ((90, 24), (0, 0, 0))]
theorem Z0_pre {ad : Nat → Nat} {w : va_W} (h : Z0 w) : preOK ad postZ w := by
  intro q hq
  rcases List.mem_cons.mp hq with rfl | hq
  · exact ⟨_, h.1, -1, rfl, by decide, by decide⟩
  · rw [List.mem_singleton.mp hq]
    exact ⟨_, h.2, 0, rfl, by decide, by decide⟩
theorem Z0_of {ad : Nat → Nat} {w : va_W} (h : preOK ad postZ w) : Z0 w := by
  obtain ⟨v, h1, z, rfl, z1, z2⟩ := h _ (List.mem_cons_self)
  obtain ⟨v2, h3, z3, rfl, z4, z5⟩ := h _ (List.mem_cons_of_mem _ (List.mem_cons_self))
  have z1 : (-1 : Int) ≤ z := z1
  have z2 : z ≤ (-1 : Int) := z2
  have z4 : (0 : Int) ≤ z3 := z4
  have z5 : z3 ≤ (0 : Int) := z5
  refine ⟨?_, ?_⟩
  · rw [h1, show z = -1 by omega]
  · rw [h3, show z3 = 0 by omega]
theorem KS_mem : (List.range 95).all (fun c => !(Nat.ble c 15 || Nat.beq c 29 || Nat.beq c 30 || (Nat.ble 32 c && Nat.ble c 35) || (Nat.ble 54 c && Nat.ble c 89) || Nat.ble 91 c) || memN c KS) = true := by decide +kernel
theorem KEP_in {w0 w : va_W} (k : KEP w0 w) (c : Nat) (hc : c ≤ 15 ∨ c = 29 ∨ c = 30 ∨ (32 ≤ c ∧ c ≤ 35) ∨ (54 ≤ c ∧ c ≤ 89) ∨ (91 ≤ c ∧ c ≤ 94)) (j : Nat) : rd w c j = rd w0 c j := k.1 c (memN_in (by
  have q := List.all_eq_true.mp KS_mem c (List.mem_range.mpr (by omega))
  have e : (Nat.ble c 15 || Nat.beq c 29 || Nat.beq c 30 || (Nat.ble 32 c && Nat.ble c 35) || (Nat.ble 54 c && Nat.ble c 89) || Nat.ble 91 c) = true := by
    simp only [Bool.or_eq_true, Bool.and_eq_true, Nat.ble_eq, Nat.beq_eq]
    omega
  rw [e] at q
  simpa using q)) j
theorem KEP_rels {w0 w : va_W} (h : RELW w0) (k : KEP w0 w) : RELW w := by
  have z := k.2.2 ⟨h.2.2.2.2.1, h.2.2.2.2.2⟩
  refine ⟨relh_keep h.1 (fun c hc j => KEP_in k c (by omega) j) k.2.1, aux_keep h.2 (fun c j hc => ?_)⟩
  rcases (show (c ≤ 15 ∨ c = 29 ∨ c = 30 ∨ (32 ≤ c ∧ c ≤ 35) ∨ (54 ≤ c ∧ c ≤ 89) ∨ (91 ≤ c ∧ c ≤ 94)) ∨ (c = 90 ∧ j = 22) ∨ (c = 90 ∧ j = 24) by omega) with q | ⟨rfl, rfl⟩ | ⟨rfl, rfl⟩
  · exact KEP_in k c q j
  · exact z.1.trans h.2.2.2.2.1.symm
  · exact z.2.trans h.2.2.2.2.2.symm
noncomputable def UPk (ad : Nat → Nat) (tys : List (ClassId × FieldType)) (t : Nat) (w0 : va_W) (r : Option Value) (w : va_W) : Prop := UPo ad tys t r w ∧ KEP w0 w
noncomputable def UCP (l : Launch) (D : va_G) (tys : List (ClassId × FieldType)) (A : Nat → Prop) (ad : Nat → Nat) (y : Nat) (vs : List Value) (ws : va_W) (t : Nat) : Prop := ∃ d', d' < 11 ∧ CT l D tys A y d' 0 0 vs ws (UPk ad tys t ws)
section UCS
variable {l : Launch} {D : va_G} {tys : List (ClassId × FieldType)} {A : Nat → Prop} {ad : Nat → Nat} {ws : va_W}
theorem uc_i {c : CR} {d y : Nat} {lo hi : Int} {vs : List Value} (h : CRok l D tys A ad GG d c) (hy : c.1 = y) (hd : d ≤ 11) (hv : okvs ad c.2.1 vs) (hG : GOK ad tys GG ws) (hp : preOK ad c.2.2.1 ws) (hr : c.2.2.2.1 = some (0, lo, hi)) (hm : kpB c.2.2.2.2.2 = true) : UCP l D tys A ad y vs ws 0 := by
  subst hy
  obtain ⟨d', h1, h2⟩ := h vs ws hv hG hp
  refine ⟨d', Nat.lt_of_lt_of_le h1 hd, CT_post h2 ?_⟩
  rintro r w ⟨q1, q2, q3, q4⟩
  rw [hr] at q3
  cases r with
  | none => exact q3.elim
  | some v =>
    obtain ⟨z, rfl, -, -⟩ := q3
    exact ⟨⟨q1, Or.inl ⟨rfl, _, rfl⟩⟩, KEP_of (KEEP_F q2) hm⟩
theorem uc_k {K0 : va_W → Prop} {c : CR} {d y : Nat} {lo hi : Int} {vs : List Value} (h : CRokK l D tys A ad GG K0 d c) (hy : c.1 = y) (hd : d ≤ 11) (hv : okvs ad c.2.1 vs) (hG : GOK ad tys GG ws) (hp : preOK ad c.2.2.1 ws) (hk : K0 ws) (hr : c.2.2.2.1 = some (0, lo, hi)) (hm : kpB c.2.2.2.2.2 = true) : UCP l D tys A ad y vs ws 0 := by
  subst hy
  obtain ⟨d', h1, h2⟩ := h vs ws hv hG hp hk
  refine ⟨d', Nat.lt_of_lt_of_le h1 hd, CT_post h2 ?_⟩
  rintro r w ⟨q1, q2, q3, q4⟩
  rw [hr] at q3
  cases r with
  | none => exact q3.elim
  | some v =>
    obtain ⟨z, rfl, -, -⟩ := q3
    exact ⟨⟨q1, Or.inl ⟨rfl, _, rfl⟩⟩, KEP_of (KEEP_F q2) hm⟩
theorem uc_l {c : CR} {d y : Nat} {lo hi : Int} {vs : List Value} (h : CRok l D tys A ad GG d c) (hy : c.1 = y) (hd : d ≤ 11) (hv : okvs ad c.2.1 vs) (hG : GOK ad tys GG ws) (hp : preOK ad c.2.2.1 ws) (hr : c.2.2.2.1 = some (1, lo, hi)) (hm : kpB c.2.2.2.2.2 = true) : UCP l D tys A ad y vs ws 1 := by
  subst hy
  obtain ⟨d', h1, h2⟩ := h vs ws hv hG hp
  refine ⟨d', Nat.lt_of_lt_of_le h1 hd, CT_post h2 ?_⟩
  rintro r w ⟨q1, q2, q3, q4⟩
  rw [hr] at q3
  cases r with
  | none => exact q3.elim
  | some v =>
    obtain ⟨z, rfl, -, -⟩ := q3
    exact ⟨⟨q1, Or.inr ⟨rfl, _, rfl⟩⟩, KEP_of (KEEP_F q2) hm⟩
theorem uc_iz {c : CR} {d y : Nat} {lo hi : Int} {vs : List Value} (h : CRok l D tys A ad GG d c) (hy : c.1 = y) (hd : d ≤ 11) (hv : okvs ad c.2.1 vs) (hG : GOK ad tys GG ws) (hp : preOK ad c.2.2.1 ws) (hr : c.2.2.2.1 = some (0, lo, hi)) (hpo : c.2.2.2.2.1 = postZ) (hm : kpZ c.2.2.2.2.2 = true) : UCP l D tys A ad y vs ws 0 := by
  subst hy
  obtain ⟨d', h1, h2⟩ := h vs ws hv hG hp
  refine ⟨d', Nat.lt_of_lt_of_le h1 hd, CT_post h2 ?_⟩
  rintro r w ⟨q1, q2, q3, q4⟩
  rw [hr] at q3
  cases r with
  | none => exact q3.elim
  | some v =>
    obtain ⟨z, rfl, -, -⟩ := q3
    exact ⟨⟨q1, Or.inl ⟨rfl, _, rfl⟩⟩, KEP_z (KEEP_F q2) hm (fun _ => Z0_of (by rw [hpo] at q4; exact q4))⟩
theorem uc_lz {c : CR} {d y : Nat} {lo hi : Int} {vs : List Value} (h : CRok l D tys A ad GG d c) (hy : c.1 = y) (hd : d ≤ 11) (hv : okvs ad c.2.1 vs) (hG : GOK ad tys GG ws) (hp : preOK ad c.2.2.1 ws) (hr : c.2.2.2.1 = some (1, lo, hi)) (hpo : c.2.2.2.2.1 = postZ) (hm : kpZ c.2.2.2.2.2 = true) : UCP l D tys A ad y vs ws 1 := by
  subst hy
  obtain ⟨d', h1, h2⟩ := h vs ws hv hG hp
  refine ⟨d', Nat.lt_of_lt_of_le h1 hd, CT_post h2 ?_⟩
  rintro r w ⟨q1, q2, q3, q4⟩
  rw [hr] at q3
  cases r with
  | none => exact q3.elim
  | some v =>
    obtain ⟨z, rfl, -, -⟩ := q3
    exact ⟨⟨q1, Or.inr ⟨rfl, _, rfl⟩⟩, KEP_z (KEEP_F q2) hm (fun _ => Z0_of (by rw [hpo] at q4; exact q4))⟩
theorem cell_bd {c j ty n : Nat} {lo hi : Int} {segs : List SG} (hG : GOK ad tys GG ws) (hg : GG[c]? = some ((1, ty, n), segs)) (hj : j < n) (hs : segAt segs j = some (0, lo, hi)) : ∃ z : Int, rd ws c j = some (.int (Int32.ofInt z)) ∧ lo ≤ z ∧ z ≤ hi := by
  obtain ⟨e, b1, b2, b3⟩ := hG c _ hg
  obtain ⟨cA, f, rfl, c1, -⟩ := b2
  have hr : rdE (.inl (cA, n, .inl f)) j = some (.int (f j)) := by show (if j < n then _ else _) = _; rw [if_pos hj]
  obtain ⟨sp, r1, r2⟩ := b3 j _ hr
  rw [hs] at r1
  cases r1
  obtain ⟨z, z1, z2, z3⟩ := r2
  exact ⟨z, by rw [rd_at b1, hr, z1], z2, z3⟩
theorem pre_one {c j : Nat} {lo hi z : Int} (h : rd ws c j = some (.int (Int32.ofInt z))) (h1 : lo ≤ z) (h2 : z ≤ hi) : preOK ad [((c, j), (0, lo, hi))] ws := by
  intro q hq
  rw [List.mem_singleton.mp hq]
  exact ⟨_, h, z, rfl, h1, h2⟩
end UCS
end
section
section UCS0
variable {l : Launch} {D : va_G} {tys : List (ClassId × FieldType)} {A : Nat → Prop} {ad : Nat → Nat} {ws : va_W}
theorem u_X9 (hAD : ∀ i : Nat, ad (1000 + i) = D.2 1000 i) (hG : GOK ad tys GG ws) (a1 : Int32) (a2 : Int32) : UCP l D tys A ad 10 [.ref (ad 0), .int a1, .int a2] ws 0 := by
  have l1 := Int32.le_toInt a1
  have u1 := Int32.toInt_lt a1
  have l2 := Int32.le_toInt a2
  have u2 := Int32.toInt_lt a2
  exact uc_i (r92 hAD) rfl (by omega) ⟨rfl, ok_full, ok_full, trivial⟩ hG (fun q hq => by cases hq) rfl rfl
theorem u_M9 (hAD : ∀ i : Nat, ad (1000 + i) = D.2 1000 i) (hG : GOK ad tys GG ws) (a1 : Int32) (a2 : Int32) : UCP l D tys A ad 248 [.ref (ad 90), .int a1, .int a2] ws 0 := by
  have l1 := Int32.le_toInt a1
  have u1 := Int32.toInt_lt a1
  have l2 := Int32.le_toInt a2
  have u2 := Int32.toInt_lt a2
  exact uc_i (r93 hAD) rfl (by omega) ⟨rfl, ok_full, ok_full, trivial⟩ hG (fun q hq => by cases hq) rfl rfl
theorem u_X10 (hAD : ∀ i : Nat, ad (1000 + i) = D.2 1000 i) (hG : GOK ad tys GG ws) (a1 : Int32) (a2 : Int32) (a3 : Int32) : UCP l D tys A ad 11 [.ref (ad 0), .int a1, .int a2, .int a3] ws 0 := by
  have l1 := Int32.le_toInt a1
  have u1 := Int32.toInt_lt a1
  have l2 := Int32.le_toInt a2
  have u2 := Int32.toInt_lt a2
  have l3 := Int32.le_toInt a3
  have u3 := Int32.toInt_lt a3
  exact uc_i (r94 hAD) rfl (by omega) ⟨rfl, ok_full, ok_full, ok_full, trivial⟩ hG (fun q hq => by cases hq) rfl rfl
theorem u_M10 (hAD : ∀ i : Nat, ad (1000 + i) = D.2 1000 i) (hG : GOK ad tys GG ws) (a1 : Int32) (a2 : Int32) (a3 : Int32) : UCP l D tys A ad 249 [.ref (ad 90), .int a1, .int a2, .int a3] ws 0 := by
  have l1 := Int32.le_toInt a1
  have u1 := Int32.toInt_lt a1
  have l2 := Int32.le_toInt a2
  have u2 := Int32.toInt_lt a2
  have l3 := Int32.le_toInt a3
  have u3 := Int32.toInt_lt a3
  exact uc_i (r97 hAD) rfl (by omega) ⟨rfl, ok_full, ok_full, ok_full, trivial⟩ hG (fun q hq => by cases hq) rfl rfl
theorem u_X11 (hAD : ∀ i : Nat, ad (1000 + i) = D.2 1000 i) (hG : GOK ad tys GG ws) (a1 : Int32) : UCP l D tys A ad 12 [.ref (ad 0), .int a1] ws 0 := by
  have l1 := Int32.le_toInt a1
  have u1 := Int32.toInt_lt a1
  exact uc_i (r98 hAD) rfl (by omega) ⟨rfl, ok_full, trivial⟩ hG (fun q hq => by cases hq) rfl rfl
theorem u_M11 (hAD : ∀ i : Nat, ad (1000 + i) = D.2 1000 i) (hG : GOK ad tys GG ws) (a1 : Int32) : UCP l D tys A ad 250 [.ref (ad 90), .int a1] ws 0 := by
  have l1 := Int32.le_toInt a1
  have u1 := Int32.toInt_lt a1
  exact uc_i (r99 hAD) rfl (by omega) ⟨rfl, ok_full, trivial⟩ hG (fun q hq => by cases hq) rfl rfl
theorem u_X12 (hAD : ∀ i : Nat, ad (1000 + i) = D.2 1000 i) (hG : GOK ad tys GG ws) (a1 : Int32) : UCP l D tys A ad 13 [.ref (ad 0), .int a1] ws 0 := by
  have l1 := Int32.le_toInt a1
  have u1 := Int32.toInt_lt a1
  exact uc_i (r100 hAD) rfl (by omega) ⟨rfl, ok_full, trivial⟩ hG (fun q hq => by cases hq) rfl rfl
theorem u_M12 (hAD : ∀ i : Nat, ad (1000 + i) = D.2 1000 i) (hG : GOK ad tys GG ws) (a1 : Int32) : UCP l D tys A ad 251 [.ref (ad 90), .int a1] ws 0 := by
  have l1 := Int32.le_toInt a1
  have u1 := Int32.toInt_lt a1
  exact uc_i (r101 hAD) rfl (by omega) ⟨rfl, ok_full, trivial⟩ hG (fun q hq => by cases hq) rfl rfl
theorem u_X13 (hAD : ∀ i : Nat, ad (1000 + i) = D.2 1000 i) (hG : GOK ad tys GG ws) (a1 : Int32) : UCP l D tys A ad 14 [.ref (ad 0), .int a1] ws 0 := by
  have l1 := Int32.le_toInt a1
  have u1 := Int32.toInt_lt a1
  exact uc_i (r102 hAD) rfl (by omega) ⟨rfl, ok_full, trivial⟩ hG (fun q hq => by cases hq) rfl rfl
theorem u_M13 (hAD : ∀ i : Nat, ad (1000 + i) = D.2 1000 i) (hG : GOK ad tys GG ws) (a1 : Int32) : UCP l D tys A ad 252 [.ref (ad 90), .int a1] ws 0 := by
  have l1 := Int32.le_toInt a1
  have u1 := Int32.toInt_lt a1
  exact uc_i (r103 hAD) rfl (by omega) ⟨rfl, ok_full, trivial⟩ hG (fun q hq => by cases hq) rfl rfl
theorem u_X14 (hAD : ∀ i : Nat, ad (1000 + i) = D.2 1000 i) (hG : GOK ad tys GG ws) (a1 : Int32) (a2 : Int32) : UCP l D tys A ad 15 [.ref (ad 0), .int a1, .int a2] ws 0 := by
  have l1 := Int32.le_toInt a1
  have u1 := Int32.toInt_lt a1
  have l2 := Int32.le_toInt a2
  have u2 := Int32.toInt_lt a2
  exact uc_i (r105 hAD) rfl (by omega) ⟨rfl, ok_full, ok_full, trivial⟩ hG (fun q hq => by cases hq) rfl rfl
theorem u_M14 (hAD : ∀ i : Nat, ad (1000 + i) = D.2 1000 i) (hG : GOK ad tys GG ws) (a1 : Int32) (a2 : Int32) : UCP l D tys A ad 254 [.ref (ad 90), .int a1, .int a2] ws 0 := by
  have l1 := Int32.le_toInt a1
  have u1 := Int32.toInt_lt a1
  have l2 := Int32.le_toInt a2
  have u2 := Int32.toInt_lt a2
  exact uc_i (r107 hAD) rfl (by omega) ⟨rfl, ok_full, ok_full, trivial⟩ hG (fun q hq => by cases hq) rfl rfl
theorem u_X15 (hAD : ∀ i : Nat, ad (1000 + i) = D.2 1000 i) (hG : GOK ad tys GG ws) (a1 : Int32) (a2 : Int32) : UCP l D tys A ad 16 [.ref (ad 0), .int a1, .int a2] ws 0 := by
  have l1 := Int32.le_toInt a1
  have u1 := Int32.toInt_lt a1
  have l2 := Int32.le_toInt a2
  have u2 := Int32.toInt_lt a2
  exact uc_i (r109 hAD) rfl (by omega) ⟨rfl, ok_full, ok_full, trivial⟩ hG (fun q hq => by cases hq) rfl rfl
theorem u_M15 (hAD : ∀ i : Nat, ad (1000 + i) = D.2 1000 i) (hG : GOK ad tys GG ws) (a1 : Int32) (a2 : Int32) : UCP l D tys A ad 256 [.ref (ad 90), .int a1, .int a2] ws 0 := by
  have l1 := Int32.le_toInt a1
  have u1 := Int32.toInt_lt a1
  have l2 := Int32.le_toInt a2
  have u2 := Int32.toInt_lt a2
  exact uc_i (r111 hAD) rfl (by omega) ⟨rfl, ok_full, ok_full, trivial⟩ hG (fun q hq => by cases hq) rfl rfl
theorem u_X16 (hAD : ∀ i : Nat, ad (1000 + i) = D.2 1000 i) (hG : GOK ad tys GG ws) (a1 : Int32) : UCP l D tys A ad 17 [.ref (ad 0), .int a1] ws 0 := by
  have l1 := Int32.le_toInt a1
  have u1 := Int32.toInt_lt a1
  exact uc_i (r113 hAD) rfl (by omega) ⟨rfl, ok_full, trivial⟩ hG (fun q hq => by cases hq) rfl rfl
theorem u_M16 (hAD : ∀ i : Nat, ad (1000 + i) = D.2 1000 i) (hG : GOK ad tys GG ws) (a1 : Int32) : UCP l D tys A ad 258 [.ref (ad 90), .int a1] ws 0 := by
  have l1 := Int32.le_toInt a1
  have u1 := Int32.toInt_lt a1
  exact uc_i (r115 hAD) rfl (by omega) ⟨rfl, ok_full, trivial⟩ hG (fun q hq => by cases hq) rfl rfl
theorem u_X17 (hAD : ∀ i : Nat, ad (1000 + i) = D.2 1000 i) (hG : GOK ad tys GG ws) (a1 : Int32) : UCP l D tys A ad 18 [.ref (ad 0), .int a1] ws 0 := by
  have l1 := Int32.le_toInt a1
  have u1 := Int32.toInt_lt a1
  exact uc_i (r116 hAD) rfl (by omega) ⟨rfl, ok_full, trivial⟩ hG (fun q hq => by cases hq) rfl rfl
theorem u_M17 (hAD : ∀ i : Nat, ad (1000 + i) = D.2 1000 i) (hG : GOK ad tys GG ws) (a1 : Int32) : UCP l D tys A ad 259 [.ref (ad 90), .int a1] ws 0 := by
  have l1 := Int32.le_toInt a1
  have u1 := Int32.toInt_lt a1
  exact uc_i (r117 hAD) rfl (by omega) ⟨rfl, ok_full, trivial⟩ hG (fun q hq => by cases hq) rfl rfl
theorem u_X18 (hAD : ∀ i : Nat, ad (1000 + i) = D.2 1000 i) (hG : GOK ad tys GG ws) (a1 : Int32) : UCP l D tys A ad 19 [.ref (ad 0), .int a1] ws 0 := by
  have l1 := Int32.le_toInt a1
  have u1 := Int32.toInt_lt a1
  exact uc_i (r118 hAD) rfl (by omega) ⟨rfl, ok_full, trivial⟩ hG (fun q hq => by cases hq) rfl rfl
theorem u_M18 (hAD : ∀ i : Nat, ad (1000 + i) = D.2 1000 i) (hG : GOK ad tys GG ws) (a1 : Int32) : UCP l D tys A ad 260 [.ref (ad 90), .int a1] ws 0 := by
  have l1 := Int32.le_toInt a1
  have u1 := Int32.toInt_lt a1
  exact uc_i (r119 hAD) rfl (by omega) ⟨rfl, ok_full, trivial⟩ hG (fun q hq => by cases hq) rfl rfl
theorem u_X19 (hAD : ∀ i : Nat, ad (1000 + i) = D.2 1000 i) (hG : GOK ad tys GG ws) (a1 : Int32) (a2 : Int32) : UCP l D tys A ad 20 [.ref (ad 0), .int a1, .int a2] ws 0 := by
  have l1 := Int32.le_toInt a1
  have u1 := Int32.toInt_lt a1
  have l2 := Int32.le_toInt a2
  have u2 := Int32.toInt_lt a2
  exact uc_i (r121 hAD) rfl (by omega) ⟨rfl, ok_full, ok_full, trivial⟩ hG (fun q hq => by cases hq) rfl rfl
theorem u_M19 (hAD : ∀ i : Nat, ad (1000 + i) = D.2 1000 i) (hG : GOK ad tys GG ws) (a1 : Int32) (a2 : Int32) : UCP l D tys A ad 262 [.ref (ad 90), .int a1, .int a2] ws 0 := by
  have l1 := Int32.le_toInt a1
  have u1 := Int32.toInt_lt a1
  have l2 := Int32.le_toInt a2
  have u2 := Int32.toInt_lt a2
  exact uc_i (r124 hAD) rfl (by omega) ⟨rfl, ok_full, ok_full, trivial⟩ hG (fun q hq => by cases hq) rfl rfl
theorem u_X20 (hAD : ∀ i : Nat, ad (1000 + i) = D.2 1000 i) (hG : GOK ad tys GG ws) (a1 : Int32) : UCP l D tys A ad 21 [.ref (ad 0), .int a1] ws 0 := by
  have l1 := Int32.le_toInt a1
  have u1 := Int32.toInt_lt a1
  exact uc_i (r125 hAD) rfl (by omega) ⟨rfl, ok_full, trivial⟩ hG (fun q hq => by cases hq) rfl rfl
theorem u_M20 (hAD : ∀ i : Nat, ad (1000 + i) = D.2 1000 i) (hG : GOK ad tys GG ws) (a1 : Int32) : UCP l D tys A ad 263 [.ref (ad 90), .int a1] ws 0 := by
  have l1 := Int32.le_toInt a1
  have u1 := Int32.toInt_lt a1
  exact uc_i (r126 hAD) rfl (by omega) ⟨rfl, ok_full, trivial⟩ hG (fun q hq => by cases hq) rfl rfl
end UCS0
end
section
section UCS1
variable {l : Launch} {D : va_G} {tys : List (ClassId × FieldType)} {A : Nat → Prop} {ad : Nat → Nat} {ws : va_W}
theorem u_X21 (hAD : ∀ i : Nat, ad (1000 + i) = D.2 1000 i) (hG : GOK ad tys GG ws) (a1 : Int32) (a2 : Int32) (a3 : Int32) : UCP l D tys A ad 22 [.ref (ad 0), .int a1, .int a2, .int a3] ws 0 := by
  have l1 := Int32.le_toInt a1
  have u1 := Int32.toInt_lt a1
  have l2 := Int32.le_toInt a2
  have u2 := Int32.toInt_lt a2
  have l3 := Int32.le_toInt a3
  have u3 := Int32.toInt_lt a3
  exact uc_i (r128 hAD) rfl (by omega) ⟨rfl, ok_full, ok_full, ok_full, trivial⟩ hG (fun q hq => by cases hq) rfl rfl
theorem u_M21 (hAD : ∀ i : Nat, ad (1000 + i) = D.2 1000 i) (hG : GOK ad tys GG ws) (a1 : Int32) (a2 : Int32) (a3 : Int32) : UCP l D tys A ad 266 [.ref (ad 90), .int a1, .int a2, .int a3] ws 0 := by
  have l1 := Int32.le_toInt a1
  have u1 := Int32.toInt_lt a1
  have l2 := Int32.le_toInt a2
  have u2 := Int32.toInt_lt a2
  have l3 := Int32.le_toInt a3
  have u3 := Int32.toInt_lt a3
  exact uc_i (r130 hAD) rfl (by omega) ⟨rfl, ok_full, ok_full, ok_full, trivial⟩ hG (fun q hq => by cases hq) rfl rfl
theorem u_X22 (hAD : ∀ i : Nat, ad (1000 + i) = D.2 1000 i) (hG : GOK ad tys GG ws) (a1 : Int32) (a2 : Int32) : UCP l D tys A ad 23 [.ref (ad 0), .int a1, .int a2] ws 0 := by
  have l1 := Int32.le_toInt a1
  have u1 := Int32.toInt_lt a1
  have l2 := Int32.le_toInt a2
  have u2 := Int32.toInt_lt a2
  exact uc_i (r131 hAD) rfl (by omega) ⟨rfl, ok_full, ok_full, trivial⟩ hG (fun q hq => by cases hq) rfl rfl
theorem u_M22 (hAD : ∀ i : Nat, ad (1000 + i) = D.2 1000 i) (hG : GOK ad tys GG ws) (a1 : Int32) (a2 : Int32) : UCP l D tys A ad 267 [.ref (ad 90), .int a1, .int a2] ws 0 := by
  have l1 := Int32.le_toInt a1
  have u1 := Int32.toInt_lt a1
  have l2 := Int32.le_toInt a2
  have u2 := Int32.toInt_lt a2
  exact uc_i (r132 hAD) rfl (by omega) ⟨rfl, ok_full, ok_full, trivial⟩ hG (fun q hq => by cases hq) rfl rfl
theorem u_X23 (hAD : ∀ i : Nat, ad (1000 + i) = D.2 1000 i) (hG : GOK ad tys GG ws) (a1 : Int32) (a2 : Int32) : UCP l D tys A ad 24 [.ref (ad 0), .int a1, .int a2] ws 0 := by
  have l1 := Int32.le_toInt a1
  have u1 := Int32.toInt_lt a1
  have l2 := Int32.le_toInt a2
  have u2 := Int32.toInt_lt a2
  exact uc_i (r133 hAD) rfl (by omega) ⟨rfl, ok_full, ok_full, trivial⟩ hG (fun q hq => by cases hq) rfl rfl
theorem u_M23 (hAD : ∀ i : Nat, ad (1000 + i) = D.2 1000 i) (hG : GOK ad tys GG ws) (a1 : Int32) (a2 : Int32) : UCP l D tys A ad 268 [.ref (ad 90), .int a1, .int a2] ws 0 := by
  have l1 := Int32.le_toInt a1
  have u1 := Int32.toInt_lt a1
  have l2 := Int32.le_toInt a2
  have u2 := Int32.toInt_lt a2
  exact uc_i (r134 hAD) rfl (by omega) ⟨rfl, ok_full, ok_full, trivial⟩ hG (fun q hq => by cases hq) rfl rfl
theorem u_X25 (hAD : ∀ i : Nat, ad (1000 + i) = D.2 1000 i) (hG : GOK ad tys GG ws) (a1 : Int32) (a2 : Int32) : UCP l D tys A ad 27 [.ref (ad 0), .int a1, .int a2] ws 0 := by
  have l1 := Int32.le_toInt a1
  have u1 := Int32.toInt_lt a1
  have l2 := Int32.le_toInt a2
  have u2 := Int32.toInt_lt a2
  exact uc_i (r137 hAD) rfl (by omega) ⟨rfl, ok_full, ok_full, trivial⟩ hG (fun q hq => by cases hq) rfl rfl
theorem u_M25 (hAD : ∀ i : Nat, ad (1000 + i) = D.2 1000 i) (hG : GOK ad tys GG ws) (a1 : Int32) (a2 : Int32) : UCP l D tys A ad 270 [.ref (ad 90), .int a1, .int a2] ws 0 := by
  have l1 := Int32.le_toInt a1
  have u1 := Int32.toInt_lt a1
  have l2 := Int32.le_toInt a2
  have u2 := Int32.toInt_lt a2
  exact uc_i (r138 hAD) rfl (by omega) ⟨rfl, ok_full, ok_full, trivial⟩ hG (fun q hq => by cases hq) rfl rfl
theorem u_X26 (hAD : ∀ i : Nat, ad (1000 + i) = D.2 1000 i) (hG : GOK ad tys GG ws) (a1 : Int32) : UCP l D tys A ad 28 [.ref (ad 0), .int a1] ws 0 := by
  have l1 := Int32.le_toInt a1
  have u1 := Int32.toInt_lt a1
  exact uc_i (r139 hAD) rfl (by omega) ⟨rfl, ok_full, trivial⟩ hG (fun q hq => by cases hq) rfl rfl
theorem u_M26 (hAD : ∀ i : Nat, ad (1000 + i) = D.2 1000 i) (hG : GOK ad tys GG ws) (a1 : Int32) : UCP l D tys A ad 271 [.ref (ad 90), .int a1] ws 0 := by
  have l1 := Int32.le_toInt a1
  have u1 := Int32.toInt_lt a1
  exact uc_i (r140 hAD) rfl (by omega) ⟨rfl, ok_full, trivial⟩ hG (fun q hq => by cases hq) rfl rfl
theorem u_X27 (hAD : ∀ i : Nat, ad (1000 + i) = D.2 1000 i) (hG : GOK ad tys GG ws) (a1 : Int32) : UCP l D tys A ad 29 [.ref (ad 0), .int a1] ws 0 := by
  have l1 := Int32.le_toInt a1
  have u1 := Int32.toInt_lt a1
  exact uc_i (r142 hAD) rfl (by omega) ⟨rfl, ok_full, trivial⟩ hG (fun q hq => by cases hq) rfl rfl
theorem u_M27 (hAD : ∀ i : Nat, ad (1000 + i) = D.2 1000 i) (hG : GOK ad tys GG ws) (a1 : Int32) : UCP l D tys A ad 273 [.ref (ad 90), .int a1] ws 0 := by
  have l1 := Int32.le_toInt a1
  have u1 := Int32.toInt_lt a1
  exact uc_i (r144 hAD) rfl (by omega) ⟨rfl, ok_full, trivial⟩ hG (fun q hq => by cases hq) rfl rfl
theorem u_X28 (hAD : ∀ i : Nat, ad (1000 + i) = D.2 1000 i) (hG : GOK ad tys GG ws) (a1 : Int32) : UCP l D tys A ad 30 [.ref (ad 0), .int a1] ws 0 := by
  have l1 := Int32.le_toInt a1
  have u1 := Int32.toInt_lt a1
  exact uc_i (r145 hAD) rfl (by omega) ⟨rfl, ok_full, trivial⟩ hG (fun q hq => by cases hq) rfl rfl
theorem u_M28 (hAD : ∀ i : Nat, ad (1000 + i) = D.2 1000 i) (hG : GOK ad tys GG ws) (a1 : Int32) : UCP l D tys A ad 274 [.ref (ad 90), .int a1] ws 0 := by
  have l1 := Int32.le_toInt a1
  have u1 := Int32.toInt_lt a1
  exact uc_i (r146 hAD) rfl (by omega) ⟨rfl, ok_full, trivial⟩ hG (fun q hq => by cases hq) rfl rfl
theorem u_X29 (hAD : ∀ i : Nat, ad (1000 + i) = D.2 1000 i) (hG : GOK ad tys GG ws) (a1 : Int32) : UCP l D tys A ad 32 [.ref (ad 0), .int a1] ws 0 := by
  have l1 := Int32.le_toInt a1
  have u1 := Int32.toInt_lt a1
  exact uc_i (r149 hAD) rfl (by omega) ⟨rfl, ok_full, trivial⟩ hG (fun q hq => by cases hq) rfl rfl
theorem u_M29 (hAD : ∀ i : Nat, ad (1000 + i) = D.2 1000 i) (hG : GOK ad tys GG ws) (a1 : Int32) : UCP l D tys A ad 278 [.ref (ad 90), .int a1] ws 0 := by
  have l1 := Int32.le_toInt a1
  have u1 := Int32.toInt_lt a1
  exact uc_i (r150 hAD) rfl (by omega) ⟨rfl, ok_full, trivial⟩ hG (fun q hq => by cases hq) rfl rfl
theorem u_X30 (hAD : ∀ i : Nat, ad (1000 + i) = D.2 1000 i) (hG : GOK ad tys GG ws) (a1 : Int32) (a2 : Int32) : UCP l D tys A ad 33 [.ref (ad 0), .int a1, .int a2] ws 0 := by
  have l1 := Int32.le_toInt a1
  have u1 := Int32.toInt_lt a1
  have l2 := Int32.le_toInt a2
  have u2 := Int32.toInt_lt a2
  exact uc_i (r153 hAD) rfl (by omega) ⟨rfl, ok_full, ok_full, trivial⟩ hG (fun q hq => by cases hq) rfl rfl
theorem u_M30 (hAD : ∀ i : Nat, ad (1000 + i) = D.2 1000 i) (hG : GOK ad tys GG ws) (a1 : Int32) (a2 : Int32) : UCP l D tys A ad 280 [.ref (ad 90), .int a1, .int a2] ws 0 := by
  have l1 := Int32.le_toInt a1
  have u1 := Int32.toInt_lt a1
  have l2 := Int32.le_toInt a2
  have u2 := Int32.toInt_lt a2
  exact uc_i (r155 hAD) rfl (by omega) ⟨rfl, ok_full, ok_full, trivial⟩ hG (fun q hq => by cases hq) rfl rfl
theorem u_X31 (hAD : ∀ i : Nat, ad (1000 + i) = D.2 1000 i) (hG : GOK ad tys GG ws) (a1 : Int32) (a2 : Int32) : UCP l D tys A ad 34 [.ref (ad 0), .int a1, .int a2] ws 0 := by
  have l1 := Int32.le_toInt a1
  have u1 := Int32.toInt_lt a1
  have l2 := Int32.le_toInt a2
  have u2 := Int32.toInt_lt a2
  exact uc_i (r156 hAD) rfl (by omega) ⟨rfl, ok_full, ok_full, trivial⟩ hG (fun q hq => by cases hq) rfl rfl
theorem u_M31 (hAD : ∀ i : Nat, ad (1000 + i) = D.2 1000 i) (hG : GOK ad tys GG ws) (a1 : Int32) (a2 : Int32) : UCP l D tys A ad 281 [.ref (ad 90), .int a1, .int a2] ws 0 := by
  have l1 := Int32.le_toInt a1
  have u1 := Int32.toInt_lt a1
  have l2 := Int32.le_toInt a2
  have u2 := Int32.toInt_lt a2
  exact uc_i (r157 hAD) rfl (by omega) ⟨rfl, ok_full, ok_full, trivial⟩ hG (fun q hq => by cases hq) rfl rfl
theorem u_X32 (hAD : ∀ i : Nat, ad (1000 + i) = D.2 1000 i) (hG : GOK ad tys GG ws)  : UCP l D tys A ad 35 [.ref (ad 0)] ws 0 := by
  exact uc_i (r161 hAD) rfl (by omega) ⟨rfl, trivial⟩ hG (fun q hq => by cases hq) rfl rfl
theorem u_M32 (hAD : ∀ i : Nat, ad (1000 + i) = D.2 1000 i) (hG : GOK ad tys GG ws)  : UCP l D tys A ad 283 [.ref (ad 90)] ws 0 := by
  exact uc_i (r163 hAD) rfl (by omega) ⟨rfl, trivial⟩ hG (fun q hq => by cases hq) rfl rfl
theorem u_X33 (hAD : ∀ i : Nat, ad (1000 + i) = D.2 1000 i) (hG : GOK ad tys GG ws) (a1 : Int32) (a2 : Int32) : UCP l D tys A ad 36 [.ref (ad 0), .int a1, .int a2] ws 0 := by
  have l1 := Int32.le_toInt a1
  have u1 := Int32.toInt_lt a1
  have l2 := Int32.le_toInt a2
  have u2 := Int32.toInt_lt a2
  exact uc_i (r166 hAD) rfl (by omega) ⟨rfl, ok_full, ok_full, trivial⟩ hG (fun q hq => by cases hq) rfl rfl
theorem u_M33 (hAD : ∀ i : Nat, ad (1000 + i) = D.2 1000 i) (hG : GOK ad tys GG ws) (a1 : Int32) (a2 : Int32) : UCP l D tys A ad 286 [.ref (ad 90), .int a1, .int a2] ws 0 := by
  have l1 := Int32.le_toInt a1
  have u1 := Int32.toInt_lt a1
  have l2 := Int32.le_toInt a2
  have u2 := Int32.toInt_lt a2
  exact uc_i (r168 hAD) rfl (by omega) ⟨rfl, ok_full, ok_full, trivial⟩ hG (fun q hq => by cases hq) rfl rfl
end UCS1
end
section
section UCS2
variable {l : Launch} {D : va_G} {tys : List (ClassId × FieldType)} {A : Nat → Prop} {ad : Nat → Nat} {ws : va_W}
theorem u_X34 (hAD : ∀ i : Nat, ad (1000 + i) = D.2 1000 i) (hG : GOK ad tys GG ws) (a1 : Int32) (a2 : Int32) : UCP l D tys A ad 37 [.ref (ad 0), .int a1, .int a2] ws 0 := by
  have l1 := Int32.le_toInt a1
  have u1 := Int32.toInt_lt a1
  have l2 := Int32.le_toInt a2
  have u2 := Int32.toInt_lt a2
  exact uc_i (r170 hAD) rfl (by omega) ⟨rfl, ok_full, ok_full, trivial⟩ hG (fun q hq => by cases hq) rfl rfl
theorem u_M34 (hAD : ∀ i : Nat, ad (1000 + i) = D.2 1000 i) (hG : GOK ad tys GG ws) (a1 : Int32) (a2 : Int32) : UCP l D tys A ad 287 [.ref (ad 90), .int a1, .int a2] ws 0 := by
  have l1 := Int32.le_toInt a1
  have u1 := Int32.toInt_lt a1
  have l2 := Int32.le_toInt a2
  have u2 := Int32.toInt_lt a2
  exact uc_i (r171 hAD) rfl (by omega) ⟨rfl, ok_full, ok_full, trivial⟩ hG (fun q hq => by cases hq) rfl rfl
theorem u_X35 (hAD : ∀ i : Nat, ad (1000 + i) = D.2 1000 i) (hG : GOK ad tys GG ws) (a1 : Int32) (a2 : Int32) : UCP l D tys A ad 38 [.ref (ad 0), .int a1, .int a2] ws 0 := by
  have l1 := Int32.le_toInt a1
  have u1 := Int32.toInt_lt a1
  have l2 := Int32.le_toInt a2
  have u2 := Int32.toInt_lt a2
  exact uc_i (r173 hAD) rfl (by omega) ⟨rfl, ok_full, ok_full, trivial⟩ hG (fun q hq => by cases hq) rfl rfl
theorem u_M35 (hAD : ∀ i : Nat, ad (1000 + i) = D.2 1000 i) (hG : GOK ad tys GG ws) (a1 : Int32) (a2 : Int32) : UCP l D tys A ad 289 [.ref (ad 90), .int a1, .int a2] ws 0 := by
  have l1 := Int32.le_toInt a1
  have u1 := Int32.toInt_lt a1
  have l2 := Int32.le_toInt a2
  have u2 := Int32.toInt_lt a2
  exact uc_i (r176 hAD) rfl (by omega) ⟨rfl, ok_full, ok_full, trivial⟩ hG (fun q hq => by cases hq) rfl rfl
theorem u_X36 (hAD : ∀ i : Nat, ad (1000 + i) = D.2 1000 i) (hG : GOK ad tys GG ws) (a1 : Int32) (a2 : Int32) : UCP l D tys A ad 39 [.ref (ad 0), .int a1, .int a2] ws 0 := by
  have l1 := Int32.le_toInt a1
  have u1 := Int32.toInt_lt a1
  have l2 := Int32.le_toInt a2
  have u2 := Int32.toInt_lt a2
  exact uc_i (r177 hAD) rfl (by omega) ⟨rfl, ok_full, ok_full, trivial⟩ hG (fun q hq => by cases hq) rfl rfl
theorem u_M36 (hAD : ∀ i : Nat, ad (1000 + i) = D.2 1000 i) (hG : GOK ad tys GG ws) (a1 : Int32) (a2 : Int32) : UCP l D tys A ad 290 [.ref (ad 90), .int a1, .int a2] ws 0 := by
  have l1 := Int32.le_toInt a1
  have u1 := Int32.toInt_lt a1
  have l2 := Int32.le_toInt a2
  have u2 := Int32.toInt_lt a2
  exact uc_i (r178 hAD) rfl (by omega) ⟨rfl, ok_full, ok_full, trivial⟩ hG (fun q hq => by cases hq) rfl rfl
theorem u_X40 (hAD : ∀ i : Nat, ad (1000 + i) = D.2 1000 i) (hG : GOK ad tys GG ws) (a1 : Int32) (a2 : Int32) (a3 : Int32) : UCP l D tys A ad 45 [.ref (ad 0), .int a1, .int a2, .int a3] ws 0 := by
  have l1 := Int32.le_toInt a1
  have u1 := Int32.toInt_lt a1
  have l2 := Int32.le_toInt a2
  have u2 := Int32.toInt_lt a2
  have l3 := Int32.le_toInt a3
  have u3 := Int32.toInt_lt a3
  exact uc_i (r186 hAD) rfl (by omega) ⟨rfl, ok_full, ok_full, ok_full, trivial⟩ hG (fun q hq => by cases hq) rfl rfl
theorem u_M40 (hAD : ∀ i : Nat, ad (1000 + i) = D.2 1000 i) (hG : GOK ad tys GG ws) (a1 : Int32) (a2 : Int32) (a3 : Int32) : UCP l D tys A ad 296 [.ref (ad 90), .int a1, .int a2, .int a3] ws 0 := by
  have l1 := Int32.le_toInt a1
  have u1 := Int32.toInt_lt a1
  have l2 := Int32.le_toInt a2
  have u2 := Int32.toInt_lt a2
  have l3 := Int32.le_toInt a3
  have u3 := Int32.toInt_lt a3
  exact uc_i (r188 hAD) rfl (by omega) ⟨rfl, ok_full, ok_full, ok_full, trivial⟩ hG (fun q hq => by cases hq) rfl rfl
theorem u_X41 (hAD : ∀ i : Nat, ad (1000 + i) = D.2 1000 i) (hG : GOK ad tys GG ws) (a1 : Int32) (a2 : Int32) : UCP l D tys A ad 46 [.ref (ad 0), .int a1, .int a2] ws 0 := by
  have l1 := Int32.le_toInt a1
  have u1 := Int32.toInt_lt a1
  have l2 := Int32.le_toInt a2
  have u2 := Int32.toInt_lt a2
  exact uc_i (r190 hAD) rfl (by omega) ⟨rfl, ok_full, ok_full, trivial⟩ hG (fun q hq => by cases hq) rfl rfl
theorem u_M41 (hAD : ∀ i : Nat, ad (1000 + i) = D.2 1000 i) (hG : GOK ad tys GG ws) (a1 : Int32) (a2 : Int32) : UCP l D tys A ad 298 [.ref (ad 90), .int a1, .int a2] ws 0 := by
  have l1 := Int32.le_toInt a1
  have u1 := Int32.toInt_lt a1
  have l2 := Int32.le_toInt a2
  have u2 := Int32.toInt_lt a2
  exact uc_i (r192 hAD) rfl (by omega) ⟨rfl, ok_full, ok_full, trivial⟩ hG (fun q hq => by cases hq) rfl rfl
theorem u_X42 (hAD : ∀ i : Nat, ad (1000 + i) = D.2 1000 i) (hG : GOK ad tys GG ws) (a1 : Int32) (a2 : Int32) : UCP l D tys A ad 47 [.ref (ad 0), .int a1, .int a2] ws 0 := by
  have l1 := Int32.le_toInt a1
  have u1 := Int32.toInt_lt a1
  have l2 := Int32.le_toInt a2
  have u2 := Int32.toInt_lt a2
  exact uc_i (r193 hAD) rfl (by omega) ⟨rfl, ok_full, ok_full, trivial⟩ hG (fun q hq => by cases hq) rfl rfl
theorem u_M42 (hAD : ∀ i : Nat, ad (1000 + i) = D.2 1000 i) (hG : GOK ad tys GG ws) (a1 : Int32) (a2 : Int32) : UCP l D tys A ad 299 [.ref (ad 90), .int a1, .int a2] ws 0 := by
  have l1 := Int32.le_toInt a1
  have u1 := Int32.toInt_lt a1
  have l2 := Int32.le_toInt a2
  have u2 := Int32.toInt_lt a2
  exact uc_i (r194 hAD) rfl (by omega) ⟨rfl, ok_full, ok_full, trivial⟩ hG (fun q hq => by cases hq) rfl rfl
theorem u_X43 (hAD : ∀ i : Nat, ad (1000 + i) = D.2 1000 i) (hG : GOK ad tys GG ws) (a1 : Int32) (a2 : Int32) (a3 : Int32) : UCP l D tys A ad 48 [.ref (ad 0), .int a1, .int a2, .int a3] ws 0 := by
  have l1 := Int32.le_toInt a1
  have u1 := Int32.toInt_lt a1
  have l2 := Int32.le_toInt a2
  have u2 := Int32.toInt_lt a2
  have l3 := Int32.le_toInt a3
  have u3 := Int32.toInt_lt a3
  rcases (show a1.toInt ≤ 0 ∨ (1 ≤ a1.toInt ∧ a1.toInt ≤ 6) ∨ 7 ≤ a1.toInt by omega) with h | h | h
  · exact uc_i (r196 hAD) rfl (by omega) ⟨rfl, ok_int (by omega) (by omega), ok_full, ok_full, trivial⟩ hG (fun q hq => by cases hq) rfl rfl
  · rcases (show a2.toInt ≤ (-1) ∨ (0 ≤ a2.toInt ∧ a2.toInt ≤ 3) ∨ 4 ≤ a2.toInt by omega) with h | h | h
    · exact uc_i (r200 hAD) rfl (by omega) ⟨rfl, ok_int (by omega) (by omega), ok_int (by omega) (by omega), ok_full, trivial⟩ hG (fun q hq => by cases hq) rfl rfl
    · rcases (show a3.toInt ≤ (-1) ∨ (0 ≤ a3.toInt ∧ a3.toInt ≤ 3) ∨ 4 ≤ a3.toInt by omega) with h | h | h
      · exact uc_i (r204 hAD) rfl (by omega) ⟨rfl, ok_int (by omega) (by omega), ok_int (by omega) (by omega), ok_int (by omega) (by omega), trivial⟩ hG (fun q hq => by cases hq) rfl rfl
      · exact uc_i (r215 hAD) rfl (by omega) ⟨rfl, ok_int (by omega) (by omega), ok_int (by omega) (by omega), ok_int (by omega) (by omega), trivial⟩ hG (fun q hq => by cases hq) rfl rfl
      · exact uc_i (r206 hAD) rfl (by omega) ⟨rfl, ok_int (by omega) (by omega), ok_int (by omega) (by omega), ok_int (by omega) (by omega), trivial⟩ hG (fun q hq => by cases hq) rfl rfl
    · exact uc_i (r202 hAD) rfl (by omega) ⟨rfl, ok_int (by omega) (by omega), ok_int (by omega) (by omega), ok_full, trivial⟩ hG (fun q hq => by cases hq) rfl rfl
  · exact uc_i (r198 hAD) rfl (by omega) ⟨rfl, ok_int (by omega) (by omega), ok_full, ok_full, trivial⟩ hG (fun q hq => by cases hq) rfl rfl
end UCS2
end
section
section UCS3
variable {l : Launch} {D : va_G} {tys : List (ClassId × FieldType)} {A : Nat → Prop} {ad : Nat → Nat} {ws : va_W}
theorem u_M43 (hAD : ∀ i : Nat, ad (1000 + i) = D.2 1000 i) (hG : GOK ad tys GG ws) (a1 : Int32) (a2 : Int32) (a3 : Int32) : UCP l D tys A ad 303 [.ref (ad 90), .int a1, .int a2, .int a3] ws 0 := by
  have l1 := Int32.le_toInt a1
  have u1 := Int32.toInt_lt a1
  have l2 := Int32.le_toInt a2
  have u2 := Int32.toInt_lt a2
  have l3 := Int32.le_toInt a3
  have u3 := Int32.toInt_lt a3
  obtain ⟨z107_0, hz107_0, zl107_0, zu107_0⟩ := cell_bd (c := 107) (j := 0) hG rfl (by omega) (show segAt _ 0 = some (0, (-1), 60) by decide +kernel)
  obtain ⟨z107_1, hz107_1, zl107_1, zu107_1⟩ := cell_bd (c := 107) (j := 1) hG rfl (by omega) (show segAt _ 1 = some (0, (-1), 60) by decide +kernel)
  obtain ⟨z107_2, hz107_2, zl107_2, zu107_2⟩ := cell_bd (c := 107) (j := 2) hG rfl (by omega) (show segAt _ 2 = some (0, (-1), 60) by decide +kernel)
  obtain ⟨z107_3, hz107_3, zl107_3, zu107_3⟩ := cell_bd (c := 107) (j := 3) hG rfl (by omega) (show segAt _ 3 = some (0, (-1), 60) by decide +kernel)
  rcases (show a1.toInt ≤ 0 ∨ (1 ≤ a1.toInt ∧ a1.toInt ≤ 6) ∨ 7 ≤ a1.toInt by omega) with h | h | h
  · exact uc_i (r217 hAD) rfl (by omega) ⟨rfl, ok_int (by omega) (by omega), ok_full, ok_full, trivial⟩ hG (fun q hq => by cases hq) rfl rfl
  · rcases (show a2.toInt ≤ (-1) ∨ (0 ≤ a2.toInt ∧ a2.toInt ≤ 3) ∨ 4 ≤ a2.toInt by omega) with h | h | h
    · exact uc_i (r221 hAD) rfl (by omega) ⟨rfl, ok_int (by omega) (by omega), ok_int (by omega) (by omega), ok_full, trivial⟩ hG (fun q hq => by cases hq) rfl rfl
    · rcases (show a3.toInt ≤ 1 ∨ 2 ≤ a3.toInt by omega) with h | h
      · rcases (show a3.toInt ≤ (-1) ∨ a3.toInt = 0 ∨ a3.toInt = 1 by omega) with h | h | h
        · exact uc_i (r225 hAD) rfl (by omega) ⟨rfl, ok_int (by omega) (by omega), ok_int (by omega) (by omega), ok_int (by omega) (by omega), trivial⟩ hG (fun q hq => by cases hq) rfl rfl
        · rcases (show z107_0 = (-1) ∨ (0 ≤ z107_0 ∧ z107_0 ≤ 8) ∨ (9 ≤ z107_0 ∧ z107_0 ≤ 60) by omega) with h | h | h
          · exact uc_i (r229 hAD) rfl (by omega) ⟨rfl, ok_int (by omega) (by omega), ok_int (by omega) (by omega), ok_int (by omega) (by omega), trivial⟩ hG (pre_one hz107_0 (by omega) (by omega)) rfl rfl
          · exact uc_i (r232 hAD) rfl (by omega) ⟨rfl, ok_int (by omega) (by omega), ok_int (by omega) (by omega), ok_int (by omega) (by omega), trivial⟩ hG (pre_one hz107_0 (by omega) (by omega)) rfl rfl
          · exact uc_i (r234 hAD) rfl (by omega) ⟨rfl, ok_int (by omega) (by omega), ok_int (by omega) (by omega), ok_int (by omega) (by omega), trivial⟩ hG (pre_one hz107_0 (by omega) (by omega)) rfl rfl
        · rcases (show z107_1 = (-1) ∨ (0 ≤ z107_1 ∧ z107_1 ≤ 8) ∨ (9 ≤ z107_1 ∧ z107_1 ≤ 60) by omega) with h | h | h
          · exact uc_i (r236 hAD) rfl (by omega) ⟨rfl, ok_int (by omega) (by omega), ok_int (by omega) (by omega), ok_int (by omega) (by omega), trivial⟩ hG (pre_one hz107_1 (by omega) (by omega)) rfl rfl
          · exact uc_i (r239 hAD) rfl (by omega) ⟨rfl, ok_int (by omega) (by omega), ok_int (by omega) (by omega), ok_int (by omega) (by omega), trivial⟩ hG (pre_one hz107_1 (by omega) (by omega)) rfl rfl
          · exact uc_i (r241 hAD) rfl (by omega) ⟨rfl, ok_int (by omega) (by omega), ok_int (by omega) (by omega), ok_int (by omega) (by omega), trivial⟩ hG (pre_one hz107_1 (by omega) (by omega)) rfl rfl
      · rcases (show a3.toInt = 2 ∨ a3.toInt = 3 ∨ 4 ≤ a3.toInt by omega) with h | h | h
        · rcases (show z107_2 = (-1) ∨ (0 ≤ z107_2 ∧ z107_2 ≤ 8) ∨ (9 ≤ z107_2 ∧ z107_2 ≤ 60) by omega) with h | h | h
          · exact uc_i (r243 hAD) rfl (by omega) ⟨rfl, ok_int (by omega) (by omega), ok_int (by omega) (by omega), ok_int (by omega) (by omega), trivial⟩ hG (pre_one hz107_2 (by omega) (by omega)) rfl rfl
          · exact uc_i (r246 hAD) rfl (by omega) ⟨rfl, ok_int (by omega) (by omega), ok_int (by omega) (by omega), ok_int (by omega) (by omega), trivial⟩ hG (pre_one hz107_2 (by omega) (by omega)) rfl rfl
          · exact uc_i (r248 hAD) rfl (by omega) ⟨rfl, ok_int (by omega) (by omega), ok_int (by omega) (by omega), ok_int (by omega) (by omega), trivial⟩ hG (pre_one hz107_2 (by omega) (by omega)) rfl rfl
        · rcases (show z107_3 = (-1) ∨ (0 ≤ z107_3 ∧ z107_3 ≤ 8) ∨ (9 ≤ z107_3 ∧ z107_3 ≤ 60) by omega) with h | h | h
          · exact uc_i (r250 hAD) rfl (by omega) ⟨rfl, ok_int (by omega) (by omega), ok_int (by omega) (by omega), ok_int (by omega) (by omega), trivial⟩ hG (pre_one hz107_3 (by omega) (by omega)) rfl rfl
          · exact uc_i (r253 hAD) rfl (by omega) ⟨rfl, ok_int (by omega) (by omega), ok_int (by omega) (by omega), ok_int (by omega) (by omega), trivial⟩ hG (pre_one hz107_3 (by omega) (by omega)) rfl rfl
          · exact uc_i (r255 hAD) rfl (by omega) ⟨rfl, ok_int (by omega) (by omega), ok_int (by omega) (by omega), ok_int (by omega) (by omega), trivial⟩ hG (pre_one hz107_3 (by omega) (by omega)) rfl rfl
        · exact uc_i (r227 hAD) rfl (by omega) ⟨rfl, ok_int (by omega) (by omega), ok_int (by omega) (by omega), ok_int (by omega) (by omega), trivial⟩ hG (fun q hq => by cases hq) rfl rfl
    · exact uc_i (r223 hAD) rfl (by omega) ⟨rfl, ok_int (by omega) (by omega), ok_int (by omega) (by omega), ok_full, trivial⟩ hG (fun q hq => by cases hq) rfl rfl
  · exact uc_i (r219 hAD) rfl (by omega) ⟨rfl, ok_int (by omega) (by omega), ok_full, ok_full, trivial⟩ hG (fun q hq => by cases hq) rfl rfl
theorem u_X44 (hAD : ∀ i : Nat, ad (1000 + i) = D.2 1000 i) (hG : GOK ad tys GG ws) (a1 : Int32) (a2 : Int32) (a3 : Int32) (a4 : Int32) : UCP l D tys A ad 49 [.ref (ad 0), .int a1, .int a2, .int a3, .int a4] ws 0 := by
  have l1 := Int32.le_toInt a1
  have u1 := Int32.toInt_lt a1
  have l2 := Int32.le_toInt a2
  have u2 := Int32.toInt_lt a2
  have l3 := Int32.le_toInt a3
  have u3 := Int32.toInt_lt a3
  have l4 := Int32.le_toInt a4
  have u4 := Int32.toInt_lt a4
  rcases (show a1.toInt ≤ 0 ∨ (1 ≤ a1.toInt ∧ a1.toInt ≤ 6) ∨ 7 ≤ a1.toInt by omega) with h | h | h
  · exact uc_i (r256 hAD) rfl (by omega) ⟨rfl, ok_int (by omega) (by omega), ok_full, ok_full, ok_full, trivial⟩ hG (fun q hq => by cases hq) rfl rfl
  · rcases (show a2.toInt ≤ (-1) ∨ (0 ≤ a2.toInt ∧ a2.toInt ≤ 3) ∨ 4 ≤ a2.toInt by omega) with h | h | h
    · exact uc_i (r258 hAD) rfl (by omega) ⟨rfl, ok_int (by omega) (by omega), ok_int (by omega) (by omega), ok_full, ok_full, trivial⟩ hG (fun q hq => by cases hq) rfl rfl
    · rcases (show a3.toInt ≤ (-1) ∨ (0 ≤ a3.toInt ∧ a3.toInt ≤ 3) ∨ 4 ≤ a3.toInt by omega) with h | h | h
      · exact uc_i (r260 hAD) rfl (by omega) ⟨rfl, ok_int (by omega) (by omega), ok_int (by omega) (by omega), ok_int (by omega) (by omega), ok_full, trivial⟩ hG (fun q hq => by cases hq) rfl rfl
      · exact uc_i (r262 hAD) rfl (by omega) ⟨rfl, ok_int (by omega) (by omega), ok_int (by omega) (by omega), ok_int (by omega) (by omega), ok_full, trivial⟩ hG (fun q hq => by cases hq) rfl rfl
      · exact uc_i (r261 hAD) rfl (by omega) ⟨rfl, ok_int (by omega) (by omega), ok_int (by omega) (by omega), ok_int (by omega) (by omega), ok_full, trivial⟩ hG (fun q hq => by cases hq) rfl rfl
    · exact uc_i (r259 hAD) rfl (by omega) ⟨rfl, ok_int (by omega) (by omega), ok_int (by omega) (by omega), ok_full, ok_full, trivial⟩ hG (fun q hq => by cases hq) rfl rfl
  · exact uc_i (r257 hAD) rfl (by omega) ⟨rfl, ok_int (by omega) (by omega), ok_full, ok_full, ok_full, trivial⟩ hG (fun q hq => by cases hq) rfl rfl
theorem u_M44 (hAD : ∀ i : Nat, ad (1000 + i) = D.2 1000 i) (hG : GOK ad tys GG ws) (a1 : Int32) (a2 : Int32) (a3 : Int32) (a4 : Int32) : UCP l D tys A ad 304 [.ref (ad 90), .int a1, .int a2, .int a3, .int a4] ws 0 := ⟨4, by omega, CT_post (gv_ct hAD hG a1 a2 a3 a4) (fun r w h => ⟨⟨h.1, Or.inl ⟨rfl, h.2.1⟩⟩, KEP_of h.2.2 rfl⟩)⟩
theorem u_X45 (hAD : ∀ i : Nat, ad (1000 + i) = D.2 1000 i) (hG : GOK ad tys GG ws) (a1 : Int32) : UCP l D tys A ad 51 [.ref (ad 0), .int a1] ws 0 := by
  have l1 := Int32.le_toInt a1
  have u1 := Int32.toInt_lt a1
  rcases (show a1.toInt ≤ (-1) ∨ (0 ≤ a1.toInt ∧ a1.toInt ≤ 3) ∨ 4 ≤ a1.toInt by omega) with h | h | h
  · exact uc_i (r263 hAD) rfl (by omega) ⟨rfl, ok_int (by omega) (by omega), trivial⟩ hG (fun q hq => by cases hq) rfl rfl
  · exact uc_i (r268 hAD) rfl (by omega) ⟨rfl, ok_int (by omega) (by omega), trivial⟩ hG (fun q hq => by cases hq) rfl rfl
  · exact uc_i (r264 hAD) rfl (by omega) ⟨rfl, ok_int (by omega) (by omega), trivial⟩ hG (fun q hq => by cases hq) rfl rfl
end UCS3
end
section
section UCS4
variable {l : Launch} {D : va_G} {tys : List (ClassId × FieldType)} {A : Nat → Prop} {ad : Nat → Nat} {ws : va_W}
theorem u_M45 (hAD : ∀ i : Nat, ad (1000 + i) = D.2 1000 i) (hG : GOK ad tys GG ws) (a1 : Int32) : UCP l D tys A ad 308 [.ref (ad 90), .int a1] ws 0 := by
  have l1 := Int32.le_toInt a1
  have u1 := Int32.toInt_lt a1
  rcases (show a1.toInt ≤ (-1) ∨ (0 ≤ a1.toInt ∧ a1.toInt ≤ 3) ∨ 4 ≤ a1.toInt by omega) with h | h | h
  · exact uc_i (r270 hAD) rfl (by omega) ⟨rfl, ok_int (by omega) (by omega), trivial⟩ hG (fun q hq => by cases hq) rfl rfl
  · exact uc_i (r311 hAD) rfl (by omega) ⟨rfl, ok_int (by omega) (by omega), trivial⟩ hG (fun q hq => by cases hq) rfl rfl
  · exact uc_i (r272 hAD) rfl (by omega) ⟨rfl, ok_int (by omega) (by omega), trivial⟩ hG (fun q hq => by cases hq) rfl rfl
theorem u_X46 (hAD : ∀ i : Nat, ad (1000 + i) = D.2 1000 i) (hG : GOK ad tys GG ws) (a1 : Int32) (a2 : Int32) : UCP l D tys A ad 52 [.ref (ad 0), .int a1, .int a2] ws 0 := by
  have l1 := Int32.le_toInt a1
  have u1 := Int32.toInt_lt a1
  have l2 := Int32.le_toInt a2
  have u2 := Int32.toInt_lt a2
  rcases (show a1.toInt ≤ (-1) ∨ (0 ≤ a1.toInt ∧ a1.toInt ≤ 3) ∨ 4 ≤ a1.toInt by omega) with h | h | h
  · exact uc_i (r312 hAD) rfl (by omega) ⟨rfl, ok_int (by omega) (by omega), ok_full, trivial⟩ hG (fun q hq => by cases hq) rfl rfl
  · rcases (show a2.toInt ≤ 3 ∨ 4 ≤ a2.toInt by omega) with h | h
    · rcases (show a2.toInt ≤ 1 ∨ 2 ≤ a2.toInt by omega) with h | h
      · rcases (show a2.toInt ≤ 0 ∨ a2.toInt = 1 by omega) with h | h
        · exact uc_i (r314 hAD) rfl (by omega) ⟨rfl, ok_int (by omega) (by omega), ok_int (by omega) (by omega), trivial⟩ hG (fun q hq => by cases hq) rfl rfl
        · exact uc_i (r321 hAD) rfl (by omega) ⟨rfl, ok_int (by omega) (by omega), ok_int (by omega) (by omega), trivial⟩ hG (fun q hq => by cases hq) rfl rfl
      · rcases (show a2.toInt = 2 ∨ a2.toInt = 3 by omega) with h | h
        · exact uc_i (r323 hAD) rfl (by omega) ⟨rfl, ok_int (by omega) (by omega), ok_int (by omega) (by omega), trivial⟩ hG (fun q hq => by cases hq) rfl rfl
        · exact uc_i (r325 hAD) rfl (by omega) ⟨rfl, ok_int (by omega) (by omega), ok_int (by omega) (by omega), trivial⟩ hG (fun q hq => by cases hq) rfl rfl
    · rcases (show a2.toInt ≤ 5 ∨ 6 ≤ a2.toInt by omega) with h | h
      · rcases (show a2.toInt = 4 ∨ a2.toInt = 5 by omega) with h | h
        · exact uc_i (r327 hAD) rfl (by omega) ⟨rfl, ok_int (by omega) (by omega), ok_int (by omega) (by omega), trivial⟩ hG (fun q hq => by cases hq) rfl rfl
        · exact uc_i (r330 hAD) rfl (by omega) ⟨rfl, ok_int (by omega) (by omega), ok_int (by omega) (by omega), trivial⟩ hG (fun q hq => by cases hq) rfl rfl
      · rcases (show a2.toInt = 6 ∨ 7 ≤ a2.toInt by omega) with h | h
        · exact uc_i (r332 hAD) rfl (by omega) ⟨rfl, ok_int (by omega) (by omega), ok_int (by omega) (by omega), trivial⟩ hG (fun q hq => by cases hq) rfl rfl
        · exact uc_i (r315 hAD) rfl (by omega) ⟨rfl, ok_int (by omega) (by omega), ok_int (by omega) (by omega), trivial⟩ hG (fun q hq => by cases hq) rfl rfl
  · exact uc_i (r313 hAD) rfl (by omega) ⟨rfl, ok_int (by omega) (by omega), ok_full, trivial⟩ hG (fun q hq => by cases hq) rfl rfl
theorem u_M46 (hAD : ∀ i : Nat, ad (1000 + i) = D.2 1000 i) (hG : GOK ad tys GG ws) (a1 : Int32) (a2 : Int32) : UCP l D tys A ad 311 [.ref (ad 90), .int a1, .int a2] ws 0 := by
  have l1 := Int32.le_toInt a1
  have u1 := Int32.toInt_lt a1
  have l2 := Int32.le_toInt a2
  have u2 := Int32.toInt_lt a2
  obtain ⟨z91_0, hz91_0, zl91_0, zu91_0⟩ := cell_bd (c := 91) (j := 0) hG rfl (by omega) (show segAt _ 0 = some (0, 0, 9) by decide +kernel)
  rcases (show a1.toInt ≤ (-1) ∨ (0 ≤ a1.toInt ∧ a1.toInt ≤ 3) ∨ 4 ≤ a1.toInt by omega) with h | h | h
  · rcases (show z91_0 = 0 ∨ (1 ≤ z91_0 ∧ z91_0 ≤ 9) by omega) with h | h
    · exact uc_i (r335 hAD) rfl (by omega) ⟨rfl, ok_int (by omega) (by omega), ok_full, trivial⟩ hG (pre_one hz91_0 (by omega) (by omega)) rfl rfl
    · exact uc_i (r338 hAD) rfl (by omega) ⟨rfl, ok_int (by omega) (by omega), ok_full, trivial⟩ hG (pre_one hz91_0 (by omega) (by omega)) rfl rfl
  · rcases (show a2.toInt ≤ 3 ∨ 4 ≤ a2.toInt by omega) with h | h
    · rcases (show a2.toInt ≤ 1 ∨ 2 ≤ a2.toInt by omega) with h | h
      · rcases (show a2.toInt ≤ 0 ∨ a2.toInt = 1 by omega) with h | h
        · rcases (show z91_0 = 0 ∨ (1 ≤ z91_0 ∧ z91_0 ≤ 9) by omega) with h | h
          · exact uc_i (r346 hAD) rfl (by omega) ⟨rfl, ok_int (by omega) (by omega), ok_int (by omega) (by omega), trivial⟩ hG (pre_one hz91_0 (by omega) (by omega)) rfl rfl
          · exact uc_i (r348 hAD) rfl (by omega) ⟨rfl, ok_int (by omega) (by omega), ok_int (by omega) (by omega), trivial⟩ hG (pre_one hz91_0 (by omega) (by omega)) rfl rfl
        · rcases (show z91_0 = 0 ∨ (1 ≤ z91_0 ∧ z91_0 ≤ 9) by omega) with h | h
          · exact uc_i (r353 hAD) rfl (by omega) ⟨rfl, ok_int (by omega) (by omega), ok_int (by omega) (by omega), trivial⟩ hG (pre_one hz91_0 (by omega) (by omega)) rfl rfl
          · exact uc_i (r393 hAD) rfl (by omega) ⟨rfl, ok_int (by omega) (by omega), ok_int (by omega) (by omega), trivial⟩ hG (pre_one hz91_0 (by omega) (by omega)) rfl rfl
      · rcases (show a2.toInt = 2 ∨ a2.toInt = 3 by omega) with h | h
        · rcases (show z91_0 = 0 ∨ (1 ≤ z91_0 ∧ z91_0 ≤ 9) by omega) with h | h
          · exact uc_i (r395 hAD) rfl (by omega) ⟨rfl, ok_int (by omega) (by omega), ok_int (by omega) (by omega), trivial⟩ hG (pre_one hz91_0 (by omega) (by omega)) rfl rfl
          · exact uc_i (r398 hAD) rfl (by omega) ⟨rfl, ok_int (by omega) (by omega), ok_int (by omega) (by omega), trivial⟩ hG (pre_one hz91_0 (by omega) (by omega)) rfl rfl
        · rcases (show z91_0 = 0 ∨ (1 ≤ z91_0 ∧ z91_0 ≤ 9) by omega) with h | h
          · exact uc_i (r400 hAD) rfl (by omega) ⟨rfl, ok_int (by omega) (by omega), ok_int (by omega) (by omega), trivial⟩ hG (pre_one hz91_0 (by omega) (by omega)) rfl rfl
          · exact uc_i (r403 hAD) rfl (by omega) ⟨rfl, ok_int (by omega) (by omega), ok_int (by omega) (by omega), trivial⟩ hG (pre_one hz91_0 (by omega) (by omega)) rfl rfl
    · rcases (show a2.toInt ≤ 5 ∨ 6 ≤ a2.toInt by omega) with h | h
      · rcases (show a2.toInt = 4 ∨ a2.toInt = 5 by omega) with h | h
        · rcases (show z91_0 = 0 ∨ (1 ≤ z91_0 ∧ z91_0 ≤ 9) by omega) with h | h
          · exact uc_i (r405 hAD) rfl (by omega) ⟨rfl, ok_int (by omega) (by omega), ok_int (by omega) (by omega), trivial⟩ hG (pre_one hz91_0 (by omega) (by omega)) rfl rfl
          · exact uc_i (r408 hAD) rfl (by omega) ⟨rfl, ok_int (by omega) (by omega), ok_int (by omega) (by omega), trivial⟩ hG (pre_one hz91_0 (by omega) (by omega)) rfl rfl
        · rcases (show z91_0 = 0 ∨ (1 ≤ z91_0 ∧ z91_0 ≤ 9) by omega) with h | h
          · exact uc_i (r410 hAD) rfl (by omega) ⟨rfl, ok_int (by omega) (by omega), ok_int (by omega) (by omega), trivial⟩ hG (pre_one hz91_0 (by omega) (by omega)) rfl rfl
          · exact uc_i (r413 hAD) rfl (by omega) ⟨rfl, ok_int (by omega) (by omega), ok_int (by omega) (by omega), trivial⟩ hG (pre_one hz91_0 (by omega) (by omega)) rfl rfl
      · rcases (show a2.toInt = 6 ∨ 7 ≤ a2.toInt by omega) with h | h
        · rcases (show z91_0 = 0 ∨ (1 ≤ z91_0 ∧ z91_0 ≤ 9) by omega) with h | h
          · exact uc_i (r415 hAD) rfl (by omega) ⟨rfl, ok_int (by omega) (by omega), ok_int (by omega) (by omega), trivial⟩ hG (pre_one hz91_0 (by omega) (by omega)) rfl rfl
          · exact uc_i (r418 hAD) rfl (by omega) ⟨rfl, ok_int (by omega) (by omega), ok_int (by omega) (by omega), trivial⟩ hG (pre_one hz91_0 (by omega) (by omega)) rfl rfl
        · rcases (show z91_0 = 0 ∨ (1 ≤ z91_0 ∧ z91_0 ≤ 9) by omega) with h | h
          · exact uc_i (r349 hAD) rfl (by omega) ⟨rfl, ok_int (by omega) (by omega), ok_int (by omega) (by omega), trivial⟩ hG (pre_one hz91_0 (by omega) (by omega)) rfl rfl
          · exact uc_i (r350 hAD) rfl (by omega) ⟨rfl, ok_int (by omega) (by omega), ok_int (by omega) (by omega), trivial⟩ hG (pre_one hz91_0 (by omega) (by omega)) rfl rfl
  · rcases (show z91_0 = 0 ∨ (1 ≤ z91_0 ∧ z91_0 ≤ 9) by omega) with h | h
    · exact uc_i (r341 hAD) rfl (by omega) ⟨rfl, ok_int (by omega) (by omega), ok_full, trivial⟩ hG (pre_one hz91_0 (by omega) (by omega)) rfl rfl
    · exact uc_i (r344 hAD) rfl (by omega) ⟨rfl, ok_int (by omega) (by omega), ok_full, trivial⟩ hG (pre_one hz91_0 (by omega) (by omega)) rfl rfl
end UCS4
end
section
section UCS5
variable {l : Launch} {D : va_G} {tys : List (ClassId × FieldType)} {A : Nat → Prop} {ad : Nat → Nat} {ws : va_W}
theorem u_X47 (hAD : ∀ i : Nat, ad (1000 + i) = D.2 1000 i) (hG : GOK ad tys GG ws) (a1 : Int32) : UCP l D tys A ad 54 [.ref (ad 0), .int a1] ws 0 := by
  have l1 := Int32.le_toInt a1
  have u1 := Int32.toInt_lt a1
  rcases (show a1.toInt ≤ 1 ∨ 2 ≤ a1.toInt by omega) with h | h
  · rcases (show a1.toInt ≤ (-1) ∨ a1.toInt = 0 ∨ a1.toInt = 1 by omega) with h | h | h
    · exact uc_i (r419 hAD) rfl (by omega) ⟨rfl, ok_int (by omega) (by omega), trivial⟩ hG (fun q hq => by cases hq) rfl rfl
    · exact uc_i (r423 hAD) rfl (by omega) ⟨rfl, ok_int (by omega) (by omega), trivial⟩ hG (fun q hq => by cases hq) rfl rfl
    · exact uc_i (r426 hAD) rfl (by omega) ⟨rfl, ok_int (by omega) (by omega), trivial⟩ hG (fun q hq => by cases hq) rfl rfl
  · rcases (show a1.toInt = 2 ∨ a1.toInt = 3 ∨ 4 ≤ a1.toInt by omega) with h | h | h
    · exact uc_i (r429 hAD) rfl (by omega) ⟨rfl, ok_int (by omega) (by omega), trivial⟩ hG (fun q hq => by cases hq) rfl rfl
    · exact uc_i (r432 hAD) rfl (by omega) ⟨rfl, ok_int (by omega) (by omega), trivial⟩ hG (fun q hq => by cases hq) rfl rfl
    · exact uc_i (r420 hAD) rfl (by omega) ⟨rfl, ok_int (by omega) (by omega), trivial⟩ hG (fun q hq => by cases hq) rfl rfl
theorem u_M47 (hAD : ∀ i : Nat, ad (1000 + i) = D.2 1000 i) (hG : GOK ad tys GG ws) (a1 : Int32) : UCP l D tys A ad 315 [.ref (ad 90), .int a1] ws 0 := by
  have l1 := Int32.le_toInt a1
  have u1 := Int32.toInt_lt a1
  rcases (show a1.toInt ≤ 1 ∨ 2 ≤ a1.toInt by omega) with h | h
  · rcases (show a1.toInt ≤ (-1) ∨ a1.toInt = 0 ∨ a1.toInt = 1 by omega) with h | h | h
    · exact uc_i (r434 hAD) rfl (by omega) ⟨rfl, ok_int (by omega) (by omega), trivial⟩ hG (fun q hq => by cases hq) rfl rfl
    · exact (Classical.em (PG 0 ws)).elim (fun hP => uc_k (K0 := PG 0) (r438 hAD) rfl (by omega) ⟨rfl, ok_int (by omega) (by omega), trivial⟩ hG (fun q hq => by cases hq) hP rfl rfl) (fun hP => uc_k (K0 := fun w => ¬ PG 0 w) (rn438 hAD) rfl (by omega) ⟨rfl, ok_int (by omega) (by omega), trivial⟩ hG (fun q hq => by cases hq) hP rfl rfl)
    · exact (Classical.em (PG 1 ws)).elim (fun hP => uc_k (K0 := PG 1) (r440 hAD) rfl (by omega) ⟨rfl, ok_int (by omega) (by omega), trivial⟩ hG (fun q hq => by cases hq) hP rfl rfl) (fun hP => uc_k (K0 := fun w => ¬ PG 1 w) (rn440 hAD) rfl (by omega) ⟨rfl, ok_int (by omega) (by omega), trivial⟩ hG (fun q hq => by cases hq) hP rfl rfl)
  · rcases (show a1.toInt = 2 ∨ a1.toInt = 3 ∨ 4 ≤ a1.toInt by omega) with h | h | h
    · exact (Classical.em (PG 2 ws)).elim (fun hP => uc_k (K0 := PG 2) (r442 hAD) rfl (by omega) ⟨rfl, ok_int (by omega) (by omega), trivial⟩ hG (fun q hq => by cases hq) hP rfl rfl) (fun hP => uc_k (K0 := fun w => ¬ PG 2 w) (rn442 hAD) rfl (by omega) ⟨rfl, ok_int (by omega) (by omega), trivial⟩ hG (fun q hq => by cases hq) hP rfl rfl)
    · exact (Classical.em (PG 3 ws)).elim (fun hP => uc_k (K0 := PG 3) (r444 hAD) rfl (by omega) ⟨rfl, ok_int (by omega) (by omega), trivial⟩ hG (fun q hq => by cases hq) hP rfl rfl) (fun hP => uc_k (K0 := fun w => ¬ PG 3 w) (rn444 hAD) rfl (by omega) ⟨rfl, ok_int (by omega) (by omega), trivial⟩ hG (fun q hq => by cases hq) hP rfl rfl)
    · exact uc_i (r436 hAD) rfl (by omega) ⟨rfl, ok_int (by omega) (by omega), trivial⟩ hG (fun q hq => by cases hq) rfl rfl
theorem u_X48 (hAD : ∀ i : Nat, ad (1000 + i) = D.2 1000 i) (hG : GOK ad tys GG ws) (a1 : Int32) : UCP l D tys A ad 55 [.ref (ad 0), .int a1] ws 0 := by
  have l1 := Int32.le_toInt a1
  have u1 := Int32.toInt_lt a1
  rcases (show a1.toInt ≤ 1 ∨ 2 ≤ a1.toInt by omega) with h | h
  · rcases (show a1.toInt ≤ (-1) ∨ a1.toInt = 0 ∨ a1.toInt = 1 by omega) with h | h | h
    · exact uc_i (r445 hAD) rfl (by omega) ⟨rfl, ok_int (by omega) (by omega), trivial⟩ hG (fun q hq => by cases hq) rfl rfl
    · exact uc_i (r449 hAD) rfl (by omega) ⟨rfl, ok_int (by omega) (by omega), trivial⟩ hG (fun q hq => by cases hq) rfl rfl
    · exact uc_i (r450 hAD) rfl (by omega) ⟨rfl, ok_int (by omega) (by omega), trivial⟩ hG (fun q hq => by cases hq) rfl rfl
  · rcases (show a1.toInt = 2 ∨ a1.toInt = 3 ∨ 4 ≤ a1.toInt by omega) with h | h | h
    · exact uc_i (r451 hAD) rfl (by omega) ⟨rfl, ok_int (by omega) (by omega), trivial⟩ hG (fun q hq => by cases hq) rfl rfl
    · exact uc_i (r452 hAD) rfl (by omega) ⟨rfl, ok_int (by omega) (by omega), trivial⟩ hG (fun q hq => by cases hq) rfl rfl
    · exact uc_i (r446 hAD) rfl (by omega) ⟨rfl, ok_int (by omega) (by omega), trivial⟩ hG (fun q hq => by cases hq) rfl rfl
theorem u_M48 (hAD : ∀ i : Nat, ad (1000 + i) = D.2 1000 i) (hG : GOK ad tys GG ws) (a1 : Int32) : UCP l D tys A ad 318 [.ref (ad 90), .int a1] ws 0 := by
  have l1 := Int32.le_toInt a1
  have u1 := Int32.toInt_lt a1
  rcases (show a1.toInt ≤ 1 ∨ 2 ≤ a1.toInt by omega) with h | h
  · rcases (show a1.toInt ≤ (-1) ∨ a1.toInt = 0 ∨ a1.toInt = 1 by omega) with h | h | h
    · exact uc_i (r455 hAD) rfl (by omega) ⟨rfl, ok_int (by omega) (by omega), trivial⟩ hG (fun q hq => by cases hq) rfl rfl
    · exact (Classical.em (PG 0 ws)).elim (fun hP => uc_k (K0 := PG 0) (r457 hAD) rfl (by omega) ⟨rfl, ok_int (by omega) (by omega), trivial⟩ hG (fun q hq => by cases hq) hP rfl rfl) (fun hP => uc_k (K0 := fun w => ¬ PG 0 w) (rn457 hAD) rfl (by omega) ⟨rfl, ok_int (by omega) (by omega), trivial⟩ hG (fun q hq => by cases hq) hP rfl rfl)
    · exact (Classical.em (PG 1 ws)).elim (fun hP => uc_k (K0 := PG 1) (r458 hAD) rfl (by omega) ⟨rfl, ok_int (by omega) (by omega), trivial⟩ hG (fun q hq => by cases hq) hP rfl rfl) (fun hP => uc_k (K0 := fun w => ¬ PG 1 w) (rn458 hAD) rfl (by omega) ⟨rfl, ok_int (by omega) (by omega), trivial⟩ hG (fun q hq => by cases hq) hP rfl rfl)
  · rcases (show a1.toInt = 2 ∨ a1.toInt = 3 ∨ 4 ≤ a1.toInt by omega) with h | h | h
    · exact (Classical.em (PG 2 ws)).elim (fun hP => uc_k (K0 := PG 2) (r459 hAD) rfl (by omega) ⟨rfl, ok_int (by omega) (by omega), trivial⟩ hG (fun q hq => by cases hq) hP rfl rfl) (fun hP => uc_k (K0 := fun w => ¬ PG 2 w) (rn459 hAD) rfl (by omega) ⟨rfl, ok_int (by omega) (by omega), trivial⟩ hG (fun q hq => by cases hq) hP rfl rfl)
    · exact (Classical.em (PG 3 ws)).elim (fun hP => uc_k (K0 := PG 3) (r460 hAD) rfl (by omega) ⟨rfl, ok_int (by omega) (by omega), trivial⟩ hG (fun q hq => by cases hq) hP rfl rfl) (fun hP => uc_k (K0 := fun w => ¬ PG 3 w) (rn460 hAD) rfl (by omega) ⟨rfl, ok_int (by omega) (by omega), trivial⟩ hG (fun q hq => by cases hq) hP rfl rfl)
    · exact uc_i (r456 hAD) rfl (by omega) ⟨rfl, ok_int (by omega) (by omega), trivial⟩ hG (fun q hq => by cases hq) rfl rfl
theorem u_X49 (hAD : ∀ i : Nat, ad (1000 + i) = D.2 1000 i) (hG : GOK ad tys GG ws) (a1 : Int32) : UCP l D tys A ad 56 [.ref (ad 0), .int a1] ws 0 := by
  have l1 := Int32.le_toInt a1
  have u1 := Int32.toInt_lt a1
  rcases (show a1.toInt ≤ 1 ∨ 2 ≤ a1.toInt by omega) with h | h
  · rcases (show a1.toInt ≤ (-1) ∨ a1.toInt = 0 ∨ a1.toInt = 1 by omega) with h | h | h
    · exact uc_i (r461 hAD) rfl (by omega) ⟨rfl, ok_int (by omega) (by omega), trivial⟩ hG (fun q hq => by cases hq) rfl rfl
    · exact uc_i (r463 hAD) rfl (by omega) ⟨rfl, ok_int (by omega) (by omega), trivial⟩ hG (fun q hq => by cases hq) rfl rfl
    · exact uc_i (r464 hAD) rfl (by omega) ⟨rfl, ok_int (by omega) (by omega), trivial⟩ hG (fun q hq => by cases hq) rfl rfl
  · rcases (show a1.toInt = 2 ∨ a1.toInt = 3 ∨ 4 ≤ a1.toInt by omega) with h | h | h
    · exact uc_i (r465 hAD) rfl (by omega) ⟨rfl, ok_int (by omega) (by omega), trivial⟩ hG (fun q hq => by cases hq) rfl rfl
    · exact uc_i (r466 hAD) rfl (by omega) ⟨rfl, ok_int (by omega) (by omega), trivial⟩ hG (fun q hq => by cases hq) rfl rfl
    · exact uc_i (r462 hAD) rfl (by omega) ⟨rfl, ok_int (by omega) (by omega), trivial⟩ hG (fun q hq => by cases hq) rfl rfl
end UCS5
end
section
section UCS6
variable {l : Launch} {D : va_G} {tys : List (ClassId × FieldType)} {A : Nat → Prop} {ad : Nat → Nat} {ws : va_W}
theorem u_M49 (hAD : ∀ i : Nat, ad (1000 + i) = D.2 1000 i) (hG : GOK ad tys GG ws) (a1 : Int32) : UCP l D tys A ad 319 [.ref (ad 90), .int a1] ws 0 := by
  have l1 := Int32.le_toInt a1
  have u1 := Int32.toInt_lt a1
  rcases (show a1.toInt ≤ 1 ∨ 2 ≤ a1.toInt by omega) with h | h
  · rcases (show a1.toInt ≤ (-1) ∨ a1.toInt = 0 ∨ a1.toInt = 1 by omega) with h | h | h
    · exact uc_i (r467 hAD) rfl (by omega) ⟨rfl, ok_int (by omega) (by omega), trivial⟩ hG (fun q hq => by cases hq) rfl rfl
    · exact (Classical.em (PG 0 ws)).elim (fun hP => uc_k (K0 := PG 0) (r469 hAD) rfl (by omega) ⟨rfl, ok_int (by omega) (by omega), trivial⟩ hG (fun q hq => by cases hq) hP rfl rfl) (fun hP => uc_k (K0 := fun w => ¬ PG 0 w) (rn469 hAD) rfl (by omega) ⟨rfl, ok_int (by omega) (by omega), trivial⟩ hG (fun q hq => by cases hq) hP rfl rfl)
    · exact (Classical.em (PG 1 ws)).elim (fun hP => uc_k (K0 := PG 1) (r470 hAD) rfl (by omega) ⟨rfl, ok_int (by omega) (by omega), trivial⟩ hG (fun q hq => by cases hq) hP rfl rfl) (fun hP => uc_k (K0 := fun w => ¬ PG 1 w) (rn470 hAD) rfl (by omega) ⟨rfl, ok_int (by omega) (by omega), trivial⟩ hG (fun q hq => by cases hq) hP rfl rfl)
  · rcases (show a1.toInt = 2 ∨ a1.toInt = 3 ∨ 4 ≤ a1.toInt by omega) with h | h | h
    · exact (Classical.em (PG 2 ws)).elim (fun hP => uc_k (K0 := PG 2) (r471 hAD) rfl (by omega) ⟨rfl, ok_int (by omega) (by omega), trivial⟩ hG (fun q hq => by cases hq) hP rfl rfl) (fun hP => uc_k (K0 := fun w => ¬ PG 2 w) (rn471 hAD) rfl (by omega) ⟨rfl, ok_int (by omega) (by omega), trivial⟩ hG (fun q hq => by cases hq) hP rfl rfl)
    · exact (Classical.em (PG 3 ws)).elim (fun hP => uc_k (K0 := PG 3) (r472 hAD) rfl (by omega) ⟨rfl, ok_int (by omega) (by omega), trivial⟩ hG (fun q hq => by cases hq) hP rfl rfl) (fun hP => uc_k (K0 := fun w => ¬ PG 3 w) (rn472 hAD) rfl (by omega) ⟨rfl, ok_int (by omega) (by omega), trivial⟩ hG (fun q hq => by cases hq) hP rfl rfl)
    · exact uc_i (r468 hAD) rfl (by omega) ⟨rfl, ok_int (by omega) (by omega), trivial⟩ hG (fun q hq => by cases hq) rfl rfl
theorem u_X50 (hAD : ∀ i : Nat, ad (1000 + i) = D.2 1000 i) (hG : GOK ad tys GG ws) (a1 : Int32) (a2 : Int32) (a3 : Int32) : UCP l D tys A ad 58 [.ref (ad 0), .int a1, .int a2, .int a3] ws 0 := by
  have l1 := Int32.le_toInt a1
  have u1 := Int32.toInt_lt a1
  have l2 := Int32.le_toInt a2
  have u2 := Int32.toInt_lt a2
  have l3 := Int32.le_toInt a3
  have u3 := Int32.toInt_lt a3
  exact uc_i (r475 hAD) rfl (by omega) ⟨rfl, ok_full, ok_full, ok_full, trivial⟩ hG (fun q hq => by cases hq) rfl rfl
theorem u_M50 (hAD : ∀ i : Nat, ad (1000 + i) = D.2 1000 i) (hG : GOK ad tys GG ws) (a1 : Int32) (a2 : Int32) (a3 : Int32) : UCP l D tys A ad 321 [.ref (ad 90), .int a1, .int a2, .int a3] ws 0 := by
  have l1 := Int32.le_toInt a1
  have u1 := Int32.toInt_lt a1
  have l2 := Int32.le_toInt a2
  have u2 := Int32.toInt_lt a2
  have l3 := Int32.le_toInt a3
  have u3 := Int32.toInt_lt a3
  exact uc_i (r484 hAD) rfl (by omega) ⟨rfl, ok_full, ok_full, ok_full, trivial⟩ hG (fun q hq => by cases hq) rfl rfl
theorem u_X51 (hAD : ∀ i : Nat, ad (1000 + i) = D.2 1000 i) (hG : GOK ad tys GG ws) (a1 : Int32) (a2 : Int32) : UCP l D tys A ad 59 [.ref (ad 0), .int a1, .int a2] ws 0 := by
  have l1 := Int32.le_toInt a1
  have u1 := Int32.toInt_lt a1
  have l2 := Int32.le_toInt a2
  have u2 := Int32.toInt_lt a2
  exact uc_i (r485 hAD) rfl (by omega) ⟨rfl, ok_full, ok_full, trivial⟩ hG (fun q hq => by cases hq) rfl rfl
theorem u_M51 (hAD : ∀ i : Nat, ad (1000 + i) = D.2 1000 i) (hG : GOK ad tys GG ws) (a1 : Int32) (a2 : Int32) : UCP l D tys A ad 322 [.ref (ad 90), .int a1, .int a2] ws 0 := by
  have l1 := Int32.le_toInt a1
  have u1 := Int32.toInt_lt a1
  have l2 := Int32.le_toInt a2
  have u2 := Int32.toInt_lt a2
  exact uc_i (r486 hAD) rfl (by omega) ⟨rfl, ok_full, ok_full, trivial⟩ hG (fun q hq => by cases hq) rfl rfl
theorem u_X52 (hAD : ∀ i : Nat, ad (1000 + i) = D.2 1000 i) (hG : GOK ad tys GG ws) (a1 : Int32) : UCP l D tys A ad 60 [.ref (ad 0), .int a1] ws 0 := by
  have l1 := Int32.le_toInt a1
  have u1 := Int32.toInt_lt a1
  rcases (show a1.toInt ≤ 3 ∨ 4 ≤ a1.toInt by omega) with h | h
  · rcases (show a1.toInt ≤ 1 ∨ 2 ≤ a1.toInt by omega) with h | h
    · rcases (show a1.toInt ≤ 0 ∨ a1.toInt = 1 by omega) with h | h
      · exact uc_i (r487 hAD) rfl (by omega) ⟨rfl, ok_int (by omega) (by omega), trivial⟩ hG (fun q hq => by cases hq) rfl rfl
      · exact uc_i (r495 hAD) rfl (by omega) ⟨rfl, ok_int (by omega) (by omega), trivial⟩ hG (fun q hq => by cases hq) rfl rfl
    · rcases (show a1.toInt = 2 ∨ a1.toInt = 3 by omega) with h | h
      · exact uc_i (r498 hAD) rfl (by omega) ⟨rfl, ok_int (by omega) (by omega), trivial⟩ hG (fun q hq => by cases hq) rfl rfl
      · exact uc_i (r502 hAD) rfl (by omega) ⟨rfl, ok_int (by omega) (by omega), trivial⟩ hG (fun q hq => by cases hq) rfl rfl
  · rcases (show a1.toInt ≤ 5 ∨ 6 ≤ a1.toInt by omega) with h | h
    · rcases (show a1.toInt = 4 ∨ a1.toInt = 5 by omega) with h | h
      · exact uc_i (r506 hAD) rfl (by omega) ⟨rfl, ok_int (by omega) (by omega), trivial⟩ hG (fun q hq => by cases hq) rfl rfl
      · exact uc_i (r510 hAD) rfl (by omega) ⟨rfl, ok_int (by omega) (by omega), trivial⟩ hG (fun q hq => by cases hq) rfl rfl
    · rcases (show a1.toInt = 6 ∨ 7 ≤ a1.toInt by omega) with h | h
      · exact uc_i (r514 hAD) rfl (by omega) ⟨rfl, ok_int (by omega) (by omega), trivial⟩ hG (fun q hq => by cases hq) rfl rfl
      · exact uc_i (r488 hAD) rfl (by omega) ⟨rfl, ok_int (by omega) (by omega), trivial⟩ hG (fun q hq => by cases hq) rfl rfl
end UCS6
end
section
section UCS7
variable {l : Launch} {D : va_G} {tys : List (ClassId × FieldType)} {A : Nat → Prop} {ad : Nat → Nat} {ws : va_W}
theorem u_M52 (hAD : ∀ i : Nat, ad (1000 + i) = D.2 1000 i) (hG : GOK ad tys GG ws) (a1 : Int32) : UCP l D tys A ad 325 [.ref (ad 90), .int a1] ws 0 := by
  have l1 := Int32.le_toInt a1
  have u1 := Int32.toInt_lt a1
  obtain ⟨z91_0, hz91_0, zl91_0, zu91_0⟩ := cell_bd (c := 91) (j := 0) hG rfl (by omega) (show segAt _ 0 = some (0, 0, 9) by decide +kernel)
  rcases (show a1.toInt ≤ 3 ∨ 4 ≤ a1.toInt by omega) with h | h
  · rcases (show a1.toInt ≤ 1 ∨ 2 ≤ a1.toInt by omega) with h | h
    · rcases (show a1.toInt ≤ 0 ∨ a1.toInt = 1 by omega) with h | h
      · rcases (show z91_0 = 0 ∨ (1 ≤ z91_0 ∧ z91_0 ≤ 9) by omega) with h | h
        · exact uc_i (r515 hAD) rfl (by omega) ⟨rfl, ok_int (by omega) (by omega), trivial⟩ hG (pre_one hz91_0 (by omega) (by omega)) rfl rfl
        · exact uc_i (r516 hAD) rfl (by omega) ⟨rfl, ok_int (by omega) (by omega), trivial⟩ hG (pre_one hz91_0 (by omega) (by omega)) rfl rfl
      · rcases (show z91_0 = 0 ∨ (1 ≤ z91_0 ∧ z91_0 ≤ 9) by omega) with h | h
        · exact uc_i (r519 hAD) rfl (by omega) ⟨rfl, ok_int (by omega) (by omega), trivial⟩ hG (pre_one hz91_0 (by omega) (by omega)) rfl rfl
        · exact uc_i (r522 hAD) rfl (by omega) ⟨rfl, ok_int (by omega) (by omega), trivial⟩ hG (pre_one hz91_0 (by omega) (by omega)) rfl rfl
    · rcases (show a1.toInt = 2 ∨ a1.toInt = 3 by omega) with h | h
      · rcases (show z91_0 = 0 ∨ (1 ≤ z91_0 ∧ z91_0 ≤ 9) by omega) with h | h
        · exact uc_i (r523 hAD) rfl (by omega) ⟨rfl, ok_int (by omega) (by omega), trivial⟩ hG (pre_one hz91_0 (by omega) (by omega)) rfl rfl
        · exact uc_i (r524 hAD) rfl (by omega) ⟨rfl, ok_int (by omega) (by omega), trivial⟩ hG (pre_one hz91_0 (by omega) (by omega)) rfl rfl
      · rcases (show z91_0 = 0 ∨ (1 ≤ z91_0 ∧ z91_0 ≤ 9) by omega) with h | h
        · exact uc_i (r525 hAD) rfl (by omega) ⟨rfl, ok_int (by omega) (by omega), trivial⟩ hG (pre_one hz91_0 (by omega) (by omega)) rfl rfl
        · exact uc_i (r526 hAD) rfl (by omega) ⟨rfl, ok_int (by omega) (by omega), trivial⟩ hG (pre_one hz91_0 (by omega) (by omega)) rfl rfl
  · rcases (show a1.toInt ≤ 5 ∨ 6 ≤ a1.toInt by omega) with h | h
    · rcases (show a1.toInt = 4 ∨ a1.toInt = 5 by omega) with h | h
      · rcases (show z91_0 = 0 ∨ (1 ≤ z91_0 ∧ z91_0 ≤ 9) by omega) with h | h
        · exact uc_i (r527 hAD) rfl (by omega) ⟨rfl, ok_int (by omega) (by omega), trivial⟩ hG (pre_one hz91_0 (by omega) (by omega)) rfl rfl
        · exact uc_i (r528 hAD) rfl (by omega) ⟨rfl, ok_int (by omega) (by omega), trivial⟩ hG (pre_one hz91_0 (by omega) (by omega)) rfl rfl
      · rcases (show z91_0 = 0 ∨ (1 ≤ z91_0 ∧ z91_0 ≤ 9) by omega) with h | h
        · exact uc_i (r529 hAD) rfl (by omega) ⟨rfl, ok_int (by omega) (by omega), trivial⟩ hG (pre_one hz91_0 (by omega) (by omega)) rfl rfl
        · exact uc_i (r530 hAD) rfl (by omega) ⟨rfl, ok_int (by omega) (by omega), trivial⟩ hG (pre_one hz91_0 (by omega) (by omega)) rfl rfl
    · rcases (show a1.toInt = 6 ∨ 7 ≤ a1.toInt by omega) with h | h
      · rcases (show z91_0 = 0 ∨ (1 ≤ z91_0 ∧ z91_0 ≤ 9) by omega) with h | h
        · exact uc_i (r531 hAD) rfl (by omega) ⟨rfl, ok_int (by omega) (by omega), trivial⟩ hG (pre_one hz91_0 (by omega) (by omega)) rfl rfl
        · exact uc_i (r532 hAD) rfl (by omega) ⟨rfl, ok_int (by omega) (by omega), trivial⟩ hG (pre_one hz91_0 (by omega) (by omega)) rfl rfl
      · rcases (show z91_0 = 0 ∨ (1 ≤ z91_0 ∧ z91_0 ≤ 9) by omega) with h | h
        · exact uc_i (r517 hAD) rfl (by omega) ⟨rfl, ok_int (by omega) (by omega), trivial⟩ hG (pre_one hz91_0 (by omega) (by omega)) rfl rfl
        · exact uc_i (r518 hAD) rfl (by omega) ⟨rfl, ok_int (by omega) (by omega), trivial⟩ hG (pre_one hz91_0 (by omega) (by omega)) rfl rfl
theorem u_X53 (hAD : ∀ i : Nat, ad (1000 + i) = D.2 1000 i) (hG : GOK ad tys GG ws) (a1 : Int32) : UCP l D tys A ad 61 [.ref (ad 0), .int a1] ws 0 := by
  have l1 := Int32.le_toInt a1
  have u1 := Int32.toInt_lt a1
  exact uc_i (r539 hAD) rfl (by omega) ⟨rfl, ok_full, trivial⟩ hG (fun q hq => by cases hq) rfl rfl
theorem u_M53 (hAD : ∀ i : Nat, ad (1000 + i) = D.2 1000 i) (hG : GOK ad tys GG ws) (a1 : Int32) : UCP l D tys A ad 326 [.ref (ad 90), .int a1] ws 0 := by
  have l1 := Int32.le_toInt a1
  have u1 := Int32.toInt_lt a1
  obtain ⟨z91_0, hz91_0, zl91_0, zu91_0⟩ := cell_bd (c := 91) (j := 0) hG rfl (by omega) (show segAt _ 0 = some (0, 0, 9) by decide +kernel)
  rcases (show z91_0 = 0 ∨ (1 ≤ z91_0 ∧ z91_0 ≤ 9) by omega) with h | h
  · exact uc_i (r541 hAD) rfl (by omega) ⟨rfl, ok_full, trivial⟩ hG (pre_one hz91_0 (by omega) (by omega)) rfl rfl
  · exact uc_i (r544 hAD) rfl (by omega) ⟨rfl, ok_full, trivial⟩ hG (pre_one hz91_0 (by omega) (by omega)) rfl rfl
theorem u_X54 (hAD : ∀ i : Nat, ad (1000 + i) = D.2 1000 i) (hG : GOK ad tys GG ws) (a1 : Int32) : UCP l D tys A ad 31 [.ref (ad 0), .int a1] ws 0 := by
  have l1 := Int32.le_toInt a1
  have u1 := Int32.toInt_lt a1
  exact uc_i (r545 hAD) rfl (by omega) ⟨rfl, ok_full, trivial⟩ hG (fun q hq => by cases hq) rfl rfl
theorem u_M54 (hAD : ∀ i : Nat, ad (1000 + i) = D.2 1000 i) (hG : GOK ad tys GG ws) (a1 : Int32) : UCP l D tys A ad 275 [.ref (ad 90), .int a1] ws 0 := by
  have l1 := Int32.le_toInt a1
  have u1 := Int32.toInt_lt a1
  exact uc_i (r546 hAD) rfl (by omega) ⟨rfl, ok_full, trivial⟩ hG (fun q hq => by cases hq) rfl rfl
theorem u_X55 (hAD : ∀ i : Nat, ad (1000 + i) = D.2 1000 i) (hG : GOK ad tys GG ws) (a1 : Int32) (a2 : Int32) (a3 : Int32) : UCP l D tys A ad 62 [.ref (ad 0), .int a1, .int a2, .int a3] ws 1 := by
  have l1 := Int32.le_toInt a1
  have u1 := Int32.toInt_lt a1
  have l2 := Int32.le_toInt a2
  have u2 := Int32.toInt_lt a2
  have l3 := Int32.le_toInt a3
  have u3 := Int32.toInt_lt a3
  exact uc_l (r554 hAD) rfl (by omega) ⟨rfl, ok_full, ok_full, ok_full, trivial⟩ hG (fun q hq => by cases hq) rfl rfl
theorem u_M55 (hAD : ∀ i : Nat, ad (1000 + i) = D.2 1000 i) (hG : GOK ad tys GG ws) (hz : Z0 ws) (a1 : Int32) (a2 : Int32) (a3 : Int32) : UCP l D tys A ad 330 [.ref (ad 90), .int a1, .int a2, .int a3] ws 1 := by
  have l1 := Int32.le_toInt a1
  have u1 := Int32.toInt_lt a1
  have l2 := Int32.le_toInt a2
  have u2 := Int32.toInt_lt a2
  have l3 := Int32.le_toInt a3
  have u3 := Int32.toInt_lt a3
  exact uc_lz (r557 hAD) rfl (by omega) ⟨rfl, ok_full, ok_full, ok_full, trivial⟩ hG (Z0_pre hz) rfl rfl rfl
theorem u_X56 (hAD : ∀ i : Nat, ad (1000 + i) = D.2 1000 i) (hG : GOK ad tys GG ws) (a1 : Int32) (a2 : Int32) (a3 : Int32) : UCP l D tys A ad 64 [.ref (ad 0), .int a1, .int a2, .int a3] ws 0 := by
  have l1 := Int32.le_toInt a1
  have u1 := Int32.toInt_lt a1
  have l2 := Int32.le_toInt a2
  have u2 := Int32.toInt_lt a2
  have l3 := Int32.le_toInt a3
  have u3 := Int32.toInt_lt a3
  exact uc_i (r559 hAD) rfl (by omega) ⟨rfl, ok_full, ok_full, ok_full, trivial⟩ hG (fun q hq => by cases hq) rfl rfl
theorem u_M56 (hAD : ∀ i : Nat, ad (1000 + i) = D.2 1000 i) (hG : GOK ad tys GG ws) (hz : Z0 ws) (a1 : Int32) (a2 : Int32) (a3 : Int32) : UCP l D tys A ad 333 [.ref (ad 90), .int a1, .int a2, .int a3] ws 0 := by
  have l1 := Int32.le_toInt a1
  have u1 := Int32.toInt_lt a1
  have l2 := Int32.le_toInt a2
  have u2 := Int32.toInt_lt a2
  have l3 := Int32.le_toInt a3
  have u3 := Int32.toInt_lt a3
  exact uc_iz (r560 hAD) rfl (by omega) ⟨rfl, ok_full, ok_full, ok_full, trivial⟩ hG (Z0_pre hz) rfl rfl rfl
theorem u_X57 (hAD : ∀ i : Nat, ad (1000 + i) = D.2 1000 i) (hG : GOK ad tys GG ws) (a1 : Int32) (a2 : Int32) (a3 : Int32) (a4 : Int32) : UCP l D tys A ad 65 [.ref (ad 0), .int a1, .int a2, .int a3, .int a4] ws 0 := by
  have l1 := Int32.le_toInt a1
  have u1 := Int32.toInt_lt a1
  have l2 := Int32.le_toInt a2
  have u2 := Int32.toInt_lt a2
  have l3 := Int32.le_toInt a3
  have u3 := Int32.toInt_lt a3
  have l4 := Int32.le_toInt a4
  have u4 := Int32.toInt_lt a4
  exact uc_i (r562 hAD) rfl (by omega) ⟨rfl, ok_full, ok_full, ok_full, ok_full, trivial⟩ hG (fun q hq => by cases hq) rfl rfl
theorem u_M57 (hAD : ∀ i : Nat, ad (1000 + i) = D.2 1000 i) (hG : GOK ad tys GG ws) (hz : Z0 ws) (a1 : Int32) (a2 : Int32) (a3 : Int32) (a4 : Int32) : UCP l D tys A ad 334 [.ref (ad 90), .int a1, .int a2, .int a3, .int a4] ws 0 := by
  have l1 := Int32.le_toInt a1
  have u1 := Int32.toInt_lt a1
  have l2 := Int32.le_toInt a2
  have u2 := Int32.toInt_lt a2
  have l3 := Int32.le_toInt a3
  have u3 := Int32.toInt_lt a3
  have l4 := Int32.le_toInt a4
  have u4 := Int32.toInt_lt a4
  exact uc_iz (r563 hAD) rfl (by omega) ⟨rfl, ok_full, ok_full, ok_full, ok_full, trivial⟩ hG (Z0_pre hz) rfl rfl rfl
theorem u_X59 (hAD : ∀ i : Nat, ad (1000 + i) = D.2 1000 i) (hG : GOK ad tys GG ws) (a1 : Int32) : UCP l D tys A ad 66 [.ref (ad 0), .int a1] ws 0 := by
  have l1 := Int32.le_toInt a1
  have u1 := Int32.toInt_lt a1
  exact uc_i (r567 hAD) rfl (by omega) ⟨rfl, ok_full, trivial⟩ hG (fun q hq => by cases hq) rfl rfl
end UCS7
end
section
section UCS8
variable {l : Launch} {D : va_G} {tys : List (ClassId × FieldType)} {A : Nat → Prop} {ad : Nat → Nat} {ws : va_W}
theorem u_M59 (hAD : ∀ i : Nat, ad (1000 + i) = D.2 1000 i) (hG : GOK ad tys GG ws) (a1 : Int32) : UCP l D tys A ad 335 [.ref (ad 90), .int a1] ws 0 := by
  have l1 := Int32.le_toInt a1
  have u1 := Int32.toInt_lt a1
  exact uc_i (r568 hAD) rfl (by omega) ⟨rfl, ok_full, trivial⟩ hG (fun q hq => by cases hq) rfl rfl
theorem u_X62 (hAD : ∀ i : Nat, ad (1000 + i) = D.2 1000 i) (hG : GOK ad tys GG ws) (a1 : Int32) (a2 : Int32) (a3 : Int32) : UCP l D tys A ad 70 [.ref (ad 0), .int a1, .int a2, .int a3] ws 0 := by
  have l1 := Int32.le_toInt a1
  have u1 := Int32.toInt_lt a1
  have l2 := Int32.le_toInt a2
  have u2 := Int32.toInt_lt a2
  have l3 := Int32.le_toInt a3
  have u3 := Int32.toInt_lt a3
  rcases (show a1.toInt ≤ (-1) ∨ (0 ≤ a1.toInt ∧ a1.toInt ≤ 3) ∨ 4 ≤ a1.toInt by omega) with h | h | h
  · exact uc_i (r655 hAD) rfl (by omega) ⟨rfl, ok_int (by omega) (by omega), ok_full, ok_full, trivial⟩ hG (fun q hq => by cases hq) rfl rfl
  · rcases (show a2.toInt ≤ (-1) ∨ (0 ≤ a2.toInt ∧ a2.toInt ≤ 3) ∨ 4 ≤ a2.toInt by omega) with h | h | h
    · exact uc_i (r657 hAD) rfl (by omega) ⟨rfl, ok_int (by omega) (by omega), ok_int (by omega) (by omega), ok_full, trivial⟩ hG (fun q hq => by cases hq) rfl rfl
    · rcases (show a3.toInt ≤ (-1) ∨ (0 ≤ a3.toInt ∧ a3.toInt ≤ 60) ∨ 61 ≤ a3.toInt by omega) with h | h | h
      · exact uc_i (r660 hAD) rfl (by omega) ⟨rfl, ok_int (by omega) (by omega), ok_int (by omega) (by omega), ok_int (by omega) (by omega), trivial⟩ hG (fun q hq => by cases hq) rfl rfl
      · exact uc_i (r663 hAD) rfl (by omega) ⟨rfl, ok_int (by omega) (by omega), ok_int (by omega) (by omega), ok_int (by omega) (by omega), trivial⟩ hG (fun q hq => by cases hq) rfl rfl
      · exact uc_i (r659 hAD) rfl (by omega) ⟨rfl, ok_int (by omega) (by omega), ok_int (by omega) (by omega), ok_int (by omega) (by omega), trivial⟩ hG (fun q hq => by cases hq) rfl rfl
    · exact uc_i (r658 hAD) rfl (by omega) ⟨rfl, ok_int (by omega) (by omega), ok_int (by omega) (by omega), ok_full, trivial⟩ hG (fun q hq => by cases hq) rfl rfl
  · exact uc_i (r656 hAD) rfl (by omega) ⟨rfl, ok_int (by omega) (by omega), ok_full, ok_full, trivial⟩ hG (fun q hq => by cases hq) rfl rfl
theorem u_M62 (hAD : ∀ i : Nat, ad (1000 + i) = D.2 1000 i) (hG : GOK ad tys GG ws) (a1 : Int32) (a2 : Int32) (a3 : Int32) : UCP l D tys A ad 338 [.ref (ad 90), .int a1, .int a2, .int a3] ws 0 := by
  have l1 := Int32.le_toInt a1
  have u1 := Int32.toInt_lt a1
  have l2 := Int32.le_toInt a2
  have u2 := Int32.toInt_lt a2
  have l3 := Int32.le_toInt a3
  have u3 := Int32.toInt_lt a3
  rcases (show a1.toInt ≤ (-1) ∨ (0 ≤ a1.toInt ∧ a1.toInt ≤ 3) ∨ 4 ≤ a1.toInt by omega) with h | h | h
  · exact uc_i (r664 hAD) rfl (by omega) ⟨rfl, ok_int (by omega) (by omega), ok_full, ok_full, trivial⟩ hG (fun q hq => by cases hq) rfl rfl
  · rcases (show a2.toInt ≤ (-1) ∨ (0 ≤ a2.toInt ∧ a2.toInt ≤ 3) ∨ 4 ≤ a2.toInt by omega) with h | h | h
    · exact uc_i (r666 hAD) rfl (by omega) ⟨rfl, ok_int (by omega) (by omega), ok_int (by omega) (by omega), ok_full, trivial⟩ hG (fun q hq => by cases hq) rfl rfl
    · rcases (show a3.toInt ≤ (-1) ∨ (0 ≤ a3.toInt ∧ a3.toInt ≤ 60) ∨ 61 ≤ a3.toInt by omega) with h | h | h
      · exact uc_i (r669 hAD) rfl (by omega) ⟨rfl, ok_int (by omega) (by omega), ok_int (by omega) (by omega), ok_int (by omega) (by omega), trivial⟩ hG (fun q hq => by cases hq) rfl rfl
      · exact uc_i (r670 hAD) rfl (by omega) ⟨rfl, ok_int (by omega) (by omega), ok_int (by omega) (by omega), ok_int (by omega) (by omega), trivial⟩ hG (fun q hq => by cases hq) rfl rfl
      · exact uc_i (r668 hAD) rfl (by omega) ⟨rfl, ok_int (by omega) (by omega), ok_int (by omega) (by omega), ok_int (by omega) (by omega), trivial⟩ hG (fun q hq => by cases hq) rfl rfl
    · exact uc_i (r667 hAD) rfl (by omega) ⟨rfl, ok_int (by omega) (by omega), ok_int (by omega) (by omega), ok_full, trivial⟩ hG (fun q hq => by cases hq) rfl rfl
  · exact uc_i (r665 hAD) rfl (by omega) ⟨rfl, ok_int (by omega) (by omega), ok_full, ok_full, trivial⟩ hG (fun q hq => by cases hq) rfl rfl
theorem u_X63 (hAD : ∀ i : Nat, ad (1000 + i) = D.2 1000 i) (hG : GOK ad tys GG ws) (a1 : Int32) (a2 : Int32) (a3 : Int64) : UCP l D tys A ad 71 [.ref (ad 0), .int a1, .int a2, .long a3] ws 0 := by
  have l1 := Int32.le_toInt a1
  have u1 := Int32.toInt_lt a1
  have l2 := Int32.le_toInt a2
  have u2 := Int32.toInt_lt a2
  rcases (show a1.toInt ≤ (-1) ∨ (0 ≤ a1.toInt ∧ a1.toInt ≤ 3) ∨ 4 ≤ a1.toInt by omega) with h | h | h
  · exact uc_i (r671 hAD) rfl (by omega) ⟨rfl, ok_int (by omega) (by omega), ok_full, ok_fullL, trivial⟩ hG (fun q hq => by cases hq) rfl rfl
  · exact uc_i (r674 hAD) rfl (by omega) ⟨rfl, ok_int (by omega) (by omega), ok_full, ok_fullL, trivial⟩ hG (fun q hq => by cases hq) rfl rfl
  · exact uc_i (r672 hAD) rfl (by omega) ⟨rfl, ok_int (by omega) (by omega), ok_full, ok_fullL, trivial⟩ hG (fun q hq => by cases hq) rfl rfl
theorem u_M63 (hAD : ∀ i : Nat, ad (1000 + i) = D.2 1000 i) (hG : GOK ad tys GG ws) (a1 : Int32) (a2 : Int32) (a3 : Int64) : UCP l D tys A ad 339 [.ref (ad 90), .int a1, .int a2, .long a3] ws 0 := by
  have l1 := Int32.le_toInt a1
  have u1 := Int32.toInt_lt a1
  have l2 := Int32.le_toInt a2
  have u2 := Int32.toInt_lt a2
  rcases (show a1.toInt ≤ (-1) ∨ (0 ≤ a1.toInt ∧ a1.toInt ≤ 3) ∨ 4 ≤ a1.toInt by omega) with h | h | h
  · exact uc_i (r675 hAD) rfl (by omega) ⟨rfl, ok_int (by omega) (by omega), ok_full, ok_fullL, trivial⟩ hG (fun q hq => by cases hq) rfl rfl
  · exact uc_i (r677 hAD) rfl (by omega) ⟨rfl, ok_int (by omega) (by omega), ok_full, ok_fullL, trivial⟩ hG (fun q hq => by cases hq) rfl rfl
  · exact uc_i (r676 hAD) rfl (by omega) ⟨rfl, ok_int (by omega) (by omega), ok_full, ok_fullL, trivial⟩ hG (fun q hq => by cases hq) rfl rfl
theorem u_X64 (hAD : ∀ i : Nat, ad (1000 + i) = D.2 1000 i) (hG : GOK ad tys GG ws) (a1 : Int32) (a2 : Int32) (a3 : Int32) (a4 : Int32) (a5 : Int32) : UCP l D tys A ad 72 [.ref (ad 0), .int a1, .int a2, .int a3, .int a4, .int a5] ws 0 := by
  obtain ⟨d2, h1, h2⟩ := upx (l := l) (A := A) hAD hG a1 a2 a3 a4 a5
  exact ⟨d2, h1, CT_post h2 (fun r w h => ⟨⟨h.2.1, Or.inl ⟨rfl, h.1⟩⟩, KEP_of (KEEP_F h.2.2) rfl⟩)⟩
theorem u_M64 (hAD : ∀ i : Nat, ad (1000 + i) = D.2 1000 i) (hG : GOK ad tys GG ws) (a1 : Int32) (a2 : Int32) (a3 : Int32) (a4 : Int32) (a5 : Int32) : UCP l D tys A ad 340 [.ref (ad 90), .int a1, .int a2, .int a3, .int a4, .int a5] ws 0 := by
  obtain ⟨d2, h1, h2⟩ := upm (l := l) (D := D) (A := A) hG a1 a2 a3 a4 a5
  exact ⟨d2, h1, CT_post h2 (fun r w h => ⟨⟨h.2.1, Or.inl ⟨rfl, h.1⟩⟩, KEP_of (KEEP_F h.2.2) rfl⟩)⟩
end UCS8
end
section
noncomputable def USP (l : Launch) (D : va_G) (tys : List (ClassId × FieldType)) (A : Nat → Prop) (ad : Nat → Nat) (y : Nat) (vs : List Value) (ws : va_W) (v : Int) : Prop := ∃ d', d' < 11 ∧ CT l D tys A y d' 0 0 vs ws (fun r w => r = some (.int (Int32.ofInt v)) ∧ GOK ad tys GG w ∧ KEP ws w)
theorem us_i {l : Launch} {D : va_G} {tys : List (ClassId × FieldType)} {A : Nat → Prop} {ad : Nat → Nat} {ws : va_W} {c : CR} {d y : Nat} {z : Int} {vs : List Value} (h : CRok l D tys A ad GG d c) (hy : c.1 = y) (hd : d ≤ 11) (hv : okvs ad c.2.1 vs) (hG : GOK ad tys GG ws) (hp : preOK ad c.2.2.1 ws) (hr : c.2.2.2.1 = some (0, z, z)) (hm : kpB c.2.2.2.2.2 = true) : USP l D tys A ad y vs ws z := by
  subst hy
  obtain ⟨d', h1, h2⟩ := h vs ws hv hG hp
  refine ⟨d', Nat.lt_of_lt_of_le h1 hd, CT_post h2 ?_⟩
  rintro r w ⟨q1, q2, q3, q4⟩
  rw [hr] at q3
  exact ⟨rt_int q3, q1, KEP_of (KEEP_F q2) hm⟩
end
section
noncomputable def eqU : List UInt8 → List UInt8 → Bool
  | [], l => match l with
    | [] => true
    | _ :: _ => false
  | a :: t, l => match l with
    | [] => false
    | b :: r => bif Nat.beq a.toNat b.toNat then eqU t r else false
theorem eqU_ok : ∀ {a b : List UInt8}, eqU a b = true → a = b
  | [], [], _ => rfl
  | [], _ :: _, h => by cases h
  | _ :: _, [], h => by cases h
  | a :: t, b :: r, h => by
    have h : (bif Nat.beq a.toNat b.toNat then eqU t r else false) = true := h
    cases hb : Nat.beq a.toNat b.toNat with
    | false => rw [hb] at h; cases h
    | true =>
      rw [hb, cond_true] at h
      rw [eqU_ok h, UInt8.toNat_inj.mp (Nat.eq_of_beq_eq_true hb)]
theorem lC_s {L M : List UInt8} {a b : Nat} (h : code.data.toList.drop a = L) (h2 : L.drop b = M) : code.data.toList.drop (a + b) = M := by
  rw [← h2, ← h, List.drop_drop]
noncomputable def decG (L : List UInt8) (r : Nat) (i : Instr) (n : Nat) : Bool := match encI i with
  | some bs => bif Nat.beq bs.length n then pfU bs (L.drop r) else false
  | none => false
theorem decG_ok {a r n : Nat} {L : List UInt8} {i : Instr} (h : code.data.toList.drop a = L) (g : decG L r i n = true) : decode code (a + r) = .ok (i, n) := decF_ok (by
  unfold decG at g
  unfold decF
  cases he : encI i with
  | none => rw [he] at g; cases g
  | some bs =>
    rw [he] at g
    have g : (bif Nat.beq bs.length n then pfU bs (L.drop r) else false) = true := g
    show (bif Nat.beq bs.length n then pfU bs (code.data.toList.drop (a + r)) else false) = true
    rw [lC_s h rfl]
    exact g)
noncomputable def lR_37 : List UInt8 := 0x05 :: 0x60 :: 0x2e :: 0x2a :: 0x1d :: 0x06 :: 0x60 :: 0x2e :: 0x2a :: 0x1d :: 0x07 :: 0x60 :: 0x2e :: 0x2a :: 0x1d :: 0x08 :: 0x60 :: 0x2e :: 0xb6 :: 0x01 :: 0x17 :: 0x57 :: 0x2c :: 0x2a :: 0x1d :: 0x04 :: 0x60 :: 0x2e :: 0x2a :: 0x1d :: 0x05 :: 0x60 :: 0x2e :: 0x2a :: 0x1d :: 0x06 :: 0x60 :: 0x2e :: 0x2a :: 0x1d :: 0x07 :: 0x60 :: 0x2e :: 0x2a :: 0x1d :: 0x08 :: 0x60 :: 0x2e :: 0xb6 :: 0x01 :: 0x1a :: 0x57 :: 0xa7 :: 0x00 :: 0x03 :: 0x84 :: 0x03 :: 0x06 :: 0xa7 :: 0xf6 :: 0x98 :: 0x04 :: 0xac :: []
noncomputable def lR_36 : List UInt8 := 0x10 :: 0x20 :: 0x79 :: 0x2a :: 0x1d :: 0x07 :: 0x60 :: 0x2e :: 0x85 :: 0x14 :: 0x01 :: 0x10 :: 0x7f :: 0x81 :: 0xb6 :: 0x01 :: 0x12 :: 0x57 :: 0x2c :: 0x2a :: 0x1d :: 0x04 :: 0x60 :: 0x2e :: 0x2a :: 0x1d :: 0x05 :: 0x60 :: 0x2e :: 0x2a :: 0x1d :: 0x06 :: 0x60 :: 0x2e :: 0x85 :: 0x10 :: 0x20 :: 0x79 :: 0x2a :: 0x1d :: 0x07 :: 0x60 :: 0x2e :: 0x85 :: 0x14 :: 0x01 :: 0x10 :: 0x7f :: 0x81 :: 0xb6 :: 0x01 :: 0x16 :: 0x57 :: 0xa7 :: 0x00 :: 0x42 :: 0x2b :: 0x2a :: 0x1d :: 0x04 :: 0x60 :: 0x2e :: 0x2a :: 0x1d :: lR_37
noncomputable def lR_35 : List UInt8 := 0x57 :: 0xa7 :: 0x00 :: 0xb6 :: 0x2b :: 0x2a :: 0x1d :: 0x04 :: 0x60 :: 0x2e :: 0x2a :: 0x1d :: 0x05 :: 0x60 :: 0x2e :: 0x2a :: 0x1d :: 0x06 :: 0x60 :: 0x2e :: 0xb6 :: 0x01 :: 0x0c :: 0x57 :: 0x2c :: 0x2a :: 0x1d :: 0x04 :: 0x60 :: 0x2e :: 0x2a :: 0x1d :: 0x05 :: 0x60 :: 0x2e :: 0x2a :: 0x1d :: 0x06 :: 0x60 :: 0x2e :: 0xb6 :: 0x01 :: 0x0f :: 0x57 :: 0xa7 :: 0x00 :: 0x8b :: 0x2b :: 0x2a :: 0x1d :: 0x04 :: 0x60 :: 0x2e :: 0x2a :: 0x1d :: 0x05 :: 0x60 :: 0x2e :: 0x2a :: 0x1d :: 0x06 :: 0x60 :: 0x2e :: 0x85 :: lR_36
noncomputable def lR_34 : List UInt8 := 0x2a :: 0x1d :: 0x04 :: 0x60 :: 0x2e :: 0xb6 :: 0x01 :: 0x00 :: 0x57 :: 0x2c :: 0x2a :: 0x1d :: 0x04 :: 0x60 :: 0x2e :: 0xb6 :: 0x01 :: 0x03 :: 0x57 :: 0xa7 :: 0x00 :: 0xe4 :: 0x2b :: 0x2a :: 0x1d :: 0x04 :: 0x60 :: 0x2e :: 0xb6 :: 0x01 :: 0x04 :: 0x57 :: 0x2c :: 0x2a :: 0x1d :: 0x04 :: 0x60 :: 0x2e :: 0xb6 :: 0x01 :: 0x07 :: 0x57 :: 0xa7 :: 0x00 :: 0xcd :: 0x2b :: 0x2a :: 0x1d :: 0x04 :: 0x60 :: 0x2e :: 0xb6 :: 0x01 :: 0x08 :: 0x57 :: 0x2c :: 0x2a :: 0x1d :: 0x04 :: 0x60 :: 0x2e :: 0xb6 :: 0x01 :: 0x0b :: lR_35
noncomputable def lR_33 : List UInt8 := 0x07 :: 0x60 :: 0x2e :: 0xb6 :: 0x00 :: 0xfb :: 0x57 :: 0xa7 :: 0x01 :: 0x30 :: 0x2b :: 0x2a :: 0x1d :: 0x04 :: 0x60 :: 0x2e :: 0x2a :: 0x1d :: 0x05 :: 0x60 :: 0x2e :: 0x2a :: 0x1d :: 0x06 :: 0x60 :: 0x2e :: 0x2a :: 0x1d :: 0x07 :: 0x60 :: 0x2e :: 0xb6 :: 0x00 :: 0xfc :: 0x57 :: 0x2c :: 0x2a :: 0x1d :: 0x04 :: 0x60 :: 0x2e :: 0x2a :: 0x1d :: 0x05 :: 0x60 :: 0x2e :: 0x2a :: 0x1d :: 0x06 :: 0x60 :: 0x2e :: 0x2a :: 0x1d :: 0x07 :: 0x60 :: 0x2e :: 0xb6 :: 0x00 :: 0xff :: 0x57 :: 0xa7 :: 0x00 :: 0xfb :: 0x2b :: lR_34
noncomputable def lR_32 : List UInt8 := 0x1d :: 0x04 :: 0x60 :: 0x2e :: 0x2a :: 0x1d :: 0x05 :: 0x60 :: 0x2e :: 0x2a :: 0x1d :: 0x06 :: 0x60 :: 0x2e :: 0xb6 :: 0x00 :: 0xf7 :: 0x57 :: 0xa7 :: 0x01 :: 0x65 :: 0x2b :: 0x2a :: 0x1d :: 0x04 :: 0x60 :: 0x2e :: 0x2a :: 0x1d :: 0x05 :: 0x60 :: 0x2e :: 0x2a :: 0x1d :: 0x06 :: 0x60 :: 0x2e :: 0x2a :: 0x1d :: 0x07 :: 0x60 :: 0x2e :: 0xb6 :: 0x00 :: 0xf8 :: 0x57 :: 0x2c :: 0x2a :: 0x1d :: 0x04 :: 0x60 :: 0x2e :: 0x2a :: 0x1d :: 0x05 :: 0x60 :: 0x2e :: 0x2a :: 0x1d :: 0x06 :: 0x60 :: 0x2e :: 0x2a :: 0x1d :: lR_33
noncomputable def lR_31 : List UInt8 := 0x2a :: 0x1d :: 0x04 :: 0x60 :: 0x2e :: 0x2a :: 0x1d :: 0x05 :: 0x60 :: 0x2e :: 0x2a :: 0x1d :: 0x06 :: 0x60 :: 0x2e :: 0xb6 :: 0x00 :: 0xef :: 0x58 :: 0x2c :: 0x2a :: 0x1d :: 0x04 :: 0x60 :: 0x2e :: 0x2a :: 0x1d :: 0x05 :: 0x60 :: 0x2e :: 0x2a :: 0x1d :: 0x06 :: 0x60 :: 0x2e :: 0xb6 :: 0x00 :: 0xf3 :: 0x58 :: 0xa7 :: 0x01 :: 0x90 :: 0x2b :: 0x2a :: 0x1d :: 0x04 :: 0x60 :: 0x2e :: 0x2a :: 0x1d :: 0x05 :: 0x60 :: 0x2e :: 0x2a :: 0x1d :: 0x06 :: 0x60 :: 0x2e :: 0xb6 :: 0x00 :: 0xf4 :: 0x57 :: 0x2c :: 0x2a :: lR_32
noncomputable def lR_30 : List UInt8 := 0xb6 :: 0x00 :: 0xe3 :: 0x57 :: 0x2c :: 0x2a :: 0x1d :: 0x04 :: 0x60 :: 0x2e :: 0xb6 :: 0x00 :: 0xe6 :: 0x57 :: 0xa7 :: 0x01 :: 0xe9 :: 0x2b :: 0x2a :: 0x1d :: 0x04 :: 0x60 :: 0x2e :: 0xb6 :: 0x00 :: 0xe7 :: 0x57 :: 0x2c :: 0x2a :: 0x1d :: 0x04 :: 0x60 :: 0x2e :: 0xb6 :: 0x00 :: 0xea :: 0x57 :: 0xa7 :: 0x01 :: 0xd2 :: 0x2b :: 0x2a :: 0x1d :: 0x04 :: 0x60 :: 0x2e :: 0xb6 :: 0x00 :: 0xeb :: 0x57 :: 0x2c :: 0x2a :: 0x1d :: 0x04 :: 0x60 :: 0x2e :: 0xb6 :: 0x00 :: 0xee :: 0x57 :: 0xa7 :: 0x01 :: 0xbb :: 0x2b :: lR_31
noncomputable def lR_29 : List UInt8 := 0xdb :: 0x57 :: 0x2c :: 0x2a :: 0x1d :: 0x04 :: 0x60 :: 0x2e :: 0x2a :: 0x1d :: 0x05 :: 0x60 :: 0x2e :: 0x2a :: 0x1d :: 0x06 :: 0x60 :: 0x2e :: 0xb6 :: 0x00 :: 0xde :: 0x57 :: 0xa7 :: 0x02 :: 0x21 :: 0x2b :: 0x2a :: 0x1d :: 0x04 :: 0x60 :: 0x2e :: 0x2a :: 0x1d :: 0x05 :: 0x60 :: 0x2e :: 0xb6 :: 0x00 :: 0xdf :: 0x57 :: 0x2c :: 0x2a :: 0x1d :: 0x04 :: 0x60 :: 0x2e :: 0x2a :: 0x1d :: 0x05 :: 0x60 :: 0x2e :: 0xb6 :: 0x00 :: 0xe2 :: 0x57 :: 0xa7 :: 0x02 :: 0x00 :: 0x2b :: 0x2a :: 0x1d :: 0x04 :: 0x60 :: 0x2e :: lR_30
noncomputable def lR_28 : List UInt8 := 0x2b :: 0x2a :: 0x1d :: 0x04 :: 0x60 :: 0x2e :: 0xb6 :: 0x00 :: 0xd3 :: 0x57 :: 0x2c :: 0x2a :: 0x1d :: 0x04 :: 0x60 :: 0x2e :: 0xb6 :: 0x00 :: 0xd6 :: 0x57 :: 0xa7 :: 0x02 :: 0x63 :: 0x2b :: 0x2a :: 0x1d :: 0x04 :: 0x60 :: 0x2e :: 0xb6 :: 0x00 :: 0xd7 :: 0x57 :: 0x2c :: 0x2a :: 0x1d :: 0x04 :: 0x60 :: 0x2e :: 0xb6 :: 0x00 :: 0xda :: 0x57 :: 0xa7 :: 0x02 :: 0x4c :: 0x2b :: 0x2a :: 0x1d :: 0x04 :: 0x60 :: 0x2e :: 0x2a :: 0x1d :: 0x05 :: 0x60 :: 0x2e :: 0x2a :: 0x1d :: 0x06 :: 0x60 :: 0x2e :: 0xb6 :: 0x00 :: lR_29
noncomputable def lR_27 : List UInt8 := 0x2e :: 0xb6 :: 0x00 :: 0xca :: 0x57 :: 0xa7 :: 0x02 :: 0xb2 :: 0x2b :: 0x2a :: 0x1d :: 0x04 :: 0x60 :: 0x2e :: 0x2a :: 0x1d :: 0x05 :: 0x60 :: 0x2e :: 0xb6 :: 0x00 :: 0xcb :: 0x57 :: 0x2c :: 0x2a :: 0x1d :: 0x04 :: 0x60 :: 0x2e :: 0x2a :: 0x1d :: 0x05 :: 0x60 :: 0x2e :: 0xb6 :: 0x00 :: 0xce :: 0x57 :: 0xa7 :: 0x02 :: 0x91 :: 0x2b :: 0x2a :: 0x1d :: 0x04 :: 0x60 :: 0x2e :: 0xb6 :: 0x00 :: 0xcf :: 0x57 :: 0x2c :: 0x2a :: 0x1d :: 0x04 :: 0x60 :: 0x2e :: 0xb6 :: 0x00 :: 0xd2 :: 0x57 :: 0xa7 :: 0x02 :: 0x7a :: lR_28
noncomputable def lR_26 : List UInt8 := 0x60 :: 0x2e :: 0x2a :: 0x1d :: 0x05 :: 0x60 :: 0x2e :: 0x2a :: 0x1d :: 0x06 :: 0x60 :: 0x2e :: 0x2a :: 0x1d :: 0x07 :: 0x60 :: 0x2e :: 0xb6 :: 0x00 :: 0xc3 :: 0x57 :: 0x2c :: 0x2a :: 0x1d :: 0x04 :: 0x60 :: 0x2e :: 0x2a :: 0x1d :: 0x05 :: 0x60 :: 0x2e :: 0x2a :: 0x1d :: 0x06 :: 0x60 :: 0x2e :: 0x2a :: 0x1d :: 0x07 :: 0x60 :: 0x2e :: 0xb6 :: 0x00 :: 0xc6 :: 0x57 :: 0xa7 :: 0x02 :: 0xc9 :: 0x2b :: 0x2a :: 0x1d :: 0x04 :: 0x60 :: 0x2e :: 0xb6 :: 0x00 :: 0xc7 :: 0x57 :: 0x2c :: 0x2a :: 0x1d :: 0x04 :: 0x60 :: lR_27
noncomputable def lR_25 : List UInt8 := 0x2a :: 0x1d :: 0x04 :: 0x60 :: 0x2e :: 0x2a :: 0x1d :: 0x05 :: 0x60 :: 0x2e :: 0xb6 :: 0x00 :: 0xbe :: 0x57 :: 0xa7 :: 0x03 :: 0x29 :: 0x2b :: 0x2a :: 0x1d :: 0x04 :: 0x60 :: 0x2e :: 0x2a :: 0x1d :: 0x05 :: 0x60 :: 0x2e :: 0x2a :: 0x1d :: 0x06 :: 0x60 :: 0x2e :: 0xb6 :: 0x00 :: 0xbf :: 0x57 :: 0x2c :: 0x2a :: 0x1d :: 0x04 :: 0x60 :: 0x2e :: 0x2a :: 0x1d :: 0x05 :: 0x60 :: 0x2e :: 0x2a :: 0x1d :: 0x06 :: 0x60 :: 0x2e :: 0xb6 :: 0x00 :: 0xc2 :: 0x57 :: 0xa7 :: 0x02 :: 0xfe :: 0x2b :: 0x2a :: 0x1d :: 0x04 :: lR_26
noncomputable def lR_24 : List UInt8 := 0x05 :: 0x60 :: 0x2e :: 0x2a :: 0x1d :: 0x06 :: 0x60 :: 0x2e :: 0xb6 :: 0x00 :: 0xb6 :: 0x57 :: 0xa7 :: 0x03 :: 0x6b :: 0x2b :: 0x2a :: 0x1d :: 0x04 :: 0x60 :: 0x2e :: 0x2a :: 0x1d :: 0x05 :: 0x60 :: 0x2e :: 0xb6 :: 0x00 :: 0xb7 :: 0x57 :: 0x2c :: 0x2a :: 0x1d :: 0x04 :: 0x60 :: 0x2e :: 0x2a :: 0x1d :: 0x05 :: 0x60 :: 0x2e :: 0xb6 :: 0x00 :: 0xba :: 0x57 :: 0xa7 :: 0x03 :: 0x4a :: 0x2b :: 0x2a :: 0x1d :: 0x04 :: 0x60 :: 0x2e :: 0x2a :: 0x1d :: 0x05 :: 0x60 :: 0x2e :: 0xb6 :: 0x00 :: 0xbb :: 0x57 :: 0x2c :: lR_25
noncomputable def lR_23 : List UInt8 := 0x1d :: 0x05 :: 0x60 :: 0x2e :: 0x2a :: 0x1d :: 0x06 :: 0x60 :: 0x2e :: 0xb6 :: 0x00 :: 0xaf :: 0x57 :: 0x2c :: 0x2a :: 0x1d :: 0x04 :: 0x60 :: 0x2e :: 0x2a :: 0x1d :: 0x05 :: 0x60 :: 0x2e :: 0x2a :: 0x1d :: 0x06 :: 0x60 :: 0x2e :: 0xb6 :: 0x00 :: 0xb2 :: 0x57 :: 0xa7 :: 0x03 :: 0x96 :: 0x2b :: 0x2a :: 0x1d :: 0x04 :: 0x60 :: 0x2e :: 0x2a :: 0x1d :: 0x05 :: 0x60 :: 0x2e :: 0x2a :: 0x1d :: 0x06 :: 0x60 :: 0x2e :: 0xb6 :: 0x00 :: 0xb3 :: 0x57 :: 0x2c :: 0x2a :: 0x1d :: 0x04 :: 0x60 :: 0x2e :: 0x2a :: 0x1d :: lR_24
noncomputable def lR_22 : List UInt8 := 0x60 :: 0x2e :: 0x2a :: 0x1d :: 0x06 :: 0x60 :: 0x2e :: 0x2a :: 0x1d :: 0x07 :: 0x60 :: 0x2e :: 0xb6 :: 0x00 :: 0xa6 :: 0x57 :: 0x2c :: 0x2a :: 0x1d :: 0x04 :: 0x60 :: 0x2e :: 0x2a :: 0x1d :: 0x05 :: 0x60 :: 0x2e :: 0x2a :: 0x1d :: 0x06 :: 0x60 :: 0x2e :: 0x2a :: 0x1d :: 0x07 :: 0x60 :: 0x2e :: 0xb6 :: 0x00 :: 0xaa :: 0x57 :: 0xa7 :: 0x03 :: 0xce :: 0x2b :: 0xb6 :: 0x00 :: 0xab :: 0x57 :: 0x2c :: 0xb6 :: 0x00 :: 0xae :: 0x57 :: 0xa7 :: 0x03 :: 0xc1 :: 0x2b :: 0x2a :: 0x1d :: 0x04 :: 0x60 :: 0x2e :: 0x2a :: lR_23
noncomputable def lR_21 : List UInt8 := 0xb6 :: 0x00 :: 0x9e :: 0x57 :: 0x2c :: 0x2a :: 0x1d :: 0x04 :: 0x60 :: 0x2e :: 0x2a :: 0x1d :: 0x05 :: 0x60 :: 0x2e :: 0xb6 :: 0x00 :: 0xa1 :: 0x57 :: 0xa7 :: 0x04 :: 0x24 :: 0x2b :: 0x2a :: 0x1d :: 0x04 :: 0x60 :: 0x2e :: 0x2a :: 0x1d :: 0x05 :: 0x60 :: 0x2e :: 0xb6 :: 0x00 :: 0xa2 :: 0x57 :: 0x2c :: 0x2a :: 0x1d :: 0x04 :: 0x60 :: 0x2e :: 0x2a :: 0x1d :: 0x05 :: 0x60 :: 0x2e :: 0xb6 :: 0x00 :: 0xa5 :: 0x57 :: 0xa7 :: 0x04 :: 0x03 :: 0x2b :: 0x2a :: 0x1d :: 0x04 :: 0x60 :: 0x2e :: 0x2a :: 0x1d :: 0x05 :: lR_22
noncomputable def lR_20 : List UInt8 := 0x96 :: 0x57 :: 0x2c :: 0x2a :: 0x1d :: 0x04 :: 0x60 :: 0x2e :: 0x2a :: 0x1d :: 0x05 :: 0x60 :: 0x2e :: 0xb6 :: 0x00 :: 0x99 :: 0x57 :: 0xa7 :: 0x04 :: 0x66 :: 0x2b :: 0x2a :: 0x1d :: 0x04 :: 0x60 :: 0x2e :: 0x2a :: 0x1d :: 0x05 :: 0x60 :: 0x2e :: 0xb6 :: 0x00 :: 0x9a :: 0x57 :: 0x2c :: 0x2a :: 0x1d :: 0x04 :: 0x60 :: 0x2e :: 0x2a :: 0x1d :: 0x05 :: 0x60 :: 0x2e :: 0xb6 :: 0x00 :: 0x9d :: 0x57 :: 0xa7 :: 0x04 :: 0x45 :: 0x2b :: 0x2a :: 0x1d :: 0x04 :: 0x60 :: 0x2e :: 0x2a :: 0x1d :: 0x05 :: 0x60 :: 0x2e :: lR_21
noncomputable def lR_19 : List UInt8 := 0x8d :: 0x57 :: 0xa7 :: 0x04 :: 0xb5 :: 0x2b :: 0x2a :: 0x1d :: 0x04 :: 0x60 :: 0x2e :: 0x2a :: 0x1d :: 0x05 :: 0x60 :: 0x2e :: 0xb6 :: 0x00 :: 0x8e :: 0x57 :: 0x2c :: 0x2a :: 0x1d :: 0x04 :: 0x60 :: 0x2e :: 0x2a :: 0x1d :: 0x05 :: 0x60 :: 0x2e :: 0xb6 :: 0x00 :: 0x91 :: 0x57 :: 0xa7 :: 0x04 :: 0x94 :: 0x2b :: 0xb6 :: 0x00 :: 0x92 :: 0x57 :: 0x2c :: 0xb6 :: 0x00 :: 0x95 :: 0x57 :: 0xa7 :: 0x04 :: 0x87 :: 0x2b :: 0x2a :: 0x1d :: 0x04 :: 0x60 :: 0x2e :: 0x2a :: 0x1d :: 0x05 :: 0x60 :: 0x2e :: 0xb6 :: 0x00 :: lR_20
noncomputable def lR_18 : List UInt8 := 0x2c :: 0x2a :: 0x1d :: 0x04 :: 0x60 :: 0x2e :: 0xb6 :: 0x00 :: 0x85 :: 0x57 :: 0xa7 :: 0x04 :: 0xed :: 0x2b :: 0x2a :: 0x1d :: 0x04 :: 0x60 :: 0x2e :: 0xb6 :: 0x00 :: 0x86 :: 0x57 :: 0x2c :: 0x2a :: 0x1d :: 0x04 :: 0x60 :: 0x2e :: 0xb6 :: 0x00 :: 0x89 :: 0x57 :: 0xa7 :: 0x04 :: 0xd6 :: 0x2b :: 0x2a :: 0x1d :: 0x04 :: 0x60 :: 0x2e :: 0x2a :: 0x1d :: 0x05 :: 0x60 :: 0x2e :: 0xb6 :: 0x00 :: 0x8a :: 0x57 :: 0x2c :: 0x2a :: 0x1d :: 0x04 :: 0x60 :: 0x2e :: 0x2a :: 0x1d :: 0x05 :: 0x60 :: 0x2e :: 0xb6 :: 0x00 :: lR_19
noncomputable def lR_17 : List UInt8 := 0x2e :: 0xb6 :: 0x00 :: 0x79 :: 0x57 :: 0xa7 :: 0x05 :: 0x32 :: 0x2b :: 0x2a :: 0x1d :: 0x04 :: 0x60 :: 0x2e :: 0xb6 :: 0x00 :: 0x7a :: 0x57 :: 0x2c :: 0x2a :: 0x1d :: 0x04 :: 0x60 :: 0x2e :: 0xb6 :: 0x00 :: 0x7d :: 0x57 :: 0xa7 :: 0x05 :: 0x1b :: 0x2b :: 0x2a :: 0x1d :: 0x04 :: 0x60 :: 0x2e :: 0xb6 :: 0x00 :: 0x7e :: 0x57 :: 0x2c :: 0x2a :: 0x1d :: 0x04 :: 0x60 :: 0x2e :: 0xb6 :: 0x00 :: 0x81 :: 0x57 :: 0xa7 :: 0x05 :: 0x04 :: 0x2b :: 0x2a :: 0x1d :: 0x04 :: 0x60 :: 0x2e :: 0xb6 :: 0x00 :: 0x82 :: 0x57 :: lR_18
noncomputable def lR_16 : List UInt8 := 0x00 :: 0x71 :: 0x57 :: 0xa7 :: 0x05 :: 0x74 :: 0x2b :: 0x2a :: 0x1d :: 0x04 :: 0x60 :: 0x2e :: 0x2a :: 0x1d :: 0x05 :: 0x60 :: 0x2e :: 0xb6 :: 0x00 :: 0x72 :: 0x2c :: 0x2a :: 0x1d :: 0x04 :: 0x60 :: 0x2e :: 0x2a :: 0x1d :: 0x05 :: 0x60 :: 0x2e :: 0xb6 :: 0x00 :: 0x75 :: 0x9f :: 0x05 :: 0x55 :: 0x03 :: 0xac :: 0x2b :: 0x2a :: 0x1d :: 0x04 :: 0x60 :: 0x2e :: 0x2a :: 0x1d :: 0x05 :: 0x60 :: 0x2e :: 0xb6 :: 0x00 :: 0x76 :: 0x57 :: 0x2c :: 0x2a :: 0x1d :: 0x04 :: 0x60 :: 0x2e :: 0x2a :: 0x1d :: 0x05 :: 0x60 :: lR_17
noncomputable def lR_15 : List UInt8 := 0x57 :: 0xa7 :: 0x05 :: 0xb6 :: 0x2b :: 0x2a :: 0x1d :: 0x04 :: 0x60 :: 0x2e :: 0x2a :: 0x1d :: 0x05 :: 0x60 :: 0x2e :: 0xb6 :: 0x00 :: 0x6a :: 0x57 :: 0x2c :: 0x2a :: 0x1d :: 0x04 :: 0x60 :: 0x2e :: 0x2a :: 0x1d :: 0x05 :: 0x60 :: 0x2e :: 0xb6 :: 0x00 :: 0x6d :: 0x57 :: 0xa7 :: 0x05 :: 0x95 :: 0x2b :: 0x2a :: 0x1d :: 0x04 :: 0x60 :: 0x2e :: 0x2a :: 0x1d :: 0x05 :: 0x60 :: 0x2e :: 0xb6 :: 0x00 :: 0x6e :: 0x57 :: 0x2c :: 0x2a :: 0x1d :: 0x04 :: 0x60 :: 0x2e :: 0x2a :: 0x1d :: 0x05 :: 0x60 :: 0x2e :: 0xb6 :: lR_16
noncomputable def lR_14 : List UInt8 := 0x05 :: 0xf8 :: 0x2b :: 0x2a :: 0x1d :: 0x04 :: 0x60 :: 0x2e :: 0xb6 :: 0x00 :: 0x62 :: 0x57 :: 0x2c :: 0x2a :: 0x1d :: 0x04 :: 0x60 :: 0x2e :: 0xb6 :: 0x00 :: 0x65 :: 0x57 :: 0xa7 :: 0x05 :: 0xe1 :: 0x2b :: 0x2a :: 0x1d :: 0x04 :: 0x60 :: 0x2e :: 0x2a :: 0x1d :: 0x05 :: 0x60 :: 0x2e :: 0x2a :: 0x1d :: 0x06 :: 0x60 :: 0x2e :: 0xb6 :: 0x00 :: 0x66 :: 0x57 :: 0x2c :: 0x2a :: 0x1d :: 0x04 :: 0x60 :: 0x2e :: 0x2a :: 0x1d :: 0x05 :: 0x60 :: 0x2e :: 0x2a :: 0x1d :: 0x06 :: 0x60 :: 0x2e :: 0xb6 :: 0x00 :: 0x69 :: lR_15
noncomputable def lR_13 : List UInt8 := 0x04 :: 0x60 :: 0x2e :: 0xb6 :: 0x00 :: 0x59 :: 0x57 :: 0xa7 :: 0x06 :: 0x30 :: 0x2b :: 0x2a :: 0x1d :: 0x04 :: 0x60 :: 0x2e :: 0xb6 :: 0x00 :: 0x5a :: 0x57 :: 0x2c :: 0x2a :: 0x1d :: 0x04 :: 0x60 :: 0x2e :: 0xb6 :: 0x00 :: 0x5d :: 0x57 :: 0xa7 :: 0x06 :: 0x19 :: 0x2b :: 0x2a :: 0x1d :: 0x04 :: 0x60 :: 0x2e :: 0x2a :: 0x1d :: 0x05 :: 0x60 :: 0x2e :: 0xb6 :: 0x00 :: 0x5e :: 0x57 :: 0x2c :: 0x2a :: 0x1d :: 0x04 :: 0x60 :: 0x2e :: 0x2a :: 0x1d :: 0x05 :: 0x60 :: 0x2e :: 0xb6 :: 0x00 :: 0x61 :: 0x57 :: 0xa7 :: lR_14
noncomputable def lR_12 : List UInt8 := 0x2e :: 0x2a :: 0x1d :: 0x05 :: 0x60 :: 0x2e :: 0xb6 :: 0x00 :: 0x4e :: 0x57 :: 0x2c :: 0x2a :: 0x1d :: 0x04 :: 0x60 :: 0x2e :: 0x2a :: 0x1d :: 0x05 :: 0x60 :: 0x2e :: 0xb6 :: 0x00 :: 0x51 :: 0x57 :: 0xa7 :: 0x06 :: 0x5e :: 0x2b :: 0x2a :: 0x1d :: 0x04 :: 0x60 :: 0x2e :: 0xb6 :: 0x00 :: 0x52 :: 0x57 :: 0x2c :: 0x2a :: 0x1d :: 0x04 :: 0x60 :: 0x2e :: 0xb6 :: 0x00 :: 0x55 :: 0x57 :: 0xa7 :: 0x06 :: 0x47 :: 0x2b :: 0x2a :: 0x1d :: 0x04 :: 0x60 :: 0x2e :: 0xb6 :: 0x00 :: 0x56 :: 0x57 :: 0x2c :: 0x2a :: 0x1d :: lR_13
noncomputable def lR_11 : List UInt8 := 0xa7 :: 0x06 :: 0xb7 :: 0x2b :: 0x2a :: 0x1d :: 0x04 :: 0x60 :: 0x2e :: 0xb6 :: 0x00 :: 0x46 :: 0x57 :: 0x2c :: 0x2a :: 0x1d :: 0x04 :: 0x60 :: 0x2e :: 0xb6 :: 0x00 :: 0x49 :: 0x57 :: 0xa7 :: 0x06 :: 0xa0 :: 0x2b :: 0x2a :: 0x1d :: 0x04 :: 0x60 :: 0x2e :: 0x2a :: 0x1d :: 0x05 :: 0x60 :: 0x2e :: 0xb6 :: 0x00 :: 0x4a :: 0x57 :: 0x2c :: 0x2a :: 0x1d :: 0x04 :: 0x60 :: 0x2e :: 0x2a :: 0x1d :: 0x05 :: 0x60 :: 0x2e :: 0xb6 :: 0x00 :: 0x4d :: 0x57 :: 0xa7 :: 0x06 :: 0x7f :: 0x2b :: 0x2a :: 0x1d :: 0x04 :: 0x60 :: lR_12
noncomputable def lR_10 : List UInt8 := 0x1d :: 0x04 :: 0x60 :: 0x2e :: 0x2a :: 0x1d :: 0x05 :: 0x60 :: 0x2e :: 0x2a :: 0x1d :: 0x06 :: 0x60 :: 0x2e :: 0xb6 :: 0x00 :: 0x3d :: 0x57 :: 0xa7 :: 0x06 :: 0xe5 :: 0x2b :: 0x2a :: 0x1d :: 0x04 :: 0x60 :: 0x2e :: 0xb6 :: 0x00 :: 0x3e :: 0x57 :: 0x2c :: 0x2a :: 0x1d :: 0x04 :: 0x60 :: 0x2e :: 0xb6 :: 0x00 :: 0x41 :: 0x57 :: 0xa7 :: 0x06 :: 0xce :: 0x2b :: 0x2a :: 0x1d :: 0x04 :: 0x60 :: 0x2e :: 0xb6 :: 0x00 :: 0x42 :: 0x57 :: 0x2c :: 0x2a :: 0x1d :: 0x04 :: 0x60 :: 0x2e :: 0xb6 :: 0x00 :: 0x45 :: 0x57 :: lR_11
noncomputable def lR_9 : List UInt8 := 0x60 :: 0x2e :: 0xb6 :: 0x00 :: 0x34 :: 0x57 :: 0xa7 :: 0x07 :: 0x31 :: 0x2b :: 0x2a :: 0x1d :: 0x04 :: 0x60 :: 0x2e :: 0x2a :: 0x1d :: 0x05 :: 0x60 :: 0x2e :: 0xb6 :: 0x00 :: 0x35 :: 0x57 :: 0x2c :: 0x2a :: 0x1d :: 0x04 :: 0x60 :: 0x2e :: 0x2a :: 0x1d :: 0x05 :: 0x60 :: 0x2e :: 0xb6 :: 0x00 :: 0x38 :: 0x57 :: 0xa7 :: 0x07 :: 0x10 :: 0x2b :: 0x2a :: 0x1d :: 0x04 :: 0x60 :: 0x2e :: 0x2a :: 0x1d :: 0x05 :: 0x60 :: 0x2e :: 0x2a :: 0x1d :: 0x06 :: 0x60 :: 0x2e :: 0xb6 :: 0x00 :: 0x39 :: 0x57 :: 0x2c :: 0x2a :: lR_10
noncomputable def lR_8 : List UInt8 := 0xb6 :: 0x00 :: 0x2c :: 0x57 :: 0xa7 :: 0x07 :: 0x73 :: 0x2b :: 0x2a :: 0x1d :: 0x04 :: 0x60 :: 0x2e :: 0x2a :: 0x1d :: 0x05 :: 0x60 :: 0x2e :: 0xb6 :: 0x00 :: 0x2d :: 0x57 :: 0x2c :: 0x2a :: 0x1d :: 0x04 :: 0x60 :: 0x2e :: 0x2a :: 0x1d :: 0x05 :: 0x60 :: 0x2e :: 0xb6 :: 0x00 :: 0x30 :: 0x57 :: 0xa7 :: 0x07 :: 0x52 :: 0x2b :: 0x2a :: 0x1d :: 0x04 :: 0x60 :: 0x2e :: 0x2a :: 0x1d :: 0x05 :: 0x60 :: 0x2e :: 0xb6 :: 0x00 :: 0x31 :: 0x57 :: 0x2c :: 0x2a :: 0x1d :: 0x04 :: 0x60 :: 0x2e :: 0x2a :: 0x1d :: 0x05 :: lR_9
noncomputable def lR_7 : List UInt8 := 0x04 :: 0x60 :: 0x2e :: 0x2a :: 0x1d :: 0x05 :: 0x60 :: 0x2e :: 0xb6 :: 0x00 :: 0x24 :: 0x57 :: 0xa7 :: 0x07 :: 0xab :: 0x2b :: 0x2a :: 0x1d :: 0x04 :: 0x60 :: 0x2e :: 0xb6 :: 0x00 :: 0x25 :: 0x57 :: 0x2c :: 0x2a :: 0x1d :: 0x04 :: 0x60 :: 0x2e :: 0xb6 :: 0x00 :: 0x28 :: 0x57 :: 0xa7 :: 0x07 :: 0x94 :: 0x2b :: 0x2a :: 0x1d :: 0x04 :: 0x60 :: 0x2e :: 0x2a :: 0x1d :: 0x05 :: 0x60 :: 0x2e :: 0xb6 :: 0x00 :: 0x29 :: 0x57 :: 0x2c :: 0x2a :: 0x1d :: 0x04 :: 0x60 :: 0x2e :: 0x2a :: 0x1d :: 0x05 :: 0x60 :: 0x2e :: lR_8
noncomputable def lR_6 : List UInt8 := 0x04 :: 0x60 :: 0x2e :: 0xb6 :: 0x00 :: 0x16 :: 0x57 :: 0xa7 :: 0x07 :: 0xf0 :: 0x2b :: 0xb6 :: 0x00 :: 0x17 :: 0x57 :: 0x2c :: 0xb6 :: 0x00 :: 0x1b :: 0x57 :: 0xa7 :: 0x07 :: 0xe3 :: 0x2b :: 0x2a :: 0x1d :: 0x04 :: 0x60 :: 0x2e :: 0xb6 :: 0x00 :: 0x1c :: 0x57 :: 0x2c :: 0x2a :: 0x1d :: 0x04 :: 0x60 :: 0x2e :: 0xb6 :: 0x00 :: 0x1f :: 0x57 :: 0xa7 :: 0x07 :: 0xcc :: 0x2b :: 0x2a :: 0x1d :: 0x04 :: 0x60 :: 0x2e :: 0x2a :: 0x1d :: 0x05 :: 0x60 :: 0x2e :: 0xb6 :: 0x00 :: 0x20 :: 0x57 :: 0x2c :: 0x2a :: 0x1d :: lR_7
noncomputable def lR_5 : List UInt8 := 0x1d :: 0x06 :: 0x60 :: 0x2e :: 0x2a :: 0x1d :: 0x07 :: 0x60 :: 0x2e :: 0x2a :: 0x1d :: 0x08 :: 0x60 :: 0x2e :: 0xb6 :: 0x00 :: 0x0d :: 0x57 :: 0x2c :: 0x2a :: 0x1d :: 0x04 :: 0x60 :: 0x2e :: 0x2a :: 0x1d :: 0x05 :: 0x60 :: 0x2e :: 0x2a :: 0x1d :: 0x06 :: 0x60 :: 0x2e :: 0x2a :: 0x1d :: 0x07 :: 0x60 :: 0x2e :: 0x2a :: 0x1d :: 0x08 :: 0x60 :: 0x2e :: 0xb6 :: 0x00 :: 0x11 :: 0x57 :: 0xa7 :: 0x08 :: 0x07 :: 0x2b :: 0x2a :: 0x1d :: 0x04 :: 0x60 :: 0x2e :: 0xb6 :: 0x00 :: 0x12 :: 0x57 :: 0x2c :: 0x2a :: 0x1d :: lR_6
noncomputable def lR_4 : List UInt8 := 0x00 :: 0x00 :: 0x07 :: 0x59 :: 0x00 :: 0x00 :: 0x07 :: 0x70 :: 0x00 :: 0x00 :: 0x07 :: 0x87 :: 0x00 :: 0x00 :: 0x07 :: 0x9e :: 0x00 :: 0x00 :: 0x07 :: 0xc9 :: 0x00 :: 0x00 :: 0x07 :: 0xf4 :: 0x00 :: 0x00 :: 0x08 :: 0x29 :: 0x00 :: 0x00 :: 0x08 :: 0x5e :: 0x00 :: 0x00 :: 0x08 :: 0x75 :: 0x00 :: 0x00 :: 0x08 :: 0x8c :: 0x00 :: 0x00 :: 0x08 :: 0xa3 :: 0x00 :: 0x00 :: 0x08 :: 0xce :: 0x00 :: 0x00 :: 0x09 :: 0x17 :: 0x2b :: 0x2a :: 0x1d :: 0x04 :: 0x60 :: 0x2e :: 0x2a :: 0x1d :: 0x05 :: 0x60 :: 0x2e :: 0x2a :: lR_5
noncomputable def lR_3 : List UInt8 := 0x00 :: 0x00 :: 0x05 :: 0x35 :: 0x00 :: 0x00 :: 0x05 :: 0x56 :: 0x00 :: 0x00 :: 0x05 :: 0x8b :: 0x00 :: 0x00 :: 0x05 :: 0x98 :: 0x00 :: 0x00 :: 0x05 :: 0xc3 :: 0x00 :: 0x00 :: 0x05 :: 0xee :: 0x00 :: 0x00 :: 0x06 :: 0x0f :: 0x00 :: 0x00 :: 0x06 :: 0x30 :: 0x00 :: 0x00 :: 0x06 :: 0x5b :: 0x00 :: 0x00 :: 0x06 :: 0x90 :: 0x00 :: 0x00 :: 0x06 :: 0xa7 :: 0x00 :: 0x00 :: 0x06 :: 0xc8 :: 0x00 :: 0x00 :: 0x06 :: 0xdf :: 0x00 :: 0x00 :: 0x06 :: 0xf6 :: 0x00 :: 0x00 :: 0x07 :: 0x0d :: 0x00 :: 0x00 :: 0x07 :: 0x38 :: lR_4
noncomputable def lR_2 : List UInt8 := 0x00 :: 0x00 :: 0x03 :: 0x61 :: 0x00 :: 0x00 :: 0x03 :: 0x78 :: 0x00 :: 0x00 :: 0x03 :: 0xa3 :: 0x00 :: 0x00 :: 0x03 :: 0xc4 :: 0x00 :: 0x00 :: 0x03 :: 0xe5 :: 0x00 :: 0x00 :: 0x04 :: 0x06 :: 0x00 :: 0x00 :: 0x04 :: 0x27 :: 0x00 :: 0x00 :: 0x04 :: 0x3e :: 0x00 :: 0x00 :: 0x04 :: 0x55 :: 0x00 :: 0x00 :: 0x04 :: 0x6c :: 0x00 :: 0x00 :: 0x04 :: 0x83 :: 0x00 :: 0x00 :: 0x04 :: 0xa4 :: 0x00 :: 0x00 :: 0x04 :: 0xc5 :: 0x00 :: 0x00 :: 0x04 :: 0xd2 :: 0x00 :: 0x00 :: 0x04 :: 0xf3 :: 0x00 :: 0x00 :: 0x05 :: 0x14 :: lR_3
noncomputable def lR_1 : List UInt8 := 0x00 :: 0x00 :: 0x01 :: 0x8d :: 0x00 :: 0x00 :: 0x01 :: 0xae :: 0x00 :: 0x00 :: 0x01 :: 0xc5 :: 0x00 :: 0x00 :: 0x01 :: 0xe6 :: 0x00 :: 0x00 :: 0x02 :: 0x07 :: 0x00 :: 0x00 :: 0x02 :: 0x28 :: 0x00 :: 0x00 :: 0x02 :: 0x49 :: 0x00 :: 0x00 :: 0x02 :: 0x74 :: 0x00 :: 0x00 :: 0x02 :: 0x8b :: 0x00 :: 0x00 :: 0x02 :: 0xa2 :: 0x00 :: 0x00 :: 0x02 :: 0xb9 :: 0x00 :: 0x00 :: 0x02 :: 0xda :: 0x00 :: 0x00 :: 0x02 :: 0xfb :: 0x00 :: 0x00 :: 0x03 :: 0x12 :: 0x00 :: 0x00 :: 0x03 :: 0x29 :: 0x00 :: 0x00 :: 0x03 :: 0x40 :: lR_2
noncomputable def lR_0 : List UInt8 := 0xbb :: 0x00 :: 0x07 :: 0x59 :: 0xb7 :: 0x00 :: 0x09 :: 0x4c :: 0xbb :: 0x00 :: 0x0a :: 0x59 :: 0xb7 :: 0x00 :: 0x0c :: 0x4d :: 0x03 :: 0x3e :: 0x1d :: 0x2a :: 0xbe :: 0x10 :: 0x06 :: 0x64 :: 0xa3 :: 0x09 :: 0x65 :: 0x2a :: 0x1d :: 0x2e :: 0x10 :: 0x7f :: 0x7e :: 0xaa :: 0x00 :: 0x00 :: 0x00 :: 0x00 :: 0x09 :: 0x56 :: 0x00 :: 0x00 :: 0x00 :: 0x00 :: 0x00 :: 0x00 :: 0x00 :: 0x40 :: 0x00 :: 0x00 :: 0x01 :: 0x13 :: 0x00 :: 0x00 :: 0x01 :: 0x52 :: 0x00 :: 0x00 :: 0x01 :: 0x69 :: 0x00 :: 0x00 :: 0x01 :: 0x76 :: lR_1
theorem lC_0 : code.data.toList.drop 0 = lR_0 := eqU_ok (by decide +kernel)
theorem lC_1 : code.data.toList.drop 64 = lR_1 := lC_s (a := 0) (b := 64) lC_0 rfl
theorem lC_2 : code.data.toList.drop 128 = lR_2 := lC_s (a := 64) (b := 64) lC_1 rfl
theorem lC_3 : code.data.toList.drop 192 = lR_3 := lC_s (a := 128) (b := 64) lC_2 rfl
theorem lC_4 : code.data.toList.drop 256 = lR_4 := lC_s (a := 192) (b := 64) lC_3 rfl
theorem lC_5 : code.data.toList.drop 320 = lR_5 := lC_s (a := 256) (b := 64) lC_4 rfl
theorem lC_6 : code.data.toList.drop 384 = lR_6 := lC_s (a := 320) (b := 64) lC_5 rfl
theorem lC_7 : code.data.toList.drop 448 = lR_7 := lC_s (a := 384) (b := 64) lC_6 rfl
theorem lC_8 : code.data.toList.drop 512 = lR_8 := lC_s (a := 448) (b := 64) lC_7 rfl
theorem lC_9 : code.data.toList.drop 576 = lR_9 := lC_s (a := 512) (b := 64) lC_8 rfl
theorem lC_10 : code.data.toList.drop 640 = lR_10 := lC_s (a := 576) (b := 64) lC_9 rfl
theorem lC_11 : code.data.toList.drop 704 = lR_11 := lC_s (a := 640) (b := 64) lC_10 rfl
theorem lC_12 : code.data.toList.drop 768 = lR_12 := lC_s (a := 704) (b := 64) lC_11 rfl
theorem lC_13 : code.data.toList.drop 832 = lR_13 := lC_s (a := 768) (b := 64) lC_12 rfl
theorem lC_14 : code.data.toList.drop 896 = lR_14 := lC_s (a := 832) (b := 64) lC_13 rfl
theorem lC_15 : code.data.toList.drop 960 = lR_15 := lC_s (a := 896) (b := 64) lC_14 rfl
theorem lC_16 : code.data.toList.drop 1024 = lR_16 := lC_s (a := 960) (b := 64) lC_15 rfl
theorem lC_17 : code.data.toList.drop 1088 = lR_17 := lC_s (a := 1024) (b := 64) lC_16 rfl
theorem lC_18 : code.data.toList.drop 1152 = lR_18 := lC_s (a := 1088) (b := 64) lC_17 rfl
theorem lC_19 : code.data.toList.drop 1216 = lR_19 := lC_s (a := 1152) (b := 64) lC_18 rfl
theorem lC_20 : code.data.toList.drop 1280 = lR_20 := lC_s (a := 1216) (b := 64) lC_19 rfl
theorem lC_21 : code.data.toList.drop 1344 = lR_21 := lC_s (a := 1280) (b := 64) lC_20 rfl
theorem lC_22 : code.data.toList.drop 1408 = lR_22 := lC_s (a := 1344) (b := 64) lC_21 rfl
theorem lC_23 : code.data.toList.drop 1472 = lR_23 := lC_s (a := 1408) (b := 64) lC_22 rfl
theorem lC_24 : code.data.toList.drop 1536 = lR_24 := lC_s (a := 1472) (b := 64) lC_23 rfl
theorem lC_25 : code.data.toList.drop 1600 = lR_25 := lC_s (a := 1536) (b := 64) lC_24 rfl
theorem lC_26 : code.data.toList.drop 1664 = lR_26 := lC_s (a := 1600) (b := 64) lC_25 rfl
theorem lC_27 : code.data.toList.drop 1728 = lR_27 := lC_s (a := 1664) (b := 64) lC_26 rfl
theorem lC_28 : code.data.toList.drop 1792 = lR_28 := lC_s (a := 1728) (b := 64) lC_27 rfl
theorem lC_29 : code.data.toList.drop 1856 = lR_29 := lC_s (a := 1792) (b := 64) lC_28 rfl
theorem lC_30 : code.data.toList.drop 1920 = lR_30 := lC_s (a := 1856) (b := 64) lC_29 rfl
theorem lC_31 : code.data.toList.drop 1984 = lR_31 := lC_s (a := 1920) (b := 64) lC_30 rfl
theorem lC_32 : code.data.toList.drop 2048 = lR_32 := lC_s (a := 1984) (b := 64) lC_31 rfl
theorem lC_33 : code.data.toList.drop 2112 = lR_33 := lC_s (a := 2048) (b := 64) lC_32 rfl
theorem lC_34 : code.data.toList.drop 2176 = lR_34 := lC_s (a := 2112) (b := 64) lC_33 rfl
theorem lC_35 : code.data.toList.drop 2240 = lR_35 := lC_s (a := 2176) (b := 64) lC_34 rfl
theorem lC_36 : code.data.toList.drop 2304 = lR_36 := lC_s (a := 2240) (b := 64) lC_35 rfl
theorem lC_37 : code.data.toList.drop 2368 = lR_37 := lC_s (a := 2304) (b := 64) lC_36 rfl
end
section
theorem dk_308 : decode code 308 = .ok (.aload_n 1, 1) := decG_ok (a := 256) (r := 52) lC_4 (by decide +kernel)
theorem dk_309 : decode code 309 = .ok (.aload_n 0, 1) := decG_ok (a := 256) (r := 53) lC_4 (by decide +kernel)
theorem dk_310 : decode code 310 = .ok (.iload_n 3, 1) := decG_ok (a := 256) (r := 54) lC_4 (by decide +kernel)
theorem dk_311 : decode code 311 = .ok (.iconst 1, 1) := decG_ok (a := 256) (r := 55) lC_4 (by decide +kernel)
theorem dk_312 : decode code 312 = .ok (.iadd, 1) := decG_ok (a := 256) (r := 56) lC_4 (by decide +kernel)
theorem dk_313 : decode code 313 = .ok (.iaload, 1) := decG_ok (a := 256) (r := 57) lC_4 (by decide +kernel)
theorem dk_314 : decode code 314 = .ok (.aload_n 0, 1) := decG_ok (a := 256) (r := 58) lC_4 (by decide +kernel)
theorem dk_315 : decode code 315 = .ok (.iload_n 3, 1) := decG_ok (a := 256) (r := 59) lC_4 (by decide +kernel)
theorem dk_316 : decode code 316 = .ok (.iconst 2, 1) := decG_ok (a := 256) (r := 60) lC_4 (by decide +kernel)
theorem dk_317 : decode code 317 = .ok (.iadd, 1) := decG_ok (a := 256) (r := 61) lC_4 (by decide +kernel)
theorem dk_318 : decode code 318 = .ok (.iaload, 1) := decG_ok (a := 256) (r := 62) lC_4 (by decide +kernel)
theorem dk_319 : decode code 319 = .ok (.aload_n 0, 1) := decG_ok (a := 256) (r := 63) lC_4 (by decide +kernel)
theorem dk_320 : decode code 320 = .ok (.iload_n 3, 1) := decG_ok (a := 320) (r := 0) lC_5 (by decide +kernel)
theorem dk_321 : decode code 321 = .ok (.iconst 3, 1) := decG_ok (a := 320) (r := 1) lC_5 (by decide +kernel)
theorem dk_322 : decode code 322 = .ok (.iadd, 1) := decG_ok (a := 320) (r := 2) lC_5 (by decide +kernel)
theorem dk_323 : decode code 323 = .ok (.iaload, 1) := decG_ok (a := 320) (r := 3) lC_5 (by decide +kernel)
theorem dk_324 : decode code 324 = .ok (.aload_n 0, 1) := decG_ok (a := 320) (r := 4) lC_5 (by decide +kernel)
theorem dk_325 : decode code 325 = .ok (.iload_n 3, 1) := decG_ok (a := 320) (r := 5) lC_5 (by decide +kernel)
theorem dk_326 : decode code 326 = .ok (.iconst 4, 1) := decG_ok (a := 320) (r := 6) lC_5 (by decide +kernel)
theorem dk_327 : decode code 327 = .ok (.iadd, 1) := decG_ok (a := 320) (r := 7) lC_5 (by decide +kernel)
theorem dk_328 : decode code 328 = .ok (.iaload, 1) := decG_ok (a := 320) (r := 8) lC_5 (by decide +kernel)
theorem dk_329 : decode code 329 = .ok (.aload_n 0, 1) := decG_ok (a := 320) (r := 9) lC_5 (by decide +kernel)
theorem dk_330 : decode code 330 = .ok (.iload_n 3, 1) := decG_ok (a := 320) (r := 10) lC_5 (by decide +kernel)
theorem dk_331 : decode code 331 = .ok (.iconst 5, 1) := decG_ok (a := 320) (r := 11) lC_5 (by decide +kernel)
theorem dk_332 : decode code 332 = .ok (.iadd, 1) := decG_ok (a := 320) (r := 12) lC_5 (by decide +kernel)
theorem dk_333 : decode code 333 = .ok (.iaload, 1) := decG_ok (a := 320) (r := 13) lC_5 (by decide +kernel)
theorem dk_334 : decode code 334 = .ok (.invokevirtual 13, 3) := decG_ok (a := 320) (r := 14) lC_5 (by decide +kernel)
theorem dk_337 : decode code 337 = .ok (.pop, 1) := decG_ok (a := 320) (r := 17) lC_5 (by decide +kernel)
theorem dk_338 : decode code 338 = .ok (.aload_n 2, 1) := decG_ok (a := 320) (r := 18) lC_5 (by decide +kernel)
theorem dk_339 : decode code 339 = .ok (.aload_n 0, 1) := decG_ok (a := 320) (r := 19) lC_5 (by decide +kernel)
theorem dk_340 : decode code 340 = .ok (.iload_n 3, 1) := decG_ok (a := 320) (r := 20) lC_5 (by decide +kernel)
theorem dk_341 : decode code 341 = .ok (.iconst 1, 1) := decG_ok (a := 320) (r := 21) lC_5 (by decide +kernel)
theorem dk_342 : decode code 342 = .ok (.iadd, 1) := decG_ok (a := 320) (r := 22) lC_5 (by decide +kernel)
theorem dk_343 : decode code 343 = .ok (.iaload, 1) := decG_ok (a := 320) (r := 23) lC_5 (by decide +kernel)
theorem dk_344 : decode code 344 = .ok (.aload_n 0, 1) := decG_ok (a := 320) (r := 24) lC_5 (by decide +kernel)
theorem dk_345 : decode code 345 = .ok (.iload_n 3, 1) := decG_ok (a := 320) (r := 25) lC_5 (by decide +kernel)
theorem dk_346 : decode code 346 = .ok (.iconst 2, 1) := decG_ok (a := 320) (r := 26) lC_5 (by decide +kernel)
theorem dk_347 : decode code 347 = .ok (.iadd, 1) := decG_ok (a := 320) (r := 27) lC_5 (by decide +kernel)
theorem dk_348 : decode code 348 = .ok (.iaload, 1) := decG_ok (a := 320) (r := 28) lC_5 (by decide +kernel)
theorem dk_349 : decode code 349 = .ok (.aload_n 0, 1) := decG_ok (a := 320) (r := 29) lC_5 (by decide +kernel)
theorem dk_350 : decode code 350 = .ok (.iload_n 3, 1) := decG_ok (a := 320) (r := 30) lC_5 (by decide +kernel)
theorem dk_351 : decode code 351 = .ok (.iconst 3, 1) := decG_ok (a := 320) (r := 31) lC_5 (by decide +kernel)
theorem dk_352 : decode code 352 = .ok (.iadd, 1) := decG_ok (a := 320) (r := 32) lC_5 (by decide +kernel)
theorem dk_353 : decode code 353 = .ok (.iaload, 1) := decG_ok (a := 320) (r := 33) lC_5 (by decide +kernel)
theorem dk_354 : decode code 354 = .ok (.aload_n 0, 1) := decG_ok (a := 320) (r := 34) lC_5 (by decide +kernel)
theorem dk_355 : decode code 355 = .ok (.iload_n 3, 1) := decG_ok (a := 320) (r := 35) lC_5 (by decide +kernel)
theorem dk_356 : decode code 356 = .ok (.iconst 4, 1) := decG_ok (a := 320) (r := 36) lC_5 (by decide +kernel)
theorem dk_357 : decode code 357 = .ok (.iadd, 1) := decG_ok (a := 320) (r := 37) lC_5 (by decide +kernel)
theorem dk_358 : decode code 358 = .ok (.iaload, 1) := decG_ok (a := 320) (r := 38) lC_5 (by decide +kernel)
theorem dk_359 : decode code 359 = .ok (.aload_n 0, 1) := decG_ok (a := 320) (r := 39) lC_5 (by decide +kernel)
theorem dk_360 : decode code 360 = .ok (.iload_n 3, 1) := decG_ok (a := 320) (r := 40) lC_5 (by decide +kernel)
theorem dk_361 : decode code 361 = .ok (.iconst 5, 1) := decG_ok (a := 320) (r := 41) lC_5 (by decide +kernel)
theorem dk_362 : decode code 362 = .ok (.iadd, 1) := decG_ok (a := 320) (r := 42) lC_5 (by decide +kernel)
theorem dk_363 : decode code 363 = .ok (.iaload, 1) := decG_ok (a := 320) (r := 43) lC_5 (by decide +kernel)
theorem dk_364 : decode code 364 = .ok (.invokevirtual 17, 3) := decG_ok (a := 320) (r := 44) lC_5 (by decide +kernel)
theorem dk_367 : decode code 367 = .ok (.pop, 1) := decG_ok (a := 320) (r := 47) lC_5 (by decide +kernel)
theorem dk_368 : decode code 368 = .ok (.goto (2055), 3) := decG_ok (a := 320) (r := 48) lC_5 (by decide +kernel)
theorem dk_371 : decode code 371 = .ok (.aload_n 1, 1) := decG_ok (a := 320) (r := 51) lC_5 (by decide +kernel)
theorem dk_372 : decode code 372 = .ok (.aload_n 0, 1) := decG_ok (a := 320) (r := 52) lC_5 (by decide +kernel)
theorem dk_373 : decode code 373 = .ok (.iload_n 3, 1) := decG_ok (a := 320) (r := 53) lC_5 (by decide +kernel)
theorem dk_374 : decode code 374 = .ok (.iconst 1, 1) := decG_ok (a := 320) (r := 54) lC_5 (by decide +kernel)
theorem dk_375 : decode code 375 = .ok (.iadd, 1) := decG_ok (a := 320) (r := 55) lC_5 (by decide +kernel)
theorem dk_376 : decode code 376 = .ok (.iaload, 1) := decG_ok (a := 320) (r := 56) lC_5 (by decide +kernel)
theorem dk_377 : decode code 377 = .ok (.invokevirtual 18, 3) := decG_ok (a := 320) (r := 57) lC_5 (by decide +kernel)
theorem dk_380 : decode code 380 = .ok (.pop, 1) := decG_ok (a := 320) (r := 60) lC_5 (by decide +kernel)
theorem dk_381 : decode code 381 = .ok (.aload_n 2, 1) := decG_ok (a := 320) (r := 61) lC_5 (by decide +kernel)
theorem dk_382 : decode code 382 = .ok (.aload_n 0, 1) := decG_ok (a := 320) (r := 62) lC_5 (by decide +kernel)
theorem dk_383 : decode code 383 = .ok (.iload_n 3, 1) := decG_ok (a := 320) (r := 63) lC_5 (by decide +kernel)
theorem dk_384 : decode code 384 = .ok (.iconst 1, 1) := decG_ok (a := 384) (r := 0) lC_6 (by decide +kernel)
theorem dk_385 : decode code 385 = .ok (.iadd, 1) := decG_ok (a := 384) (r := 1) lC_6 (by decide +kernel)
theorem dk_386 : decode code 386 = .ok (.iaload, 1) := decG_ok (a := 384) (r := 2) lC_6 (by decide +kernel)
theorem dk_387 : decode code 387 = .ok (.invokevirtual 22, 3) := decG_ok (a := 384) (r := 3) lC_6 (by decide +kernel)
theorem dk_390 : decode code 390 = .ok (.pop, 1) := decG_ok (a := 384) (r := 6) lC_6 (by decide +kernel)
theorem dk_391 : decode code 391 = .ok (.goto (2032), 3) := decG_ok (a := 384) (r := 7) lC_6 (by decide +kernel)
theorem dk_394 : decode code 394 = .ok (.aload_n 1, 1) := decG_ok (a := 384) (r := 10) lC_6 (by decide +kernel)
theorem dk_395 : decode code 395 = .ok (.invokevirtual 23, 3) := decG_ok (a := 384) (r := 11) lC_6 (by decide +kernel)
theorem dk_398 : decode code 398 = .ok (.pop, 1) := decG_ok (a := 384) (r := 14) lC_6 (by decide +kernel)
theorem dk_399 : decode code 399 = .ok (.aload_n 2, 1) := decG_ok (a := 384) (r := 15) lC_6 (by decide +kernel)
theorem dk_400 : decode code 400 = .ok (.invokevirtual 27, 3) := decG_ok (a := 384) (r := 16) lC_6 (by decide +kernel)
theorem dk_403 : decode code 403 = .ok (.pop, 1) := decG_ok (a := 384) (r := 19) lC_6 (by decide +kernel)
theorem dk_404 : decode code 404 = .ok (.goto (2019), 3) := decG_ok (a := 384) (r := 20) lC_6 (by decide +kernel)
theorem dk_407 : decode code 407 = .ok (.aload_n 1, 1) := decG_ok (a := 384) (r := 23) lC_6 (by decide +kernel)
theorem dk_408 : decode code 408 = .ok (.aload_n 0, 1) := decG_ok (a := 384) (r := 24) lC_6 (by decide +kernel)
theorem dk_409 : decode code 409 = .ok (.iload_n 3, 1) := decG_ok (a := 384) (r := 25) lC_6 (by decide +kernel)
theorem dk_410 : decode code 410 = .ok (.iconst 1, 1) := decG_ok (a := 384) (r := 26) lC_6 (by decide +kernel)
theorem dk_411 : decode code 411 = .ok (.iadd, 1) := decG_ok (a := 384) (r := 27) lC_6 (by decide +kernel)
theorem dk_412 : decode code 412 = .ok (.iaload, 1) := decG_ok (a := 384) (r := 28) lC_6 (by decide +kernel)
theorem dk_413 : decode code 413 = .ok (.invokevirtual 28, 3) := decG_ok (a := 384) (r := 29) lC_6 (by decide +kernel)
theorem dk_416 : decode code 416 = .ok (.pop, 1) := decG_ok (a := 384) (r := 32) lC_6 (by decide +kernel)
theorem dk_417 : decode code 417 = .ok (.aload_n 2, 1) := decG_ok (a := 384) (r := 33) lC_6 (by decide +kernel)
theorem dk_418 : decode code 418 = .ok (.aload_n 0, 1) := decG_ok (a := 384) (r := 34) lC_6 (by decide +kernel)
theorem dk_419 : decode code 419 = .ok (.iload_n 3, 1) := decG_ok (a := 384) (r := 35) lC_6 (by decide +kernel)
theorem dk_420 : decode code 420 = .ok (.iconst 1, 1) := decG_ok (a := 384) (r := 36) lC_6 (by decide +kernel)
theorem dk_421 : decode code 421 = .ok (.iadd, 1) := decG_ok (a := 384) (r := 37) lC_6 (by decide +kernel)
theorem dk_422 : decode code 422 = .ok (.iaload, 1) := decG_ok (a := 384) (r := 38) lC_6 (by decide +kernel)
theorem dk_423 : decode code 423 = .ok (.invokevirtual 31, 3) := decG_ok (a := 384) (r := 39) lC_6 (by decide +kernel)
theorem dk_426 : decode code 426 = .ok (.pop, 1) := decG_ok (a := 384) (r := 42) lC_6 (by decide +kernel)
theorem dk_427 : decode code 427 = .ok (.goto (1996), 3) := decG_ok (a := 384) (r := 43) lC_6 (by decide +kernel)
theorem dk_430 : decode code 430 = .ok (.aload_n 1, 1) := decG_ok (a := 384) (r := 46) lC_6 (by decide +kernel)
theorem dk_431 : decode code 431 = .ok (.aload_n 0, 1) := decG_ok (a := 384) (r := 47) lC_6 (by decide +kernel)
theorem dk_432 : decode code 432 = .ok (.iload_n 3, 1) := decG_ok (a := 384) (r := 48) lC_6 (by decide +kernel)
theorem dk_433 : decode code 433 = .ok (.iconst 1, 1) := decG_ok (a := 384) (r := 49) lC_6 (by decide +kernel)
theorem dk_434 : decode code 434 = .ok (.iadd, 1) := decG_ok (a := 384) (r := 50) lC_6 (by decide +kernel)
theorem dk_435 : decode code 435 = .ok (.iaload, 1) := decG_ok (a := 384) (r := 51) lC_6 (by decide +kernel)
theorem dk_436 : decode code 436 = .ok (.aload_n 0, 1) := decG_ok (a := 384) (r := 52) lC_6 (by decide +kernel)
theorem dk_437 : decode code 437 = .ok (.iload_n 3, 1) := decG_ok (a := 384) (r := 53) lC_6 (by decide +kernel)
theorem dk_438 : decode code 438 = .ok (.iconst 2, 1) := decG_ok (a := 384) (r := 54) lC_6 (by decide +kernel)
theorem dk_439 : decode code 439 = .ok (.iadd, 1) := decG_ok (a := 384) (r := 55) lC_6 (by decide +kernel)
theorem dk_440 : decode code 440 = .ok (.iaload, 1) := decG_ok (a := 384) (r := 56) lC_6 (by decide +kernel)
theorem dk_441 : decode code 441 = .ok (.invokevirtual 32, 3) := decG_ok (a := 384) (r := 57) lC_6 (by decide +kernel)
theorem dk_444 : decode code 444 = .ok (.pop, 1) := decG_ok (a := 384) (r := 60) lC_6 (by decide +kernel)
theorem dk_445 : decode code 445 = .ok (.aload_n 2, 1) := decG_ok (a := 384) (r := 61) lC_6 (by decide +kernel)
theorem dk_446 : decode code 446 = .ok (.aload_n 0, 1) := decG_ok (a := 384) (r := 62) lC_6 (by decide +kernel)
theorem dk_447 : decode code 447 = .ok (.iload_n 3, 1) := decG_ok (a := 384) (r := 63) lC_6 (by decide +kernel)
theorem dk_448 : decode code 448 = .ok (.iconst 1, 1) := decG_ok (a := 448) (r := 0) lC_7 (by decide +kernel)
theorem dk_449 : decode code 449 = .ok (.iadd, 1) := decG_ok (a := 448) (r := 1) lC_7 (by decide +kernel)
theorem dk_450 : decode code 450 = .ok (.iaload, 1) := decG_ok (a := 448) (r := 2) lC_7 (by decide +kernel)
theorem dk_451 : decode code 451 = .ok (.aload_n 0, 1) := decG_ok (a := 448) (r := 3) lC_7 (by decide +kernel)
theorem dk_452 : decode code 452 = .ok (.iload_n 3, 1) := decG_ok (a := 448) (r := 4) lC_7 (by decide +kernel)
theorem dk_453 : decode code 453 = .ok (.iconst 2, 1) := decG_ok (a := 448) (r := 5) lC_7 (by decide +kernel)
theorem dk_454 : decode code 454 = .ok (.iadd, 1) := decG_ok (a := 448) (r := 6) lC_7 (by decide +kernel)
theorem dk_455 : decode code 455 = .ok (.iaload, 1) := decG_ok (a := 448) (r := 7) lC_7 (by decide +kernel)
theorem dk_456 : decode code 456 = .ok (.invokevirtual 36, 3) := decG_ok (a := 448) (r := 8) lC_7 (by decide +kernel)
theorem dk_459 : decode code 459 = .ok (.pop, 1) := decG_ok (a := 448) (r := 11) lC_7 (by decide +kernel)
theorem dk_460 : decode code 460 = .ok (.goto (1963), 3) := decG_ok (a := 448) (r := 12) lC_7 (by decide +kernel)
theorem dk_463 : decode code 463 = .ok (.aload_n 1, 1) := decG_ok (a := 448) (r := 15) lC_7 (by decide +kernel)
theorem dk_464 : decode code 464 = .ok (.aload_n 0, 1) := decG_ok (a := 448) (r := 16) lC_7 (by decide +kernel)
theorem dk_465 : decode code 465 = .ok (.iload_n 3, 1) := decG_ok (a := 448) (r := 17) lC_7 (by decide +kernel)
theorem dk_466 : decode code 466 = .ok (.iconst 1, 1) := decG_ok (a := 448) (r := 18) lC_7 (by decide +kernel)
theorem dk_467 : decode code 467 = .ok (.iadd, 1) := decG_ok (a := 448) (r := 19) lC_7 (by decide +kernel)
theorem dk_468 : decode code 468 = .ok (.iaload, 1) := decG_ok (a := 448) (r := 20) lC_7 (by decide +kernel)
theorem dk_469 : decode code 469 = .ok (.invokevirtual 37, 3) := decG_ok (a := 448) (r := 21) lC_7 (by decide +kernel)
theorem dk_472 : decode code 472 = .ok (.pop, 1) := decG_ok (a := 448) (r := 24) lC_7 (by decide +kernel)
theorem dk_473 : decode code 473 = .ok (.aload_n 2, 1) := decG_ok (a := 448) (r := 25) lC_7 (by decide +kernel)
theorem dk_474 : decode code 474 = .ok (.aload_n 0, 1) := decG_ok (a := 448) (r := 26) lC_7 (by decide +kernel)
theorem dk_475 : decode code 475 = .ok (.iload_n 3, 1) := decG_ok (a := 448) (r := 27) lC_7 (by decide +kernel)
theorem dk_476 : decode code 476 = .ok (.iconst 1, 1) := decG_ok (a := 448) (r := 28) lC_7 (by decide +kernel)
theorem dk_477 : decode code 477 = .ok (.iadd, 1) := decG_ok (a := 448) (r := 29) lC_7 (by decide +kernel)
theorem dk_478 : decode code 478 = .ok (.iaload, 1) := decG_ok (a := 448) (r := 30) lC_7 (by decide +kernel)
theorem dk_479 : decode code 479 = .ok (.invokevirtual 40, 3) := decG_ok (a := 448) (r := 31) lC_7 (by decide +kernel)
theorem dk_482 : decode code 482 = .ok (.pop, 1) := decG_ok (a := 448) (r := 34) lC_7 (by decide +kernel)
theorem dk_483 : decode code 483 = .ok (.goto (1940), 3) := decG_ok (a := 448) (r := 35) lC_7 (by decide +kernel)
theorem dk_486 : decode code 486 = .ok (.aload_n 1, 1) := decG_ok (a := 448) (r := 38) lC_7 (by decide +kernel)
theorem dk_487 : decode code 487 = .ok (.aload_n 0, 1) := decG_ok (a := 448) (r := 39) lC_7 (by decide +kernel)
theorem dk_488 : decode code 488 = .ok (.iload_n 3, 1) := decG_ok (a := 448) (r := 40) lC_7 (by decide +kernel)
theorem dk_489 : decode code 489 = .ok (.iconst 1, 1) := decG_ok (a := 448) (r := 41) lC_7 (by decide +kernel)
theorem dk_490 : decode code 490 = .ok (.iadd, 1) := decG_ok (a := 448) (r := 42) lC_7 (by decide +kernel)
theorem dk_491 : decode code 491 = .ok (.iaload, 1) := decG_ok (a := 448) (r := 43) lC_7 (by decide +kernel)
theorem dk_492 : decode code 492 = .ok (.aload_n 0, 1) := decG_ok (a := 448) (r := 44) lC_7 (by decide +kernel)
theorem dk_493 : decode code 493 = .ok (.iload_n 3, 1) := decG_ok (a := 448) (r := 45) lC_7 (by decide +kernel)
theorem dk_494 : decode code 494 = .ok (.iconst 2, 1) := decG_ok (a := 448) (r := 46) lC_7 (by decide +kernel)
theorem dk_495 : decode code 495 = .ok (.iadd, 1) := decG_ok (a := 448) (r := 47) lC_7 (by decide +kernel)
theorem dk_496 : decode code 496 = .ok (.iaload, 1) := decG_ok (a := 448) (r := 48) lC_7 (by decide +kernel)
theorem dk_497 : decode code 497 = .ok (.invokevirtual 41, 3) := decG_ok (a := 448) (r := 49) lC_7 (by decide +kernel)
theorem dk_500 : decode code 500 = .ok (.pop, 1) := decG_ok (a := 448) (r := 52) lC_7 (by decide +kernel)
theorem dk_501 : decode code 501 = .ok (.aload_n 2, 1) := decG_ok (a := 448) (r := 53) lC_7 (by decide +kernel)
theorem dk_502 : decode code 502 = .ok (.aload_n 0, 1) := decG_ok (a := 448) (r := 54) lC_7 (by decide +kernel)
theorem dk_503 : decode code 503 = .ok (.iload_n 3, 1) := decG_ok (a := 448) (r := 55) lC_7 (by decide +kernel)
theorem dk_504 : decode code 504 = .ok (.iconst 1, 1) := decG_ok (a := 448) (r := 56) lC_7 (by decide +kernel)
theorem dk_505 : decode code 505 = .ok (.iadd, 1) := decG_ok (a := 448) (r := 57) lC_7 (by decide +kernel)
theorem dk_506 : decode code 506 = .ok (.iaload, 1) := decG_ok (a := 448) (r := 58) lC_7 (by decide +kernel)
theorem dk_507 : decode code 507 = .ok (.aload_n 0, 1) := decG_ok (a := 448) (r := 59) lC_7 (by decide +kernel)
theorem dk_508 : decode code 508 = .ok (.iload_n 3, 1) := decG_ok (a := 448) (r := 60) lC_7 (by decide +kernel)
theorem dk_509 : decode code 509 = .ok (.iconst 2, 1) := decG_ok (a := 448) (r := 61) lC_7 (by decide +kernel)
theorem dk_510 : decode code 510 = .ok (.iadd, 1) := decG_ok (a := 448) (r := 62) lC_7 (by decide +kernel)
theorem dk_511 : decode code 511 = .ok (.iaload, 1) := decG_ok (a := 448) (r := 63) lC_7 (by decide +kernel)
theorem dk_512 : decode code 512 = .ok (.invokevirtual 44, 3) := decG_ok (a := 512) (r := 0) lC_8 (by decide +kernel)
theorem dk_515 : decode code 515 = .ok (.pop, 1) := decG_ok (a := 512) (r := 3) lC_8 (by decide +kernel)
theorem dk_516 : decode code 516 = .ok (.goto (1907), 3) := decG_ok (a := 512) (r := 4) lC_8 (by decide +kernel)
theorem dk_519 : decode code 519 = .ok (.aload_n 1, 1) := decG_ok (a := 512) (r := 7) lC_8 (by decide +kernel)
theorem dk_520 : decode code 520 = .ok (.aload_n 0, 1) := decG_ok (a := 512) (r := 8) lC_8 (by decide +kernel)
theorem dk_521 : decode code 521 = .ok (.iload_n 3, 1) := decG_ok (a := 512) (r := 9) lC_8 (by decide +kernel)
theorem dk_522 : decode code 522 = .ok (.iconst 1, 1) := decG_ok (a := 512) (r := 10) lC_8 (by decide +kernel)
theorem dk_523 : decode code 523 = .ok (.iadd, 1) := decG_ok (a := 512) (r := 11) lC_8 (by decide +kernel)
theorem dk_524 : decode code 524 = .ok (.iaload, 1) := decG_ok (a := 512) (r := 12) lC_8 (by decide +kernel)
theorem dk_525 : decode code 525 = .ok (.aload_n 0, 1) := decG_ok (a := 512) (r := 13) lC_8 (by decide +kernel)
theorem dk_526 : decode code 526 = .ok (.iload_n 3, 1) := decG_ok (a := 512) (r := 14) lC_8 (by decide +kernel)
theorem dk_527 : decode code 527 = .ok (.iconst 2, 1) := decG_ok (a := 512) (r := 15) lC_8 (by decide +kernel)
theorem dk_528 : decode code 528 = .ok (.iadd, 1) := decG_ok (a := 512) (r := 16) lC_8 (by decide +kernel)
theorem dk_529 : decode code 529 = .ok (.iaload, 1) := decG_ok (a := 512) (r := 17) lC_8 (by decide +kernel)
theorem dk_530 : decode code 530 = .ok (.invokevirtual 45, 3) := decG_ok (a := 512) (r := 18) lC_8 (by decide +kernel)
theorem dk_533 : decode code 533 = .ok (.pop, 1) := decG_ok (a := 512) (r := 21) lC_8 (by decide +kernel)
theorem dk_534 : decode code 534 = .ok (.aload_n 2, 1) := decG_ok (a := 512) (r := 22) lC_8 (by decide +kernel)
theorem dk_535 : decode code 535 = .ok (.aload_n 0, 1) := decG_ok (a := 512) (r := 23) lC_8 (by decide +kernel)
theorem dk_536 : decode code 536 = .ok (.iload_n 3, 1) := decG_ok (a := 512) (r := 24) lC_8 (by decide +kernel)
theorem dk_537 : decode code 537 = .ok (.iconst 1, 1) := decG_ok (a := 512) (r := 25) lC_8 (by decide +kernel)
theorem dk_538 : decode code 538 = .ok (.iadd, 1) := decG_ok (a := 512) (r := 26) lC_8 (by decide +kernel)
theorem dk_539 : decode code 539 = .ok (.iaload, 1) := decG_ok (a := 512) (r := 27) lC_8 (by decide +kernel)
theorem dk_540 : decode code 540 = .ok (.aload_n 0, 1) := decG_ok (a := 512) (r := 28) lC_8 (by decide +kernel)
theorem dk_541 : decode code 541 = .ok (.iload_n 3, 1) := decG_ok (a := 512) (r := 29) lC_8 (by decide +kernel)
theorem dk_542 : decode code 542 = .ok (.iconst 2, 1) := decG_ok (a := 512) (r := 30) lC_8 (by decide +kernel)
theorem dk_543 : decode code 543 = .ok (.iadd, 1) := decG_ok (a := 512) (r := 31) lC_8 (by decide +kernel)
theorem dk_544 : decode code 544 = .ok (.iaload, 1) := decG_ok (a := 512) (r := 32) lC_8 (by decide +kernel)
theorem dk_545 : decode code 545 = .ok (.invokevirtual 48, 3) := decG_ok (a := 512) (r := 33) lC_8 (by decide +kernel)
theorem dk_548 : decode code 548 = .ok (.pop, 1) := decG_ok (a := 512) (r := 36) lC_8 (by decide +kernel)
theorem dk_549 : decode code 549 = .ok (.goto (1874), 3) := decG_ok (a := 512) (r := 37) lC_8 (by decide +kernel)
theorem dk_552 : decode code 552 = .ok (.aload_n 1, 1) := decG_ok (a := 512) (r := 40) lC_8 (by decide +kernel)
theorem dk_553 : decode code 553 = .ok (.aload_n 0, 1) := decG_ok (a := 512) (r := 41) lC_8 (by decide +kernel)
theorem dk_554 : decode code 554 = .ok (.iload_n 3, 1) := decG_ok (a := 512) (r := 42) lC_8 (by decide +kernel)
theorem dk_555 : decode code 555 = .ok (.iconst 1, 1) := decG_ok (a := 512) (r := 43) lC_8 (by decide +kernel)
theorem dk_556 : decode code 556 = .ok (.iadd, 1) := decG_ok (a := 512) (r := 44) lC_8 (by decide +kernel)
theorem dk_557 : decode code 557 = .ok (.iaload, 1) := decG_ok (a := 512) (r := 45) lC_8 (by decide +kernel)
theorem dk_558 : decode code 558 = .ok (.aload_n 0, 1) := decG_ok (a := 512) (r := 46) lC_8 (by decide +kernel)
theorem dk_559 : decode code 559 = .ok (.iload_n 3, 1) := decG_ok (a := 512) (r := 47) lC_8 (by decide +kernel)
theorem dk_560 : decode code 560 = .ok (.iconst 2, 1) := decG_ok (a := 512) (r := 48) lC_8 (by decide +kernel)
theorem dk_561 : decode code 561 = .ok (.iadd, 1) := decG_ok (a := 512) (r := 49) lC_8 (by decide +kernel)
theorem dk_562 : decode code 562 = .ok (.iaload, 1) := decG_ok (a := 512) (r := 50) lC_8 (by decide +kernel)
theorem dk_563 : decode code 563 = .ok (.invokevirtual 49, 3) := decG_ok (a := 512) (r := 51) lC_8 (by decide +kernel)
theorem dk_566 : decode code 566 = .ok (.pop, 1) := decG_ok (a := 512) (r := 54) lC_8 (by decide +kernel)
theorem dk_567 : decode code 567 = .ok (.aload_n 2, 1) := decG_ok (a := 512) (r := 55) lC_8 (by decide +kernel)
theorem dk_568 : decode code 568 = .ok (.aload_n 0, 1) := decG_ok (a := 512) (r := 56) lC_8 (by decide +kernel)
theorem dk_569 : decode code 569 = .ok (.iload_n 3, 1) := decG_ok (a := 512) (r := 57) lC_8 (by decide +kernel)
theorem dk_570 : decode code 570 = .ok (.iconst 1, 1) := decG_ok (a := 512) (r := 58) lC_8 (by decide +kernel)
theorem dk_571 : decode code 571 = .ok (.iadd, 1) := decG_ok (a := 512) (r := 59) lC_8 (by decide +kernel)
theorem dk_572 : decode code 572 = .ok (.iaload, 1) := decG_ok (a := 512) (r := 60) lC_8 (by decide +kernel)
theorem dk_573 : decode code 573 = .ok (.aload_n 0, 1) := decG_ok (a := 512) (r := 61) lC_8 (by decide +kernel)
theorem dk_574 : decode code 574 = .ok (.iload_n 3, 1) := decG_ok (a := 512) (r := 62) lC_8 (by decide +kernel)
theorem dk_575 : decode code 575 = .ok (.iconst 2, 1) := decG_ok (a := 512) (r := 63) lC_8 (by decide +kernel)
theorem dk_576 : decode code 576 = .ok (.iadd, 1) := decG_ok (a := 576) (r := 0) lC_9 (by decide +kernel)
theorem dk_577 : decode code 577 = .ok (.iaload, 1) := decG_ok (a := 576) (r := 1) lC_9 (by decide +kernel)
theorem dk_578 : decode code 578 = .ok (.invokevirtual 52, 3) := decG_ok (a := 576) (r := 2) lC_9 (by decide +kernel)
theorem dk_581 : decode code 581 = .ok (.pop, 1) := decG_ok (a := 576) (r := 5) lC_9 (by decide +kernel)
theorem dk_582 : decode code 582 = .ok (.goto (1841), 3) := decG_ok (a := 576) (r := 6) lC_9 (by decide +kernel)
theorem dk_585 : decode code 585 = .ok (.aload_n 1, 1) := decG_ok (a := 576) (r := 9) lC_9 (by decide +kernel)
theorem dk_586 : decode code 586 = .ok (.aload_n 0, 1) := decG_ok (a := 576) (r := 10) lC_9 (by decide +kernel)
theorem dk_587 : decode code 587 = .ok (.iload_n 3, 1) := decG_ok (a := 576) (r := 11) lC_9 (by decide +kernel)
theorem dk_588 : decode code 588 = .ok (.iconst 1, 1) := decG_ok (a := 576) (r := 12) lC_9 (by decide +kernel)
theorem dk_589 : decode code 589 = .ok (.iadd, 1) := decG_ok (a := 576) (r := 13) lC_9 (by decide +kernel)
theorem dk_590 : decode code 590 = .ok (.iaload, 1) := decG_ok (a := 576) (r := 14) lC_9 (by decide +kernel)
theorem dk_591 : decode code 591 = .ok (.aload_n 0, 1) := decG_ok (a := 576) (r := 15) lC_9 (by decide +kernel)
theorem dk_592 : decode code 592 = .ok (.iload_n 3, 1) := decG_ok (a := 576) (r := 16) lC_9 (by decide +kernel)
theorem dk_593 : decode code 593 = .ok (.iconst 2, 1) := decG_ok (a := 576) (r := 17) lC_9 (by decide +kernel)
theorem dk_594 : decode code 594 = .ok (.iadd, 1) := decG_ok (a := 576) (r := 18) lC_9 (by decide +kernel)
theorem dk_595 : decode code 595 = .ok (.iaload, 1) := decG_ok (a := 576) (r := 19) lC_9 (by decide +kernel)
theorem dk_596 : decode code 596 = .ok (.invokevirtual 53, 3) := decG_ok (a := 576) (r := 20) lC_9 (by decide +kernel)
theorem dk_599 : decode code 599 = .ok (.pop, 1) := decG_ok (a := 576) (r := 23) lC_9 (by decide +kernel)
theorem dk_600 : decode code 600 = .ok (.aload_n 2, 1) := decG_ok (a := 576) (r := 24) lC_9 (by decide +kernel)
theorem dk_601 : decode code 601 = .ok (.aload_n 0, 1) := decG_ok (a := 576) (r := 25) lC_9 (by decide +kernel)
theorem dk_602 : decode code 602 = .ok (.iload_n 3, 1) := decG_ok (a := 576) (r := 26) lC_9 (by decide +kernel)
theorem dk_603 : decode code 603 = .ok (.iconst 1, 1) := decG_ok (a := 576) (r := 27) lC_9 (by decide +kernel)
theorem dk_604 : decode code 604 = .ok (.iadd, 1) := decG_ok (a := 576) (r := 28) lC_9 (by decide +kernel)
theorem dk_605 : decode code 605 = .ok (.iaload, 1) := decG_ok (a := 576) (r := 29) lC_9 (by decide +kernel)
theorem dk_606 : decode code 606 = .ok (.aload_n 0, 1) := decG_ok (a := 576) (r := 30) lC_9 (by decide +kernel)
theorem dk_607 : decode code 607 = .ok (.iload_n 3, 1) := decG_ok (a := 576) (r := 31) lC_9 (by decide +kernel)
theorem dk_608 : decode code 608 = .ok (.iconst 2, 1) := decG_ok (a := 576) (r := 32) lC_9 (by decide +kernel)
theorem dk_609 : decode code 609 = .ok (.iadd, 1) := decG_ok (a := 576) (r := 33) lC_9 (by decide +kernel)
theorem dk_610 : decode code 610 = .ok (.iaload, 1) := decG_ok (a := 576) (r := 34) lC_9 (by decide +kernel)
theorem dk_611 : decode code 611 = .ok (.invokevirtual 56, 3) := decG_ok (a := 576) (r := 35) lC_9 (by decide +kernel)
theorem dk_614 : decode code 614 = .ok (.pop, 1) := decG_ok (a := 576) (r := 38) lC_9 (by decide +kernel)
theorem dk_615 : decode code 615 = .ok (.goto (1808), 3) := decG_ok (a := 576) (r := 39) lC_9 (by decide +kernel)
theorem dk_618 : decode code 618 = .ok (.aload_n 1, 1) := decG_ok (a := 576) (r := 42) lC_9 (by decide +kernel)
theorem dk_619 : decode code 619 = .ok (.aload_n 0, 1) := decG_ok (a := 576) (r := 43) lC_9 (by decide +kernel)
theorem dk_620 : decode code 620 = .ok (.iload_n 3, 1) := decG_ok (a := 576) (r := 44) lC_9 (by decide +kernel)
theorem dk_621 : decode code 621 = .ok (.iconst 1, 1) := decG_ok (a := 576) (r := 45) lC_9 (by decide +kernel)
theorem dk_622 : decode code 622 = .ok (.iadd, 1) := decG_ok (a := 576) (r := 46) lC_9 (by decide +kernel)
theorem dk_623 : decode code 623 = .ok (.iaload, 1) := decG_ok (a := 576) (r := 47) lC_9 (by decide +kernel)
theorem dk_624 : decode code 624 = .ok (.aload_n 0, 1) := decG_ok (a := 576) (r := 48) lC_9 (by decide +kernel)
theorem dk_625 : decode code 625 = .ok (.iload_n 3, 1) := decG_ok (a := 576) (r := 49) lC_9 (by decide +kernel)
theorem dk_626 : decode code 626 = .ok (.iconst 2, 1) := decG_ok (a := 576) (r := 50) lC_9 (by decide +kernel)
theorem dk_627 : decode code 627 = .ok (.iadd, 1) := decG_ok (a := 576) (r := 51) lC_9 (by decide +kernel)
theorem dk_628 : decode code 628 = .ok (.iaload, 1) := decG_ok (a := 576) (r := 52) lC_9 (by decide +kernel)
theorem dk_629 : decode code 629 = .ok (.aload_n 0, 1) := decG_ok (a := 576) (r := 53) lC_9 (by decide +kernel)
theorem dk_630 : decode code 630 = .ok (.iload_n 3, 1) := decG_ok (a := 576) (r := 54) lC_9 (by decide +kernel)
theorem dk_631 : decode code 631 = .ok (.iconst 3, 1) := decG_ok (a := 576) (r := 55) lC_9 (by decide +kernel)
theorem dk_632 : decode code 632 = .ok (.iadd, 1) := decG_ok (a := 576) (r := 56) lC_9 (by decide +kernel)
theorem dk_633 : decode code 633 = .ok (.iaload, 1) := decG_ok (a := 576) (r := 57) lC_9 (by decide +kernel)
theorem dk_634 : decode code 634 = .ok (.invokevirtual 57, 3) := decG_ok (a := 576) (r := 58) lC_9 (by decide +kernel)
theorem dk_637 : decode code 637 = .ok (.pop, 1) := decG_ok (a := 576) (r := 61) lC_9 (by decide +kernel)
theorem dk_638 : decode code 638 = .ok (.aload_n 2, 1) := decG_ok (a := 576) (r := 62) lC_9 (by decide +kernel)
theorem dk_639 : decode code 639 = .ok (.aload_n 0, 1) := decG_ok (a := 576) (r := 63) lC_9 (by decide +kernel)
theorem dk_640 : decode code 640 = .ok (.iload_n 3, 1) := decG_ok (a := 640) (r := 0) lC_10 (by decide +kernel)
theorem dk_641 : decode code 641 = .ok (.iconst 1, 1) := decG_ok (a := 640) (r := 1) lC_10 (by decide +kernel)
theorem dk_642 : decode code 642 = .ok (.iadd, 1) := decG_ok (a := 640) (r := 2) lC_10 (by decide +kernel)
theorem dk_643 : decode code 643 = .ok (.iaload, 1) := decG_ok (a := 640) (r := 3) lC_10 (by decide +kernel)
theorem dk_644 : decode code 644 = .ok (.aload_n 0, 1) := decG_ok (a := 640) (r := 4) lC_10 (by decide +kernel)
theorem dk_645 : decode code 645 = .ok (.iload_n 3, 1) := decG_ok (a := 640) (r := 5) lC_10 (by decide +kernel)
theorem dk_646 : decode code 646 = .ok (.iconst 2, 1) := decG_ok (a := 640) (r := 6) lC_10 (by decide +kernel)
theorem dk_647 : decode code 647 = .ok (.iadd, 1) := decG_ok (a := 640) (r := 7) lC_10 (by decide +kernel)
theorem dk_648 : decode code 648 = .ok (.iaload, 1) := decG_ok (a := 640) (r := 8) lC_10 (by decide +kernel)
theorem dk_649 : decode code 649 = .ok (.aload_n 0, 1) := decG_ok (a := 640) (r := 9) lC_10 (by decide +kernel)
theorem dk_650 : decode code 650 = .ok (.iload_n 3, 1) := decG_ok (a := 640) (r := 10) lC_10 (by decide +kernel)
theorem dk_651 : decode code 651 = .ok (.iconst 3, 1) := decG_ok (a := 640) (r := 11) lC_10 (by decide +kernel)
theorem dk_652 : decode code 652 = .ok (.iadd, 1) := decG_ok (a := 640) (r := 12) lC_10 (by decide +kernel)
theorem dk_653 : decode code 653 = .ok (.iaload, 1) := decG_ok (a := 640) (r := 13) lC_10 (by decide +kernel)
theorem dk_654 : decode code 654 = .ok (.invokevirtual 61, 3) := decG_ok (a := 640) (r := 14) lC_10 (by decide +kernel)
theorem dk_657 : decode code 657 = .ok (.pop, 1) := decG_ok (a := 640) (r := 17) lC_10 (by decide +kernel)
theorem dk_658 : decode code 658 = .ok (.goto (1765), 3) := decG_ok (a := 640) (r := 18) lC_10 (by decide +kernel)
theorem dk_661 : decode code 661 = .ok (.aload_n 1, 1) := decG_ok (a := 640) (r := 21) lC_10 (by decide +kernel)
theorem dk_662 : decode code 662 = .ok (.aload_n 0, 1) := decG_ok (a := 640) (r := 22) lC_10 (by decide +kernel)
theorem dk_663 : decode code 663 = .ok (.iload_n 3, 1) := decG_ok (a := 640) (r := 23) lC_10 (by decide +kernel)
theorem dk_664 : decode code 664 = .ok (.iconst 1, 1) := decG_ok (a := 640) (r := 24) lC_10 (by decide +kernel)
theorem dk_665 : decode code 665 = .ok (.iadd, 1) := decG_ok (a := 640) (r := 25) lC_10 (by decide +kernel)
theorem dk_666 : decode code 666 = .ok (.iaload, 1) := decG_ok (a := 640) (r := 26) lC_10 (by decide +kernel)
theorem dk_667 : decode code 667 = .ok (.invokevirtual 62, 3) := decG_ok (a := 640) (r := 27) lC_10 (by decide +kernel)
theorem dk_670 : decode code 670 = .ok (.pop, 1) := decG_ok (a := 640) (r := 30) lC_10 (by decide +kernel)
theorem dk_671 : decode code 671 = .ok (.aload_n 2, 1) := decG_ok (a := 640) (r := 31) lC_10 (by decide +kernel)
theorem dk_672 : decode code 672 = .ok (.aload_n 0, 1) := decG_ok (a := 640) (r := 32) lC_10 (by decide +kernel)
theorem dk_673 : decode code 673 = .ok (.iload_n 3, 1) := decG_ok (a := 640) (r := 33) lC_10 (by decide +kernel)
theorem dk_674 : decode code 674 = .ok (.iconst 1, 1) := decG_ok (a := 640) (r := 34) lC_10 (by decide +kernel)
theorem dk_675 : decode code 675 = .ok (.iadd, 1) := decG_ok (a := 640) (r := 35) lC_10 (by decide +kernel)
theorem dk_676 : decode code 676 = .ok (.iaload, 1) := decG_ok (a := 640) (r := 36) lC_10 (by decide +kernel)
theorem dk_677 : decode code 677 = .ok (.invokevirtual 65, 3) := decG_ok (a := 640) (r := 37) lC_10 (by decide +kernel)
theorem dk_680 : decode code 680 = .ok (.pop, 1) := decG_ok (a := 640) (r := 40) lC_10 (by decide +kernel)
theorem dk_681 : decode code 681 = .ok (.goto (1742), 3) := decG_ok (a := 640) (r := 41) lC_10 (by decide +kernel)
theorem dk_684 : decode code 684 = .ok (.aload_n 1, 1) := decG_ok (a := 640) (r := 44) lC_10 (by decide +kernel)
theorem dk_685 : decode code 685 = .ok (.aload_n 0, 1) := decG_ok (a := 640) (r := 45) lC_10 (by decide +kernel)
theorem dk_686 : decode code 686 = .ok (.iload_n 3, 1) := decG_ok (a := 640) (r := 46) lC_10 (by decide +kernel)
theorem dk_687 : decode code 687 = .ok (.iconst 1, 1) := decG_ok (a := 640) (r := 47) lC_10 (by decide +kernel)
theorem dk_688 : decode code 688 = .ok (.iadd, 1) := decG_ok (a := 640) (r := 48) lC_10 (by decide +kernel)
theorem dk_689 : decode code 689 = .ok (.iaload, 1) := decG_ok (a := 640) (r := 49) lC_10 (by decide +kernel)
theorem dk_690 : decode code 690 = .ok (.invokevirtual 66, 3) := decG_ok (a := 640) (r := 50) lC_10 (by decide +kernel)
theorem dk_693 : decode code 693 = .ok (.pop, 1) := decG_ok (a := 640) (r := 53) lC_10 (by decide +kernel)
theorem dk_694 : decode code 694 = .ok (.aload_n 2, 1) := decG_ok (a := 640) (r := 54) lC_10 (by decide +kernel)
theorem dk_695 : decode code 695 = .ok (.aload_n 0, 1) := decG_ok (a := 640) (r := 55) lC_10 (by decide +kernel)
theorem dk_696 : decode code 696 = .ok (.iload_n 3, 1) := decG_ok (a := 640) (r := 56) lC_10 (by decide +kernel)
theorem dk_697 : decode code 697 = .ok (.iconst 1, 1) := decG_ok (a := 640) (r := 57) lC_10 (by decide +kernel)
theorem dk_698 : decode code 698 = .ok (.iadd, 1) := decG_ok (a := 640) (r := 58) lC_10 (by decide +kernel)
theorem dk_699 : decode code 699 = .ok (.iaload, 1) := decG_ok (a := 640) (r := 59) lC_10 (by decide +kernel)
theorem dk_700 : decode code 700 = .ok (.invokevirtual 69, 3) := decG_ok (a := 640) (r := 60) lC_10 (by decide +kernel)
theorem dk_703 : decode code 703 = .ok (.pop, 1) := decG_ok (a := 640) (r := 63) lC_10 (by decide +kernel)
theorem dk_704 : decode code 704 = .ok (.goto (1719), 3) := decG_ok (a := 704) (r := 0) lC_11 (by decide +kernel)
theorem dk_707 : decode code 707 = .ok (.aload_n 1, 1) := decG_ok (a := 704) (r := 3) lC_11 (by decide +kernel)
theorem dk_708 : decode code 708 = .ok (.aload_n 0, 1) := decG_ok (a := 704) (r := 4) lC_11 (by decide +kernel)
theorem dk_709 : decode code 709 = .ok (.iload_n 3, 1) := decG_ok (a := 704) (r := 5) lC_11 (by decide +kernel)
theorem dk_710 : decode code 710 = .ok (.iconst 1, 1) := decG_ok (a := 704) (r := 6) lC_11 (by decide +kernel)
theorem dk_711 : decode code 711 = .ok (.iadd, 1) := decG_ok (a := 704) (r := 7) lC_11 (by decide +kernel)
theorem dk_712 : decode code 712 = .ok (.iaload, 1) := decG_ok (a := 704) (r := 8) lC_11 (by decide +kernel)
theorem dk_713 : decode code 713 = .ok (.invokevirtual 70, 3) := decG_ok (a := 704) (r := 9) lC_11 (by decide +kernel)
theorem dk_716 : decode code 716 = .ok (.pop, 1) := decG_ok (a := 704) (r := 12) lC_11 (by decide +kernel)
theorem dk_717 : decode code 717 = .ok (.aload_n 2, 1) := decG_ok (a := 704) (r := 13) lC_11 (by decide +kernel)
theorem dk_718 : decode code 718 = .ok (.aload_n 0, 1) := decG_ok (a := 704) (r := 14) lC_11 (by decide +kernel)
theorem dk_719 : decode code 719 = .ok (.iload_n 3, 1) := decG_ok (a := 704) (r := 15) lC_11 (by decide +kernel)
theorem dk_720 : decode code 720 = .ok (.iconst 1, 1) := decG_ok (a := 704) (r := 16) lC_11 (by decide +kernel)
theorem dk_721 : decode code 721 = .ok (.iadd, 1) := decG_ok (a := 704) (r := 17) lC_11 (by decide +kernel)
theorem dk_722 : decode code 722 = .ok (.iaload, 1) := decG_ok (a := 704) (r := 18) lC_11 (by decide +kernel)
theorem dk_723 : decode code 723 = .ok (.invokevirtual 73, 3) := decG_ok (a := 704) (r := 19) lC_11 (by decide +kernel)
theorem dk_726 : decode code 726 = .ok (.pop, 1) := decG_ok (a := 704) (r := 22) lC_11 (by decide +kernel)
theorem dk_727 : decode code 727 = .ok (.goto (1696), 3) := decG_ok (a := 704) (r := 23) lC_11 (by decide +kernel)
theorem dk_730 : decode code 730 = .ok (.aload_n 1, 1) := decG_ok (a := 704) (r := 26) lC_11 (by decide +kernel)
theorem dk_731 : decode code 731 = .ok (.aload_n 0, 1) := decG_ok (a := 704) (r := 27) lC_11 (by decide +kernel)
theorem dk_732 : decode code 732 = .ok (.iload_n 3, 1) := decG_ok (a := 704) (r := 28) lC_11 (by decide +kernel)
theorem dk_733 : decode code 733 = .ok (.iconst 1, 1) := decG_ok (a := 704) (r := 29) lC_11 (by decide +kernel)
theorem dk_734 : decode code 734 = .ok (.iadd, 1) := decG_ok (a := 704) (r := 30) lC_11 (by decide +kernel)
theorem dk_735 : decode code 735 = .ok (.iaload, 1) := decG_ok (a := 704) (r := 31) lC_11 (by decide +kernel)
theorem dk_736 : decode code 736 = .ok (.aload_n 0, 1) := decG_ok (a := 704) (r := 32) lC_11 (by decide +kernel)
theorem dk_737 : decode code 737 = .ok (.iload_n 3, 1) := decG_ok (a := 704) (r := 33) lC_11 (by decide +kernel)
theorem dk_738 : decode code 738 = .ok (.iconst 2, 1) := decG_ok (a := 704) (r := 34) lC_11 (by decide +kernel)
theorem dk_739 : decode code 739 = .ok (.iadd, 1) := decG_ok (a := 704) (r := 35) lC_11 (by decide +kernel)
theorem dk_740 : decode code 740 = .ok (.iaload, 1) := decG_ok (a := 704) (r := 36) lC_11 (by decide +kernel)
theorem dk_741 : decode code 741 = .ok (.invokevirtual 74, 3) := decG_ok (a := 704) (r := 37) lC_11 (by decide +kernel)
theorem dk_744 : decode code 744 = .ok (.pop, 1) := decG_ok (a := 704) (r := 40) lC_11 (by decide +kernel)
theorem dk_745 : decode code 745 = .ok (.aload_n 2, 1) := decG_ok (a := 704) (r := 41) lC_11 (by decide +kernel)
theorem dk_746 : decode code 746 = .ok (.aload_n 0, 1) := decG_ok (a := 704) (r := 42) lC_11 (by decide +kernel)
theorem dk_747 : decode code 747 = .ok (.iload_n 3, 1) := decG_ok (a := 704) (r := 43) lC_11 (by decide +kernel)
theorem dk_748 : decode code 748 = .ok (.iconst 1, 1) := decG_ok (a := 704) (r := 44) lC_11 (by decide +kernel)
theorem dk_749 : decode code 749 = .ok (.iadd, 1) := decG_ok (a := 704) (r := 45) lC_11 (by decide +kernel)
theorem dk_750 : decode code 750 = .ok (.iaload, 1) := decG_ok (a := 704) (r := 46) lC_11 (by decide +kernel)
theorem dk_751 : decode code 751 = .ok (.aload_n 0, 1) := decG_ok (a := 704) (r := 47) lC_11 (by decide +kernel)
theorem dk_752 : decode code 752 = .ok (.iload_n 3, 1) := decG_ok (a := 704) (r := 48) lC_11 (by decide +kernel)
theorem dk_753 : decode code 753 = .ok (.iconst 2, 1) := decG_ok (a := 704) (r := 49) lC_11 (by decide +kernel)
theorem dk_754 : decode code 754 = .ok (.iadd, 1) := decG_ok (a := 704) (r := 50) lC_11 (by decide +kernel)
theorem dk_755 : decode code 755 = .ok (.iaload, 1) := decG_ok (a := 704) (r := 51) lC_11 (by decide +kernel)
theorem dk_756 : decode code 756 = .ok (.invokevirtual 77, 3) := decG_ok (a := 704) (r := 52) lC_11 (by decide +kernel)
theorem dk_759 : decode code 759 = .ok (.pop, 1) := decG_ok (a := 704) (r := 55) lC_11 (by decide +kernel)
theorem dk_760 : decode code 760 = .ok (.goto (1663), 3) := decG_ok (a := 704) (r := 56) lC_11 (by decide +kernel)
theorem dk_763 : decode code 763 = .ok (.aload_n 1, 1) := decG_ok (a := 704) (r := 59) lC_11 (by decide +kernel)
theorem dk_764 : decode code 764 = .ok (.aload_n 0, 1) := decG_ok (a := 704) (r := 60) lC_11 (by decide +kernel)
theorem dk_765 : decode code 765 = .ok (.iload_n 3, 1) := decG_ok (a := 704) (r := 61) lC_11 (by decide +kernel)
theorem dk_766 : decode code 766 = .ok (.iconst 1, 1) := decG_ok (a := 704) (r := 62) lC_11 (by decide +kernel)
theorem dk_767 : decode code 767 = .ok (.iadd, 1) := decG_ok (a := 704) (r := 63) lC_11 (by decide +kernel)
theorem dk_768 : decode code 768 = .ok (.iaload, 1) := decG_ok (a := 768) (r := 0) lC_12 (by decide +kernel)
theorem dk_769 : decode code 769 = .ok (.aload_n 0, 1) := decG_ok (a := 768) (r := 1) lC_12 (by decide +kernel)
theorem dk_770 : decode code 770 = .ok (.iload_n 3, 1) := decG_ok (a := 768) (r := 2) lC_12 (by decide +kernel)
theorem dk_771 : decode code 771 = .ok (.iconst 2, 1) := decG_ok (a := 768) (r := 3) lC_12 (by decide +kernel)
theorem dk_772 : decode code 772 = .ok (.iadd, 1) := decG_ok (a := 768) (r := 4) lC_12 (by decide +kernel)
theorem dk_773 : decode code 773 = .ok (.iaload, 1) := decG_ok (a := 768) (r := 5) lC_12 (by decide +kernel)
theorem dk_774 : decode code 774 = .ok (.invokevirtual 78, 3) := decG_ok (a := 768) (r := 6) lC_12 (by decide +kernel)
theorem dk_777 : decode code 777 = .ok (.pop, 1) := decG_ok (a := 768) (r := 9) lC_12 (by decide +kernel)
theorem dk_778 : decode code 778 = .ok (.aload_n 2, 1) := decG_ok (a := 768) (r := 10) lC_12 (by decide +kernel)
theorem dk_779 : decode code 779 = .ok (.aload_n 0, 1) := decG_ok (a := 768) (r := 11) lC_12 (by decide +kernel)
theorem dk_780 : decode code 780 = .ok (.iload_n 3, 1) := decG_ok (a := 768) (r := 12) lC_12 (by decide +kernel)
theorem dk_781 : decode code 781 = .ok (.iconst 1, 1) := decG_ok (a := 768) (r := 13) lC_12 (by decide +kernel)
theorem dk_782 : decode code 782 = .ok (.iadd, 1) := decG_ok (a := 768) (r := 14) lC_12 (by decide +kernel)
theorem dk_783 : decode code 783 = .ok (.iaload, 1) := decG_ok (a := 768) (r := 15) lC_12 (by decide +kernel)
theorem dk_784 : decode code 784 = .ok (.aload_n 0, 1) := decG_ok (a := 768) (r := 16) lC_12 (by decide +kernel)
theorem dk_785 : decode code 785 = .ok (.iload_n 3, 1) := decG_ok (a := 768) (r := 17) lC_12 (by decide +kernel)
theorem dk_786 : decode code 786 = .ok (.iconst 2, 1) := decG_ok (a := 768) (r := 18) lC_12 (by decide +kernel)
theorem dk_787 : decode code 787 = .ok (.iadd, 1) := decG_ok (a := 768) (r := 19) lC_12 (by decide +kernel)
theorem dk_788 : decode code 788 = .ok (.iaload, 1) := decG_ok (a := 768) (r := 20) lC_12 (by decide +kernel)
theorem dk_789 : decode code 789 = .ok (.invokevirtual 81, 3) := decG_ok (a := 768) (r := 21) lC_12 (by decide +kernel)
theorem dk_792 : decode code 792 = .ok (.pop, 1) := decG_ok (a := 768) (r := 24) lC_12 (by decide +kernel)
theorem dk_793 : decode code 793 = .ok (.goto (1630), 3) := decG_ok (a := 768) (r := 25) lC_12 (by decide +kernel)
theorem dk_796 : decode code 796 = .ok (.aload_n 1, 1) := decG_ok (a := 768) (r := 28) lC_12 (by decide +kernel)
theorem dk_797 : decode code 797 = .ok (.aload_n 0, 1) := decG_ok (a := 768) (r := 29) lC_12 (by decide +kernel)
theorem dk_798 : decode code 798 = .ok (.iload_n 3, 1) := decG_ok (a := 768) (r := 30) lC_12 (by decide +kernel)
theorem dk_799 : decode code 799 = .ok (.iconst 1, 1) := decG_ok (a := 768) (r := 31) lC_12 (by decide +kernel)
theorem dk_800 : decode code 800 = .ok (.iadd, 1) := decG_ok (a := 768) (r := 32) lC_12 (by decide +kernel)
theorem dk_801 : decode code 801 = .ok (.iaload, 1) := decG_ok (a := 768) (r := 33) lC_12 (by decide +kernel)
theorem dk_802 : decode code 802 = .ok (.invokevirtual 82, 3) := decG_ok (a := 768) (r := 34) lC_12 (by decide +kernel)
theorem dk_805 : decode code 805 = .ok (.pop, 1) := decG_ok (a := 768) (r := 37) lC_12 (by decide +kernel)
theorem dk_806 : decode code 806 = .ok (.aload_n 2, 1) := decG_ok (a := 768) (r := 38) lC_12 (by decide +kernel)
theorem dk_807 : decode code 807 = .ok (.aload_n 0, 1) := decG_ok (a := 768) (r := 39) lC_12 (by decide +kernel)
theorem dk_808 : decode code 808 = .ok (.iload_n 3, 1) := decG_ok (a := 768) (r := 40) lC_12 (by decide +kernel)
theorem dk_809 : decode code 809 = .ok (.iconst 1, 1) := decG_ok (a := 768) (r := 41) lC_12 (by decide +kernel)
theorem dk_810 : decode code 810 = .ok (.iadd, 1) := decG_ok (a := 768) (r := 42) lC_12 (by decide +kernel)
theorem dk_811 : decode code 811 = .ok (.iaload, 1) := decG_ok (a := 768) (r := 43) lC_12 (by decide +kernel)
theorem dk_812 : decode code 812 = .ok (.invokevirtual 85, 3) := decG_ok (a := 768) (r := 44) lC_12 (by decide +kernel)
theorem dk_815 : decode code 815 = .ok (.pop, 1) := decG_ok (a := 768) (r := 47) lC_12 (by decide +kernel)
theorem dk_816 : decode code 816 = .ok (.goto (1607), 3) := decG_ok (a := 768) (r := 48) lC_12 (by decide +kernel)
theorem dk_819 : decode code 819 = .ok (.aload_n 1, 1) := decG_ok (a := 768) (r := 51) lC_12 (by decide +kernel)
theorem dk_820 : decode code 820 = .ok (.aload_n 0, 1) := decG_ok (a := 768) (r := 52) lC_12 (by decide +kernel)
theorem dk_821 : decode code 821 = .ok (.iload_n 3, 1) := decG_ok (a := 768) (r := 53) lC_12 (by decide +kernel)
theorem dk_822 : decode code 822 = .ok (.iconst 1, 1) := decG_ok (a := 768) (r := 54) lC_12 (by decide +kernel)
theorem dk_823 : decode code 823 = .ok (.iadd, 1) := decG_ok (a := 768) (r := 55) lC_12 (by decide +kernel)
theorem dk_824 : decode code 824 = .ok (.iaload, 1) := decG_ok (a := 768) (r := 56) lC_12 (by decide +kernel)
theorem dk_825 : decode code 825 = .ok (.invokevirtual 86, 3) := decG_ok (a := 768) (r := 57) lC_12 (by decide +kernel)
theorem dk_828 : decode code 828 = .ok (.pop, 1) := decG_ok (a := 768) (r := 60) lC_12 (by decide +kernel)
theorem dk_829 : decode code 829 = .ok (.aload_n 2, 1) := decG_ok (a := 768) (r := 61) lC_12 (by decide +kernel)
theorem dk_830 : decode code 830 = .ok (.aload_n 0, 1) := decG_ok (a := 768) (r := 62) lC_12 (by decide +kernel)
theorem dk_831 : decode code 831 = .ok (.iload_n 3, 1) := decG_ok (a := 768) (r := 63) lC_12 (by decide +kernel)
theorem dk_832 : decode code 832 = .ok (.iconst 1, 1) := decG_ok (a := 832) (r := 0) lC_13 (by decide +kernel)
theorem dk_833 : decode code 833 = .ok (.iadd, 1) := decG_ok (a := 832) (r := 1) lC_13 (by decide +kernel)
theorem dk_834 : decode code 834 = .ok (.iaload, 1) := decG_ok (a := 832) (r := 2) lC_13 (by decide +kernel)
theorem dk_835 : decode code 835 = .ok (.invokevirtual 89, 3) := decG_ok (a := 832) (r := 3) lC_13 (by decide +kernel)
theorem dk_838 : decode code 838 = .ok (.pop, 1) := decG_ok (a := 832) (r := 6) lC_13 (by decide +kernel)
theorem dk_839 : decode code 839 = .ok (.goto (1584), 3) := decG_ok (a := 832) (r := 7) lC_13 (by decide +kernel)
theorem dk_842 : decode code 842 = .ok (.aload_n 1, 1) := decG_ok (a := 832) (r := 10) lC_13 (by decide +kernel)
theorem dk_843 : decode code 843 = .ok (.aload_n 0, 1) := decG_ok (a := 832) (r := 11) lC_13 (by decide +kernel)
theorem dk_844 : decode code 844 = .ok (.iload_n 3, 1) := decG_ok (a := 832) (r := 12) lC_13 (by decide +kernel)
theorem dk_845 : decode code 845 = .ok (.iconst 1, 1) := decG_ok (a := 832) (r := 13) lC_13 (by decide +kernel)
theorem dk_846 : decode code 846 = .ok (.iadd, 1) := decG_ok (a := 832) (r := 14) lC_13 (by decide +kernel)
theorem dk_847 : decode code 847 = .ok (.iaload, 1) := decG_ok (a := 832) (r := 15) lC_13 (by decide +kernel)
theorem dk_848 : decode code 848 = .ok (.invokevirtual 90, 3) := decG_ok (a := 832) (r := 16) lC_13 (by decide +kernel)
theorem dk_851 : decode code 851 = .ok (.pop, 1) := decG_ok (a := 832) (r := 19) lC_13 (by decide +kernel)
theorem dk_852 : decode code 852 = .ok (.aload_n 2, 1) := decG_ok (a := 832) (r := 20) lC_13 (by decide +kernel)
theorem dk_853 : decode code 853 = .ok (.aload_n 0, 1) := decG_ok (a := 832) (r := 21) lC_13 (by decide +kernel)
theorem dk_854 : decode code 854 = .ok (.iload_n 3, 1) := decG_ok (a := 832) (r := 22) lC_13 (by decide +kernel)
theorem dk_855 : decode code 855 = .ok (.iconst 1, 1) := decG_ok (a := 832) (r := 23) lC_13 (by decide +kernel)
theorem dk_856 : decode code 856 = .ok (.iadd, 1) := decG_ok (a := 832) (r := 24) lC_13 (by decide +kernel)
theorem dk_857 : decode code 857 = .ok (.iaload, 1) := decG_ok (a := 832) (r := 25) lC_13 (by decide +kernel)
theorem dk_858 : decode code 858 = .ok (.invokevirtual 93, 3) := decG_ok (a := 832) (r := 26) lC_13 (by decide +kernel)
theorem dk_861 : decode code 861 = .ok (.pop, 1) := decG_ok (a := 832) (r := 29) lC_13 (by decide +kernel)
theorem dk_862 : decode code 862 = .ok (.goto (1561), 3) := decG_ok (a := 832) (r := 30) lC_13 (by decide +kernel)
theorem dk_865 : decode code 865 = .ok (.aload_n 1, 1) := decG_ok (a := 832) (r := 33) lC_13 (by decide +kernel)
theorem dk_866 : decode code 866 = .ok (.aload_n 0, 1) := decG_ok (a := 832) (r := 34) lC_13 (by decide +kernel)
theorem dk_867 : decode code 867 = .ok (.iload_n 3, 1) := decG_ok (a := 832) (r := 35) lC_13 (by decide +kernel)
theorem dk_868 : decode code 868 = .ok (.iconst 1, 1) := decG_ok (a := 832) (r := 36) lC_13 (by decide +kernel)
theorem dk_869 : decode code 869 = .ok (.iadd, 1) := decG_ok (a := 832) (r := 37) lC_13 (by decide +kernel)
theorem dk_870 : decode code 870 = .ok (.iaload, 1) := decG_ok (a := 832) (r := 38) lC_13 (by decide +kernel)
theorem dk_871 : decode code 871 = .ok (.aload_n 0, 1) := decG_ok (a := 832) (r := 39) lC_13 (by decide +kernel)
theorem dk_872 : decode code 872 = .ok (.iload_n 3, 1) := decG_ok (a := 832) (r := 40) lC_13 (by decide +kernel)
theorem dk_873 : decode code 873 = .ok (.iconst 2, 1) := decG_ok (a := 832) (r := 41) lC_13 (by decide +kernel)
theorem dk_874 : decode code 874 = .ok (.iadd, 1) := decG_ok (a := 832) (r := 42) lC_13 (by decide +kernel)
theorem dk_875 : decode code 875 = .ok (.iaload, 1) := decG_ok (a := 832) (r := 43) lC_13 (by decide +kernel)
theorem dk_876 : decode code 876 = .ok (.invokevirtual 94, 3) := decG_ok (a := 832) (r := 44) lC_13 (by decide +kernel)
theorem dk_879 : decode code 879 = .ok (.pop, 1) := decG_ok (a := 832) (r := 47) lC_13 (by decide +kernel)
theorem dk_880 : decode code 880 = .ok (.aload_n 2, 1) := decG_ok (a := 832) (r := 48) lC_13 (by decide +kernel)
theorem dk_881 : decode code 881 = .ok (.aload_n 0, 1) := decG_ok (a := 832) (r := 49) lC_13 (by decide +kernel)
theorem dk_882 : decode code 882 = .ok (.iload_n 3, 1) := decG_ok (a := 832) (r := 50) lC_13 (by decide +kernel)
theorem dk_883 : decode code 883 = .ok (.iconst 1, 1) := decG_ok (a := 832) (r := 51) lC_13 (by decide +kernel)
theorem dk_884 : decode code 884 = .ok (.iadd, 1) := decG_ok (a := 832) (r := 52) lC_13 (by decide +kernel)
theorem dk_885 : decode code 885 = .ok (.iaload, 1) := decG_ok (a := 832) (r := 53) lC_13 (by decide +kernel)
theorem dk_886 : decode code 886 = .ok (.aload_n 0, 1) := decG_ok (a := 832) (r := 54) lC_13 (by decide +kernel)
theorem dk_887 : decode code 887 = .ok (.iload_n 3, 1) := decG_ok (a := 832) (r := 55) lC_13 (by decide +kernel)
theorem dk_888 : decode code 888 = .ok (.iconst 2, 1) := decG_ok (a := 832) (r := 56) lC_13 (by decide +kernel)
theorem dk_889 : decode code 889 = .ok (.iadd, 1) := decG_ok (a := 832) (r := 57) lC_13 (by decide +kernel)
theorem dk_890 : decode code 890 = .ok (.iaload, 1) := decG_ok (a := 832) (r := 58) lC_13 (by decide +kernel)
theorem dk_891 : decode code 891 = .ok (.invokevirtual 97, 3) := decG_ok (a := 832) (r := 59) lC_13 (by decide +kernel)
theorem dk_894 : decode code 894 = .ok (.pop, 1) := decG_ok (a := 832) (r := 62) lC_13 (by decide +kernel)
theorem dk_895 : decode code 895 = .ok (.goto (1528), 3) := decG_ok (a := 832) (r := 63) lC_13 (by decide +kernel)
theorem dk_898 : decode code 898 = .ok (.aload_n 1, 1) := decG_ok (a := 896) (r := 2) lC_14 (by decide +kernel)
theorem dk_899 : decode code 899 = .ok (.aload_n 0, 1) := decG_ok (a := 896) (r := 3) lC_14 (by decide +kernel)
theorem dk_900 : decode code 900 = .ok (.iload_n 3, 1) := decG_ok (a := 896) (r := 4) lC_14 (by decide +kernel)
theorem dk_901 : decode code 901 = .ok (.iconst 1, 1) := decG_ok (a := 896) (r := 5) lC_14 (by decide +kernel)
theorem dk_902 : decode code 902 = .ok (.iadd, 1) := decG_ok (a := 896) (r := 6) lC_14 (by decide +kernel)
theorem dk_903 : decode code 903 = .ok (.iaload, 1) := decG_ok (a := 896) (r := 7) lC_14 (by decide +kernel)
theorem dk_904 : decode code 904 = .ok (.invokevirtual 98, 3) := decG_ok (a := 896) (r := 8) lC_14 (by decide +kernel)
theorem dk_907 : decode code 907 = .ok (.pop, 1) := decG_ok (a := 896) (r := 11) lC_14 (by decide +kernel)
theorem dk_908 : decode code 908 = .ok (.aload_n 2, 1) := decG_ok (a := 896) (r := 12) lC_14 (by decide +kernel)
theorem dk_909 : decode code 909 = .ok (.aload_n 0, 1) := decG_ok (a := 896) (r := 13) lC_14 (by decide +kernel)
theorem dk_910 : decode code 910 = .ok (.iload_n 3, 1) := decG_ok (a := 896) (r := 14) lC_14 (by decide +kernel)
theorem dk_911 : decode code 911 = .ok (.iconst 1, 1) := decG_ok (a := 896) (r := 15) lC_14 (by decide +kernel)
theorem dk_912 : decode code 912 = .ok (.iadd, 1) := decG_ok (a := 896) (r := 16) lC_14 (by decide +kernel)
theorem dk_913 : decode code 913 = .ok (.iaload, 1) := decG_ok (a := 896) (r := 17) lC_14 (by decide +kernel)
theorem dk_914 : decode code 914 = .ok (.invokevirtual 101, 3) := decG_ok (a := 896) (r := 18) lC_14 (by decide +kernel)
theorem dk_917 : decode code 917 = .ok (.pop, 1) := decG_ok (a := 896) (r := 21) lC_14 (by decide +kernel)
theorem dk_918 : decode code 918 = .ok (.goto (1505), 3) := decG_ok (a := 896) (r := 22) lC_14 (by decide +kernel)
theorem dk_921 : decode code 921 = .ok (.aload_n 1, 1) := decG_ok (a := 896) (r := 25) lC_14 (by decide +kernel)
theorem dk_922 : decode code 922 = .ok (.aload_n 0, 1) := decG_ok (a := 896) (r := 26) lC_14 (by decide +kernel)
theorem dk_923 : decode code 923 = .ok (.iload_n 3, 1) := decG_ok (a := 896) (r := 27) lC_14 (by decide +kernel)
theorem dk_924 : decode code 924 = .ok (.iconst 1, 1) := decG_ok (a := 896) (r := 28) lC_14 (by decide +kernel)
theorem dk_925 : decode code 925 = .ok (.iadd, 1) := decG_ok (a := 896) (r := 29) lC_14 (by decide +kernel)
theorem dk_926 : decode code 926 = .ok (.iaload, 1) := decG_ok (a := 896) (r := 30) lC_14 (by decide +kernel)
theorem dk_927 : decode code 927 = .ok (.aload_n 0, 1) := decG_ok (a := 896) (r := 31) lC_14 (by decide +kernel)
theorem dk_928 : decode code 928 = .ok (.iload_n 3, 1) := decG_ok (a := 896) (r := 32) lC_14 (by decide +kernel)
theorem dk_929 : decode code 929 = .ok (.iconst 2, 1) := decG_ok (a := 896) (r := 33) lC_14 (by decide +kernel)
theorem dk_930 : decode code 930 = .ok (.iadd, 1) := decG_ok (a := 896) (r := 34) lC_14 (by decide +kernel)
theorem dk_931 : decode code 931 = .ok (.iaload, 1) := decG_ok (a := 896) (r := 35) lC_14 (by decide +kernel)
theorem dk_932 : decode code 932 = .ok (.aload_n 0, 1) := decG_ok (a := 896) (r := 36) lC_14 (by decide +kernel)
theorem dk_933 : decode code 933 = .ok (.iload_n 3, 1) := decG_ok (a := 896) (r := 37) lC_14 (by decide +kernel)
theorem dk_934 : decode code 934 = .ok (.iconst 3, 1) := decG_ok (a := 896) (r := 38) lC_14 (by decide +kernel)
theorem dk_935 : decode code 935 = .ok (.iadd, 1) := decG_ok (a := 896) (r := 39) lC_14 (by decide +kernel)
theorem dk_936 : decode code 936 = .ok (.iaload, 1) := decG_ok (a := 896) (r := 40) lC_14 (by decide +kernel)
theorem dk_937 : decode code 937 = .ok (.invokevirtual 102, 3) := decG_ok (a := 896) (r := 41) lC_14 (by decide +kernel)
theorem dk_940 : decode code 940 = .ok (.pop, 1) := decG_ok (a := 896) (r := 44) lC_14 (by decide +kernel)
theorem dk_941 : decode code 941 = .ok (.aload_n 2, 1) := decG_ok (a := 896) (r := 45) lC_14 (by decide +kernel)
theorem dk_942 : decode code 942 = .ok (.aload_n 0, 1) := decG_ok (a := 896) (r := 46) lC_14 (by decide +kernel)
theorem dk_943 : decode code 943 = .ok (.iload_n 3, 1) := decG_ok (a := 896) (r := 47) lC_14 (by decide +kernel)
theorem dk_944 : decode code 944 = .ok (.iconst 1, 1) := decG_ok (a := 896) (r := 48) lC_14 (by decide +kernel)
theorem dk_945 : decode code 945 = .ok (.iadd, 1) := decG_ok (a := 896) (r := 49) lC_14 (by decide +kernel)
theorem dk_946 : decode code 946 = .ok (.iaload, 1) := decG_ok (a := 896) (r := 50) lC_14 (by decide +kernel)
theorem dk_947 : decode code 947 = .ok (.aload_n 0, 1) := decG_ok (a := 896) (r := 51) lC_14 (by decide +kernel)
theorem dk_948 : decode code 948 = .ok (.iload_n 3, 1) := decG_ok (a := 896) (r := 52) lC_14 (by decide +kernel)
theorem dk_949 : decode code 949 = .ok (.iconst 2, 1) := decG_ok (a := 896) (r := 53) lC_14 (by decide +kernel)
theorem dk_950 : decode code 950 = .ok (.iadd, 1) := decG_ok (a := 896) (r := 54) lC_14 (by decide +kernel)
theorem dk_951 : decode code 951 = .ok (.iaload, 1) := decG_ok (a := 896) (r := 55) lC_14 (by decide +kernel)
theorem dk_952 : decode code 952 = .ok (.aload_n 0, 1) := decG_ok (a := 896) (r := 56) lC_14 (by decide +kernel)
theorem dk_953 : decode code 953 = .ok (.iload_n 3, 1) := decG_ok (a := 896) (r := 57) lC_14 (by decide +kernel)
theorem dk_954 : decode code 954 = .ok (.iconst 3, 1) := decG_ok (a := 896) (r := 58) lC_14 (by decide +kernel)
theorem dk_955 : decode code 955 = .ok (.iadd, 1) := decG_ok (a := 896) (r := 59) lC_14 (by decide +kernel)
theorem dk_956 : decode code 956 = .ok (.iaload, 1) := decG_ok (a := 896) (r := 60) lC_14 (by decide +kernel)
theorem dk_957 : decode code 957 = .ok (.invokevirtual 105, 3) := decG_ok (a := 896) (r := 61) lC_14 (by decide +kernel)
theorem dk_960 : decode code 960 = .ok (.pop, 1) := decG_ok (a := 960) (r := 0) lC_15 (by decide +kernel)
theorem dk_961 : decode code 961 = .ok (.goto (1462), 3) := decG_ok (a := 960) (r := 1) lC_15 (by decide +kernel)
theorem dk_964 : decode code 964 = .ok (.aload_n 1, 1) := decG_ok (a := 960) (r := 4) lC_15 (by decide +kernel)
theorem dk_965 : decode code 965 = .ok (.aload_n 0, 1) := decG_ok (a := 960) (r := 5) lC_15 (by decide +kernel)
theorem dk_966 : decode code 966 = .ok (.iload_n 3, 1) := decG_ok (a := 960) (r := 6) lC_15 (by decide +kernel)
theorem dk_967 : decode code 967 = .ok (.iconst 1, 1) := decG_ok (a := 960) (r := 7) lC_15 (by decide +kernel)
theorem dk_968 : decode code 968 = .ok (.iadd, 1) := decG_ok (a := 960) (r := 8) lC_15 (by decide +kernel)
theorem dk_969 : decode code 969 = .ok (.iaload, 1) := decG_ok (a := 960) (r := 9) lC_15 (by decide +kernel)
theorem dk_970 : decode code 970 = .ok (.aload_n 0, 1) := decG_ok (a := 960) (r := 10) lC_15 (by decide +kernel)
theorem dk_971 : decode code 971 = .ok (.iload_n 3, 1) := decG_ok (a := 960) (r := 11) lC_15 (by decide +kernel)
theorem dk_972 : decode code 972 = .ok (.iconst 2, 1) := decG_ok (a := 960) (r := 12) lC_15 (by decide +kernel)
theorem dk_973 : decode code 973 = .ok (.iadd, 1) := decG_ok (a := 960) (r := 13) lC_15 (by decide +kernel)
theorem dk_974 : decode code 974 = .ok (.iaload, 1) := decG_ok (a := 960) (r := 14) lC_15 (by decide +kernel)
theorem dk_975 : decode code 975 = .ok (.invokevirtual 106, 3) := decG_ok (a := 960) (r := 15) lC_15 (by decide +kernel)
theorem dk_978 : decode code 978 = .ok (.pop, 1) := decG_ok (a := 960) (r := 18) lC_15 (by decide +kernel)
theorem dk_979 : decode code 979 = .ok (.aload_n 2, 1) := decG_ok (a := 960) (r := 19) lC_15 (by decide +kernel)
theorem dk_980 : decode code 980 = .ok (.aload_n 0, 1) := decG_ok (a := 960) (r := 20) lC_15 (by decide +kernel)
theorem dk_981 : decode code 981 = .ok (.iload_n 3, 1) := decG_ok (a := 960) (r := 21) lC_15 (by decide +kernel)
theorem dk_982 : decode code 982 = .ok (.iconst 1, 1) := decG_ok (a := 960) (r := 22) lC_15 (by decide +kernel)
theorem dk_983 : decode code 983 = .ok (.iadd, 1) := decG_ok (a := 960) (r := 23) lC_15 (by decide +kernel)
theorem dk_984 : decode code 984 = .ok (.iaload, 1) := decG_ok (a := 960) (r := 24) lC_15 (by decide +kernel)
theorem dk_985 : decode code 985 = .ok (.aload_n 0, 1) := decG_ok (a := 960) (r := 25) lC_15 (by decide +kernel)
theorem dk_986 : decode code 986 = .ok (.iload_n 3, 1) := decG_ok (a := 960) (r := 26) lC_15 (by decide +kernel)
theorem dk_987 : decode code 987 = .ok (.iconst 2, 1) := decG_ok (a := 960) (r := 27) lC_15 (by decide +kernel)
theorem dk_988 : decode code 988 = .ok (.iadd, 1) := decG_ok (a := 960) (r := 28) lC_15 (by decide +kernel)
theorem dk_989 : decode code 989 = .ok (.iaload, 1) := decG_ok (a := 960) (r := 29) lC_15 (by decide +kernel)
theorem dk_990 : decode code 990 = .ok (.invokevirtual 109, 3) := decG_ok (a := 960) (r := 30) lC_15 (by decide +kernel)
theorem dk_993 : decode code 993 = .ok (.pop, 1) := decG_ok (a := 960) (r := 33) lC_15 (by decide +kernel)
theorem dk_994 : decode code 994 = .ok (.goto (1429), 3) := decG_ok (a := 960) (r := 34) lC_15 (by decide +kernel)
theorem dk_997 : decode code 997 = .ok (.aload_n 1, 1) := decG_ok (a := 960) (r := 37) lC_15 (by decide +kernel)
theorem dk_998 : decode code 998 = .ok (.aload_n 0, 1) := decG_ok (a := 960) (r := 38) lC_15 (by decide +kernel)
theorem dk_999 : decode code 999 = .ok (.iload_n 3, 1) := decG_ok (a := 960) (r := 39) lC_15 (by decide +kernel)
theorem dk_1000 : decode code 1000 = .ok (.iconst 1, 1) := decG_ok (a := 960) (r := 40) lC_15 (by decide +kernel)
theorem dk_1001 : decode code 1001 = .ok (.iadd, 1) := decG_ok (a := 960) (r := 41) lC_15 (by decide +kernel)
theorem dk_1002 : decode code 1002 = .ok (.iaload, 1) := decG_ok (a := 960) (r := 42) lC_15 (by decide +kernel)
theorem dk_1003 : decode code 1003 = .ok (.aload_n 0, 1) := decG_ok (a := 960) (r := 43) lC_15 (by decide +kernel)
theorem dk_1004 : decode code 1004 = .ok (.iload_n 3, 1) := decG_ok (a := 960) (r := 44) lC_15 (by decide +kernel)
theorem dk_1005 : decode code 1005 = .ok (.iconst 2, 1) := decG_ok (a := 960) (r := 45) lC_15 (by decide +kernel)
theorem dk_1006 : decode code 1006 = .ok (.iadd, 1) := decG_ok (a := 960) (r := 46) lC_15 (by decide +kernel)
theorem dk_1007 : decode code 1007 = .ok (.iaload, 1) := decG_ok (a := 960) (r := 47) lC_15 (by decide +kernel)
theorem dk_1008 : decode code 1008 = .ok (.invokevirtual 110, 3) := decG_ok (a := 960) (r := 48) lC_15 (by decide +kernel)
theorem dk_1011 : decode code 1011 = .ok (.pop, 1) := decG_ok (a := 960) (r := 51) lC_15 (by decide +kernel)
theorem dk_1012 : decode code 1012 = .ok (.aload_n 2, 1) := decG_ok (a := 960) (r := 52) lC_15 (by decide +kernel)
theorem dk_1013 : decode code 1013 = .ok (.aload_n 0, 1) := decG_ok (a := 960) (r := 53) lC_15 (by decide +kernel)
theorem dk_1014 : decode code 1014 = .ok (.iload_n 3, 1) := decG_ok (a := 960) (r := 54) lC_15 (by decide +kernel)
theorem dk_1015 : decode code 1015 = .ok (.iconst 1, 1) := decG_ok (a := 960) (r := 55) lC_15 (by decide +kernel)
theorem dk_1016 : decode code 1016 = .ok (.iadd, 1) := decG_ok (a := 960) (r := 56) lC_15 (by decide +kernel)
theorem dk_1017 : decode code 1017 = .ok (.iaload, 1) := decG_ok (a := 960) (r := 57) lC_15 (by decide +kernel)
theorem dk_1018 : decode code 1018 = .ok (.aload_n 0, 1) := decG_ok (a := 960) (r := 58) lC_15 (by decide +kernel)
theorem dk_1019 : decode code 1019 = .ok (.iload_n 3, 1) := decG_ok (a := 960) (r := 59) lC_15 (by decide +kernel)
theorem dk_1020 : decode code 1020 = .ok (.iconst 2, 1) := decG_ok (a := 960) (r := 60) lC_15 (by decide +kernel)
theorem dk_1021 : decode code 1021 = .ok (.iadd, 1) := decG_ok (a := 960) (r := 61) lC_15 (by decide +kernel)
theorem dk_1022 : decode code 1022 = .ok (.iaload, 1) := decG_ok (a := 960) (r := 62) lC_15 (by decide +kernel)
theorem dk_1023 : decode code 1023 = .ok (.invokevirtual 113, 3) := decG_ok (a := 960) (r := 63) lC_15 (by decide +kernel)
theorem dk_1026 : decode code 1026 = .ok (.pop, 1) := decG_ok (a := 1024) (r := 2) lC_16 (by decide +kernel)
theorem dk_1027 : decode code 1027 = .ok (.goto (1396), 3) := decG_ok (a := 1024) (r := 3) lC_16 (by decide +kernel)
theorem dk_1030 : decode code 1030 = .ok (.aload_n 1, 1) := decG_ok (a := 1024) (r := 6) lC_16 (by decide +kernel)
theorem dk_1031 : decode code 1031 = .ok (.aload_n 0, 1) := decG_ok (a := 1024) (r := 7) lC_16 (by decide +kernel)
theorem dk_1032 : decode code 1032 = .ok (.iload_n 3, 1) := decG_ok (a := 1024) (r := 8) lC_16 (by decide +kernel)
theorem dk_1033 : decode code 1033 = .ok (.iconst 1, 1) := decG_ok (a := 1024) (r := 9) lC_16 (by decide +kernel)
theorem dk_1034 : decode code 1034 = .ok (.iadd, 1) := decG_ok (a := 1024) (r := 10) lC_16 (by decide +kernel)
theorem dk_1035 : decode code 1035 = .ok (.iaload, 1) := decG_ok (a := 1024) (r := 11) lC_16 (by decide +kernel)
theorem dk_1036 : decode code 1036 = .ok (.aload_n 0, 1) := decG_ok (a := 1024) (r := 12) lC_16 (by decide +kernel)
theorem dk_1037 : decode code 1037 = .ok (.iload_n 3, 1) := decG_ok (a := 1024) (r := 13) lC_16 (by decide +kernel)
theorem dk_1038 : decode code 1038 = .ok (.iconst 2, 1) := decG_ok (a := 1024) (r := 14) lC_16 (by decide +kernel)
theorem dk_1039 : decode code 1039 = .ok (.iadd, 1) := decG_ok (a := 1024) (r := 15) lC_16 (by decide +kernel)
theorem dk_1040 : decode code 1040 = .ok (.iaload, 1) := decG_ok (a := 1024) (r := 16) lC_16 (by decide +kernel)
theorem dk_1041 : decode code 1041 = .ok (.invokevirtual 114, 3) := decG_ok (a := 1024) (r := 17) lC_16 (by decide +kernel)
theorem dk_1044 : decode code 1044 = .ok (.aload_n 2, 1) := decG_ok (a := 1024) (r := 20) lC_16 (by decide +kernel)
theorem dk_1045 : decode code 1045 = .ok (.aload_n 0, 1) := decG_ok (a := 1024) (r := 21) lC_16 (by decide +kernel)
theorem dk_1046 : decode code 1046 = .ok (.iload_n 3, 1) := decG_ok (a := 1024) (r := 22) lC_16 (by decide +kernel)
theorem dk_1047 : decode code 1047 = .ok (.iconst 1, 1) := decG_ok (a := 1024) (r := 23) lC_16 (by decide +kernel)
theorem dk_1048 : decode code 1048 = .ok (.iadd, 1) := decG_ok (a := 1024) (r := 24) lC_16 (by decide +kernel)
theorem dk_1049 : decode code 1049 = .ok (.iaload, 1) := decG_ok (a := 1024) (r := 25) lC_16 (by decide +kernel)
theorem dk_1050 : decode code 1050 = .ok (.aload_n 0, 1) := decG_ok (a := 1024) (r := 26) lC_16 (by decide +kernel)
theorem dk_1051 : decode code 1051 = .ok (.iload_n 3, 1) := decG_ok (a := 1024) (r := 27) lC_16 (by decide +kernel)
theorem dk_1052 : decode code 1052 = .ok (.iconst 2, 1) := decG_ok (a := 1024) (r := 28) lC_16 (by decide +kernel)
theorem dk_1053 : decode code 1053 = .ok (.iadd, 1) := decG_ok (a := 1024) (r := 29) lC_16 (by decide +kernel)
theorem dk_1054 : decode code 1054 = .ok (.iaload, 1) := decG_ok (a := 1024) (r := 30) lC_16 (by decide +kernel)
theorem dk_1055 : decode code 1055 = .ok (.invokevirtual 117, 3) := decG_ok (a := 1024) (r := 31) lC_16 (by decide +kernel)
theorem dk_1058 : decode code 1058 = .ok (.if_icmp .eq 1365, 3) := decG_ok (a := 1024) (r := 34) lC_16 (by decide +kernel)
theorem dk_1063 : decode code 1063 = .ok (.aload_n 1, 1) := decG_ok (a := 1024) (r := 39) lC_16 (by decide +kernel)
theorem dk_1064 : decode code 1064 = .ok (.aload_n 0, 1) := decG_ok (a := 1024) (r := 40) lC_16 (by decide +kernel)
theorem dk_1065 : decode code 1065 = .ok (.iload_n 3, 1) := decG_ok (a := 1024) (r := 41) lC_16 (by decide +kernel)
theorem dk_1066 : decode code 1066 = .ok (.iconst 1, 1) := decG_ok (a := 1024) (r := 42) lC_16 (by decide +kernel)
theorem dk_1067 : decode code 1067 = .ok (.iadd, 1) := decG_ok (a := 1024) (r := 43) lC_16 (by decide +kernel)
theorem dk_1068 : decode code 1068 = .ok (.iaload, 1) := decG_ok (a := 1024) (r := 44) lC_16 (by decide +kernel)
theorem dk_1069 : decode code 1069 = .ok (.aload_n 0, 1) := decG_ok (a := 1024) (r := 45) lC_16 (by decide +kernel)
theorem dk_1070 : decode code 1070 = .ok (.iload_n 3, 1) := decG_ok (a := 1024) (r := 46) lC_16 (by decide +kernel)
theorem dk_1071 : decode code 1071 = .ok (.iconst 2, 1) := decG_ok (a := 1024) (r := 47) lC_16 (by decide +kernel)
theorem dk_1072 : decode code 1072 = .ok (.iadd, 1) := decG_ok (a := 1024) (r := 48) lC_16 (by decide +kernel)
theorem dk_1073 : decode code 1073 = .ok (.iaload, 1) := decG_ok (a := 1024) (r := 49) lC_16 (by decide +kernel)
theorem dk_1074 : decode code 1074 = .ok (.invokevirtual 118, 3) := decG_ok (a := 1024) (r := 50) lC_16 (by decide +kernel)
theorem dk_1077 : decode code 1077 = .ok (.pop, 1) := decG_ok (a := 1024) (r := 53) lC_16 (by decide +kernel)
theorem dk_1078 : decode code 1078 = .ok (.aload_n 2, 1) := decG_ok (a := 1024) (r := 54) lC_16 (by decide +kernel)
theorem dk_1079 : decode code 1079 = .ok (.aload_n 0, 1) := decG_ok (a := 1024) (r := 55) lC_16 (by decide +kernel)
theorem dk_1080 : decode code 1080 = .ok (.iload_n 3, 1) := decG_ok (a := 1024) (r := 56) lC_16 (by decide +kernel)
theorem dk_1081 : decode code 1081 = .ok (.iconst 1, 1) := decG_ok (a := 1024) (r := 57) lC_16 (by decide +kernel)
theorem dk_1082 : decode code 1082 = .ok (.iadd, 1) := decG_ok (a := 1024) (r := 58) lC_16 (by decide +kernel)
theorem dk_1083 : decode code 1083 = .ok (.iaload, 1) := decG_ok (a := 1024) (r := 59) lC_16 (by decide +kernel)
theorem dk_1084 : decode code 1084 = .ok (.aload_n 0, 1) := decG_ok (a := 1024) (r := 60) lC_16 (by decide +kernel)
theorem dk_1085 : decode code 1085 = .ok (.iload_n 3, 1) := decG_ok (a := 1024) (r := 61) lC_16 (by decide +kernel)
theorem dk_1086 : decode code 1086 = .ok (.iconst 2, 1) := decG_ok (a := 1024) (r := 62) lC_16 (by decide +kernel)
theorem dk_1087 : decode code 1087 = .ok (.iadd, 1) := decG_ok (a := 1024) (r := 63) lC_16 (by decide +kernel)
theorem dk_1088 : decode code 1088 = .ok (.iaload, 1) := decG_ok (a := 1088) (r := 0) lC_17 (by decide +kernel)
theorem dk_1089 : decode code 1089 = .ok (.invokevirtual 121, 3) := decG_ok (a := 1088) (r := 1) lC_17 (by decide +kernel)
theorem dk_1092 : decode code 1092 = .ok (.pop, 1) := decG_ok (a := 1088) (r := 4) lC_17 (by decide +kernel)
theorem dk_1093 : decode code 1093 = .ok (.goto (1330), 3) := decG_ok (a := 1088) (r := 5) lC_17 (by decide +kernel)
theorem dk_1096 : decode code 1096 = .ok (.aload_n 1, 1) := decG_ok (a := 1088) (r := 8) lC_17 (by decide +kernel)
theorem dk_1097 : decode code 1097 = .ok (.aload_n 0, 1) := decG_ok (a := 1088) (r := 9) lC_17 (by decide +kernel)
theorem dk_1098 : decode code 1098 = .ok (.iload_n 3, 1) := decG_ok (a := 1088) (r := 10) lC_17 (by decide +kernel)
theorem dk_1099 : decode code 1099 = .ok (.iconst 1, 1) := decG_ok (a := 1088) (r := 11) lC_17 (by decide +kernel)
theorem dk_1100 : decode code 1100 = .ok (.iadd, 1) := decG_ok (a := 1088) (r := 12) lC_17 (by decide +kernel)
theorem dk_1101 : decode code 1101 = .ok (.iaload, 1) := decG_ok (a := 1088) (r := 13) lC_17 (by decide +kernel)
theorem dk_1102 : decode code 1102 = .ok (.invokevirtual 122, 3) := decG_ok (a := 1088) (r := 14) lC_17 (by decide +kernel)
theorem dk_1105 : decode code 1105 = .ok (.pop, 1) := decG_ok (a := 1088) (r := 17) lC_17 (by decide +kernel)
theorem dk_1106 : decode code 1106 = .ok (.aload_n 2, 1) := decG_ok (a := 1088) (r := 18) lC_17 (by decide +kernel)
theorem dk_1107 : decode code 1107 = .ok (.aload_n 0, 1) := decG_ok (a := 1088) (r := 19) lC_17 (by decide +kernel)
theorem dk_1108 : decode code 1108 = .ok (.iload_n 3, 1) := decG_ok (a := 1088) (r := 20) lC_17 (by decide +kernel)
theorem dk_1109 : decode code 1109 = .ok (.iconst 1, 1) := decG_ok (a := 1088) (r := 21) lC_17 (by decide +kernel)
theorem dk_1110 : decode code 1110 = .ok (.iadd, 1) := decG_ok (a := 1088) (r := 22) lC_17 (by decide +kernel)
theorem dk_1111 : decode code 1111 = .ok (.iaload, 1) := decG_ok (a := 1088) (r := 23) lC_17 (by decide +kernel)
theorem dk_1112 : decode code 1112 = .ok (.invokevirtual 125, 3) := decG_ok (a := 1088) (r := 24) lC_17 (by decide +kernel)
theorem dk_1115 : decode code 1115 = .ok (.pop, 1) := decG_ok (a := 1088) (r := 27) lC_17 (by decide +kernel)
theorem dk_1116 : decode code 1116 = .ok (.goto (1307), 3) := decG_ok (a := 1088) (r := 28) lC_17 (by decide +kernel)
theorem dk_1119 : decode code 1119 = .ok (.aload_n 1, 1) := decG_ok (a := 1088) (r := 31) lC_17 (by decide +kernel)
theorem dk_1120 : decode code 1120 = .ok (.aload_n 0, 1) := decG_ok (a := 1088) (r := 32) lC_17 (by decide +kernel)
theorem dk_1121 : decode code 1121 = .ok (.iload_n 3, 1) := decG_ok (a := 1088) (r := 33) lC_17 (by decide +kernel)
theorem dk_1122 : decode code 1122 = .ok (.iconst 1, 1) := decG_ok (a := 1088) (r := 34) lC_17 (by decide +kernel)
theorem dk_1123 : decode code 1123 = .ok (.iadd, 1) := decG_ok (a := 1088) (r := 35) lC_17 (by decide +kernel)
theorem dk_1124 : decode code 1124 = .ok (.iaload, 1) := decG_ok (a := 1088) (r := 36) lC_17 (by decide +kernel)
theorem dk_1125 : decode code 1125 = .ok (.invokevirtual 126, 3) := decG_ok (a := 1088) (r := 37) lC_17 (by decide +kernel)
theorem dk_1128 : decode code 1128 = .ok (.pop, 1) := decG_ok (a := 1088) (r := 40) lC_17 (by decide +kernel)
theorem dk_1129 : decode code 1129 = .ok (.aload_n 2, 1) := decG_ok (a := 1088) (r := 41) lC_17 (by decide +kernel)
theorem dk_1130 : decode code 1130 = .ok (.aload_n 0, 1) := decG_ok (a := 1088) (r := 42) lC_17 (by decide +kernel)
theorem dk_1131 : decode code 1131 = .ok (.iload_n 3, 1) := decG_ok (a := 1088) (r := 43) lC_17 (by decide +kernel)
theorem dk_1132 : decode code 1132 = .ok (.iconst 1, 1) := decG_ok (a := 1088) (r := 44) lC_17 (by decide +kernel)
theorem dk_1133 : decode code 1133 = .ok (.iadd, 1) := decG_ok (a := 1088) (r := 45) lC_17 (by decide +kernel)
theorem dk_1134 : decode code 1134 = .ok (.iaload, 1) := decG_ok (a := 1088) (r := 46) lC_17 (by decide +kernel)
theorem dk_1135 : decode code 1135 = .ok (.invokevirtual 129, 3) := decG_ok (a := 1088) (r := 47) lC_17 (by decide +kernel)
theorem dk_1138 : decode code 1138 = .ok (.pop, 1) := decG_ok (a := 1088) (r := 50) lC_17 (by decide +kernel)
theorem dk_1139 : decode code 1139 = .ok (.goto (1284), 3) := decG_ok (a := 1088) (r := 51) lC_17 (by decide +kernel)
theorem dk_1142 : decode code 1142 = .ok (.aload_n 1, 1) := decG_ok (a := 1088) (r := 54) lC_17 (by decide +kernel)
theorem dk_1143 : decode code 1143 = .ok (.aload_n 0, 1) := decG_ok (a := 1088) (r := 55) lC_17 (by decide +kernel)
theorem dk_1144 : decode code 1144 = .ok (.iload_n 3, 1) := decG_ok (a := 1088) (r := 56) lC_17 (by decide +kernel)
theorem dk_1145 : decode code 1145 = .ok (.iconst 1, 1) := decG_ok (a := 1088) (r := 57) lC_17 (by decide +kernel)
theorem dk_1146 : decode code 1146 = .ok (.iadd, 1) := decG_ok (a := 1088) (r := 58) lC_17 (by decide +kernel)
theorem dk_1147 : decode code 1147 = .ok (.iaload, 1) := decG_ok (a := 1088) (r := 59) lC_17 (by decide +kernel)
theorem dk_1148 : decode code 1148 = .ok (.invokevirtual 130, 3) := decG_ok (a := 1088) (r := 60) lC_17 (by decide +kernel)
theorem dk_1151 : decode code 1151 = .ok (.pop, 1) := decG_ok (a := 1088) (r := 63) lC_17 (by decide +kernel)
theorem dk_1152 : decode code 1152 = .ok (.aload_n 2, 1) := decG_ok (a := 1152) (r := 0) lC_18 (by decide +kernel)
theorem dk_1153 : decode code 1153 = .ok (.aload_n 0, 1) := decG_ok (a := 1152) (r := 1) lC_18 (by decide +kernel)
theorem dk_1154 : decode code 1154 = .ok (.iload_n 3, 1) := decG_ok (a := 1152) (r := 2) lC_18 (by decide +kernel)
theorem dk_1155 : decode code 1155 = .ok (.iconst 1, 1) := decG_ok (a := 1152) (r := 3) lC_18 (by decide +kernel)
theorem dk_1156 : decode code 1156 = .ok (.iadd, 1) := decG_ok (a := 1152) (r := 4) lC_18 (by decide +kernel)
theorem dk_1157 : decode code 1157 = .ok (.iaload, 1) := decG_ok (a := 1152) (r := 5) lC_18 (by decide +kernel)
theorem dk_1158 : decode code 1158 = .ok (.invokevirtual 133, 3) := decG_ok (a := 1152) (r := 6) lC_18 (by decide +kernel)
theorem dk_1161 : decode code 1161 = .ok (.pop, 1) := decG_ok (a := 1152) (r := 9) lC_18 (by decide +kernel)
theorem dk_1162 : decode code 1162 = .ok (.goto (1261), 3) := decG_ok (a := 1152) (r := 10) lC_18 (by decide +kernel)
theorem dk_1165 : decode code 1165 = .ok (.aload_n 1, 1) := decG_ok (a := 1152) (r := 13) lC_18 (by decide +kernel)
theorem dk_1166 : decode code 1166 = .ok (.aload_n 0, 1) := decG_ok (a := 1152) (r := 14) lC_18 (by decide +kernel)
theorem dk_1167 : decode code 1167 = .ok (.iload_n 3, 1) := decG_ok (a := 1152) (r := 15) lC_18 (by decide +kernel)
theorem dk_1168 : decode code 1168 = .ok (.iconst 1, 1) := decG_ok (a := 1152) (r := 16) lC_18 (by decide +kernel)
theorem dk_1169 : decode code 1169 = .ok (.iadd, 1) := decG_ok (a := 1152) (r := 17) lC_18 (by decide +kernel)
theorem dk_1170 : decode code 1170 = .ok (.iaload, 1) := decG_ok (a := 1152) (r := 18) lC_18 (by decide +kernel)
theorem dk_1171 : decode code 1171 = .ok (.invokevirtual 134, 3) := decG_ok (a := 1152) (r := 19) lC_18 (by decide +kernel)
theorem dk_1174 : decode code 1174 = .ok (.pop, 1) := decG_ok (a := 1152) (r := 22) lC_18 (by decide +kernel)
theorem dk_1175 : decode code 1175 = .ok (.aload_n 2, 1) := decG_ok (a := 1152) (r := 23) lC_18 (by decide +kernel)
theorem dk_1176 : decode code 1176 = .ok (.aload_n 0, 1) := decG_ok (a := 1152) (r := 24) lC_18 (by decide +kernel)
theorem dk_1177 : decode code 1177 = .ok (.iload_n 3, 1) := decG_ok (a := 1152) (r := 25) lC_18 (by decide +kernel)
theorem dk_1178 : decode code 1178 = .ok (.iconst 1, 1) := decG_ok (a := 1152) (r := 26) lC_18 (by decide +kernel)
theorem dk_1179 : decode code 1179 = .ok (.iadd, 1) := decG_ok (a := 1152) (r := 27) lC_18 (by decide +kernel)
theorem dk_1180 : decode code 1180 = .ok (.iaload, 1) := decG_ok (a := 1152) (r := 28) lC_18 (by decide +kernel)
theorem dk_1181 : decode code 1181 = .ok (.invokevirtual 137, 3) := decG_ok (a := 1152) (r := 29) lC_18 (by decide +kernel)
theorem dk_1184 : decode code 1184 = .ok (.pop, 1) := decG_ok (a := 1152) (r := 32) lC_18 (by decide +kernel)
theorem dk_1185 : decode code 1185 = .ok (.goto (1238), 3) := decG_ok (a := 1152) (r := 33) lC_18 (by decide +kernel)
theorem dk_1188 : decode code 1188 = .ok (.aload_n 1, 1) := decG_ok (a := 1152) (r := 36) lC_18 (by decide +kernel)
theorem dk_1189 : decode code 1189 = .ok (.aload_n 0, 1) := decG_ok (a := 1152) (r := 37) lC_18 (by decide +kernel)
theorem dk_1190 : decode code 1190 = .ok (.iload_n 3, 1) := decG_ok (a := 1152) (r := 38) lC_18 (by decide +kernel)
theorem dk_1191 : decode code 1191 = .ok (.iconst 1, 1) := decG_ok (a := 1152) (r := 39) lC_18 (by decide +kernel)
theorem dk_1192 : decode code 1192 = .ok (.iadd, 1) := decG_ok (a := 1152) (r := 40) lC_18 (by decide +kernel)
theorem dk_1193 : decode code 1193 = .ok (.iaload, 1) := decG_ok (a := 1152) (r := 41) lC_18 (by decide +kernel)
theorem dk_1194 : decode code 1194 = .ok (.aload_n 0, 1) := decG_ok (a := 1152) (r := 42) lC_18 (by decide +kernel)
theorem dk_1195 : decode code 1195 = .ok (.iload_n 3, 1) := decG_ok (a := 1152) (r := 43) lC_18 (by decide +kernel)
theorem dk_1196 : decode code 1196 = .ok (.iconst 2, 1) := decG_ok (a := 1152) (r := 44) lC_18 (by decide +kernel)
theorem dk_1197 : decode code 1197 = .ok (.iadd, 1) := decG_ok (a := 1152) (r := 45) lC_18 (by decide +kernel)
theorem dk_1198 : decode code 1198 = .ok (.iaload, 1) := decG_ok (a := 1152) (r := 46) lC_18 (by decide +kernel)
theorem dk_1199 : decode code 1199 = .ok (.invokevirtual 138, 3) := decG_ok (a := 1152) (r := 47) lC_18 (by decide +kernel)
theorem dk_1202 : decode code 1202 = .ok (.pop, 1) := decG_ok (a := 1152) (r := 50) lC_18 (by decide +kernel)
theorem dk_1203 : decode code 1203 = .ok (.aload_n 2, 1) := decG_ok (a := 1152) (r := 51) lC_18 (by decide +kernel)
theorem dk_1204 : decode code 1204 = .ok (.aload_n 0, 1) := decG_ok (a := 1152) (r := 52) lC_18 (by decide +kernel)
theorem dk_1205 : decode code 1205 = .ok (.iload_n 3, 1) := decG_ok (a := 1152) (r := 53) lC_18 (by decide +kernel)
theorem dk_1206 : decode code 1206 = .ok (.iconst 1, 1) := decG_ok (a := 1152) (r := 54) lC_18 (by decide +kernel)
theorem dk_1207 : decode code 1207 = .ok (.iadd, 1) := decG_ok (a := 1152) (r := 55) lC_18 (by decide +kernel)
theorem dk_1208 : decode code 1208 = .ok (.iaload, 1) := decG_ok (a := 1152) (r := 56) lC_18 (by decide +kernel)
theorem dk_1209 : decode code 1209 = .ok (.aload_n 0, 1) := decG_ok (a := 1152) (r := 57) lC_18 (by decide +kernel)
theorem dk_1210 : decode code 1210 = .ok (.iload_n 3, 1) := decG_ok (a := 1152) (r := 58) lC_18 (by decide +kernel)
theorem dk_1211 : decode code 1211 = .ok (.iconst 2, 1) := decG_ok (a := 1152) (r := 59) lC_18 (by decide +kernel)
theorem dk_1212 : decode code 1212 = .ok (.iadd, 1) := decG_ok (a := 1152) (r := 60) lC_18 (by decide +kernel)
theorem dk_1213 : decode code 1213 = .ok (.iaload, 1) := decG_ok (a := 1152) (r := 61) lC_18 (by decide +kernel)
theorem dk_1214 : decode code 1214 = .ok (.invokevirtual 141, 3) := decG_ok (a := 1152) (r := 62) lC_18 (by decide +kernel)
theorem dk_1217 : decode code 1217 = .ok (.pop, 1) := decG_ok (a := 1216) (r := 1) lC_19 (by decide +kernel)
theorem dk_1218 : decode code 1218 = .ok (.goto (1205), 3) := decG_ok (a := 1216) (r := 2) lC_19 (by decide +kernel)
theorem dk_1221 : decode code 1221 = .ok (.aload_n 1, 1) := decG_ok (a := 1216) (r := 5) lC_19 (by decide +kernel)
theorem dk_1222 : decode code 1222 = .ok (.aload_n 0, 1) := decG_ok (a := 1216) (r := 6) lC_19 (by decide +kernel)
theorem dk_1223 : decode code 1223 = .ok (.iload_n 3, 1) := decG_ok (a := 1216) (r := 7) lC_19 (by decide +kernel)
theorem dk_1224 : decode code 1224 = .ok (.iconst 1, 1) := decG_ok (a := 1216) (r := 8) lC_19 (by decide +kernel)
theorem dk_1225 : decode code 1225 = .ok (.iadd, 1) := decG_ok (a := 1216) (r := 9) lC_19 (by decide +kernel)
theorem dk_1226 : decode code 1226 = .ok (.iaload, 1) := decG_ok (a := 1216) (r := 10) lC_19 (by decide +kernel)
theorem dk_1227 : decode code 1227 = .ok (.aload_n 0, 1) := decG_ok (a := 1216) (r := 11) lC_19 (by decide +kernel)
theorem dk_1228 : decode code 1228 = .ok (.iload_n 3, 1) := decG_ok (a := 1216) (r := 12) lC_19 (by decide +kernel)
theorem dk_1229 : decode code 1229 = .ok (.iconst 2, 1) := decG_ok (a := 1216) (r := 13) lC_19 (by decide +kernel)
theorem dk_1230 : decode code 1230 = .ok (.iadd, 1) := decG_ok (a := 1216) (r := 14) lC_19 (by decide +kernel)
theorem dk_1231 : decode code 1231 = .ok (.iaload, 1) := decG_ok (a := 1216) (r := 15) lC_19 (by decide +kernel)
theorem dk_1232 : decode code 1232 = .ok (.invokevirtual 142, 3) := decG_ok (a := 1216) (r := 16) lC_19 (by decide +kernel)
theorem dk_1235 : decode code 1235 = .ok (.pop, 1) := decG_ok (a := 1216) (r := 19) lC_19 (by decide +kernel)
theorem dk_1236 : decode code 1236 = .ok (.aload_n 2, 1) := decG_ok (a := 1216) (r := 20) lC_19 (by decide +kernel)
theorem dk_1237 : decode code 1237 = .ok (.aload_n 0, 1) := decG_ok (a := 1216) (r := 21) lC_19 (by decide +kernel)
theorem dk_1238 : decode code 1238 = .ok (.iload_n 3, 1) := decG_ok (a := 1216) (r := 22) lC_19 (by decide +kernel)
theorem dk_1239 : decode code 1239 = .ok (.iconst 1, 1) := decG_ok (a := 1216) (r := 23) lC_19 (by decide +kernel)
theorem dk_1240 : decode code 1240 = .ok (.iadd, 1) := decG_ok (a := 1216) (r := 24) lC_19 (by decide +kernel)
theorem dk_1241 : decode code 1241 = .ok (.iaload, 1) := decG_ok (a := 1216) (r := 25) lC_19 (by decide +kernel)
theorem dk_1242 : decode code 1242 = .ok (.aload_n 0, 1) := decG_ok (a := 1216) (r := 26) lC_19 (by decide +kernel)
theorem dk_1243 : decode code 1243 = .ok (.iload_n 3, 1) := decG_ok (a := 1216) (r := 27) lC_19 (by decide +kernel)
theorem dk_1244 : decode code 1244 = .ok (.iconst 2, 1) := decG_ok (a := 1216) (r := 28) lC_19 (by decide +kernel)
theorem dk_1245 : decode code 1245 = .ok (.iadd, 1) := decG_ok (a := 1216) (r := 29) lC_19 (by decide +kernel)
theorem dk_1246 : decode code 1246 = .ok (.iaload, 1) := decG_ok (a := 1216) (r := 30) lC_19 (by decide +kernel)
theorem dk_1247 : decode code 1247 = .ok (.invokevirtual 145, 3) := decG_ok (a := 1216) (r := 31) lC_19 (by decide +kernel)
theorem dk_1250 : decode code 1250 = .ok (.pop, 1) := decG_ok (a := 1216) (r := 34) lC_19 (by decide +kernel)
theorem dk_1251 : decode code 1251 = .ok (.goto (1172), 3) := decG_ok (a := 1216) (r := 35) lC_19 (by decide +kernel)
theorem dk_1254 : decode code 1254 = .ok (.aload_n 1, 1) := decG_ok (a := 1216) (r := 38) lC_19 (by decide +kernel)
theorem dk_1255 : decode code 1255 = .ok (.invokevirtual 146, 3) := decG_ok (a := 1216) (r := 39) lC_19 (by decide +kernel)
theorem dk_1258 : decode code 1258 = .ok (.pop, 1) := decG_ok (a := 1216) (r := 42) lC_19 (by decide +kernel)
theorem dk_1259 : decode code 1259 = .ok (.aload_n 2, 1) := decG_ok (a := 1216) (r := 43) lC_19 (by decide +kernel)
theorem dk_1260 : decode code 1260 = .ok (.invokevirtual 149, 3) := decG_ok (a := 1216) (r := 44) lC_19 (by decide +kernel)
theorem dk_1263 : decode code 1263 = .ok (.pop, 1) := decG_ok (a := 1216) (r := 47) lC_19 (by decide +kernel)
theorem dk_1264 : decode code 1264 = .ok (.goto (1159), 3) := decG_ok (a := 1216) (r := 48) lC_19 (by decide +kernel)
theorem dk_1267 : decode code 1267 = .ok (.aload_n 1, 1) := decG_ok (a := 1216) (r := 51) lC_19 (by decide +kernel)
theorem dk_1268 : decode code 1268 = .ok (.aload_n 0, 1) := decG_ok (a := 1216) (r := 52) lC_19 (by decide +kernel)
theorem dk_1269 : decode code 1269 = .ok (.iload_n 3, 1) := decG_ok (a := 1216) (r := 53) lC_19 (by decide +kernel)
theorem dk_1270 : decode code 1270 = .ok (.iconst 1, 1) := decG_ok (a := 1216) (r := 54) lC_19 (by decide +kernel)
theorem dk_1271 : decode code 1271 = .ok (.iadd, 1) := decG_ok (a := 1216) (r := 55) lC_19 (by decide +kernel)
theorem dk_1272 : decode code 1272 = .ok (.iaload, 1) := decG_ok (a := 1216) (r := 56) lC_19 (by decide +kernel)
theorem dk_1273 : decode code 1273 = .ok (.aload_n 0, 1) := decG_ok (a := 1216) (r := 57) lC_19 (by decide +kernel)
theorem dk_1274 : decode code 1274 = .ok (.iload_n 3, 1) := decG_ok (a := 1216) (r := 58) lC_19 (by decide +kernel)
theorem dk_1275 : decode code 1275 = .ok (.iconst 2, 1) := decG_ok (a := 1216) (r := 59) lC_19 (by decide +kernel)
theorem dk_1276 : decode code 1276 = .ok (.iadd, 1) := decG_ok (a := 1216) (r := 60) lC_19 (by decide +kernel)
theorem dk_1277 : decode code 1277 = .ok (.iaload, 1) := decG_ok (a := 1216) (r := 61) lC_19 (by decide +kernel)
theorem dk_1278 : decode code 1278 = .ok (.invokevirtual 150, 3) := decG_ok (a := 1216) (r := 62) lC_19 (by decide +kernel)
theorem dk_1281 : decode code 1281 = .ok (.pop, 1) := decG_ok (a := 1280) (r := 1) lC_20 (by decide +kernel)
theorem dk_1282 : decode code 1282 = .ok (.aload_n 2, 1) := decG_ok (a := 1280) (r := 2) lC_20 (by decide +kernel)
theorem dk_1283 : decode code 1283 = .ok (.aload_n 0, 1) := decG_ok (a := 1280) (r := 3) lC_20 (by decide +kernel)
theorem dk_1284 : decode code 1284 = .ok (.iload_n 3, 1) := decG_ok (a := 1280) (r := 4) lC_20 (by decide +kernel)
theorem dk_1285 : decode code 1285 = .ok (.iconst 1, 1) := decG_ok (a := 1280) (r := 5) lC_20 (by decide +kernel)
theorem dk_1286 : decode code 1286 = .ok (.iadd, 1) := decG_ok (a := 1280) (r := 6) lC_20 (by decide +kernel)
theorem dk_1287 : decode code 1287 = .ok (.iaload, 1) := decG_ok (a := 1280) (r := 7) lC_20 (by decide +kernel)
theorem dk_1288 : decode code 1288 = .ok (.aload_n 0, 1) := decG_ok (a := 1280) (r := 8) lC_20 (by decide +kernel)
theorem dk_1289 : decode code 1289 = .ok (.iload_n 3, 1) := decG_ok (a := 1280) (r := 9) lC_20 (by decide +kernel)
theorem dk_1290 : decode code 1290 = .ok (.iconst 2, 1) := decG_ok (a := 1280) (r := 10) lC_20 (by decide +kernel)
theorem dk_1291 : decode code 1291 = .ok (.iadd, 1) := decG_ok (a := 1280) (r := 11) lC_20 (by decide +kernel)
theorem dk_1292 : decode code 1292 = .ok (.iaload, 1) := decG_ok (a := 1280) (r := 12) lC_20 (by decide +kernel)
theorem dk_1293 : decode code 1293 = .ok (.invokevirtual 153, 3) := decG_ok (a := 1280) (r := 13) lC_20 (by decide +kernel)
theorem dk_1296 : decode code 1296 = .ok (.pop, 1) := decG_ok (a := 1280) (r := 16) lC_20 (by decide +kernel)
theorem dk_1297 : decode code 1297 = .ok (.goto (1126), 3) := decG_ok (a := 1280) (r := 17) lC_20 (by decide +kernel)
theorem dk_1300 : decode code 1300 = .ok (.aload_n 1, 1) := decG_ok (a := 1280) (r := 20) lC_20 (by decide +kernel)
theorem dk_1301 : decode code 1301 = .ok (.aload_n 0, 1) := decG_ok (a := 1280) (r := 21) lC_20 (by decide +kernel)
theorem dk_1302 : decode code 1302 = .ok (.iload_n 3, 1) := decG_ok (a := 1280) (r := 22) lC_20 (by decide +kernel)
theorem dk_1303 : decode code 1303 = .ok (.iconst 1, 1) := decG_ok (a := 1280) (r := 23) lC_20 (by decide +kernel)
theorem dk_1304 : decode code 1304 = .ok (.iadd, 1) := decG_ok (a := 1280) (r := 24) lC_20 (by decide +kernel)
theorem dk_1305 : decode code 1305 = .ok (.iaload, 1) := decG_ok (a := 1280) (r := 25) lC_20 (by decide +kernel)
theorem dk_1306 : decode code 1306 = .ok (.aload_n 0, 1) := decG_ok (a := 1280) (r := 26) lC_20 (by decide +kernel)
theorem dk_1307 : decode code 1307 = .ok (.iload_n 3, 1) := decG_ok (a := 1280) (r := 27) lC_20 (by decide +kernel)
theorem dk_1308 : decode code 1308 = .ok (.iconst 2, 1) := decG_ok (a := 1280) (r := 28) lC_20 (by decide +kernel)
theorem dk_1309 : decode code 1309 = .ok (.iadd, 1) := decG_ok (a := 1280) (r := 29) lC_20 (by decide +kernel)
theorem dk_1310 : decode code 1310 = .ok (.iaload, 1) := decG_ok (a := 1280) (r := 30) lC_20 (by decide +kernel)
theorem dk_1311 : decode code 1311 = .ok (.invokevirtual 154, 3) := decG_ok (a := 1280) (r := 31) lC_20 (by decide +kernel)
theorem dk_1314 : decode code 1314 = .ok (.pop, 1) := decG_ok (a := 1280) (r := 34) lC_20 (by decide +kernel)
theorem dk_1315 : decode code 1315 = .ok (.aload_n 2, 1) := decG_ok (a := 1280) (r := 35) lC_20 (by decide +kernel)
theorem dk_1316 : decode code 1316 = .ok (.aload_n 0, 1) := decG_ok (a := 1280) (r := 36) lC_20 (by decide +kernel)
theorem dk_1317 : decode code 1317 = .ok (.iload_n 3, 1) := decG_ok (a := 1280) (r := 37) lC_20 (by decide +kernel)
theorem dk_1318 : decode code 1318 = .ok (.iconst 1, 1) := decG_ok (a := 1280) (r := 38) lC_20 (by decide +kernel)
theorem dk_1319 : decode code 1319 = .ok (.iadd, 1) := decG_ok (a := 1280) (r := 39) lC_20 (by decide +kernel)
theorem dk_1320 : decode code 1320 = .ok (.iaload, 1) := decG_ok (a := 1280) (r := 40) lC_20 (by decide +kernel)
theorem dk_1321 : decode code 1321 = .ok (.aload_n 0, 1) := decG_ok (a := 1280) (r := 41) lC_20 (by decide +kernel)
theorem dk_1322 : decode code 1322 = .ok (.iload_n 3, 1) := decG_ok (a := 1280) (r := 42) lC_20 (by decide +kernel)
theorem dk_1323 : decode code 1323 = .ok (.iconst 2, 1) := decG_ok (a := 1280) (r := 43) lC_20 (by decide +kernel)
theorem dk_1324 : decode code 1324 = .ok (.iadd, 1) := decG_ok (a := 1280) (r := 44) lC_20 (by decide +kernel)
theorem dk_1325 : decode code 1325 = .ok (.iaload, 1) := decG_ok (a := 1280) (r := 45) lC_20 (by decide +kernel)
theorem dk_1326 : decode code 1326 = .ok (.invokevirtual 157, 3) := decG_ok (a := 1280) (r := 46) lC_20 (by decide +kernel)
theorem dk_1329 : decode code 1329 = .ok (.pop, 1) := decG_ok (a := 1280) (r := 49) lC_20 (by decide +kernel)
theorem dk_1330 : decode code 1330 = .ok (.goto (1093), 3) := decG_ok (a := 1280) (r := 50) lC_20 (by decide +kernel)
theorem dk_1333 : decode code 1333 = .ok (.aload_n 1, 1) := decG_ok (a := 1280) (r := 53) lC_20 (by decide +kernel)
theorem dk_1334 : decode code 1334 = .ok (.aload_n 0, 1) := decG_ok (a := 1280) (r := 54) lC_20 (by decide +kernel)
theorem dk_1335 : decode code 1335 = .ok (.iload_n 3, 1) := decG_ok (a := 1280) (r := 55) lC_20 (by decide +kernel)
theorem dk_1336 : decode code 1336 = .ok (.iconst 1, 1) := decG_ok (a := 1280) (r := 56) lC_20 (by decide +kernel)
theorem dk_1337 : decode code 1337 = .ok (.iadd, 1) := decG_ok (a := 1280) (r := 57) lC_20 (by decide +kernel)
theorem dk_1338 : decode code 1338 = .ok (.iaload, 1) := decG_ok (a := 1280) (r := 58) lC_20 (by decide +kernel)
theorem dk_1339 : decode code 1339 = .ok (.aload_n 0, 1) := decG_ok (a := 1280) (r := 59) lC_20 (by decide +kernel)
theorem dk_1340 : decode code 1340 = .ok (.iload_n 3, 1) := decG_ok (a := 1280) (r := 60) lC_20 (by decide +kernel)
theorem dk_1341 : decode code 1341 = .ok (.iconst 2, 1) := decG_ok (a := 1280) (r := 61) lC_20 (by decide +kernel)
theorem dk_1342 : decode code 1342 = .ok (.iadd, 1) := decG_ok (a := 1280) (r := 62) lC_20 (by decide +kernel)
theorem dk_1343 : decode code 1343 = .ok (.iaload, 1) := decG_ok (a := 1280) (r := 63) lC_20 (by decide +kernel)
theorem dk_1344 : decode code 1344 = .ok (.invokevirtual 158, 3) := decG_ok (a := 1344) (r := 0) lC_21 (by decide +kernel)
theorem dk_1347 : decode code 1347 = .ok (.pop, 1) := decG_ok (a := 1344) (r := 3) lC_21 (by decide +kernel)
theorem dk_1348 : decode code 1348 = .ok (.aload_n 2, 1) := decG_ok (a := 1344) (r := 4) lC_21 (by decide +kernel)
theorem dk_1349 : decode code 1349 = .ok (.aload_n 0, 1) := decG_ok (a := 1344) (r := 5) lC_21 (by decide +kernel)
theorem dk_1350 : decode code 1350 = .ok (.iload_n 3, 1) := decG_ok (a := 1344) (r := 6) lC_21 (by decide +kernel)
theorem dk_1351 : decode code 1351 = .ok (.iconst 1, 1) := decG_ok (a := 1344) (r := 7) lC_21 (by decide +kernel)
theorem dk_1352 : decode code 1352 = .ok (.iadd, 1) := decG_ok (a := 1344) (r := 8) lC_21 (by decide +kernel)
theorem dk_1353 : decode code 1353 = .ok (.iaload, 1) := decG_ok (a := 1344) (r := 9) lC_21 (by decide +kernel)
theorem dk_1354 : decode code 1354 = .ok (.aload_n 0, 1) := decG_ok (a := 1344) (r := 10) lC_21 (by decide +kernel)
theorem dk_1355 : decode code 1355 = .ok (.iload_n 3, 1) := decG_ok (a := 1344) (r := 11) lC_21 (by decide +kernel)
theorem dk_1356 : decode code 1356 = .ok (.iconst 2, 1) := decG_ok (a := 1344) (r := 12) lC_21 (by decide +kernel)
theorem dk_1357 : decode code 1357 = .ok (.iadd, 1) := decG_ok (a := 1344) (r := 13) lC_21 (by decide +kernel)
theorem dk_1358 : decode code 1358 = .ok (.iaload, 1) := decG_ok (a := 1344) (r := 14) lC_21 (by decide +kernel)
theorem dk_1359 : decode code 1359 = .ok (.invokevirtual 161, 3) := decG_ok (a := 1344) (r := 15) lC_21 (by decide +kernel)
theorem dk_1362 : decode code 1362 = .ok (.pop, 1) := decG_ok (a := 1344) (r := 18) lC_21 (by decide +kernel)
theorem dk_1363 : decode code 1363 = .ok (.goto (1060), 3) := decG_ok (a := 1344) (r := 19) lC_21 (by decide +kernel)
theorem dk_1366 : decode code 1366 = .ok (.aload_n 1, 1) := decG_ok (a := 1344) (r := 22) lC_21 (by decide +kernel)
theorem dk_1367 : decode code 1367 = .ok (.aload_n 0, 1) := decG_ok (a := 1344) (r := 23) lC_21 (by decide +kernel)
theorem dk_1368 : decode code 1368 = .ok (.iload_n 3, 1) := decG_ok (a := 1344) (r := 24) lC_21 (by decide +kernel)
theorem dk_1369 : decode code 1369 = .ok (.iconst 1, 1) := decG_ok (a := 1344) (r := 25) lC_21 (by decide +kernel)
theorem dk_1370 : decode code 1370 = .ok (.iadd, 1) := decG_ok (a := 1344) (r := 26) lC_21 (by decide +kernel)
theorem dk_1371 : decode code 1371 = .ok (.iaload, 1) := decG_ok (a := 1344) (r := 27) lC_21 (by decide +kernel)
theorem dk_1372 : decode code 1372 = .ok (.aload_n 0, 1) := decG_ok (a := 1344) (r := 28) lC_21 (by decide +kernel)
theorem dk_1373 : decode code 1373 = .ok (.iload_n 3, 1) := decG_ok (a := 1344) (r := 29) lC_21 (by decide +kernel)
theorem dk_1374 : decode code 1374 = .ok (.iconst 2, 1) := decG_ok (a := 1344) (r := 30) lC_21 (by decide +kernel)
theorem dk_1375 : decode code 1375 = .ok (.iadd, 1) := decG_ok (a := 1344) (r := 31) lC_21 (by decide +kernel)
theorem dk_1376 : decode code 1376 = .ok (.iaload, 1) := decG_ok (a := 1344) (r := 32) lC_21 (by decide +kernel)
theorem dk_1377 : decode code 1377 = .ok (.invokevirtual 162, 3) := decG_ok (a := 1344) (r := 33) lC_21 (by decide +kernel)
theorem dk_1380 : decode code 1380 = .ok (.pop, 1) := decG_ok (a := 1344) (r := 36) lC_21 (by decide +kernel)
theorem dk_1381 : decode code 1381 = .ok (.aload_n 2, 1) := decG_ok (a := 1344) (r := 37) lC_21 (by decide +kernel)
theorem dk_1382 : decode code 1382 = .ok (.aload_n 0, 1) := decG_ok (a := 1344) (r := 38) lC_21 (by decide +kernel)
theorem dk_1383 : decode code 1383 = .ok (.iload_n 3, 1) := decG_ok (a := 1344) (r := 39) lC_21 (by decide +kernel)
theorem dk_1384 : decode code 1384 = .ok (.iconst 1, 1) := decG_ok (a := 1344) (r := 40) lC_21 (by decide +kernel)
theorem dk_1385 : decode code 1385 = .ok (.iadd, 1) := decG_ok (a := 1344) (r := 41) lC_21 (by decide +kernel)
theorem dk_1386 : decode code 1386 = .ok (.iaload, 1) := decG_ok (a := 1344) (r := 42) lC_21 (by decide +kernel)
end
section
theorem dk_1387 : decode code 1387 = .ok (.aload_n 0, 1) := decG_ok (a := 1344) (r := 43) lC_21 (by decide +kernel)
theorem dk_1388 : decode code 1388 = .ok (.iload_n 3, 1) := decG_ok (a := 1344) (r := 44) lC_21 (by decide +kernel)
theorem dk_1389 : decode code 1389 = .ok (.iconst 2, 1) := decG_ok (a := 1344) (r := 45) lC_21 (by decide +kernel)
theorem dk_1390 : decode code 1390 = .ok (.iadd, 1) := decG_ok (a := 1344) (r := 46) lC_21 (by decide +kernel)
theorem dk_1391 : decode code 1391 = .ok (.iaload, 1) := decG_ok (a := 1344) (r := 47) lC_21 (by decide +kernel)
theorem dk_1392 : decode code 1392 = .ok (.invokevirtual 165, 3) := decG_ok (a := 1344) (r := 48) lC_21 (by decide +kernel)
theorem dk_1395 : decode code 1395 = .ok (.pop, 1) := decG_ok (a := 1344) (r := 51) lC_21 (by decide +kernel)
theorem dk_1396 : decode code 1396 = .ok (.goto (1027), 3) := decG_ok (a := 1344) (r := 52) lC_21 (by decide +kernel)
theorem dk_1399 : decode code 1399 = .ok (.aload_n 1, 1) := decG_ok (a := 1344) (r := 55) lC_21 (by decide +kernel)
theorem dk_1400 : decode code 1400 = .ok (.aload_n 0, 1) := decG_ok (a := 1344) (r := 56) lC_21 (by decide +kernel)
theorem dk_1401 : decode code 1401 = .ok (.iload_n 3, 1) := decG_ok (a := 1344) (r := 57) lC_21 (by decide +kernel)
theorem dk_1402 : decode code 1402 = .ok (.iconst 1, 1) := decG_ok (a := 1344) (r := 58) lC_21 (by decide +kernel)
theorem dk_1403 : decode code 1403 = .ok (.iadd, 1) := decG_ok (a := 1344) (r := 59) lC_21 (by decide +kernel)
theorem dk_1404 : decode code 1404 = .ok (.iaload, 1) := decG_ok (a := 1344) (r := 60) lC_21 (by decide +kernel)
theorem dk_1405 : decode code 1405 = .ok (.aload_n 0, 1) := decG_ok (a := 1344) (r := 61) lC_21 (by decide +kernel)
theorem dk_1406 : decode code 1406 = .ok (.iload_n 3, 1) := decG_ok (a := 1344) (r := 62) lC_21 (by decide +kernel)
theorem dk_1407 : decode code 1407 = .ok (.iconst 2, 1) := decG_ok (a := 1344) (r := 63) lC_21 (by decide +kernel)
theorem dk_1408 : decode code 1408 = .ok (.iadd, 1) := decG_ok (a := 1408) (r := 0) lC_22 (by decide +kernel)
theorem dk_1409 : decode code 1409 = .ok (.iaload, 1) := decG_ok (a := 1408) (r := 1) lC_22 (by decide +kernel)
theorem dk_1410 : decode code 1410 = .ok (.aload_n 0, 1) := decG_ok (a := 1408) (r := 2) lC_22 (by decide +kernel)
theorem dk_1411 : decode code 1411 = .ok (.iload_n 3, 1) := decG_ok (a := 1408) (r := 3) lC_22 (by decide +kernel)
theorem dk_1412 : decode code 1412 = .ok (.iconst 3, 1) := decG_ok (a := 1408) (r := 4) lC_22 (by decide +kernel)
theorem dk_1413 : decode code 1413 = .ok (.iadd, 1) := decG_ok (a := 1408) (r := 5) lC_22 (by decide +kernel)
theorem dk_1414 : decode code 1414 = .ok (.iaload, 1) := decG_ok (a := 1408) (r := 6) lC_22 (by decide +kernel)
theorem dk_1415 : decode code 1415 = .ok (.aload_n 0, 1) := decG_ok (a := 1408) (r := 7) lC_22 (by decide +kernel)
theorem dk_1416 : decode code 1416 = .ok (.iload_n 3, 1) := decG_ok (a := 1408) (r := 8) lC_22 (by decide +kernel)
theorem dk_1417 : decode code 1417 = .ok (.iconst 4, 1) := decG_ok (a := 1408) (r := 9) lC_22 (by decide +kernel)
theorem dk_1418 : decode code 1418 = .ok (.iadd, 1) := decG_ok (a := 1408) (r := 10) lC_22 (by decide +kernel)
theorem dk_1419 : decode code 1419 = .ok (.iaload, 1) := decG_ok (a := 1408) (r := 11) lC_22 (by decide +kernel)
theorem dk_1420 : decode code 1420 = .ok (.invokevirtual 166, 3) := decG_ok (a := 1408) (r := 12) lC_22 (by decide +kernel)
theorem dk_1423 : decode code 1423 = .ok (.pop, 1) := decG_ok (a := 1408) (r := 15) lC_22 (by decide +kernel)
theorem dk_1424 : decode code 1424 = .ok (.aload_n 2, 1) := decG_ok (a := 1408) (r := 16) lC_22 (by decide +kernel)
theorem dk_1425 : decode code 1425 = .ok (.aload_n 0, 1) := decG_ok (a := 1408) (r := 17) lC_22 (by decide +kernel)
theorem dk_1426 : decode code 1426 = .ok (.iload_n 3, 1) := decG_ok (a := 1408) (r := 18) lC_22 (by decide +kernel)
theorem dk_1427 : decode code 1427 = .ok (.iconst 1, 1) := decG_ok (a := 1408) (r := 19) lC_22 (by decide +kernel)
theorem dk_1428 : decode code 1428 = .ok (.iadd, 1) := decG_ok (a := 1408) (r := 20) lC_22 (by decide +kernel)
theorem dk_1429 : decode code 1429 = .ok (.iaload, 1) := decG_ok (a := 1408) (r := 21) lC_22 (by decide +kernel)
theorem dk_1430 : decode code 1430 = .ok (.aload_n 0, 1) := decG_ok (a := 1408) (r := 22) lC_22 (by decide +kernel)
theorem dk_1431 : decode code 1431 = .ok (.iload_n 3, 1) := decG_ok (a := 1408) (r := 23) lC_22 (by decide +kernel)
theorem dk_1432 : decode code 1432 = .ok (.iconst 2, 1) := decG_ok (a := 1408) (r := 24) lC_22 (by decide +kernel)
theorem dk_1433 : decode code 1433 = .ok (.iadd, 1) := decG_ok (a := 1408) (r := 25) lC_22 (by decide +kernel)
theorem dk_1434 : decode code 1434 = .ok (.iaload, 1) := decG_ok (a := 1408) (r := 26) lC_22 (by decide +kernel)
theorem dk_1435 : decode code 1435 = .ok (.aload_n 0, 1) := decG_ok (a := 1408) (r := 27) lC_22 (by decide +kernel)
theorem dk_1436 : decode code 1436 = .ok (.iload_n 3, 1) := decG_ok (a := 1408) (r := 28) lC_22 (by decide +kernel)
theorem dk_1437 : decode code 1437 = .ok (.iconst 3, 1) := decG_ok (a := 1408) (r := 29) lC_22 (by decide +kernel)
theorem dk_1438 : decode code 1438 = .ok (.iadd, 1) := decG_ok (a := 1408) (r := 30) lC_22 (by decide +kernel)
theorem dk_1439 : decode code 1439 = .ok (.iaload, 1) := decG_ok (a := 1408) (r := 31) lC_22 (by decide +kernel)
theorem dk_1440 : decode code 1440 = .ok (.aload_n 0, 1) := decG_ok (a := 1408) (r := 32) lC_22 (by decide +kernel)
theorem dk_1441 : decode code 1441 = .ok (.iload_n 3, 1) := decG_ok (a := 1408) (r := 33) lC_22 (by decide +kernel)
theorem dk_1442 : decode code 1442 = .ok (.iconst 4, 1) := decG_ok (a := 1408) (r := 34) lC_22 (by decide +kernel)
theorem dk_1443 : decode code 1443 = .ok (.iadd, 1) := decG_ok (a := 1408) (r := 35) lC_22 (by decide +kernel)
theorem dk_1444 : decode code 1444 = .ok (.iaload, 1) := decG_ok (a := 1408) (r := 36) lC_22 (by decide +kernel)
theorem dk_1445 : decode code 1445 = .ok (.invokevirtual 170, 3) := decG_ok (a := 1408) (r := 37) lC_22 (by decide +kernel)
theorem dk_1448 : decode code 1448 = .ok (.pop, 1) := decG_ok (a := 1408) (r := 40) lC_22 (by decide +kernel)
theorem dk_1449 : decode code 1449 = .ok (.goto (974), 3) := decG_ok (a := 1408) (r := 41) lC_22 (by decide +kernel)
theorem dk_1452 : decode code 1452 = .ok (.aload_n 1, 1) := decG_ok (a := 1408) (r := 44) lC_22 (by decide +kernel)
theorem dk_1453 : decode code 1453 = .ok (.invokevirtual 171, 3) := decG_ok (a := 1408) (r := 45) lC_22 (by decide +kernel)
theorem dk_1456 : decode code 1456 = .ok (.pop, 1) := decG_ok (a := 1408) (r := 48) lC_22 (by decide +kernel)
theorem dk_1457 : decode code 1457 = .ok (.aload_n 2, 1) := decG_ok (a := 1408) (r := 49) lC_22 (by decide +kernel)
theorem dk_1458 : decode code 1458 = .ok (.invokevirtual 174, 3) := decG_ok (a := 1408) (r := 50) lC_22 (by decide +kernel)
theorem dk_1461 : decode code 1461 = .ok (.pop, 1) := decG_ok (a := 1408) (r := 53) lC_22 (by decide +kernel)
theorem dk_1462 : decode code 1462 = .ok (.goto (961), 3) := decG_ok (a := 1408) (r := 54) lC_22 (by decide +kernel)
theorem dk_1465 : decode code 1465 = .ok (.aload_n 1, 1) := decG_ok (a := 1408) (r := 57) lC_22 (by decide +kernel)
theorem dk_1466 : decode code 1466 = .ok (.aload_n 0, 1) := decG_ok (a := 1408) (r := 58) lC_22 (by decide +kernel)
theorem dk_1467 : decode code 1467 = .ok (.iload_n 3, 1) := decG_ok (a := 1408) (r := 59) lC_22 (by decide +kernel)
theorem dk_1468 : decode code 1468 = .ok (.iconst 1, 1) := decG_ok (a := 1408) (r := 60) lC_22 (by decide +kernel)
theorem dk_1469 : decode code 1469 = .ok (.iadd, 1) := decG_ok (a := 1408) (r := 61) lC_22 (by decide +kernel)
theorem dk_1470 : decode code 1470 = .ok (.iaload, 1) := decG_ok (a := 1408) (r := 62) lC_22 (by decide +kernel)
theorem dk_1471 : decode code 1471 = .ok (.aload_n 0, 1) := decG_ok (a := 1408) (r := 63) lC_22 (by decide +kernel)
theorem dk_1472 : decode code 1472 = .ok (.iload_n 3, 1) := decG_ok (a := 1472) (r := 0) lC_23 (by decide +kernel)
theorem dk_1473 : decode code 1473 = .ok (.iconst 2, 1) := decG_ok (a := 1472) (r := 1) lC_23 (by decide +kernel)
theorem dk_1474 : decode code 1474 = .ok (.iadd, 1) := decG_ok (a := 1472) (r := 2) lC_23 (by decide +kernel)
theorem dk_1475 : decode code 1475 = .ok (.iaload, 1) := decG_ok (a := 1472) (r := 3) lC_23 (by decide +kernel)
theorem dk_1476 : decode code 1476 = .ok (.aload_n 0, 1) := decG_ok (a := 1472) (r := 4) lC_23 (by decide +kernel)
theorem dk_1477 : decode code 1477 = .ok (.iload_n 3, 1) := decG_ok (a := 1472) (r := 5) lC_23 (by decide +kernel)
theorem dk_1478 : decode code 1478 = .ok (.iconst 3, 1) := decG_ok (a := 1472) (r := 6) lC_23 (by decide +kernel)
theorem dk_1479 : decode code 1479 = .ok (.iadd, 1) := decG_ok (a := 1472) (r := 7) lC_23 (by decide +kernel)
theorem dk_1480 : decode code 1480 = .ok (.iaload, 1) := decG_ok (a := 1472) (r := 8) lC_23 (by decide +kernel)
theorem dk_1481 : decode code 1481 = .ok (.invokevirtual 175, 3) := decG_ok (a := 1472) (r := 9) lC_23 (by decide +kernel)
theorem dk_1484 : decode code 1484 = .ok (.pop, 1) := decG_ok (a := 1472) (r := 12) lC_23 (by decide +kernel)
theorem dk_1485 : decode code 1485 = .ok (.aload_n 2, 1) := decG_ok (a := 1472) (r := 13) lC_23 (by decide +kernel)
theorem dk_1486 : decode code 1486 = .ok (.aload_n 0, 1) := decG_ok (a := 1472) (r := 14) lC_23 (by decide +kernel)
theorem dk_1487 : decode code 1487 = .ok (.iload_n 3, 1) := decG_ok (a := 1472) (r := 15) lC_23 (by decide +kernel)
theorem dk_1488 : decode code 1488 = .ok (.iconst 1, 1) := decG_ok (a := 1472) (r := 16) lC_23 (by decide +kernel)
theorem dk_1489 : decode code 1489 = .ok (.iadd, 1) := decG_ok (a := 1472) (r := 17) lC_23 (by decide +kernel)
theorem dk_1490 : decode code 1490 = .ok (.iaload, 1) := decG_ok (a := 1472) (r := 18) lC_23 (by decide +kernel)
theorem dk_1491 : decode code 1491 = .ok (.aload_n 0, 1) := decG_ok (a := 1472) (r := 19) lC_23 (by decide +kernel)
theorem dk_1492 : decode code 1492 = .ok (.iload_n 3, 1) := decG_ok (a := 1472) (r := 20) lC_23 (by decide +kernel)
theorem dk_1493 : decode code 1493 = .ok (.iconst 2, 1) := decG_ok (a := 1472) (r := 21) lC_23 (by decide +kernel)
theorem dk_1494 : decode code 1494 = .ok (.iadd, 1) := decG_ok (a := 1472) (r := 22) lC_23 (by decide +kernel)
theorem dk_1495 : decode code 1495 = .ok (.iaload, 1) := decG_ok (a := 1472) (r := 23) lC_23 (by decide +kernel)
theorem dk_1496 : decode code 1496 = .ok (.aload_n 0, 1) := decG_ok (a := 1472) (r := 24) lC_23 (by decide +kernel)
theorem dk_1497 : decode code 1497 = .ok (.iload_n 3, 1) := decG_ok (a := 1472) (r := 25) lC_23 (by decide +kernel)
theorem dk_1498 : decode code 1498 = .ok (.iconst 3, 1) := decG_ok (a := 1472) (r := 26) lC_23 (by decide +kernel)
theorem dk_1499 : decode code 1499 = .ok (.iadd, 1) := decG_ok (a := 1472) (r := 27) lC_23 (by decide +kernel)
theorem dk_1500 : decode code 1500 = .ok (.iaload, 1) := decG_ok (a := 1472) (r := 28) lC_23 (by decide +kernel)
theorem dk_1501 : decode code 1501 = .ok (.invokevirtual 178, 3) := decG_ok (a := 1472) (r := 29) lC_23 (by decide +kernel)
theorem dk_1504 : decode code 1504 = .ok (.pop, 1) := decG_ok (a := 1472) (r := 32) lC_23 (by decide +kernel)
theorem dk_1505 : decode code 1505 = .ok (.goto (918), 3) := decG_ok (a := 1472) (r := 33) lC_23 (by decide +kernel)
theorem dk_1508 : decode code 1508 = .ok (.aload_n 1, 1) := decG_ok (a := 1472) (r := 36) lC_23 (by decide +kernel)
theorem dk_1509 : decode code 1509 = .ok (.aload_n 0, 1) := decG_ok (a := 1472) (r := 37) lC_23 (by decide +kernel)
theorem dk_1510 : decode code 1510 = .ok (.iload_n 3, 1) := decG_ok (a := 1472) (r := 38) lC_23 (by decide +kernel)
theorem dk_1511 : decode code 1511 = .ok (.iconst 1, 1) := decG_ok (a := 1472) (r := 39) lC_23 (by decide +kernel)
theorem dk_1512 : decode code 1512 = .ok (.iadd, 1) := decG_ok (a := 1472) (r := 40) lC_23 (by decide +kernel)
theorem dk_1513 : decode code 1513 = .ok (.iaload, 1) := decG_ok (a := 1472) (r := 41) lC_23 (by decide +kernel)
theorem dk_1514 : decode code 1514 = .ok (.aload_n 0, 1) := decG_ok (a := 1472) (r := 42) lC_23 (by decide +kernel)
theorem dk_1515 : decode code 1515 = .ok (.iload_n 3, 1) := decG_ok (a := 1472) (r := 43) lC_23 (by decide +kernel)
theorem dk_1516 : decode code 1516 = .ok (.iconst 2, 1) := decG_ok (a := 1472) (r := 44) lC_23 (by decide +kernel)
theorem dk_1517 : decode code 1517 = .ok (.iadd, 1) := decG_ok (a := 1472) (r := 45) lC_23 (by decide +kernel)
theorem dk_1518 : decode code 1518 = .ok (.iaload, 1) := decG_ok (a := 1472) (r := 46) lC_23 (by decide +kernel)
theorem dk_1519 : decode code 1519 = .ok (.aload_n 0, 1) := decG_ok (a := 1472) (r := 47) lC_23 (by decide +kernel)
theorem dk_1520 : decode code 1520 = .ok (.iload_n 3, 1) := decG_ok (a := 1472) (r := 48) lC_23 (by decide +kernel)
theorem dk_1521 : decode code 1521 = .ok (.iconst 3, 1) := decG_ok (a := 1472) (r := 49) lC_23 (by decide +kernel)
theorem dk_1522 : decode code 1522 = .ok (.iadd, 1) := decG_ok (a := 1472) (r := 50) lC_23 (by decide +kernel)
theorem dk_1523 : decode code 1523 = .ok (.iaload, 1) := decG_ok (a := 1472) (r := 51) lC_23 (by decide +kernel)
theorem dk_1524 : decode code 1524 = .ok (.invokevirtual 179, 3) := decG_ok (a := 1472) (r := 52) lC_23 (by decide +kernel)
theorem dk_1527 : decode code 1527 = .ok (.pop, 1) := decG_ok (a := 1472) (r := 55) lC_23 (by decide +kernel)
theorem dk_1528 : decode code 1528 = .ok (.aload_n 2, 1) := decG_ok (a := 1472) (r := 56) lC_23 (by decide +kernel)
theorem dk_1529 : decode code 1529 = .ok (.aload_n 0, 1) := decG_ok (a := 1472) (r := 57) lC_23 (by decide +kernel)
theorem dk_1530 : decode code 1530 = .ok (.iload_n 3, 1) := decG_ok (a := 1472) (r := 58) lC_23 (by decide +kernel)
theorem dk_1531 : decode code 1531 = .ok (.iconst 1, 1) := decG_ok (a := 1472) (r := 59) lC_23 (by decide +kernel)
theorem dk_1532 : decode code 1532 = .ok (.iadd, 1) := decG_ok (a := 1472) (r := 60) lC_23 (by decide +kernel)
theorem dk_1533 : decode code 1533 = .ok (.iaload, 1) := decG_ok (a := 1472) (r := 61) lC_23 (by decide +kernel)
theorem dk_1534 : decode code 1534 = .ok (.aload_n 0, 1) := decG_ok (a := 1472) (r := 62) lC_23 (by decide +kernel)
theorem dk_1535 : decode code 1535 = .ok (.iload_n 3, 1) := decG_ok (a := 1472) (r := 63) lC_23 (by decide +kernel)
theorem dk_1536 : decode code 1536 = .ok (.iconst 2, 1) := decG_ok (a := 1536) (r := 0) lC_24 (by decide +kernel)
theorem dk_1537 : decode code 1537 = .ok (.iadd, 1) := decG_ok (a := 1536) (r := 1) lC_24 (by decide +kernel)
theorem dk_1538 : decode code 1538 = .ok (.iaload, 1) := decG_ok (a := 1536) (r := 2) lC_24 (by decide +kernel)
theorem dk_1539 : decode code 1539 = .ok (.aload_n 0, 1) := decG_ok (a := 1536) (r := 3) lC_24 (by decide +kernel)
theorem dk_1540 : decode code 1540 = .ok (.iload_n 3, 1) := decG_ok (a := 1536) (r := 4) lC_24 (by decide +kernel)
theorem dk_1541 : decode code 1541 = .ok (.iconst 3, 1) := decG_ok (a := 1536) (r := 5) lC_24 (by decide +kernel)
theorem dk_1542 : decode code 1542 = .ok (.iadd, 1) := decG_ok (a := 1536) (r := 6) lC_24 (by decide +kernel)
theorem dk_1543 : decode code 1543 = .ok (.iaload, 1) := decG_ok (a := 1536) (r := 7) lC_24 (by decide +kernel)
theorem dk_1544 : decode code 1544 = .ok (.invokevirtual 182, 3) := decG_ok (a := 1536) (r := 8) lC_24 (by decide +kernel)
theorem dk_1547 : decode code 1547 = .ok (.pop, 1) := decG_ok (a := 1536) (r := 11) lC_24 (by decide +kernel)
theorem dk_1548 : decode code 1548 = .ok (.goto (875), 3) := decG_ok (a := 1536) (r := 12) lC_24 (by decide +kernel)
theorem dk_1551 : decode code 1551 = .ok (.aload_n 1, 1) := decG_ok (a := 1536) (r := 15) lC_24 (by decide +kernel)
theorem dk_1552 : decode code 1552 = .ok (.aload_n 0, 1) := decG_ok (a := 1536) (r := 16) lC_24 (by decide +kernel)
theorem dk_1553 : decode code 1553 = .ok (.iload_n 3, 1) := decG_ok (a := 1536) (r := 17) lC_24 (by decide +kernel)
theorem dk_1554 : decode code 1554 = .ok (.iconst 1, 1) := decG_ok (a := 1536) (r := 18) lC_24 (by decide +kernel)
theorem dk_1555 : decode code 1555 = .ok (.iadd, 1) := decG_ok (a := 1536) (r := 19) lC_24 (by decide +kernel)
theorem dk_1556 : decode code 1556 = .ok (.iaload, 1) := decG_ok (a := 1536) (r := 20) lC_24 (by decide +kernel)
theorem dk_1557 : decode code 1557 = .ok (.aload_n 0, 1) := decG_ok (a := 1536) (r := 21) lC_24 (by decide +kernel)
theorem dk_1558 : decode code 1558 = .ok (.iload_n 3, 1) := decG_ok (a := 1536) (r := 22) lC_24 (by decide +kernel)
theorem dk_1559 : decode code 1559 = .ok (.iconst 2, 1) := decG_ok (a := 1536) (r := 23) lC_24 (by decide +kernel)
theorem dk_1560 : decode code 1560 = .ok (.iadd, 1) := decG_ok (a := 1536) (r := 24) lC_24 (by decide +kernel)
theorem dk_1561 : decode code 1561 = .ok (.iaload, 1) := decG_ok (a := 1536) (r := 25) lC_24 (by decide +kernel)
theorem dk_1562 : decode code 1562 = .ok (.invokevirtual 183, 3) := decG_ok (a := 1536) (r := 26) lC_24 (by decide +kernel)
theorem dk_1565 : decode code 1565 = .ok (.pop, 1) := decG_ok (a := 1536) (r := 29) lC_24 (by decide +kernel)
theorem dk_1566 : decode code 1566 = .ok (.aload_n 2, 1) := decG_ok (a := 1536) (r := 30) lC_24 (by decide +kernel)
theorem dk_1567 : decode code 1567 = .ok (.aload_n 0, 1) := decG_ok (a := 1536) (r := 31) lC_24 (by decide +kernel)
theorem dk_1568 : decode code 1568 = .ok (.iload_n 3, 1) := decG_ok (a := 1536) (r := 32) lC_24 (by decide +kernel)
theorem dk_1569 : decode code 1569 = .ok (.iconst 1, 1) := decG_ok (a := 1536) (r := 33) lC_24 (by decide +kernel)
theorem dk_1570 : decode code 1570 = .ok (.iadd, 1) := decG_ok (a := 1536) (r := 34) lC_24 (by decide +kernel)
theorem dk_1571 : decode code 1571 = .ok (.iaload, 1) := decG_ok (a := 1536) (r := 35) lC_24 (by decide +kernel)
theorem dk_1572 : decode code 1572 = .ok (.aload_n 0, 1) := decG_ok (a := 1536) (r := 36) lC_24 (by decide +kernel)
theorem dk_1573 : decode code 1573 = .ok (.iload_n 3, 1) := decG_ok (a := 1536) (r := 37) lC_24 (by decide +kernel)
theorem dk_1574 : decode code 1574 = .ok (.iconst 2, 1) := decG_ok (a := 1536) (r := 38) lC_24 (by decide +kernel)
theorem dk_1575 : decode code 1575 = .ok (.iadd, 1) := decG_ok (a := 1536) (r := 39) lC_24 (by decide +kernel)
theorem dk_1576 : decode code 1576 = .ok (.iaload, 1) := decG_ok (a := 1536) (r := 40) lC_24 (by decide +kernel)
theorem dk_1577 : decode code 1577 = .ok (.invokevirtual 186, 3) := decG_ok (a := 1536) (r := 41) lC_24 (by decide +kernel)
theorem dk_1580 : decode code 1580 = .ok (.pop, 1) := decG_ok (a := 1536) (r := 44) lC_24 (by decide +kernel)
theorem dk_1581 : decode code 1581 = .ok (.goto (842), 3) := decG_ok (a := 1536) (r := 45) lC_24 (by decide +kernel)
theorem dk_1584 : decode code 1584 = .ok (.aload_n 1, 1) := decG_ok (a := 1536) (r := 48) lC_24 (by decide +kernel)
theorem dk_1585 : decode code 1585 = .ok (.aload_n 0, 1) := decG_ok (a := 1536) (r := 49) lC_24 (by decide +kernel)
theorem dk_1586 : decode code 1586 = .ok (.iload_n 3, 1) := decG_ok (a := 1536) (r := 50) lC_24 (by decide +kernel)
theorem dk_1587 : decode code 1587 = .ok (.iconst 1, 1) := decG_ok (a := 1536) (r := 51) lC_24 (by decide +kernel)
theorem dk_1588 : decode code 1588 = .ok (.iadd, 1) := decG_ok (a := 1536) (r := 52) lC_24 (by decide +kernel)
theorem dk_1589 : decode code 1589 = .ok (.iaload, 1) := decG_ok (a := 1536) (r := 53) lC_24 (by decide +kernel)
theorem dk_1590 : decode code 1590 = .ok (.aload_n 0, 1) := decG_ok (a := 1536) (r := 54) lC_24 (by decide +kernel)
theorem dk_1591 : decode code 1591 = .ok (.iload_n 3, 1) := decG_ok (a := 1536) (r := 55) lC_24 (by decide +kernel)
theorem dk_1592 : decode code 1592 = .ok (.iconst 2, 1) := decG_ok (a := 1536) (r := 56) lC_24 (by decide +kernel)
theorem dk_1593 : decode code 1593 = .ok (.iadd, 1) := decG_ok (a := 1536) (r := 57) lC_24 (by decide +kernel)
theorem dk_1594 : decode code 1594 = .ok (.iaload, 1) := decG_ok (a := 1536) (r := 58) lC_24 (by decide +kernel)
theorem dk_1595 : decode code 1595 = .ok (.invokevirtual 187, 3) := decG_ok (a := 1536) (r := 59) lC_24 (by decide +kernel)
theorem dk_1598 : decode code 1598 = .ok (.pop, 1) := decG_ok (a := 1536) (r := 62) lC_24 (by decide +kernel)
theorem dk_1599 : decode code 1599 = .ok (.aload_n 2, 1) := decG_ok (a := 1536) (r := 63) lC_24 (by decide +kernel)
theorem dk_1600 : decode code 1600 = .ok (.aload_n 0, 1) := decG_ok (a := 1600) (r := 0) lC_25 (by decide +kernel)
theorem dk_1601 : decode code 1601 = .ok (.iload_n 3, 1) := decG_ok (a := 1600) (r := 1) lC_25 (by decide +kernel)
theorem dk_1602 : decode code 1602 = .ok (.iconst 1, 1) := decG_ok (a := 1600) (r := 2) lC_25 (by decide +kernel)
theorem dk_1603 : decode code 1603 = .ok (.iadd, 1) := decG_ok (a := 1600) (r := 3) lC_25 (by decide +kernel)
theorem dk_1604 : decode code 1604 = .ok (.iaload, 1) := decG_ok (a := 1600) (r := 4) lC_25 (by decide +kernel)
theorem dk_1605 : decode code 1605 = .ok (.aload_n 0, 1) := decG_ok (a := 1600) (r := 5) lC_25 (by decide +kernel)
theorem dk_1606 : decode code 1606 = .ok (.iload_n 3, 1) := decG_ok (a := 1600) (r := 6) lC_25 (by decide +kernel)
theorem dk_1607 : decode code 1607 = .ok (.iconst 2, 1) := decG_ok (a := 1600) (r := 7) lC_25 (by decide +kernel)
theorem dk_1608 : decode code 1608 = .ok (.iadd, 1) := decG_ok (a := 1600) (r := 8) lC_25 (by decide +kernel)
theorem dk_1609 : decode code 1609 = .ok (.iaload, 1) := decG_ok (a := 1600) (r := 9) lC_25 (by decide +kernel)
theorem dk_1610 : decode code 1610 = .ok (.invokevirtual 190, 3) := decG_ok (a := 1600) (r := 10) lC_25 (by decide +kernel)
theorem dk_1613 : decode code 1613 = .ok (.pop, 1) := decG_ok (a := 1600) (r := 13) lC_25 (by decide +kernel)
theorem dk_1614 : decode code 1614 = .ok (.goto (809), 3) := decG_ok (a := 1600) (r := 14) lC_25 (by decide +kernel)
theorem dk_1617 : decode code 1617 = .ok (.aload_n 1, 1) := decG_ok (a := 1600) (r := 17) lC_25 (by decide +kernel)
theorem dk_1618 : decode code 1618 = .ok (.aload_n 0, 1) := decG_ok (a := 1600) (r := 18) lC_25 (by decide +kernel)
theorem dk_1619 : decode code 1619 = .ok (.iload_n 3, 1) := decG_ok (a := 1600) (r := 19) lC_25 (by decide +kernel)
theorem dk_1620 : decode code 1620 = .ok (.iconst 1, 1) := decG_ok (a := 1600) (r := 20) lC_25 (by decide +kernel)
theorem dk_1621 : decode code 1621 = .ok (.iadd, 1) := decG_ok (a := 1600) (r := 21) lC_25 (by decide +kernel)
theorem dk_1622 : decode code 1622 = .ok (.iaload, 1) := decG_ok (a := 1600) (r := 22) lC_25 (by decide +kernel)
theorem dk_1623 : decode code 1623 = .ok (.aload_n 0, 1) := decG_ok (a := 1600) (r := 23) lC_25 (by decide +kernel)
theorem dk_1624 : decode code 1624 = .ok (.iload_n 3, 1) := decG_ok (a := 1600) (r := 24) lC_25 (by decide +kernel)
theorem dk_1625 : decode code 1625 = .ok (.iconst 2, 1) := decG_ok (a := 1600) (r := 25) lC_25 (by decide +kernel)
theorem dk_1626 : decode code 1626 = .ok (.iadd, 1) := decG_ok (a := 1600) (r := 26) lC_25 (by decide +kernel)
theorem dk_1627 : decode code 1627 = .ok (.iaload, 1) := decG_ok (a := 1600) (r := 27) lC_25 (by decide +kernel)
theorem dk_1628 : decode code 1628 = .ok (.aload_n 0, 1) := decG_ok (a := 1600) (r := 28) lC_25 (by decide +kernel)
theorem dk_1629 : decode code 1629 = .ok (.iload_n 3, 1) := decG_ok (a := 1600) (r := 29) lC_25 (by decide +kernel)
theorem dk_1630 : decode code 1630 = .ok (.iconst 3, 1) := decG_ok (a := 1600) (r := 30) lC_25 (by decide +kernel)
theorem dk_1631 : decode code 1631 = .ok (.iadd, 1) := decG_ok (a := 1600) (r := 31) lC_25 (by decide +kernel)
theorem dk_1632 : decode code 1632 = .ok (.iaload, 1) := decG_ok (a := 1600) (r := 32) lC_25 (by decide +kernel)
theorem dk_1633 : decode code 1633 = .ok (.invokevirtual 191, 3) := decG_ok (a := 1600) (r := 33) lC_25 (by decide +kernel)
theorem dk_1636 : decode code 1636 = .ok (.pop, 1) := decG_ok (a := 1600) (r := 36) lC_25 (by decide +kernel)
theorem dk_1637 : decode code 1637 = .ok (.aload_n 2, 1) := decG_ok (a := 1600) (r := 37) lC_25 (by decide +kernel)
theorem dk_1638 : decode code 1638 = .ok (.aload_n 0, 1) := decG_ok (a := 1600) (r := 38) lC_25 (by decide +kernel)
theorem dk_1639 : decode code 1639 = .ok (.iload_n 3, 1) := decG_ok (a := 1600) (r := 39) lC_25 (by decide +kernel)
theorem dk_1640 : decode code 1640 = .ok (.iconst 1, 1) := decG_ok (a := 1600) (r := 40) lC_25 (by decide +kernel)
theorem dk_1641 : decode code 1641 = .ok (.iadd, 1) := decG_ok (a := 1600) (r := 41) lC_25 (by decide +kernel)
theorem dk_1642 : decode code 1642 = .ok (.iaload, 1) := decG_ok (a := 1600) (r := 42) lC_25 (by decide +kernel)
theorem dk_1643 : decode code 1643 = .ok (.aload_n 0, 1) := decG_ok (a := 1600) (r := 43) lC_25 (by decide +kernel)
theorem dk_1644 : decode code 1644 = .ok (.iload_n 3, 1) := decG_ok (a := 1600) (r := 44) lC_25 (by decide +kernel)
theorem dk_1645 : decode code 1645 = .ok (.iconst 2, 1) := decG_ok (a := 1600) (r := 45) lC_25 (by decide +kernel)
theorem dk_1646 : decode code 1646 = .ok (.iadd, 1) := decG_ok (a := 1600) (r := 46) lC_25 (by decide +kernel)
theorem dk_1647 : decode code 1647 = .ok (.iaload, 1) := decG_ok (a := 1600) (r := 47) lC_25 (by decide +kernel)
theorem dk_1648 : decode code 1648 = .ok (.aload_n 0, 1) := decG_ok (a := 1600) (r := 48) lC_25 (by decide +kernel)
theorem dk_1649 : decode code 1649 = .ok (.iload_n 3, 1) := decG_ok (a := 1600) (r := 49) lC_25 (by decide +kernel)
theorem dk_1650 : decode code 1650 = .ok (.iconst 3, 1) := decG_ok (a := 1600) (r := 50) lC_25 (by decide +kernel)
theorem dk_1651 : decode code 1651 = .ok (.iadd, 1) := decG_ok (a := 1600) (r := 51) lC_25 (by decide +kernel)
theorem dk_1652 : decode code 1652 = .ok (.iaload, 1) := decG_ok (a := 1600) (r := 52) lC_25 (by decide +kernel)
theorem dk_1653 : decode code 1653 = .ok (.invokevirtual 194, 3) := decG_ok (a := 1600) (r := 53) lC_25 (by decide +kernel)
theorem dk_1656 : decode code 1656 = .ok (.pop, 1) := decG_ok (a := 1600) (r := 56) lC_25 (by decide +kernel)
theorem dk_1657 : decode code 1657 = .ok (.goto (766), 3) := decG_ok (a := 1600) (r := 57) lC_25 (by decide +kernel)
theorem dk_1660 : decode code 1660 = .ok (.aload_n 1, 1) := decG_ok (a := 1600) (r := 60) lC_25 (by decide +kernel)
theorem dk_1661 : decode code 1661 = .ok (.aload_n 0, 1) := decG_ok (a := 1600) (r := 61) lC_25 (by decide +kernel)
theorem dk_1662 : decode code 1662 = .ok (.iload_n 3, 1) := decG_ok (a := 1600) (r := 62) lC_25 (by decide +kernel)
theorem dk_1663 : decode code 1663 = .ok (.iconst 1, 1) := decG_ok (a := 1600) (r := 63) lC_25 (by decide +kernel)
theorem dk_1664 : decode code 1664 = .ok (.iadd, 1) := decG_ok (a := 1664) (r := 0) lC_26 (by decide +kernel)
theorem dk_1665 : decode code 1665 = .ok (.iaload, 1) := decG_ok (a := 1664) (r := 1) lC_26 (by decide +kernel)
theorem dk_1666 : decode code 1666 = .ok (.aload_n 0, 1) := decG_ok (a := 1664) (r := 2) lC_26 (by decide +kernel)
theorem dk_1667 : decode code 1667 = .ok (.iload_n 3, 1) := decG_ok (a := 1664) (r := 3) lC_26 (by decide +kernel)
theorem dk_1668 : decode code 1668 = .ok (.iconst 2, 1) := decG_ok (a := 1664) (r := 4) lC_26 (by decide +kernel)
theorem dk_1669 : decode code 1669 = .ok (.iadd, 1) := decG_ok (a := 1664) (r := 5) lC_26 (by decide +kernel)
theorem dk_1670 : decode code 1670 = .ok (.iaload, 1) := decG_ok (a := 1664) (r := 6) lC_26 (by decide +kernel)
theorem dk_1671 : decode code 1671 = .ok (.aload_n 0, 1) := decG_ok (a := 1664) (r := 7) lC_26 (by decide +kernel)
theorem dk_1672 : decode code 1672 = .ok (.iload_n 3, 1) := decG_ok (a := 1664) (r := 8) lC_26 (by decide +kernel)
theorem dk_1673 : decode code 1673 = .ok (.iconst 3, 1) := decG_ok (a := 1664) (r := 9) lC_26 (by decide +kernel)
theorem dk_1674 : decode code 1674 = .ok (.iadd, 1) := decG_ok (a := 1664) (r := 10) lC_26 (by decide +kernel)
theorem dk_1675 : decode code 1675 = .ok (.iaload, 1) := decG_ok (a := 1664) (r := 11) lC_26 (by decide +kernel)
theorem dk_1676 : decode code 1676 = .ok (.aload_n 0, 1) := decG_ok (a := 1664) (r := 12) lC_26 (by decide +kernel)
theorem dk_1677 : decode code 1677 = .ok (.iload_n 3, 1) := decG_ok (a := 1664) (r := 13) lC_26 (by decide +kernel)
theorem dk_1678 : decode code 1678 = .ok (.iconst 4, 1) := decG_ok (a := 1664) (r := 14) lC_26 (by decide +kernel)
theorem dk_1679 : decode code 1679 = .ok (.iadd, 1) := decG_ok (a := 1664) (r := 15) lC_26 (by decide +kernel)
theorem dk_1680 : decode code 1680 = .ok (.iaload, 1) := decG_ok (a := 1664) (r := 16) lC_26 (by decide +kernel)
theorem dk_1681 : decode code 1681 = .ok (.invokevirtual 195, 3) := decG_ok (a := 1664) (r := 17) lC_26 (by decide +kernel)
theorem dk_1684 : decode code 1684 = .ok (.pop, 1) := decG_ok (a := 1664) (r := 20) lC_26 (by decide +kernel)
theorem dk_1685 : decode code 1685 = .ok (.aload_n 2, 1) := decG_ok (a := 1664) (r := 21) lC_26 (by decide +kernel)
theorem dk_1686 : decode code 1686 = .ok (.aload_n 0, 1) := decG_ok (a := 1664) (r := 22) lC_26 (by decide +kernel)
theorem dk_1687 : decode code 1687 = .ok (.iload_n 3, 1) := decG_ok (a := 1664) (r := 23) lC_26 (by decide +kernel)
theorem dk_1688 : decode code 1688 = .ok (.iconst 1, 1) := decG_ok (a := 1664) (r := 24) lC_26 (by decide +kernel)
theorem dk_1689 : decode code 1689 = .ok (.iadd, 1) := decG_ok (a := 1664) (r := 25) lC_26 (by decide +kernel)
theorem dk_1690 : decode code 1690 = .ok (.iaload, 1) := decG_ok (a := 1664) (r := 26) lC_26 (by decide +kernel)
theorem dk_1691 : decode code 1691 = .ok (.aload_n 0, 1) := decG_ok (a := 1664) (r := 27) lC_26 (by decide +kernel)
theorem dk_1692 : decode code 1692 = .ok (.iload_n 3, 1) := decG_ok (a := 1664) (r := 28) lC_26 (by decide +kernel)
theorem dk_1693 : decode code 1693 = .ok (.iconst 2, 1) := decG_ok (a := 1664) (r := 29) lC_26 (by decide +kernel)
theorem dk_1694 : decode code 1694 = .ok (.iadd, 1) := decG_ok (a := 1664) (r := 30) lC_26 (by decide +kernel)
theorem dk_1695 : decode code 1695 = .ok (.iaload, 1) := decG_ok (a := 1664) (r := 31) lC_26 (by decide +kernel)
theorem dk_1696 : decode code 1696 = .ok (.aload_n 0, 1) := decG_ok (a := 1664) (r := 32) lC_26 (by decide +kernel)
theorem dk_1697 : decode code 1697 = .ok (.iload_n 3, 1) := decG_ok (a := 1664) (r := 33) lC_26 (by decide +kernel)
theorem dk_1698 : decode code 1698 = .ok (.iconst 3, 1) := decG_ok (a := 1664) (r := 34) lC_26 (by decide +kernel)
theorem dk_1699 : decode code 1699 = .ok (.iadd, 1) := decG_ok (a := 1664) (r := 35) lC_26 (by decide +kernel)
theorem dk_1700 : decode code 1700 = .ok (.iaload, 1) := decG_ok (a := 1664) (r := 36) lC_26 (by decide +kernel)
theorem dk_1701 : decode code 1701 = .ok (.aload_n 0, 1) := decG_ok (a := 1664) (r := 37) lC_26 (by decide +kernel)
theorem dk_1702 : decode code 1702 = .ok (.iload_n 3, 1) := decG_ok (a := 1664) (r := 38) lC_26 (by decide +kernel)
theorem dk_1703 : decode code 1703 = .ok (.iconst 4, 1) := decG_ok (a := 1664) (r := 39) lC_26 (by decide +kernel)
theorem dk_1704 : decode code 1704 = .ok (.iadd, 1) := decG_ok (a := 1664) (r := 40) lC_26 (by decide +kernel)
theorem dk_1705 : decode code 1705 = .ok (.iaload, 1) := decG_ok (a := 1664) (r := 41) lC_26 (by decide +kernel)
theorem dk_1706 : decode code 1706 = .ok (.invokevirtual 198, 3) := decG_ok (a := 1664) (r := 42) lC_26 (by decide +kernel)
theorem dk_1709 : decode code 1709 = .ok (.pop, 1) := decG_ok (a := 1664) (r := 45) lC_26 (by decide +kernel)
theorem dk_1710 : decode code 1710 = .ok (.goto (713), 3) := decG_ok (a := 1664) (r := 46) lC_26 (by decide +kernel)
theorem dk_1713 : decode code 1713 = .ok (.aload_n 1, 1) := decG_ok (a := 1664) (r := 49) lC_26 (by decide +kernel)
theorem dk_1714 : decode code 1714 = .ok (.aload_n 0, 1) := decG_ok (a := 1664) (r := 50) lC_26 (by decide +kernel)
theorem dk_1715 : decode code 1715 = .ok (.iload_n 3, 1) := decG_ok (a := 1664) (r := 51) lC_26 (by decide +kernel)
theorem dk_1716 : decode code 1716 = .ok (.iconst 1, 1) := decG_ok (a := 1664) (r := 52) lC_26 (by decide +kernel)
theorem dk_1717 : decode code 1717 = .ok (.iadd, 1) := decG_ok (a := 1664) (r := 53) lC_26 (by decide +kernel)
theorem dk_1718 : decode code 1718 = .ok (.iaload, 1) := decG_ok (a := 1664) (r := 54) lC_26 (by decide +kernel)
theorem dk_1719 : decode code 1719 = .ok (.invokevirtual 199, 3) := decG_ok (a := 1664) (r := 55) lC_26 (by decide +kernel)
theorem dk_1722 : decode code 1722 = .ok (.pop, 1) := decG_ok (a := 1664) (r := 58) lC_26 (by decide +kernel)
theorem dk_1723 : decode code 1723 = .ok (.aload_n 2, 1) := decG_ok (a := 1664) (r := 59) lC_26 (by decide +kernel)
theorem dk_1724 : decode code 1724 = .ok (.aload_n 0, 1) := decG_ok (a := 1664) (r := 60) lC_26 (by decide +kernel)
theorem dk_1725 : decode code 1725 = .ok (.iload_n 3, 1) := decG_ok (a := 1664) (r := 61) lC_26 (by decide +kernel)
theorem dk_1726 : decode code 1726 = .ok (.iconst 1, 1) := decG_ok (a := 1664) (r := 62) lC_26 (by decide +kernel)
theorem dk_1727 : decode code 1727 = .ok (.iadd, 1) := decG_ok (a := 1664) (r := 63) lC_26 (by decide +kernel)
theorem dk_1728 : decode code 1728 = .ok (.iaload, 1) := decG_ok (a := 1728) (r := 0) lC_27 (by decide +kernel)
theorem dk_1729 : decode code 1729 = .ok (.invokevirtual 202, 3) := decG_ok (a := 1728) (r := 1) lC_27 (by decide +kernel)
theorem dk_1732 : decode code 1732 = .ok (.pop, 1) := decG_ok (a := 1728) (r := 4) lC_27 (by decide +kernel)
theorem dk_1733 : decode code 1733 = .ok (.goto (690), 3) := decG_ok (a := 1728) (r := 5) lC_27 (by decide +kernel)
theorem dk_1736 : decode code 1736 = .ok (.aload_n 1, 1) := decG_ok (a := 1728) (r := 8) lC_27 (by decide +kernel)
theorem dk_1737 : decode code 1737 = .ok (.aload_n 0, 1) := decG_ok (a := 1728) (r := 9) lC_27 (by decide +kernel)
theorem dk_1738 : decode code 1738 = .ok (.iload_n 3, 1) := decG_ok (a := 1728) (r := 10) lC_27 (by decide +kernel)
theorem dk_1739 : decode code 1739 = .ok (.iconst 1, 1) := decG_ok (a := 1728) (r := 11) lC_27 (by decide +kernel)
theorem dk_1740 : decode code 1740 = .ok (.iadd, 1) := decG_ok (a := 1728) (r := 12) lC_27 (by decide +kernel)
theorem dk_1741 : decode code 1741 = .ok (.iaload, 1) := decG_ok (a := 1728) (r := 13) lC_27 (by decide +kernel)
theorem dk_1742 : decode code 1742 = .ok (.aload_n 0, 1) := decG_ok (a := 1728) (r := 14) lC_27 (by decide +kernel)
theorem dk_1743 : decode code 1743 = .ok (.iload_n 3, 1) := decG_ok (a := 1728) (r := 15) lC_27 (by decide +kernel)
theorem dk_1744 : decode code 1744 = .ok (.iconst 2, 1) := decG_ok (a := 1728) (r := 16) lC_27 (by decide +kernel)
theorem dk_1745 : decode code 1745 = .ok (.iadd, 1) := decG_ok (a := 1728) (r := 17) lC_27 (by decide +kernel)
theorem dk_1746 : decode code 1746 = .ok (.iaload, 1) := decG_ok (a := 1728) (r := 18) lC_27 (by decide +kernel)
theorem dk_1747 : decode code 1747 = .ok (.invokevirtual 203, 3) := decG_ok (a := 1728) (r := 19) lC_27 (by decide +kernel)
theorem dk_1750 : decode code 1750 = .ok (.pop, 1) := decG_ok (a := 1728) (r := 22) lC_27 (by decide +kernel)
theorem dk_1751 : decode code 1751 = .ok (.aload_n 2, 1) := decG_ok (a := 1728) (r := 23) lC_27 (by decide +kernel)
theorem dk_1752 : decode code 1752 = .ok (.aload_n 0, 1) := decG_ok (a := 1728) (r := 24) lC_27 (by decide +kernel)
theorem dk_1753 : decode code 1753 = .ok (.iload_n 3, 1) := decG_ok (a := 1728) (r := 25) lC_27 (by decide +kernel)
theorem dk_1754 : decode code 1754 = .ok (.iconst 1, 1) := decG_ok (a := 1728) (r := 26) lC_27 (by decide +kernel)
theorem dk_1755 : decode code 1755 = .ok (.iadd, 1) := decG_ok (a := 1728) (r := 27) lC_27 (by decide +kernel)
theorem dk_1756 : decode code 1756 = .ok (.iaload, 1) := decG_ok (a := 1728) (r := 28) lC_27 (by decide +kernel)
theorem dk_1757 : decode code 1757 = .ok (.aload_n 0, 1) := decG_ok (a := 1728) (r := 29) lC_27 (by decide +kernel)
theorem dk_1758 : decode code 1758 = .ok (.iload_n 3, 1) := decG_ok (a := 1728) (r := 30) lC_27 (by decide +kernel)
theorem dk_1759 : decode code 1759 = .ok (.iconst 2, 1) := decG_ok (a := 1728) (r := 31) lC_27 (by decide +kernel)
theorem dk_1760 : decode code 1760 = .ok (.iadd, 1) := decG_ok (a := 1728) (r := 32) lC_27 (by decide +kernel)
theorem dk_1761 : decode code 1761 = .ok (.iaload, 1) := decG_ok (a := 1728) (r := 33) lC_27 (by decide +kernel)
theorem dk_1762 : decode code 1762 = .ok (.invokevirtual 206, 3) := decG_ok (a := 1728) (r := 34) lC_27 (by decide +kernel)
theorem dk_1765 : decode code 1765 = .ok (.pop, 1) := decG_ok (a := 1728) (r := 37) lC_27 (by decide +kernel)
theorem dk_1766 : decode code 1766 = .ok (.goto (657), 3) := decG_ok (a := 1728) (r := 38) lC_27 (by decide +kernel)
theorem dk_1769 : decode code 1769 = .ok (.aload_n 1, 1) := decG_ok (a := 1728) (r := 41) lC_27 (by decide +kernel)
theorem dk_1770 : decode code 1770 = .ok (.aload_n 0, 1) := decG_ok (a := 1728) (r := 42) lC_27 (by decide +kernel)
theorem dk_1771 : decode code 1771 = .ok (.iload_n 3, 1) := decG_ok (a := 1728) (r := 43) lC_27 (by decide +kernel)
theorem dk_1772 : decode code 1772 = .ok (.iconst 1, 1) := decG_ok (a := 1728) (r := 44) lC_27 (by decide +kernel)
theorem dk_1773 : decode code 1773 = .ok (.iadd, 1) := decG_ok (a := 1728) (r := 45) lC_27 (by decide +kernel)
theorem dk_1774 : decode code 1774 = .ok (.iaload, 1) := decG_ok (a := 1728) (r := 46) lC_27 (by decide +kernel)
theorem dk_1775 : decode code 1775 = .ok (.invokevirtual 207, 3) := decG_ok (a := 1728) (r := 47) lC_27 (by decide +kernel)
theorem dk_1778 : decode code 1778 = .ok (.pop, 1) := decG_ok (a := 1728) (r := 50) lC_27 (by decide +kernel)
theorem dk_1779 : decode code 1779 = .ok (.aload_n 2, 1) := decG_ok (a := 1728) (r := 51) lC_27 (by decide +kernel)
theorem dk_1780 : decode code 1780 = .ok (.aload_n 0, 1) := decG_ok (a := 1728) (r := 52) lC_27 (by decide +kernel)
theorem dk_1781 : decode code 1781 = .ok (.iload_n 3, 1) := decG_ok (a := 1728) (r := 53) lC_27 (by decide +kernel)
theorem dk_1782 : decode code 1782 = .ok (.iconst 1, 1) := decG_ok (a := 1728) (r := 54) lC_27 (by decide +kernel)
theorem dk_1783 : decode code 1783 = .ok (.iadd, 1) := decG_ok (a := 1728) (r := 55) lC_27 (by decide +kernel)
theorem dk_1784 : decode code 1784 = .ok (.iaload, 1) := decG_ok (a := 1728) (r := 56) lC_27 (by decide +kernel)
theorem dk_1785 : decode code 1785 = .ok (.invokevirtual 210, 3) := decG_ok (a := 1728) (r := 57) lC_27 (by decide +kernel)
theorem dk_1788 : decode code 1788 = .ok (.pop, 1) := decG_ok (a := 1728) (r := 60) lC_27 (by decide +kernel)
theorem dk_1789 : decode code 1789 = .ok (.goto (634), 3) := decG_ok (a := 1728) (r := 61) lC_27 (by decide +kernel)
theorem dk_1792 : decode code 1792 = .ok (.aload_n 1, 1) := decG_ok (a := 1792) (r := 0) lC_28 (by decide +kernel)
theorem dk_1793 : decode code 1793 = .ok (.aload_n 0, 1) := decG_ok (a := 1792) (r := 1) lC_28 (by decide +kernel)
theorem dk_1794 : decode code 1794 = .ok (.iload_n 3, 1) := decG_ok (a := 1792) (r := 2) lC_28 (by decide +kernel)
theorem dk_1795 : decode code 1795 = .ok (.iconst 1, 1) := decG_ok (a := 1792) (r := 3) lC_28 (by decide +kernel)
theorem dk_1796 : decode code 1796 = .ok (.iadd, 1) := decG_ok (a := 1792) (r := 4) lC_28 (by decide +kernel)
theorem dk_1797 : decode code 1797 = .ok (.iaload, 1) := decG_ok (a := 1792) (r := 5) lC_28 (by decide +kernel)
theorem dk_1798 : decode code 1798 = .ok (.invokevirtual 211, 3) := decG_ok (a := 1792) (r := 6) lC_28 (by decide +kernel)
theorem dk_1801 : decode code 1801 = .ok (.pop, 1) := decG_ok (a := 1792) (r := 9) lC_28 (by decide +kernel)
theorem dk_1802 : decode code 1802 = .ok (.aload_n 2, 1) := decG_ok (a := 1792) (r := 10) lC_28 (by decide +kernel)
theorem dk_1803 : decode code 1803 = .ok (.aload_n 0, 1) := decG_ok (a := 1792) (r := 11) lC_28 (by decide +kernel)
theorem dk_1804 : decode code 1804 = .ok (.iload_n 3, 1) := decG_ok (a := 1792) (r := 12) lC_28 (by decide +kernel)
theorem dk_1805 : decode code 1805 = .ok (.iconst 1, 1) := decG_ok (a := 1792) (r := 13) lC_28 (by decide +kernel)
theorem dk_1806 : decode code 1806 = .ok (.iadd, 1) := decG_ok (a := 1792) (r := 14) lC_28 (by decide +kernel)
theorem dk_1807 : decode code 1807 = .ok (.iaload, 1) := decG_ok (a := 1792) (r := 15) lC_28 (by decide +kernel)
theorem dk_1808 : decode code 1808 = .ok (.invokevirtual 214, 3) := decG_ok (a := 1792) (r := 16) lC_28 (by decide +kernel)
theorem dk_1811 : decode code 1811 = .ok (.pop, 1) := decG_ok (a := 1792) (r := 19) lC_28 (by decide +kernel)
theorem dk_1812 : decode code 1812 = .ok (.goto (611), 3) := decG_ok (a := 1792) (r := 20) lC_28 (by decide +kernel)
theorem dk_1815 : decode code 1815 = .ok (.aload_n 1, 1) := decG_ok (a := 1792) (r := 23) lC_28 (by decide +kernel)
theorem dk_1816 : decode code 1816 = .ok (.aload_n 0, 1) := decG_ok (a := 1792) (r := 24) lC_28 (by decide +kernel)
theorem dk_1817 : decode code 1817 = .ok (.iload_n 3, 1) := decG_ok (a := 1792) (r := 25) lC_28 (by decide +kernel)
theorem dk_1818 : decode code 1818 = .ok (.iconst 1, 1) := decG_ok (a := 1792) (r := 26) lC_28 (by decide +kernel)
theorem dk_1819 : decode code 1819 = .ok (.iadd, 1) := decG_ok (a := 1792) (r := 27) lC_28 (by decide +kernel)
theorem dk_1820 : decode code 1820 = .ok (.iaload, 1) := decG_ok (a := 1792) (r := 28) lC_28 (by decide +kernel)
theorem dk_1821 : decode code 1821 = .ok (.invokevirtual 215, 3) := decG_ok (a := 1792) (r := 29) lC_28 (by decide +kernel)
theorem dk_1824 : decode code 1824 = .ok (.pop, 1) := decG_ok (a := 1792) (r := 32) lC_28 (by decide +kernel)
theorem dk_1825 : decode code 1825 = .ok (.aload_n 2, 1) := decG_ok (a := 1792) (r := 33) lC_28 (by decide +kernel)
theorem dk_1826 : decode code 1826 = .ok (.aload_n 0, 1) := decG_ok (a := 1792) (r := 34) lC_28 (by decide +kernel)
theorem dk_1827 : decode code 1827 = .ok (.iload_n 3, 1) := decG_ok (a := 1792) (r := 35) lC_28 (by decide +kernel)
theorem dk_1828 : decode code 1828 = .ok (.iconst 1, 1) := decG_ok (a := 1792) (r := 36) lC_28 (by decide +kernel)
theorem dk_1829 : decode code 1829 = .ok (.iadd, 1) := decG_ok (a := 1792) (r := 37) lC_28 (by decide +kernel)
theorem dk_1830 : decode code 1830 = .ok (.iaload, 1) := decG_ok (a := 1792) (r := 38) lC_28 (by decide +kernel)
theorem dk_1831 : decode code 1831 = .ok (.invokevirtual 218, 3) := decG_ok (a := 1792) (r := 39) lC_28 (by decide +kernel)
theorem dk_1834 : decode code 1834 = .ok (.pop, 1) := decG_ok (a := 1792) (r := 42) lC_28 (by decide +kernel)
theorem dk_1835 : decode code 1835 = .ok (.goto (588), 3) := decG_ok (a := 1792) (r := 43) lC_28 (by decide +kernel)
theorem dk_1838 : decode code 1838 = .ok (.aload_n 1, 1) := decG_ok (a := 1792) (r := 46) lC_28 (by decide +kernel)
theorem dk_1839 : decode code 1839 = .ok (.aload_n 0, 1) := decG_ok (a := 1792) (r := 47) lC_28 (by decide +kernel)
theorem dk_1840 : decode code 1840 = .ok (.iload_n 3, 1) := decG_ok (a := 1792) (r := 48) lC_28 (by decide +kernel)
theorem dk_1841 : decode code 1841 = .ok (.iconst 1, 1) := decG_ok (a := 1792) (r := 49) lC_28 (by decide +kernel)
theorem dk_1842 : decode code 1842 = .ok (.iadd, 1) := decG_ok (a := 1792) (r := 50) lC_28 (by decide +kernel)
theorem dk_1843 : decode code 1843 = .ok (.iaload, 1) := decG_ok (a := 1792) (r := 51) lC_28 (by decide +kernel)
theorem dk_1844 : decode code 1844 = .ok (.aload_n 0, 1) := decG_ok (a := 1792) (r := 52) lC_28 (by decide +kernel)
theorem dk_1845 : decode code 1845 = .ok (.iload_n 3, 1) := decG_ok (a := 1792) (r := 53) lC_28 (by decide +kernel)
theorem dk_1846 : decode code 1846 = .ok (.iconst 2, 1) := decG_ok (a := 1792) (r := 54) lC_28 (by decide +kernel)
theorem dk_1847 : decode code 1847 = .ok (.iadd, 1) := decG_ok (a := 1792) (r := 55) lC_28 (by decide +kernel)
theorem dk_1848 : decode code 1848 = .ok (.iaload, 1) := decG_ok (a := 1792) (r := 56) lC_28 (by decide +kernel)
theorem dk_1849 : decode code 1849 = .ok (.aload_n 0, 1) := decG_ok (a := 1792) (r := 57) lC_28 (by decide +kernel)
theorem dk_1850 : decode code 1850 = .ok (.iload_n 3, 1) := decG_ok (a := 1792) (r := 58) lC_28 (by decide +kernel)
theorem dk_1851 : decode code 1851 = .ok (.iconst 3, 1) := decG_ok (a := 1792) (r := 59) lC_28 (by decide +kernel)
theorem dk_1852 : decode code 1852 = .ok (.iadd, 1) := decG_ok (a := 1792) (r := 60) lC_28 (by decide +kernel)
theorem dk_1853 : decode code 1853 = .ok (.iaload, 1) := decG_ok (a := 1792) (r := 61) lC_28 (by decide +kernel)
theorem dk_1854 : decode code 1854 = .ok (.invokevirtual 219, 3) := decG_ok (a := 1792) (r := 62) lC_28 (by decide +kernel)
theorem dk_1857 : decode code 1857 = .ok (.pop, 1) := decG_ok (a := 1856) (r := 1) lC_29 (by decide +kernel)
theorem dk_1858 : decode code 1858 = .ok (.aload_n 2, 1) := decG_ok (a := 1856) (r := 2) lC_29 (by decide +kernel)
theorem dk_1859 : decode code 1859 = .ok (.aload_n 0, 1) := decG_ok (a := 1856) (r := 3) lC_29 (by decide +kernel)
theorem dk_1860 : decode code 1860 = .ok (.iload_n 3, 1) := decG_ok (a := 1856) (r := 4) lC_29 (by decide +kernel)
theorem dk_1861 : decode code 1861 = .ok (.iconst 1, 1) := decG_ok (a := 1856) (r := 5) lC_29 (by decide +kernel)
theorem dk_1862 : decode code 1862 = .ok (.iadd, 1) := decG_ok (a := 1856) (r := 6) lC_29 (by decide +kernel)
theorem dk_1863 : decode code 1863 = .ok (.iaload, 1) := decG_ok (a := 1856) (r := 7) lC_29 (by decide +kernel)
theorem dk_1864 : decode code 1864 = .ok (.aload_n 0, 1) := decG_ok (a := 1856) (r := 8) lC_29 (by decide +kernel)
theorem dk_1865 : decode code 1865 = .ok (.iload_n 3, 1) := decG_ok (a := 1856) (r := 9) lC_29 (by decide +kernel)
theorem dk_1866 : decode code 1866 = .ok (.iconst 2, 1) := decG_ok (a := 1856) (r := 10) lC_29 (by decide +kernel)
theorem dk_1867 : decode code 1867 = .ok (.iadd, 1) := decG_ok (a := 1856) (r := 11) lC_29 (by decide +kernel)
theorem dk_1868 : decode code 1868 = .ok (.iaload, 1) := decG_ok (a := 1856) (r := 12) lC_29 (by decide +kernel)
theorem dk_1869 : decode code 1869 = .ok (.aload_n 0, 1) := decG_ok (a := 1856) (r := 13) lC_29 (by decide +kernel)
theorem dk_1870 : decode code 1870 = .ok (.iload_n 3, 1) := decG_ok (a := 1856) (r := 14) lC_29 (by decide +kernel)
theorem dk_1871 : decode code 1871 = .ok (.iconst 3, 1) := decG_ok (a := 1856) (r := 15) lC_29 (by decide +kernel)
theorem dk_1872 : decode code 1872 = .ok (.iadd, 1) := decG_ok (a := 1856) (r := 16) lC_29 (by decide +kernel)
theorem dk_1873 : decode code 1873 = .ok (.iaload, 1) := decG_ok (a := 1856) (r := 17) lC_29 (by decide +kernel)
theorem dk_1874 : decode code 1874 = .ok (.invokevirtual 222, 3) := decG_ok (a := 1856) (r := 18) lC_29 (by decide +kernel)
theorem dk_1877 : decode code 1877 = .ok (.pop, 1) := decG_ok (a := 1856) (r := 21) lC_29 (by decide +kernel)
theorem dk_1878 : decode code 1878 = .ok (.goto (545), 3) := decG_ok (a := 1856) (r := 22) lC_29 (by decide +kernel)
theorem dk_1881 : decode code 1881 = .ok (.aload_n 1, 1) := decG_ok (a := 1856) (r := 25) lC_29 (by decide +kernel)
theorem dk_1882 : decode code 1882 = .ok (.aload_n 0, 1) := decG_ok (a := 1856) (r := 26) lC_29 (by decide +kernel)
theorem dk_1883 : decode code 1883 = .ok (.iload_n 3, 1) := decG_ok (a := 1856) (r := 27) lC_29 (by decide +kernel)
theorem dk_1884 : decode code 1884 = .ok (.iconst 1, 1) := decG_ok (a := 1856) (r := 28) lC_29 (by decide +kernel)
theorem dk_1885 : decode code 1885 = .ok (.iadd, 1) := decG_ok (a := 1856) (r := 29) lC_29 (by decide +kernel)
theorem dk_1886 : decode code 1886 = .ok (.iaload, 1) := decG_ok (a := 1856) (r := 30) lC_29 (by decide +kernel)
theorem dk_1887 : decode code 1887 = .ok (.aload_n 0, 1) := decG_ok (a := 1856) (r := 31) lC_29 (by decide +kernel)
theorem dk_1888 : decode code 1888 = .ok (.iload_n 3, 1) := decG_ok (a := 1856) (r := 32) lC_29 (by decide +kernel)
theorem dk_1889 : decode code 1889 = .ok (.iconst 2, 1) := decG_ok (a := 1856) (r := 33) lC_29 (by decide +kernel)
theorem dk_1890 : decode code 1890 = .ok (.iadd, 1) := decG_ok (a := 1856) (r := 34) lC_29 (by decide +kernel)
theorem dk_1891 : decode code 1891 = .ok (.iaload, 1) := decG_ok (a := 1856) (r := 35) lC_29 (by decide +kernel)
theorem dk_1892 : decode code 1892 = .ok (.invokevirtual 223, 3) := decG_ok (a := 1856) (r := 36) lC_29 (by decide +kernel)
theorem dk_1895 : decode code 1895 = .ok (.pop, 1) := decG_ok (a := 1856) (r := 39) lC_29 (by decide +kernel)
theorem dk_1896 : decode code 1896 = .ok (.aload_n 2, 1) := decG_ok (a := 1856) (r := 40) lC_29 (by decide +kernel)
theorem dk_1897 : decode code 1897 = .ok (.aload_n 0, 1) := decG_ok (a := 1856) (r := 41) lC_29 (by decide +kernel)
theorem dk_1898 : decode code 1898 = .ok (.iload_n 3, 1) := decG_ok (a := 1856) (r := 42) lC_29 (by decide +kernel)
theorem dk_1899 : decode code 1899 = .ok (.iconst 1, 1) := decG_ok (a := 1856) (r := 43) lC_29 (by decide +kernel)
theorem dk_1900 : decode code 1900 = .ok (.iadd, 1) := decG_ok (a := 1856) (r := 44) lC_29 (by decide +kernel)
theorem dk_1901 : decode code 1901 = .ok (.iaload, 1) := decG_ok (a := 1856) (r := 45) lC_29 (by decide +kernel)
theorem dk_1902 : decode code 1902 = .ok (.aload_n 0, 1) := decG_ok (a := 1856) (r := 46) lC_29 (by decide +kernel)
theorem dk_1903 : decode code 1903 = .ok (.iload_n 3, 1) := decG_ok (a := 1856) (r := 47) lC_29 (by decide +kernel)
theorem dk_1904 : decode code 1904 = .ok (.iconst 2, 1) := decG_ok (a := 1856) (r := 48) lC_29 (by decide +kernel)
theorem dk_1905 : decode code 1905 = .ok (.iadd, 1) := decG_ok (a := 1856) (r := 49) lC_29 (by decide +kernel)
theorem dk_1906 : decode code 1906 = .ok (.iaload, 1) := decG_ok (a := 1856) (r := 50) lC_29 (by decide +kernel)
theorem dk_1907 : decode code 1907 = .ok (.invokevirtual 226, 3) := decG_ok (a := 1856) (r := 51) lC_29 (by decide +kernel)
theorem dk_1910 : decode code 1910 = .ok (.pop, 1) := decG_ok (a := 1856) (r := 54) lC_29 (by decide +kernel)
theorem dk_1911 : decode code 1911 = .ok (.goto (512), 3) := decG_ok (a := 1856) (r := 55) lC_29 (by decide +kernel)
theorem dk_1914 : decode code 1914 = .ok (.aload_n 1, 1) := decG_ok (a := 1856) (r := 58) lC_29 (by decide +kernel)
theorem dk_1915 : decode code 1915 = .ok (.aload_n 0, 1) := decG_ok (a := 1856) (r := 59) lC_29 (by decide +kernel)
theorem dk_1916 : decode code 1916 = .ok (.iload_n 3, 1) := decG_ok (a := 1856) (r := 60) lC_29 (by decide +kernel)
theorem dk_1917 : decode code 1917 = .ok (.iconst 1, 1) := decG_ok (a := 1856) (r := 61) lC_29 (by decide +kernel)
theorem dk_1918 : decode code 1918 = .ok (.iadd, 1) := decG_ok (a := 1856) (r := 62) lC_29 (by decide +kernel)
theorem dk_1919 : decode code 1919 = .ok (.iaload, 1) := decG_ok (a := 1856) (r := 63) lC_29 (by decide +kernel)
theorem dk_1920 : decode code 1920 = .ok (.invokevirtual 227, 3) := decG_ok (a := 1920) (r := 0) lC_30 (by decide +kernel)
theorem dk_1923 : decode code 1923 = .ok (.pop, 1) := decG_ok (a := 1920) (r := 3) lC_30 (by decide +kernel)
theorem dk_1924 : decode code 1924 = .ok (.aload_n 2, 1) := decG_ok (a := 1920) (r := 4) lC_30 (by decide +kernel)
theorem dk_1925 : decode code 1925 = .ok (.aload_n 0, 1) := decG_ok (a := 1920) (r := 5) lC_30 (by decide +kernel)
theorem dk_1926 : decode code 1926 = .ok (.iload_n 3, 1) := decG_ok (a := 1920) (r := 6) lC_30 (by decide +kernel)
theorem dk_1927 : decode code 1927 = .ok (.iconst 1, 1) := decG_ok (a := 1920) (r := 7) lC_30 (by decide +kernel)
theorem dk_1928 : decode code 1928 = .ok (.iadd, 1) := decG_ok (a := 1920) (r := 8) lC_30 (by decide +kernel)
theorem dk_1929 : decode code 1929 = .ok (.iaload, 1) := decG_ok (a := 1920) (r := 9) lC_30 (by decide +kernel)
theorem dk_1930 : decode code 1930 = .ok (.invokevirtual 230, 3) := decG_ok (a := 1920) (r := 10) lC_30 (by decide +kernel)
theorem dk_1933 : decode code 1933 = .ok (.pop, 1) := decG_ok (a := 1920) (r := 13) lC_30 (by decide +kernel)
theorem dk_1934 : decode code 1934 = .ok (.goto (489), 3) := decG_ok (a := 1920) (r := 14) lC_30 (by decide +kernel)
theorem dk_1937 : decode code 1937 = .ok (.aload_n 1, 1) := decG_ok (a := 1920) (r := 17) lC_30 (by decide +kernel)
theorem dk_1938 : decode code 1938 = .ok (.aload_n 0, 1) := decG_ok (a := 1920) (r := 18) lC_30 (by decide +kernel)
theorem dk_1939 : decode code 1939 = .ok (.iload_n 3, 1) := decG_ok (a := 1920) (r := 19) lC_30 (by decide +kernel)
theorem dk_1940 : decode code 1940 = .ok (.iconst 1, 1) := decG_ok (a := 1920) (r := 20) lC_30 (by decide +kernel)
theorem dk_1941 : decode code 1941 = .ok (.iadd, 1) := decG_ok (a := 1920) (r := 21) lC_30 (by decide +kernel)
theorem dk_1942 : decode code 1942 = .ok (.iaload, 1) := decG_ok (a := 1920) (r := 22) lC_30 (by decide +kernel)
theorem dk_1943 : decode code 1943 = .ok (.invokevirtual 231, 3) := decG_ok (a := 1920) (r := 23) lC_30 (by decide +kernel)
theorem dk_1946 : decode code 1946 = .ok (.pop, 1) := decG_ok (a := 1920) (r := 26) lC_30 (by decide +kernel)
theorem dk_1947 : decode code 1947 = .ok (.aload_n 2, 1) := decG_ok (a := 1920) (r := 27) lC_30 (by decide +kernel)
theorem dk_1948 : decode code 1948 = .ok (.aload_n 0, 1) := decG_ok (a := 1920) (r := 28) lC_30 (by decide +kernel)
theorem dk_1949 : decode code 1949 = .ok (.iload_n 3, 1) := decG_ok (a := 1920) (r := 29) lC_30 (by decide +kernel)
theorem dk_1950 : decode code 1950 = .ok (.iconst 1, 1) := decG_ok (a := 1920) (r := 30) lC_30 (by decide +kernel)
theorem dk_1951 : decode code 1951 = .ok (.iadd, 1) := decG_ok (a := 1920) (r := 31) lC_30 (by decide +kernel)
theorem dk_1952 : decode code 1952 = .ok (.iaload, 1) := decG_ok (a := 1920) (r := 32) lC_30 (by decide +kernel)
theorem dk_1953 : decode code 1953 = .ok (.invokevirtual 234, 3) := decG_ok (a := 1920) (r := 33) lC_30 (by decide +kernel)
theorem dk_1956 : decode code 1956 = .ok (.pop, 1) := decG_ok (a := 1920) (r := 36) lC_30 (by decide +kernel)
theorem dk_1957 : decode code 1957 = .ok (.goto (466), 3) := decG_ok (a := 1920) (r := 37) lC_30 (by decide +kernel)
theorem dk_1960 : decode code 1960 = .ok (.aload_n 1, 1) := decG_ok (a := 1920) (r := 40) lC_30 (by decide +kernel)
theorem dk_1961 : decode code 1961 = .ok (.aload_n 0, 1) := decG_ok (a := 1920) (r := 41) lC_30 (by decide +kernel)
theorem dk_1962 : decode code 1962 = .ok (.iload_n 3, 1) := decG_ok (a := 1920) (r := 42) lC_30 (by decide +kernel)
theorem dk_1963 : decode code 1963 = .ok (.iconst 1, 1) := decG_ok (a := 1920) (r := 43) lC_30 (by decide +kernel)
theorem dk_1964 : decode code 1964 = .ok (.iadd, 1) := decG_ok (a := 1920) (r := 44) lC_30 (by decide +kernel)
theorem dk_1965 : decode code 1965 = .ok (.iaload, 1) := decG_ok (a := 1920) (r := 45) lC_30 (by decide +kernel)
theorem dk_1966 : decode code 1966 = .ok (.invokevirtual 235, 3) := decG_ok (a := 1920) (r := 46) lC_30 (by decide +kernel)
theorem dk_1969 : decode code 1969 = .ok (.pop, 1) := decG_ok (a := 1920) (r := 49) lC_30 (by decide +kernel)
theorem dk_1970 : decode code 1970 = .ok (.aload_n 2, 1) := decG_ok (a := 1920) (r := 50) lC_30 (by decide +kernel)
theorem dk_1971 : decode code 1971 = .ok (.aload_n 0, 1) := decG_ok (a := 1920) (r := 51) lC_30 (by decide +kernel)
theorem dk_1972 : decode code 1972 = .ok (.iload_n 3, 1) := decG_ok (a := 1920) (r := 52) lC_30 (by decide +kernel)
theorem dk_1973 : decode code 1973 = .ok (.iconst 1, 1) := decG_ok (a := 1920) (r := 53) lC_30 (by decide +kernel)
theorem dk_1974 : decode code 1974 = .ok (.iadd, 1) := decG_ok (a := 1920) (r := 54) lC_30 (by decide +kernel)
theorem dk_1975 : decode code 1975 = .ok (.iaload, 1) := decG_ok (a := 1920) (r := 55) lC_30 (by decide +kernel)
theorem dk_1976 : decode code 1976 = .ok (.invokevirtual 238, 3) := decG_ok (a := 1920) (r := 56) lC_30 (by decide +kernel)
theorem dk_1979 : decode code 1979 = .ok (.pop, 1) := decG_ok (a := 1920) (r := 59) lC_30 (by decide +kernel)
theorem dk_1980 : decode code 1980 = .ok (.goto (443), 3) := decG_ok (a := 1920) (r := 60) lC_30 (by decide +kernel)
theorem dk_1983 : decode code 1983 = .ok (.aload_n 1, 1) := decG_ok (a := 1920) (r := 63) lC_30 (by decide +kernel)
theorem dk_1984 : decode code 1984 = .ok (.aload_n 0, 1) := decG_ok (a := 1984) (r := 0) lC_31 (by decide +kernel)
theorem dk_1985 : decode code 1985 = .ok (.iload_n 3, 1) := decG_ok (a := 1984) (r := 1) lC_31 (by decide +kernel)
theorem dk_1986 : decode code 1986 = .ok (.iconst 1, 1) := decG_ok (a := 1984) (r := 2) lC_31 (by decide +kernel)
theorem dk_1987 : decode code 1987 = .ok (.iadd, 1) := decG_ok (a := 1984) (r := 3) lC_31 (by decide +kernel)
theorem dk_1988 : decode code 1988 = .ok (.iaload, 1) := decG_ok (a := 1984) (r := 4) lC_31 (by decide +kernel)
theorem dk_1989 : decode code 1989 = .ok (.aload_n 0, 1) := decG_ok (a := 1984) (r := 5) lC_31 (by decide +kernel)
theorem dk_1990 : decode code 1990 = .ok (.iload_n 3, 1) := decG_ok (a := 1984) (r := 6) lC_31 (by decide +kernel)
theorem dk_1991 : decode code 1991 = .ok (.iconst 2, 1) := decG_ok (a := 1984) (r := 7) lC_31 (by decide +kernel)
theorem dk_1992 : decode code 1992 = .ok (.iadd, 1) := decG_ok (a := 1984) (r := 8) lC_31 (by decide +kernel)
theorem dk_1993 : decode code 1993 = .ok (.iaload, 1) := decG_ok (a := 1984) (r := 9) lC_31 (by decide +kernel)
theorem dk_1994 : decode code 1994 = .ok (.aload_n 0, 1) := decG_ok (a := 1984) (r := 10) lC_31 (by decide +kernel)
theorem dk_1995 : decode code 1995 = .ok (.iload_n 3, 1) := decG_ok (a := 1984) (r := 11) lC_31 (by decide +kernel)
theorem dk_1996 : decode code 1996 = .ok (.iconst 3, 1) := decG_ok (a := 1984) (r := 12) lC_31 (by decide +kernel)
theorem dk_1997 : decode code 1997 = .ok (.iadd, 1) := decG_ok (a := 1984) (r := 13) lC_31 (by decide +kernel)
theorem dk_1998 : decode code 1998 = .ok (.iaload, 1) := decG_ok (a := 1984) (r := 14) lC_31 (by decide +kernel)
theorem dk_1999 : decode code 1999 = .ok (.invokevirtual 239, 3) := decG_ok (a := 1984) (r := 15) lC_31 (by decide +kernel)
theorem dk_2002 : decode code 2002 = .ok (.pop2, 1) := decG_ok (a := 1984) (r := 18) lC_31 (by decide +kernel)
theorem dk_2003 : decode code 2003 = .ok (.aload_n 2, 1) := decG_ok (a := 1984) (r := 19) lC_31 (by decide +kernel)
theorem dk_2004 : decode code 2004 = .ok (.aload_n 0, 1) := decG_ok (a := 1984) (r := 20) lC_31 (by decide +kernel)
theorem dk_2005 : decode code 2005 = .ok (.iload_n 3, 1) := decG_ok (a := 1984) (r := 21) lC_31 (by decide +kernel)
theorem dk_2006 : decode code 2006 = .ok (.iconst 1, 1) := decG_ok (a := 1984) (r := 22) lC_31 (by decide +kernel)
theorem dk_2007 : decode code 2007 = .ok (.iadd, 1) := decG_ok (a := 1984) (r := 23) lC_31 (by decide +kernel)
theorem dk_2008 : decode code 2008 = .ok (.iaload, 1) := decG_ok (a := 1984) (r := 24) lC_31 (by decide +kernel)
theorem dk_2009 : decode code 2009 = .ok (.aload_n 0, 1) := decG_ok (a := 1984) (r := 25) lC_31 (by decide +kernel)
theorem dk_2010 : decode code 2010 = .ok (.iload_n 3, 1) := decG_ok (a := 1984) (r := 26) lC_31 (by decide +kernel)
theorem dk_2011 : decode code 2011 = .ok (.iconst 2, 1) := decG_ok (a := 1984) (r := 27) lC_31 (by decide +kernel)
theorem dk_2012 : decode code 2012 = .ok (.iadd, 1) := decG_ok (a := 1984) (r := 28) lC_31 (by decide +kernel)
theorem dk_2013 : decode code 2013 = .ok (.iaload, 1) := decG_ok (a := 1984) (r := 29) lC_31 (by decide +kernel)
theorem dk_2014 : decode code 2014 = .ok (.aload_n 0, 1) := decG_ok (a := 1984) (r := 30) lC_31 (by decide +kernel)
theorem dk_2015 : decode code 2015 = .ok (.iload_n 3, 1) := decG_ok (a := 1984) (r := 31) lC_31 (by decide +kernel)
theorem dk_2016 : decode code 2016 = .ok (.iconst 3, 1) := decG_ok (a := 1984) (r := 32) lC_31 (by decide +kernel)
theorem dk_2017 : decode code 2017 = .ok (.iadd, 1) := decG_ok (a := 1984) (r := 33) lC_31 (by decide +kernel)
theorem dk_2018 : decode code 2018 = .ok (.iaload, 1) := decG_ok (a := 1984) (r := 34) lC_31 (by decide +kernel)
theorem dk_2019 : decode code 2019 = .ok (.invokevirtual 243, 3) := decG_ok (a := 1984) (r := 35) lC_31 (by decide +kernel)
theorem dk_2022 : decode code 2022 = .ok (.pop2, 1) := decG_ok (a := 1984) (r := 38) lC_31 (by decide +kernel)
theorem dk_2023 : decode code 2023 = .ok (.goto (400), 3) := decG_ok (a := 1984) (r := 39) lC_31 (by decide +kernel)
theorem dk_2026 : decode code 2026 = .ok (.aload_n 1, 1) := decG_ok (a := 1984) (r := 42) lC_31 (by decide +kernel)
theorem dk_2027 : decode code 2027 = .ok (.aload_n 0, 1) := decG_ok (a := 1984) (r := 43) lC_31 (by decide +kernel)
theorem dk_2028 : decode code 2028 = .ok (.iload_n 3, 1) := decG_ok (a := 1984) (r := 44) lC_31 (by decide +kernel)
theorem dk_2029 : decode code 2029 = .ok (.iconst 1, 1) := decG_ok (a := 1984) (r := 45) lC_31 (by decide +kernel)
theorem dk_2030 : decode code 2030 = .ok (.iadd, 1) := decG_ok (a := 1984) (r := 46) lC_31 (by decide +kernel)
theorem dk_2031 : decode code 2031 = .ok (.iaload, 1) := decG_ok (a := 1984) (r := 47) lC_31 (by decide +kernel)
theorem dk_2032 : decode code 2032 = .ok (.aload_n 0, 1) := decG_ok (a := 1984) (r := 48) lC_31 (by decide +kernel)
theorem dk_2033 : decode code 2033 = .ok (.iload_n 3, 1) := decG_ok (a := 1984) (r := 49) lC_31 (by decide +kernel)
theorem dk_2034 : decode code 2034 = .ok (.iconst 2, 1) := decG_ok (a := 1984) (r := 50) lC_31 (by decide +kernel)
theorem dk_2035 : decode code 2035 = .ok (.iadd, 1) := decG_ok (a := 1984) (r := 51) lC_31 (by decide +kernel)
theorem dk_2036 : decode code 2036 = .ok (.iaload, 1) := decG_ok (a := 1984) (r := 52) lC_31 (by decide +kernel)
theorem dk_2037 : decode code 2037 = .ok (.aload_n 0, 1) := decG_ok (a := 1984) (r := 53) lC_31 (by decide +kernel)
theorem dk_2038 : decode code 2038 = .ok (.iload_n 3, 1) := decG_ok (a := 1984) (r := 54) lC_31 (by decide +kernel)
theorem dk_2039 : decode code 2039 = .ok (.iconst 3, 1) := decG_ok (a := 1984) (r := 55) lC_31 (by decide +kernel)
theorem dk_2040 : decode code 2040 = .ok (.iadd, 1) := decG_ok (a := 1984) (r := 56) lC_31 (by decide +kernel)
theorem dk_2041 : decode code 2041 = .ok (.iaload, 1) := decG_ok (a := 1984) (r := 57) lC_31 (by decide +kernel)
theorem dk_2042 : decode code 2042 = .ok (.invokevirtual 244, 3) := decG_ok (a := 1984) (r := 58) lC_31 (by decide +kernel)
theorem dk_2045 : decode code 2045 = .ok (.pop, 1) := decG_ok (a := 1984) (r := 61) lC_31 (by decide +kernel)
theorem dk_2046 : decode code 2046 = .ok (.aload_n 2, 1) := decG_ok (a := 1984) (r := 62) lC_31 (by decide +kernel)
theorem dk_2047 : decode code 2047 = .ok (.aload_n 0, 1) := decG_ok (a := 1984) (r := 63) lC_31 (by decide +kernel)
theorem dk_2048 : decode code 2048 = .ok (.iload_n 3, 1) := decG_ok (a := 2048) (r := 0) lC_32 (by decide +kernel)
theorem dk_2049 : decode code 2049 = .ok (.iconst 1, 1) := decG_ok (a := 2048) (r := 1) lC_32 (by decide +kernel)
theorem dk_2050 : decode code 2050 = .ok (.iadd, 1) := decG_ok (a := 2048) (r := 2) lC_32 (by decide +kernel)
theorem dk_2051 : decode code 2051 = .ok (.iaload, 1) := decG_ok (a := 2048) (r := 3) lC_32 (by decide +kernel)
theorem dk_2052 : decode code 2052 = .ok (.aload_n 0, 1) := decG_ok (a := 2048) (r := 4) lC_32 (by decide +kernel)
theorem dk_2053 : decode code 2053 = .ok (.iload_n 3, 1) := decG_ok (a := 2048) (r := 5) lC_32 (by decide +kernel)
theorem dk_2054 : decode code 2054 = .ok (.iconst 2, 1) := decG_ok (a := 2048) (r := 6) lC_32 (by decide +kernel)
theorem dk_2055 : decode code 2055 = .ok (.iadd, 1) := decG_ok (a := 2048) (r := 7) lC_32 (by decide +kernel)
theorem dk_2056 : decode code 2056 = .ok (.iaload, 1) := decG_ok (a := 2048) (r := 8) lC_32 (by decide +kernel)
theorem dk_2057 : decode code 2057 = .ok (.aload_n 0, 1) := decG_ok (a := 2048) (r := 9) lC_32 (by decide +kernel)
theorem dk_2058 : decode code 2058 = .ok (.iload_n 3, 1) := decG_ok (a := 2048) (r := 10) lC_32 (by decide +kernel)
theorem dk_2059 : decode code 2059 = .ok (.iconst 3, 1) := decG_ok (a := 2048) (r := 11) lC_32 (by decide +kernel)
theorem dk_2060 : decode code 2060 = .ok (.iadd, 1) := decG_ok (a := 2048) (r := 12) lC_32 (by decide +kernel)
theorem dk_2061 : decode code 2061 = .ok (.iaload, 1) := decG_ok (a := 2048) (r := 13) lC_32 (by decide +kernel)
theorem dk_2062 : decode code 2062 = .ok (.invokevirtual 247, 3) := decG_ok (a := 2048) (r := 14) lC_32 (by decide +kernel)
theorem dk_2065 : decode code 2065 = .ok (.pop, 1) := decG_ok (a := 2048) (r := 17) lC_32 (by decide +kernel)
theorem dk_2066 : decode code 2066 = .ok (.goto (357), 3) := decG_ok (a := 2048) (r := 18) lC_32 (by decide +kernel)
theorem dk_2069 : decode code 2069 = .ok (.aload_n 1, 1) := decG_ok (a := 2048) (r := 21) lC_32 (by decide +kernel)
theorem dk_2070 : decode code 2070 = .ok (.aload_n 0, 1) := decG_ok (a := 2048) (r := 22) lC_32 (by decide +kernel)
theorem dk_2071 : decode code 2071 = .ok (.iload_n 3, 1) := decG_ok (a := 2048) (r := 23) lC_32 (by decide +kernel)
theorem dk_2072 : decode code 2072 = .ok (.iconst 1, 1) := decG_ok (a := 2048) (r := 24) lC_32 (by decide +kernel)
theorem dk_2073 : decode code 2073 = .ok (.iadd, 1) := decG_ok (a := 2048) (r := 25) lC_32 (by decide +kernel)
theorem dk_2074 : decode code 2074 = .ok (.iaload, 1) := decG_ok (a := 2048) (r := 26) lC_32 (by decide +kernel)
theorem dk_2075 : decode code 2075 = .ok (.aload_n 0, 1) := decG_ok (a := 2048) (r := 27) lC_32 (by decide +kernel)
theorem dk_2076 : decode code 2076 = .ok (.iload_n 3, 1) := decG_ok (a := 2048) (r := 28) lC_32 (by decide +kernel)
theorem dk_2077 : decode code 2077 = .ok (.iconst 2, 1) := decG_ok (a := 2048) (r := 29) lC_32 (by decide +kernel)
theorem dk_2078 : decode code 2078 = .ok (.iadd, 1) := decG_ok (a := 2048) (r := 30) lC_32 (by decide +kernel)
theorem dk_2079 : decode code 2079 = .ok (.iaload, 1) := decG_ok (a := 2048) (r := 31) lC_32 (by decide +kernel)
theorem dk_2080 : decode code 2080 = .ok (.aload_n 0, 1) := decG_ok (a := 2048) (r := 32) lC_32 (by decide +kernel)
theorem dk_2081 : decode code 2081 = .ok (.iload_n 3, 1) := decG_ok (a := 2048) (r := 33) lC_32 (by decide +kernel)
theorem dk_2082 : decode code 2082 = .ok (.iconst 3, 1) := decG_ok (a := 2048) (r := 34) lC_32 (by decide +kernel)
theorem dk_2083 : decode code 2083 = .ok (.iadd, 1) := decG_ok (a := 2048) (r := 35) lC_32 (by decide +kernel)
theorem dk_2084 : decode code 2084 = .ok (.iaload, 1) := decG_ok (a := 2048) (r := 36) lC_32 (by decide +kernel)
theorem dk_2085 : decode code 2085 = .ok (.aload_n 0, 1) := decG_ok (a := 2048) (r := 37) lC_32 (by decide +kernel)
theorem dk_2086 : decode code 2086 = .ok (.iload_n 3, 1) := decG_ok (a := 2048) (r := 38) lC_32 (by decide +kernel)
theorem dk_2087 : decode code 2087 = .ok (.iconst 4, 1) := decG_ok (a := 2048) (r := 39) lC_32 (by decide +kernel)
theorem dk_2088 : decode code 2088 = .ok (.iadd, 1) := decG_ok (a := 2048) (r := 40) lC_32 (by decide +kernel)
theorem dk_2089 : decode code 2089 = .ok (.iaload, 1) := decG_ok (a := 2048) (r := 41) lC_32 (by decide +kernel)
theorem dk_2090 : decode code 2090 = .ok (.invokevirtual 248, 3) := decG_ok (a := 2048) (r := 42) lC_32 (by decide +kernel)
theorem dk_2093 : decode code 2093 = .ok (.pop, 1) := decG_ok (a := 2048) (r := 45) lC_32 (by decide +kernel)
theorem dk_2094 : decode code 2094 = .ok (.aload_n 2, 1) := decG_ok (a := 2048) (r := 46) lC_32 (by decide +kernel)
theorem dk_2095 : decode code 2095 = .ok (.aload_n 0, 1) := decG_ok (a := 2048) (r := 47) lC_32 (by decide +kernel)
theorem dk_2096 : decode code 2096 = .ok (.iload_n 3, 1) := decG_ok (a := 2048) (r := 48) lC_32 (by decide +kernel)
theorem dk_2097 : decode code 2097 = .ok (.iconst 1, 1) := decG_ok (a := 2048) (r := 49) lC_32 (by decide +kernel)
theorem dk_2098 : decode code 2098 = .ok (.iadd, 1) := decG_ok (a := 2048) (r := 50) lC_32 (by decide +kernel)
theorem dk_2099 : decode code 2099 = .ok (.iaload, 1) := decG_ok (a := 2048) (r := 51) lC_32 (by decide +kernel)
theorem dk_2100 : decode code 2100 = .ok (.aload_n 0, 1) := decG_ok (a := 2048) (r := 52) lC_32 (by decide +kernel)
theorem dk_2101 : decode code 2101 = .ok (.iload_n 3, 1) := decG_ok (a := 2048) (r := 53) lC_32 (by decide +kernel)
theorem dk_2102 : decode code 2102 = .ok (.iconst 2, 1) := decG_ok (a := 2048) (r := 54) lC_32 (by decide +kernel)
theorem dk_2103 : decode code 2103 = .ok (.iadd, 1) := decG_ok (a := 2048) (r := 55) lC_32 (by decide +kernel)
theorem dk_2104 : decode code 2104 = .ok (.iaload, 1) := decG_ok (a := 2048) (r := 56) lC_32 (by decide +kernel)
theorem dk_2105 : decode code 2105 = .ok (.aload_n 0, 1) := decG_ok (a := 2048) (r := 57) lC_32 (by decide +kernel)
theorem dk_2106 : decode code 2106 = .ok (.iload_n 3, 1) := decG_ok (a := 2048) (r := 58) lC_32 (by decide +kernel)
theorem dk_2107 : decode code 2107 = .ok (.iconst 3, 1) := decG_ok (a := 2048) (r := 59) lC_32 (by decide +kernel)
theorem dk_2108 : decode code 2108 = .ok (.iadd, 1) := decG_ok (a := 2048) (r := 60) lC_32 (by decide +kernel)
theorem dk_2109 : decode code 2109 = .ok (.iaload, 1) := decG_ok (a := 2048) (r := 61) lC_32 (by decide +kernel)
theorem dk_2110 : decode code 2110 = .ok (.aload_n 0, 1) := decG_ok (a := 2048) (r := 62) lC_32 (by decide +kernel)
theorem dk_2111 : decode code 2111 = .ok (.iload_n 3, 1) := decG_ok (a := 2048) (r := 63) lC_32 (by decide +kernel)
theorem dk_2112 : decode code 2112 = .ok (.iconst 4, 1) := decG_ok (a := 2112) (r := 0) lC_33 (by decide +kernel)
theorem dk_2113 : decode code 2113 = .ok (.iadd, 1) := decG_ok (a := 2112) (r := 1) lC_33 (by decide +kernel)
theorem dk_2114 : decode code 2114 = .ok (.iaload, 1) := decG_ok (a := 2112) (r := 2) lC_33 (by decide +kernel)
theorem dk_2115 : decode code 2115 = .ok (.invokevirtual 251, 3) := decG_ok (a := 2112) (r := 3) lC_33 (by decide +kernel)
theorem dk_2118 : decode code 2118 = .ok (.pop, 1) := decG_ok (a := 2112) (r := 6) lC_33 (by decide +kernel)
theorem dk_2119 : decode code 2119 = .ok (.goto (304), 3) := decG_ok (a := 2112) (r := 7) lC_33 (by decide +kernel)
theorem dk_2122 : decode code 2122 = .ok (.aload_n 1, 1) := decG_ok (a := 2112) (r := 10) lC_33 (by decide +kernel)
theorem dk_2123 : decode code 2123 = .ok (.aload_n 0, 1) := decG_ok (a := 2112) (r := 11) lC_33 (by decide +kernel)
theorem dk_2124 : decode code 2124 = .ok (.iload_n 3, 1) := decG_ok (a := 2112) (r := 12) lC_33 (by decide +kernel)
theorem dk_2125 : decode code 2125 = .ok (.iconst 1, 1) := decG_ok (a := 2112) (r := 13) lC_33 (by decide +kernel)
theorem dk_2126 : decode code 2126 = .ok (.iadd, 1) := decG_ok (a := 2112) (r := 14) lC_33 (by decide +kernel)
theorem dk_2127 : decode code 2127 = .ok (.iaload, 1) := decG_ok (a := 2112) (r := 15) lC_33 (by decide +kernel)
theorem dk_2128 : decode code 2128 = .ok (.aload_n 0, 1) := decG_ok (a := 2112) (r := 16) lC_33 (by decide +kernel)
theorem dk_2129 : decode code 2129 = .ok (.iload_n 3, 1) := decG_ok (a := 2112) (r := 17) lC_33 (by decide +kernel)
theorem dk_2130 : decode code 2130 = .ok (.iconst 2, 1) := decG_ok (a := 2112) (r := 18) lC_33 (by decide +kernel)
theorem dk_2131 : decode code 2131 = .ok (.iadd, 1) := decG_ok (a := 2112) (r := 19) lC_33 (by decide +kernel)
theorem dk_2132 : decode code 2132 = .ok (.iaload, 1) := decG_ok (a := 2112) (r := 20) lC_33 (by decide +kernel)
theorem dk_2133 : decode code 2133 = .ok (.aload_n 0, 1) := decG_ok (a := 2112) (r := 21) lC_33 (by decide +kernel)
theorem dk_2134 : decode code 2134 = .ok (.iload_n 3, 1) := decG_ok (a := 2112) (r := 22) lC_33 (by decide +kernel)
theorem dk_2135 : decode code 2135 = .ok (.iconst 3, 1) := decG_ok (a := 2112) (r := 23) lC_33 (by decide +kernel)
theorem dk_2136 : decode code 2136 = .ok (.iadd, 1) := decG_ok (a := 2112) (r := 24) lC_33 (by decide +kernel)
theorem dk_2137 : decode code 2137 = .ok (.iaload, 1) := decG_ok (a := 2112) (r := 25) lC_33 (by decide +kernel)
theorem dk_2138 : decode code 2138 = .ok (.aload_n 0, 1) := decG_ok (a := 2112) (r := 26) lC_33 (by decide +kernel)
theorem dk_2139 : decode code 2139 = .ok (.iload_n 3, 1) := decG_ok (a := 2112) (r := 27) lC_33 (by decide +kernel)
theorem dk_2140 : decode code 2140 = .ok (.iconst 4, 1) := decG_ok (a := 2112) (r := 28) lC_33 (by decide +kernel)
theorem dk_2141 : decode code 2141 = .ok (.iadd, 1) := decG_ok (a := 2112) (r := 29) lC_33 (by decide +kernel)
theorem dk_2142 : decode code 2142 = .ok (.iaload, 1) := decG_ok (a := 2112) (r := 30) lC_33 (by decide +kernel)
theorem dk_2143 : decode code 2143 = .ok (.invokevirtual 252, 3) := decG_ok (a := 2112) (r := 31) lC_33 (by decide +kernel)
theorem dk_2146 : decode code 2146 = .ok (.pop, 1) := decG_ok (a := 2112) (r := 34) lC_33 (by decide +kernel)
theorem dk_2147 : decode code 2147 = .ok (.aload_n 2, 1) := decG_ok (a := 2112) (r := 35) lC_33 (by decide +kernel)
theorem dk_2148 : decode code 2148 = .ok (.aload_n 0, 1) := decG_ok (a := 2112) (r := 36) lC_33 (by decide +kernel)
theorem dk_2149 : decode code 2149 = .ok (.iload_n 3, 1) := decG_ok (a := 2112) (r := 37) lC_33 (by decide +kernel)
theorem dk_2150 : decode code 2150 = .ok (.iconst 1, 1) := decG_ok (a := 2112) (r := 38) lC_33 (by decide +kernel)
theorem dk_2151 : decode code 2151 = .ok (.iadd, 1) := decG_ok (a := 2112) (r := 39) lC_33 (by decide +kernel)
theorem dk_2152 : decode code 2152 = .ok (.iaload, 1) := decG_ok (a := 2112) (r := 40) lC_33 (by decide +kernel)
theorem dk_2153 : decode code 2153 = .ok (.aload_n 0, 1) := decG_ok (a := 2112) (r := 41) lC_33 (by decide +kernel)
theorem dk_2154 : decode code 2154 = .ok (.iload_n 3, 1) := decG_ok (a := 2112) (r := 42) lC_33 (by decide +kernel)
theorem dk_2155 : decode code 2155 = .ok (.iconst 2, 1) := decG_ok (a := 2112) (r := 43) lC_33 (by decide +kernel)
theorem dk_2156 : decode code 2156 = .ok (.iadd, 1) := decG_ok (a := 2112) (r := 44) lC_33 (by decide +kernel)
theorem dk_2157 : decode code 2157 = .ok (.iaload, 1) := decG_ok (a := 2112) (r := 45) lC_33 (by decide +kernel)
theorem dk_2158 : decode code 2158 = .ok (.aload_n 0, 1) := decG_ok (a := 2112) (r := 46) lC_33 (by decide +kernel)
theorem dk_2159 : decode code 2159 = .ok (.iload_n 3, 1) := decG_ok (a := 2112) (r := 47) lC_33 (by decide +kernel)
theorem dk_2160 : decode code 2160 = .ok (.iconst 3, 1) := decG_ok (a := 2112) (r := 48) lC_33 (by decide +kernel)
theorem dk_2161 : decode code 2161 = .ok (.iadd, 1) := decG_ok (a := 2112) (r := 49) lC_33 (by decide +kernel)
theorem dk_2162 : decode code 2162 = .ok (.iaload, 1) := decG_ok (a := 2112) (r := 50) lC_33 (by decide +kernel)
theorem dk_2163 : decode code 2163 = .ok (.aload_n 0, 1) := decG_ok (a := 2112) (r := 51) lC_33 (by decide +kernel)
theorem dk_2164 : decode code 2164 = .ok (.iload_n 3, 1) := decG_ok (a := 2112) (r := 52) lC_33 (by decide +kernel)
theorem dk_2165 : decode code 2165 = .ok (.iconst 4, 1) := decG_ok (a := 2112) (r := 53) lC_33 (by decide +kernel)
theorem dk_2166 : decode code 2166 = .ok (.iadd, 1) := decG_ok (a := 2112) (r := 54) lC_33 (by decide +kernel)
theorem dk_2167 : decode code 2167 = .ok (.iaload, 1) := decG_ok (a := 2112) (r := 55) lC_33 (by decide +kernel)
theorem dk_2168 : decode code 2168 = .ok (.invokevirtual 255, 3) := decG_ok (a := 2112) (r := 56) lC_33 (by decide +kernel)
theorem dk_2171 : decode code 2171 = .ok (.pop, 1) := decG_ok (a := 2112) (r := 59) lC_33 (by decide +kernel)
theorem dk_2172 : decode code 2172 = .ok (.goto (251), 3) := decG_ok (a := 2112) (r := 60) lC_33 (by decide +kernel)
theorem dk_2175 : decode code 2175 = .ok (.aload_n 1, 1) := decG_ok (a := 2112) (r := 63) lC_33 (by decide +kernel)
theorem dk_2176 : decode code 2176 = .ok (.aload_n 0, 1) := decG_ok (a := 2176) (r := 0) lC_34 (by decide +kernel)
theorem dk_2177 : decode code 2177 = .ok (.iload_n 3, 1) := decG_ok (a := 2176) (r := 1) lC_34 (by decide +kernel)
theorem dk_2178 : decode code 2178 = .ok (.iconst 1, 1) := decG_ok (a := 2176) (r := 2) lC_34 (by decide +kernel)
theorem dk_2179 : decode code 2179 = .ok (.iadd, 1) := decG_ok (a := 2176) (r := 3) lC_34 (by decide +kernel)
theorem dk_2180 : decode code 2180 = .ok (.iaload, 1) := decG_ok (a := 2176) (r := 4) lC_34 (by decide +kernel)
theorem dk_2181 : decode code 2181 = .ok (.invokevirtual 256, 3) := decG_ok (a := 2176) (r := 5) lC_34 (by decide +kernel)
theorem dk_2184 : decode code 2184 = .ok (.pop, 1) := decG_ok (a := 2176) (r := 8) lC_34 (by decide +kernel)
theorem dk_2185 : decode code 2185 = .ok (.aload_n 2, 1) := decG_ok (a := 2176) (r := 9) lC_34 (by decide +kernel)
theorem dk_2186 : decode code 2186 = .ok (.aload_n 0, 1) := decG_ok (a := 2176) (r := 10) lC_34 (by decide +kernel)
theorem dk_2187 : decode code 2187 = .ok (.iload_n 3, 1) := decG_ok (a := 2176) (r := 11) lC_34 (by decide +kernel)
theorem dk_2188 : decode code 2188 = .ok (.iconst 1, 1) := decG_ok (a := 2176) (r := 12) lC_34 (by decide +kernel)
theorem dk_2189 : decode code 2189 = .ok (.iadd, 1) := decG_ok (a := 2176) (r := 13) lC_34 (by decide +kernel)
theorem dk_2190 : decode code 2190 = .ok (.iaload, 1) := decG_ok (a := 2176) (r := 14) lC_34 (by decide +kernel)
theorem dk_2191 : decode code 2191 = .ok (.invokevirtual 259, 3) := decG_ok (a := 2176) (r := 15) lC_34 (by decide +kernel)
theorem dk_2194 : decode code 2194 = .ok (.pop, 1) := decG_ok (a := 2176) (r := 18) lC_34 (by decide +kernel)
theorem dk_2195 : decode code 2195 = .ok (.goto (228), 3) := decG_ok (a := 2176) (r := 19) lC_34 (by decide +kernel)
theorem dk_2198 : decode code 2198 = .ok (.aload_n 1, 1) := decG_ok (a := 2176) (r := 22) lC_34 (by decide +kernel)
theorem dk_2199 : decode code 2199 = .ok (.aload_n 0, 1) := decG_ok (a := 2176) (r := 23) lC_34 (by decide +kernel)
theorem dk_2200 : decode code 2200 = .ok (.iload_n 3, 1) := decG_ok (a := 2176) (r := 24) lC_34 (by decide +kernel)
theorem dk_2201 : decode code 2201 = .ok (.iconst 1, 1) := decG_ok (a := 2176) (r := 25) lC_34 (by decide +kernel)
theorem dk_2202 : decode code 2202 = .ok (.iadd, 1) := decG_ok (a := 2176) (r := 26) lC_34 (by decide +kernel)
theorem dk_2203 : decode code 2203 = .ok (.iaload, 1) := decG_ok (a := 2176) (r := 27) lC_34 (by decide +kernel)
theorem dk_2204 : decode code 2204 = .ok (.invokevirtual 260, 3) := decG_ok (a := 2176) (r := 28) lC_34 (by decide +kernel)
theorem dk_2207 : decode code 2207 = .ok (.pop, 1) := decG_ok (a := 2176) (r := 31) lC_34 (by decide +kernel)
theorem dk_2208 : decode code 2208 = .ok (.aload_n 2, 1) := decG_ok (a := 2176) (r := 32) lC_34 (by decide +kernel)
theorem dk_2209 : decode code 2209 = .ok (.aload_n 0, 1) := decG_ok (a := 2176) (r := 33) lC_34 (by decide +kernel)
theorem dk_2210 : decode code 2210 = .ok (.iload_n 3, 1) := decG_ok (a := 2176) (r := 34) lC_34 (by decide +kernel)
theorem dk_2211 : decode code 2211 = .ok (.iconst 1, 1) := decG_ok (a := 2176) (r := 35) lC_34 (by decide +kernel)
theorem dk_2212 : decode code 2212 = .ok (.iadd, 1) := decG_ok (a := 2176) (r := 36) lC_34 (by decide +kernel)
theorem dk_2213 : decode code 2213 = .ok (.iaload, 1) := decG_ok (a := 2176) (r := 37) lC_34 (by decide +kernel)
theorem dk_2214 : decode code 2214 = .ok (.invokevirtual 263, 3) := decG_ok (a := 2176) (r := 38) lC_34 (by decide +kernel)
theorem dk_2217 : decode code 2217 = .ok (.pop, 1) := decG_ok (a := 2176) (r := 41) lC_34 (by decide +kernel)
theorem dk_2218 : decode code 2218 = .ok (.goto (205), 3) := decG_ok (a := 2176) (r := 42) lC_34 (by decide +kernel)
theorem dk_2221 : decode code 2221 = .ok (.aload_n 1, 1) := decG_ok (a := 2176) (r := 45) lC_34 (by decide +kernel)
theorem dk_2222 : decode code 2222 = .ok (.aload_n 0, 1) := decG_ok (a := 2176) (r := 46) lC_34 (by decide +kernel)
theorem dk_2223 : decode code 2223 = .ok (.iload_n 3, 1) := decG_ok (a := 2176) (r := 47) lC_34 (by decide +kernel)
theorem dk_2224 : decode code 2224 = .ok (.iconst 1, 1) := decG_ok (a := 2176) (r := 48) lC_34 (by decide +kernel)
theorem dk_2225 : decode code 2225 = .ok (.iadd, 1) := decG_ok (a := 2176) (r := 49) lC_34 (by decide +kernel)
theorem dk_2226 : decode code 2226 = .ok (.iaload, 1) := decG_ok (a := 2176) (r := 50) lC_34 (by decide +kernel)
theorem dk_2227 : decode code 2227 = .ok (.invokevirtual 264, 3) := decG_ok (a := 2176) (r := 51) lC_34 (by decide +kernel)
theorem dk_2230 : decode code 2230 = .ok (.pop, 1) := decG_ok (a := 2176) (r := 54) lC_34 (by decide +kernel)
theorem dk_2231 : decode code 2231 = .ok (.aload_n 2, 1) := decG_ok (a := 2176) (r := 55) lC_34 (by decide +kernel)
theorem dk_2232 : decode code 2232 = .ok (.aload_n 0, 1) := decG_ok (a := 2176) (r := 56) lC_34 (by decide +kernel)
theorem dk_2233 : decode code 2233 = .ok (.iload_n 3, 1) := decG_ok (a := 2176) (r := 57) lC_34 (by decide +kernel)
theorem dk_2234 : decode code 2234 = .ok (.iconst 1, 1) := decG_ok (a := 2176) (r := 58) lC_34 (by decide +kernel)
theorem dk_2235 : decode code 2235 = .ok (.iadd, 1) := decG_ok (a := 2176) (r := 59) lC_34 (by decide +kernel)
theorem dk_2236 : decode code 2236 = .ok (.iaload, 1) := decG_ok (a := 2176) (r := 60) lC_34 (by decide +kernel)
theorem dk_2237 : decode code 2237 = .ok (.invokevirtual 267, 3) := decG_ok (a := 2176) (r := 61) lC_34 (by decide +kernel)
theorem dk_2240 : decode code 2240 = .ok (.pop, 1) := decG_ok (a := 2240) (r := 0) lC_35 (by decide +kernel)
theorem dk_2241 : decode code 2241 = .ok (.goto (182), 3) := decG_ok (a := 2240) (r := 1) lC_35 (by decide +kernel)
theorem dk_2244 : decode code 2244 = .ok (.aload_n 1, 1) := decG_ok (a := 2240) (r := 4) lC_35 (by decide +kernel)
theorem dk_2245 : decode code 2245 = .ok (.aload_n 0, 1) := decG_ok (a := 2240) (r := 5) lC_35 (by decide +kernel)
theorem dk_2246 : decode code 2246 = .ok (.iload_n 3, 1) := decG_ok (a := 2240) (r := 6) lC_35 (by decide +kernel)
theorem dk_2247 : decode code 2247 = .ok (.iconst 1, 1) := decG_ok (a := 2240) (r := 7) lC_35 (by decide +kernel)
theorem dk_2248 : decode code 2248 = .ok (.iadd, 1) := decG_ok (a := 2240) (r := 8) lC_35 (by decide +kernel)
theorem dk_2249 : decode code 2249 = .ok (.iaload, 1) := decG_ok (a := 2240) (r := 9) lC_35 (by decide +kernel)
theorem dk_2250 : decode code 2250 = .ok (.aload_n 0, 1) := decG_ok (a := 2240) (r := 10) lC_35 (by decide +kernel)
theorem dk_2251 : decode code 2251 = .ok (.iload_n 3, 1) := decG_ok (a := 2240) (r := 11) lC_35 (by decide +kernel)
theorem dk_2252 : decode code 2252 = .ok (.iconst 2, 1) := decG_ok (a := 2240) (r := 12) lC_35 (by decide +kernel)
theorem dk_2253 : decode code 2253 = .ok (.iadd, 1) := decG_ok (a := 2240) (r := 13) lC_35 (by decide +kernel)
theorem dk_2254 : decode code 2254 = .ok (.iaload, 1) := decG_ok (a := 2240) (r := 14) lC_35 (by decide +kernel)
theorem dk_2255 : decode code 2255 = .ok (.aload_n 0, 1) := decG_ok (a := 2240) (r := 15) lC_35 (by decide +kernel)
theorem dk_2256 : decode code 2256 = .ok (.iload_n 3, 1) := decG_ok (a := 2240) (r := 16) lC_35 (by decide +kernel)
theorem dk_2257 : decode code 2257 = .ok (.iconst 3, 1) := decG_ok (a := 2240) (r := 17) lC_35 (by decide +kernel)
theorem dk_2258 : decode code 2258 = .ok (.iadd, 1) := decG_ok (a := 2240) (r := 18) lC_35 (by decide +kernel)
theorem dk_2259 : decode code 2259 = .ok (.iaload, 1) := decG_ok (a := 2240) (r := 19) lC_35 (by decide +kernel)
theorem dk_2260 : decode code 2260 = .ok (.invokevirtual 268, 3) := decG_ok (a := 2240) (r := 20) lC_35 (by decide +kernel)
theorem dk_2263 : decode code 2263 = .ok (.pop, 1) := decG_ok (a := 2240) (r := 23) lC_35 (by decide +kernel)
theorem dk_2264 : decode code 2264 = .ok (.aload_n 2, 1) := decG_ok (a := 2240) (r := 24) lC_35 (by decide +kernel)
theorem dk_2265 : decode code 2265 = .ok (.aload_n 0, 1) := decG_ok (a := 2240) (r := 25) lC_35 (by decide +kernel)
theorem dk_2266 : decode code 2266 = .ok (.iload_n 3, 1) := decG_ok (a := 2240) (r := 26) lC_35 (by decide +kernel)
theorem dk_2267 : decode code 2267 = .ok (.iconst 1, 1) := decG_ok (a := 2240) (r := 27) lC_35 (by decide +kernel)
theorem dk_2268 : decode code 2268 = .ok (.iadd, 1) := decG_ok (a := 2240) (r := 28) lC_35 (by decide +kernel)
theorem dk_2269 : decode code 2269 = .ok (.iaload, 1) := decG_ok (a := 2240) (r := 29) lC_35 (by decide +kernel)
theorem dk_2270 : decode code 2270 = .ok (.aload_n 0, 1) := decG_ok (a := 2240) (r := 30) lC_35 (by decide +kernel)
theorem dk_2271 : decode code 2271 = .ok (.iload_n 3, 1) := decG_ok (a := 2240) (r := 31) lC_35 (by decide +kernel)
theorem dk_2272 : decode code 2272 = .ok (.iconst 2, 1) := decG_ok (a := 2240) (r := 32) lC_35 (by decide +kernel)
theorem dk_2273 : decode code 2273 = .ok (.iadd, 1) := decG_ok (a := 2240) (r := 33) lC_35 (by decide +kernel)
theorem dk_2274 : decode code 2274 = .ok (.iaload, 1) := decG_ok (a := 2240) (r := 34) lC_35 (by decide +kernel)
theorem dk_2275 : decode code 2275 = .ok (.aload_n 0, 1) := decG_ok (a := 2240) (r := 35) lC_35 (by decide +kernel)
theorem dk_2276 : decode code 2276 = .ok (.iload_n 3, 1) := decG_ok (a := 2240) (r := 36) lC_35 (by decide +kernel)
theorem dk_2277 : decode code 2277 = .ok (.iconst 3, 1) := decG_ok (a := 2240) (r := 37) lC_35 (by decide +kernel)
theorem dk_2278 : decode code 2278 = .ok (.iadd, 1) := decG_ok (a := 2240) (r := 38) lC_35 (by decide +kernel)
theorem dk_2279 : decode code 2279 = .ok (.iaload, 1) := decG_ok (a := 2240) (r := 39) lC_35 (by decide +kernel)
theorem dk_2280 : decode code 2280 = .ok (.invokevirtual 271, 3) := decG_ok (a := 2240) (r := 40) lC_35 (by decide +kernel)
theorem dk_2283 : decode code 2283 = .ok (.pop, 1) := decG_ok (a := 2240) (r := 43) lC_35 (by decide +kernel)
theorem dk_2284 : decode code 2284 = .ok (.goto (139), 3) := decG_ok (a := 2240) (r := 44) lC_35 (by decide +kernel)
theorem dk_2287 : decode code 2287 = .ok (.aload_n 1, 1) := decG_ok (a := 2240) (r := 47) lC_35 (by decide +kernel)
theorem dk_2288 : decode code 2288 = .ok (.aload_n 0, 1) := decG_ok (a := 2240) (r := 48) lC_35 (by decide +kernel)
theorem dk_2289 : decode code 2289 = .ok (.iload_n 3, 1) := decG_ok (a := 2240) (r := 49) lC_35 (by decide +kernel)
theorem dk_2290 : decode code 2290 = .ok (.iconst 1, 1) := decG_ok (a := 2240) (r := 50) lC_35 (by decide +kernel)
theorem dk_2291 : decode code 2291 = .ok (.iadd, 1) := decG_ok (a := 2240) (r := 51) lC_35 (by decide +kernel)
theorem dk_2292 : decode code 2292 = .ok (.iaload, 1) := decG_ok (a := 2240) (r := 52) lC_35 (by decide +kernel)
theorem dk_2293 : decode code 2293 = .ok (.aload_n 0, 1) := decG_ok (a := 2240) (r := 53) lC_35 (by decide +kernel)
theorem dk_2294 : decode code 2294 = .ok (.iload_n 3, 1) := decG_ok (a := 2240) (r := 54) lC_35 (by decide +kernel)
theorem dk_2295 : decode code 2295 = .ok (.iconst 2, 1) := decG_ok (a := 2240) (r := 55) lC_35 (by decide +kernel)
theorem dk_2296 : decode code 2296 = .ok (.iadd, 1) := decG_ok (a := 2240) (r := 56) lC_35 (by decide +kernel)
theorem dk_2297 : decode code 2297 = .ok (.iaload, 1) := decG_ok (a := 2240) (r := 57) lC_35 (by decide +kernel)
theorem dk_2298 : decode code 2298 = .ok (.aload_n 0, 1) := decG_ok (a := 2240) (r := 58) lC_35 (by decide +kernel)
theorem dk_2299 : decode code 2299 = .ok (.iload_n 3, 1) := decG_ok (a := 2240) (r := 59) lC_35 (by decide +kernel)
theorem dk_2300 : decode code 2300 = .ok (.iconst 3, 1) := decG_ok (a := 2240) (r := 60) lC_35 (by decide +kernel)
theorem dk_2301 : decode code 2301 = .ok (.iadd, 1) := decG_ok (a := 2240) (r := 61) lC_35 (by decide +kernel)
theorem dk_2302 : decode code 2302 = .ok (.iaload, 1) := decG_ok (a := 2240) (r := 62) lC_35 (by decide +kernel)
theorem dk_2303 : decode code 2303 = .ok (.i2l, 1) := decG_ok (a := 2240) (r := 63) lC_35 (by decide +kernel)
theorem dk_2304 : decode code 2304 = .ok (.bipush 32, 2) := decG_ok (a := 2304) (r := 0) lC_36 (by decide +kernel)
theorem dk_2306 : decode code 2306 = .ok (.lshl, 1) := decG_ok (a := 2304) (r := 2) lC_36 (by decide +kernel)
theorem dk_2307 : decode code 2307 = .ok (.aload_n 0, 1) := decG_ok (a := 2304) (r := 3) lC_36 (by decide +kernel)
theorem dk_2308 : decode code 2308 = .ok (.iload_n 3, 1) := decG_ok (a := 2304) (r := 4) lC_36 (by decide +kernel)
theorem dk_2309 : decode code 2309 = .ok (.iconst 4, 1) := decG_ok (a := 2304) (r := 5) lC_36 (by decide +kernel)
theorem dk_2310 : decode code 2310 = .ok (.iadd, 1) := decG_ok (a := 2304) (r := 6) lC_36 (by decide +kernel)
theorem dk_2311 : decode code 2311 = .ok (.iaload, 1) := decG_ok (a := 2304) (r := 7) lC_36 (by decide +kernel)
theorem dk_2312 : decode code 2312 = .ok (.i2l, 1) := decG_ok (a := 2304) (r := 8) lC_36 (by decide +kernel)
theorem dk_2313 : decode code 2313 = .ok (.ldc2_w 272, 3) := decG_ok (a := 2304) (r := 9) lC_36 (by decide +kernel)
theorem dk_2316 : decode code 2316 = .ok (.land, 1) := decG_ok (a := 2304) (r := 12) lC_36 (by decide +kernel)
theorem dk_2317 : decode code 2317 = .ok (.lor, 1) := decG_ok (a := 2304) (r := 13) lC_36 (by decide +kernel)
theorem dk_2318 : decode code 2318 = .ok (.invokevirtual 274, 3) := decG_ok (a := 2304) (r := 14) lC_36 (by decide +kernel)
theorem dk_2321 : decode code 2321 = .ok (.pop, 1) := decG_ok (a := 2304) (r := 17) lC_36 (by decide +kernel)
theorem dk_2322 : decode code 2322 = .ok (.aload_n 2, 1) := decG_ok (a := 2304) (r := 18) lC_36 (by decide +kernel)
theorem dk_2323 : decode code 2323 = .ok (.aload_n 0, 1) := decG_ok (a := 2304) (r := 19) lC_36 (by decide +kernel)
theorem dk_2324 : decode code 2324 = .ok (.iload_n 3, 1) := decG_ok (a := 2304) (r := 20) lC_36 (by decide +kernel)
theorem dk_2325 : decode code 2325 = .ok (.iconst 1, 1) := decG_ok (a := 2304) (r := 21) lC_36 (by decide +kernel)
theorem dk_2326 : decode code 2326 = .ok (.iadd, 1) := decG_ok (a := 2304) (r := 22) lC_36 (by decide +kernel)
theorem dk_2327 : decode code 2327 = .ok (.iaload, 1) := decG_ok (a := 2304) (r := 23) lC_36 (by decide +kernel)
theorem dk_2328 : decode code 2328 = .ok (.aload_n 0, 1) := decG_ok (a := 2304) (r := 24) lC_36 (by decide +kernel)
theorem dk_2329 : decode code 2329 = .ok (.iload_n 3, 1) := decG_ok (a := 2304) (r := 25) lC_36 (by decide +kernel)
theorem dk_2330 : decode code 2330 = .ok (.iconst 2, 1) := decG_ok (a := 2304) (r := 26) lC_36 (by decide +kernel)
theorem dk_2331 : decode code 2331 = .ok (.iadd, 1) := decG_ok (a := 2304) (r := 27) lC_36 (by decide +kernel)
theorem dk_2332 : decode code 2332 = .ok (.iaload, 1) := decG_ok (a := 2304) (r := 28) lC_36 (by decide +kernel)
theorem dk_2333 : decode code 2333 = .ok (.aload_n 0, 1) := decG_ok (a := 2304) (r := 29) lC_36 (by decide +kernel)
theorem dk_2334 : decode code 2334 = .ok (.iload_n 3, 1) := decG_ok (a := 2304) (r := 30) lC_36 (by decide +kernel)
theorem dk_2335 : decode code 2335 = .ok (.iconst 3, 1) := decG_ok (a := 2304) (r := 31) lC_36 (by decide +kernel)
theorem dk_2336 : decode code 2336 = .ok (.iadd, 1) := decG_ok (a := 2304) (r := 32) lC_36 (by decide +kernel)
theorem dk_2337 : decode code 2337 = .ok (.iaload, 1) := decG_ok (a := 2304) (r := 33) lC_36 (by decide +kernel)
theorem dk_2338 : decode code 2338 = .ok (.i2l, 1) := decG_ok (a := 2304) (r := 34) lC_36 (by decide +kernel)
theorem dk_2339 : decode code 2339 = .ok (.bipush 32, 2) := decG_ok (a := 2304) (r := 35) lC_36 (by decide +kernel)
theorem dk_2341 : decode code 2341 = .ok (.lshl, 1) := decG_ok (a := 2304) (r := 37) lC_36 (by decide +kernel)
theorem dk_2342 : decode code 2342 = .ok (.aload_n 0, 1) := decG_ok (a := 2304) (r := 38) lC_36 (by decide +kernel)
theorem dk_2343 : decode code 2343 = .ok (.iload_n 3, 1) := decG_ok (a := 2304) (r := 39) lC_36 (by decide +kernel)
theorem dk_2344 : decode code 2344 = .ok (.iconst 4, 1) := decG_ok (a := 2304) (r := 40) lC_36 (by decide +kernel)
theorem dk_2345 : decode code 2345 = .ok (.iadd, 1) := decG_ok (a := 2304) (r := 41) lC_36 (by decide +kernel)
theorem dk_2346 : decode code 2346 = .ok (.iaload, 1) := decG_ok (a := 2304) (r := 42) lC_36 (by decide +kernel)
theorem dk_2347 : decode code 2347 = .ok (.i2l, 1) := decG_ok (a := 2304) (r := 43) lC_36 (by decide +kernel)
theorem dk_2348 : decode code 2348 = .ok (.ldc2_w 272, 3) := decG_ok (a := 2304) (r := 44) lC_36 (by decide +kernel)
theorem dk_2351 : decode code 2351 = .ok (.land, 1) := decG_ok (a := 2304) (r := 47) lC_36 (by decide +kernel)
theorem dk_2352 : decode code 2352 = .ok (.lor, 1) := decG_ok (a := 2304) (r := 48) lC_36 (by decide +kernel)
theorem dk_2353 : decode code 2353 = .ok (.invokevirtual 278, 3) := decG_ok (a := 2304) (r := 49) lC_36 (by decide +kernel)
theorem dk_2356 : decode code 2356 = .ok (.pop, 1) := decG_ok (a := 2304) (r := 52) lC_36 (by decide +kernel)
theorem dk_2357 : decode code 2357 = .ok (.goto (66), 3) := decG_ok (a := 2304) (r := 53) lC_36 (by decide +kernel)
theorem dk_2360 : decode code 2360 = .ok (.aload_n 1, 1) := decG_ok (a := 2304) (r := 56) lC_36 (by decide +kernel)
theorem dk_2361 : decode code 2361 = .ok (.aload_n 0, 1) := decG_ok (a := 2304) (r := 57) lC_36 (by decide +kernel)
theorem dk_2362 : decode code 2362 = .ok (.iload_n 3, 1) := decG_ok (a := 2304) (r := 58) lC_36 (by decide +kernel)
theorem dk_2363 : decode code 2363 = .ok (.iconst 1, 1) := decG_ok (a := 2304) (r := 59) lC_36 (by decide +kernel)
theorem dk_2364 : decode code 2364 = .ok (.iadd, 1) := decG_ok (a := 2304) (r := 60) lC_36 (by decide +kernel)
theorem dk_2365 : decode code 2365 = .ok (.iaload, 1) := decG_ok (a := 2304) (r := 61) lC_36 (by decide +kernel)
theorem dk_2366 : decode code 2366 = .ok (.aload_n 0, 1) := decG_ok (a := 2304) (r := 62) lC_36 (by decide +kernel)
theorem dk_2367 : decode code 2367 = .ok (.iload_n 3, 1) := decG_ok (a := 2304) (r := 63) lC_36 (by decide +kernel)
theorem dk_2368 : decode code 2368 = .ok (.iconst 2, 1) := decG_ok (a := 2368) (r := 0) lC_37 (by decide +kernel)
theorem dk_2369 : decode code 2369 = .ok (.iadd, 1) := decG_ok (a := 2368) (r := 1) lC_37 (by decide +kernel)
theorem dk_2370 : decode code 2370 = .ok (.iaload, 1) := decG_ok (a := 2368) (r := 2) lC_37 (by decide +kernel)
theorem dk_2371 : decode code 2371 = .ok (.aload_n 0, 1) := decG_ok (a := 2368) (r := 3) lC_37 (by decide +kernel)
theorem dk_2372 : decode code 2372 = .ok (.iload_n 3, 1) := decG_ok (a := 2368) (r := 4) lC_37 (by decide +kernel)
theorem dk_2373 : decode code 2373 = .ok (.iconst 3, 1) := decG_ok (a := 2368) (r := 5) lC_37 (by decide +kernel)
theorem dk_2374 : decode code 2374 = .ok (.iadd, 1) := decG_ok (a := 2368) (r := 6) lC_37 (by decide +kernel)
theorem dk_2375 : decode code 2375 = .ok (.iaload, 1) := decG_ok (a := 2368) (r := 7) lC_37 (by decide +kernel)
theorem dk_2376 : decode code 2376 = .ok (.aload_n 0, 1) := decG_ok (a := 2368) (r := 8) lC_37 (by decide +kernel)
theorem dk_2377 : decode code 2377 = .ok (.iload_n 3, 1) := decG_ok (a := 2368) (r := 9) lC_37 (by decide +kernel)
theorem dk_2378 : decode code 2378 = .ok (.iconst 4, 1) := decG_ok (a := 2368) (r := 10) lC_37 (by decide +kernel)
theorem dk_2379 : decode code 2379 = .ok (.iadd, 1) := decG_ok (a := 2368) (r := 11) lC_37 (by decide +kernel)
theorem dk_2380 : decode code 2380 = .ok (.iaload, 1) := decG_ok (a := 2368) (r := 12) lC_37 (by decide +kernel)
theorem dk_2381 : decode code 2381 = .ok (.aload_n 0, 1) := decG_ok (a := 2368) (r := 13) lC_37 (by decide +kernel)
theorem dk_2382 : decode code 2382 = .ok (.iload_n 3, 1) := decG_ok (a := 2368) (r := 14) lC_37 (by decide +kernel)
theorem dk_2383 : decode code 2383 = .ok (.iconst 5, 1) := decG_ok (a := 2368) (r := 15) lC_37 (by decide +kernel)
theorem dk_2384 : decode code 2384 = .ok (.iadd, 1) := decG_ok (a := 2368) (r := 16) lC_37 (by decide +kernel)
theorem dk_2385 : decode code 2385 = .ok (.iaload, 1) := decG_ok (a := 2368) (r := 17) lC_37 (by decide +kernel)
theorem dk_2386 : decode code 2386 = .ok (.invokevirtual 279, 3) := decG_ok (a := 2368) (r := 18) lC_37 (by decide +kernel)
theorem dk_2389 : decode code 2389 = .ok (.pop, 1) := decG_ok (a := 2368) (r := 21) lC_37 (by decide +kernel)
theorem dk_2390 : decode code 2390 = .ok (.aload_n 2, 1) := decG_ok (a := 2368) (r := 22) lC_37 (by decide +kernel)
theorem dk_2391 : decode code 2391 = .ok (.aload_n 0, 1) := decG_ok (a := 2368) (r := 23) lC_37 (by decide +kernel)
theorem dk_2392 : decode code 2392 = .ok (.iload_n 3, 1) := decG_ok (a := 2368) (r := 24) lC_37 (by decide +kernel)
theorem dk_2393 : decode code 2393 = .ok (.iconst 1, 1) := decG_ok (a := 2368) (r := 25) lC_37 (by decide +kernel)
theorem dk_2394 : decode code 2394 = .ok (.iadd, 1) := decG_ok (a := 2368) (r := 26) lC_37 (by decide +kernel)
theorem dk_2395 : decode code 2395 = .ok (.iaload, 1) := decG_ok (a := 2368) (r := 27) lC_37 (by decide +kernel)
theorem dk_2396 : decode code 2396 = .ok (.aload_n 0, 1) := decG_ok (a := 2368) (r := 28) lC_37 (by decide +kernel)
theorem dk_2397 : decode code 2397 = .ok (.iload_n 3, 1) := decG_ok (a := 2368) (r := 29) lC_37 (by decide +kernel)
theorem dk_2398 : decode code 2398 = .ok (.iconst 2, 1) := decG_ok (a := 2368) (r := 30) lC_37 (by decide +kernel)
theorem dk_2399 : decode code 2399 = .ok (.iadd, 1) := decG_ok (a := 2368) (r := 31) lC_37 (by decide +kernel)
theorem dk_2400 : decode code 2400 = .ok (.iaload, 1) := decG_ok (a := 2368) (r := 32) lC_37 (by decide +kernel)
theorem dk_2401 : decode code 2401 = .ok (.aload_n 0, 1) := decG_ok (a := 2368) (r := 33) lC_37 (by decide +kernel)
theorem dk_2402 : decode code 2402 = .ok (.iload_n 3, 1) := decG_ok (a := 2368) (r := 34) lC_37 (by decide +kernel)
theorem dk_2403 : decode code 2403 = .ok (.iconst 3, 1) := decG_ok (a := 2368) (r := 35) lC_37 (by decide +kernel)
theorem dk_2404 : decode code 2404 = .ok (.iadd, 1) := decG_ok (a := 2368) (r := 36) lC_37 (by decide +kernel)
theorem dk_2405 : decode code 2405 = .ok (.iaload, 1) := decG_ok (a := 2368) (r := 37) lC_37 (by decide +kernel)
theorem dk_2406 : decode code 2406 = .ok (.aload_n 0, 1) := decG_ok (a := 2368) (r := 38) lC_37 (by decide +kernel)
theorem dk_2407 : decode code 2407 = .ok (.iload_n 3, 1) := decG_ok (a := 2368) (r := 39) lC_37 (by decide +kernel)
theorem dk_2408 : decode code 2408 = .ok (.iconst 4, 1) := decG_ok (a := 2368) (r := 40) lC_37 (by decide +kernel)
theorem dk_2409 : decode code 2409 = .ok (.iadd, 1) := decG_ok (a := 2368) (r := 41) lC_37 (by decide +kernel)
theorem dk_2410 : decode code 2410 = .ok (.iaload, 1) := decG_ok (a := 2368) (r := 42) lC_37 (by decide +kernel)
theorem dk_2411 : decode code 2411 = .ok (.aload_n 0, 1) := decG_ok (a := 2368) (r := 43) lC_37 (by decide +kernel)
theorem dk_2412 : decode code 2412 = .ok (.iload_n 3, 1) := decG_ok (a := 2368) (r := 44) lC_37 (by decide +kernel)
theorem dk_2413 : decode code 2413 = .ok (.iconst 5, 1) := decG_ok (a := 2368) (r := 45) lC_37 (by decide +kernel)
theorem dk_2414 : decode code 2414 = .ok (.iadd, 1) := decG_ok (a := 2368) (r := 46) lC_37 (by decide +kernel)
theorem dk_2415 : decode code 2415 = .ok (.iaload, 1) := decG_ok (a := 2368) (r := 47) lC_37 (by decide +kernel)
theorem dk_2416 : decode code 2416 = .ok (.invokevirtual 282, 3) := decG_ok (a := 2368) (r := 48) lC_37 (by decide +kernel)
theorem dk_2419 : decode code 2419 = .ok (.pop, 1) := decG_ok (a := 2368) (r := 51) lC_37 (by decide +kernel)
theorem dk_2420 : decode code 2420 = .ok (.goto (3), 3) := decG_ok (a := 2368) (r := 52) lC_37 (by decide +kernel)
end
section
section CASES0
variable {p : Program} {l : Launch} {e : Env} {R : Room} {s : State} {m : MethodId} {args : Array Value} {below : List Frame} {meth : Method} {c : Code} {Q : State → Prop} {D : va_G} {tys : List (ClassId × FieldType)} {A : Nat → Prop}
variable {cells slots : Nat} {ws : va_W}
theorem case_0 {b L : Nat} {xs : Nat → Int32} {ad : Nat → Nat} {i : Int32} (F : LFix D tys A p R s m args c) (hX : va_X b L xs s s.heap) (hbl : b < s.heap.size) (hbA : ¬ A b) (hin : ∀ k : Nat, k < 6 → vp_in (i + Int32.ofInt k) L) (hm : cells ≤ R.cells ∧ slots ≤ R.slots) (hAD : ∀ i : Nat, ad (1000 + i) = D.2 1000 i) (hG : GOK ad tys GG ws) (hR : RELW ws) (kk : ∀ w2 : va_W, GOK ad tys GG w2 → RELW w2 → LV p l e R s m args below meth c Q D A cells slots 2423 [(3, .int i), (2, .ref (ad 90)), (1, .ref (ad 0)), (0, .ref b)] [] w2) : LV p l e R s m args below meth c Q D A cells slots 308 [(3, .int i), (2, .ref (ad 90)), (1, .ref (ad 0)), (0, .ref b)] [] ws := by
  refine L_al (i := 1) F dk_308 rfl (List.Mem.tail _ (List.Mem.tail _ (List.Mem.head _))) ?_
  refine L_arg F hX hbl hbA (List.Mem.tail _ (List.Mem.tail _ (List.Mem.tail _ (List.Mem.head _)))) (List.Mem.head _) dk_309 dk_310 dk_311 dk_312 dk_313 (hin 1 (by omega)) ?_
  refine L_arg F hX hbl hbA (List.Mem.tail _ (List.Mem.tail _ (List.Mem.tail _ (List.Mem.head _)))) (List.Mem.head _) dk_314 dk_315 dk_316 dk_317 dk_318 (hin 2 (by omega)) ?_
  refine L_arg F hX hbl hbA (List.Mem.tail _ (List.Mem.tail _ (List.Mem.tail _ (List.Mem.head _)))) (List.Mem.head _) dk_319 dk_320 dk_321 dk_322 dk_323 (hin 3 (by omega)) ?_
  refine L_arg F hX hbl hbA (List.Mem.tail _ (List.Mem.tail _ (List.Mem.tail _ (List.Mem.head _)))) (List.Mem.head _) dk_324 dk_325 dk_326 dk_327 dk_328 (hin 4 (by omega)) ?_
  refine L_arg F hX hbl hbA (List.Mem.tail _ (List.Mem.tail _ (List.Mem.tail _ (List.Mem.head _)))) (List.Mem.head _) dk_329 dk_330 dk_331 dk_332 dk_333 (hin 5 (by omega)) ?_
  obtain ⟨v, MID, s1, s2⟩ := pairT_feed (l := l) (D := D) (A := A) hAD hG hR (xs (i + Int32.ofInt 1).toNatClampNeg) (xs (i + Int32.ofInt 2).toNatClampNeg) (xs (i + Int32.ofInt 3).toNatClampNeg) (xs (i + Int32.ofInt 4).toNatClampNeg) (xs (i + Int32.ofInt 5).toNatClampNeg)
  refine L_uc (As := [.int (xs (i + Int32.ofInt 1).toNatClampNeg), .int (xs (i + Int32.ofInt 2).toNatClampNeg), .int (xs (i + Int32.ofInt 3).toNatClampNeg), .int (xs (i + Int32.ofInt 4).toNatClampNeg), .int (xs (i + Int32.ofInt 5).toNatClampNeg)]) (y := 1) (q0 := 0) F (s1) (by omega) (show mKind 1 = 0 by decide +kernel) (w := 337) (show wAt 337 (Cond.methodLink "HalvedNamesLaw" 13 (mY 1)) = true by decide +kernel) dk_334 (show 5 = mN 1 by decide +kernel) (show GG[0]? = some _ from rfl) rfl ⟨_, _, rfl⟩ (by simp) hm hG (fun r1 w1 z1 => ?_)
  obtain ⟨rfl, hG1, K1⟩ := z1
  refine L_popI F dk_337 ?_
  refine L_al (i := 2) F dk_338 rfl (List.Mem.tail _ (List.Mem.head _)) ?_
  refine L_arg F hX hbl hbA (List.Mem.tail _ (List.Mem.tail _ (List.Mem.tail _ (List.Mem.head _)))) (List.Mem.head _) dk_339 dk_340 dk_341 dk_342 dk_343 (hin 1 (by omega)) ?_
  refine L_arg F hX hbl hbA (List.Mem.tail _ (List.Mem.tail _ (List.Mem.tail _ (List.Mem.head _)))) (List.Mem.head _) dk_344 dk_345 dk_346 dk_347 dk_348 (hin 2 (by omega)) ?_
  refine L_arg F hX hbl hbA (List.Mem.tail _ (List.Mem.tail _ (List.Mem.tail _ (List.Mem.head _)))) (List.Mem.head _) dk_349 dk_350 dk_351 dk_352 dk_353 (hin 3 (by omega)) ?_
  refine L_arg F hX hbl hbA (List.Mem.tail _ (List.Mem.tail _ (List.Mem.tail _ (List.Mem.head _)))) (List.Mem.head _) dk_354 dk_355 dk_356 dk_357 dk_358 (hin 4 (by omega)) ?_
  refine L_arg F hX hbl hbA (List.Mem.tail _ (List.Mem.tail _ (List.Mem.tail _ (List.Mem.head _)))) (List.Mem.head _) dk_359 dk_360 dk_361 dk_362 dk_363 (hin 5 (by omega)) ?_
  refine L_uc (As := [.int (xs (i + Int32.ofInt 1).toNatClampNeg), .int (xs (i + Int32.ofInt 2).toNatClampNeg), .int (xs (i + Int32.ofInt 3).toNatClampNeg), .int (xs (i + Int32.ofInt 4).toNatClampNeg), .int (xs (i + Int32.ofInt 5).toNatClampNeg)]) (y := 210) (q0 := 90) F (s2 w1 hG1 K1) (by omega) (show mKind 210 = 0 by decide +kernel) (w := 1328) (show wAt 1328 (Cond.methodLink "HalvedNamesLaw" 17 (mY 210)) = true by decide +kernel) dk_364 (show 5 = mN 210 by decide +kernel) (show GG[90]? = some _ from rfl) rfl ⟨_, _, rfl⟩ (by simp) hm hG1 (fun r2 w2 z2 => ?_)
  obtain ⟨rfl, hG2, K2⟩ := z2
  refine L_popI F dk_367 ?_
  exact L_goto F dk_368 rfl (kk w2 hG2 K2)
theorem case_1 {b L : Nat} {xs : Nat → Int32} {ad : Nat → Nat} {i : Int32} (F : LFix D tys A p R s m args c) (hX : va_X b L xs s s.heap) (hbl : b < s.heap.size) (hbA : ¬ A b) (hin : ∀ k : Nat, k < 6 → vp_in (i + Int32.ofInt k) L) (hm : cells ≤ R.cells ∧ slots ≤ R.slots) (hAD : ∀ i : Nat, ad (1000 + i) = D.2 1000 i) (hG : GOK ad tys GG ws) (hR : RELW ws) (kk : ∀ w2 : va_W, GOK ad tys GG w2 → RELW w2 → LV p l e R s m args below meth c Q D A cells slots 2423 [(3, .int i), (2, .ref (ad 90)), (1, .ref (ad 0)), (0, .ref b)] [] w2) : LV p l e R s m args below meth c Q D A cells slots 371 [(3, .int i), (2, .ref (ad 90)), (1, .ref (ad 0)), (0, .ref b)] [] ws := by
  refine L_al (i := 1) F dk_371 rfl (List.Mem.tail _ (List.Mem.tail _ (List.Mem.head _))) ?_
  refine L_arg F hX hbl hbA (List.Mem.tail _ (List.Mem.tail _ (List.Mem.tail _ (List.Mem.head _)))) (List.Mem.head _) dk_372 dk_373 dk_374 dk_375 dk_376 (hin 1 (by omega)) ?_
  obtain ⟨v, MID, s1, s2⟩ := pairT_end (l := l) (D := D) (A := A) hAD hG hR (xs (i + Int32.ofInt 1).toNatClampNeg)
  refine L_uc (As := [.int (xs (i + Int32.ofInt 1).toNatClampNeg)]) (y := 2) (q0 := 0) F (s1) (by omega) (show mKind 2 = 0 by decide +kernel) (w := 345) (show wAt 345 (Cond.methodLink "HalvedNamesLaw" 18 (mY 2)) = true by decide +kernel) dk_377 (show 1 = mN 2 by decide +kernel) (show GG[0]? = some _ from rfl) rfl ⟨_, _, rfl⟩ (by simp) hm hG (fun r1 w1 z1 => ?_)
  obtain ⟨rfl, hG1, K1⟩ := z1
  refine L_popI F dk_380 ?_
  refine L_al (i := 2) F dk_381 rfl (List.Mem.tail _ (List.Mem.head _)) ?_
  refine L_arg F hX hbl hbA (List.Mem.tail _ (List.Mem.tail _ (List.Mem.tail _ (List.Mem.head _)))) (List.Mem.head _) dk_382 dk_383 dk_384 dk_385 dk_386 (hin 1 (by omega)) ?_
  refine L_uc (As := [.int (xs (i + Int32.ofInt 1).toNatClampNeg)]) (y := 211) (q0 := 90) F (s2 w1 hG1 K1) (by omega) (show mKind 211 = 0 by decide +kernel) (w := 1332) (show wAt 1332 (Cond.methodLink "HalvedNamesLaw" 22 (mY 211)) = true by decide +kernel) dk_387 (show 1 = mN 211 by decide +kernel) (show GG[90]? = some _ from rfl) rfl ⟨_, _, rfl⟩ (by simp) hm hG1 (fun r2 w2 z2 => ?_)
  obtain ⟨rfl, hG2, K2⟩ := z2
  refine L_popI F dk_390 ?_
  exact L_goto F dk_391 rfl (kk w2 hG2 K2)
theorem case_2 {b L : Nat} {xs : Nat → Int32} {ad : Nat → Nat} {i : Int32} (F : LFix D tys A p R s m args c) (hX : va_X b L xs s s.heap) (hbl : b < s.heap.size) (hbA : ¬ A b) (hin : ∀ k : Nat, k < 6 → vp_in (i + Int32.ofInt k) L) (hm : cells ≤ R.cells ∧ slots ≤ R.slots) (hAD : ∀ i : Nat, ad (1000 + i) = D.2 1000 i) (hG : GOK ad tys GG ws) (hR : RELW ws) (kk : ∀ w2 : va_W, GOK ad tys GG w2 → RELW w2 → LV p l e R s m args below meth c Q D A cells slots 2423 [(3, .int i), (2, .ref (ad 90)), (1, .ref (ad 0)), (0, .ref b)] [] w2) : LV p l e R s m args below meth c Q D A cells slots 394 [(3, .int i), (2, .ref (ad 90)), (1, .ref (ad 0)), (0, .ref b)] [] ws := by
  refine L_al (i := 1) F dk_394 rfl (List.Mem.tail _ (List.Mem.tail _ (List.Mem.head _))) ?_
  obtain ⟨v, MID, s1, s2⟩ := pairT_hill (l := l) (D := D) (A := A) hAD hG hR 
  refine L_uc (As := []) (y := 3) (q0 := 0) F (s1) (by omega) (show mKind 3 = 0 by decide +kernel) (w := 349) (show wAt 349 (Cond.methodLink "HalvedNamesLaw" 23 (mY 3)) = true by decide +kernel) dk_395 (show 0 = mN 3 by decide +kernel) (show GG[0]? = some _ from rfl) rfl ⟨_, _, rfl⟩ (by simp) hm hG (fun r1 w1 z1 => ?_)
  obtain ⟨rfl, hG1, K1⟩ := z1
  refine L_popI F dk_398 ?_
  refine L_al (i := 2) F dk_399 rfl (List.Mem.tail _ (List.Mem.head _)) ?_
  refine L_uc (As := []) (y := 233) (q0 := 90) F (s2 w1 hG1 K1) (by omega) (show mKind 233 = 0 by decide +kernel) (w := 1340) (show wAt 1340 (Cond.methodLink "HalvedNamesLaw" 27 (mY 233)) = true by decide +kernel) dk_400 (show 0 = mN 233 by decide +kernel) (show GG[90]? = some _ from rfl) rfl ⟨_, _, rfl⟩ (by simp) hm hG1 (fun r2 w2 z2 => ?_)
  obtain ⟨rfl, hG2, K2⟩ := z2
  refine L_popI F dk_403 ?_
  exact L_goto F dk_404 rfl (kk w2 hG2 K2)
theorem case_3 {b L : Nat} {xs : Nat → Int32} {ad : Nat → Nat} {i : Int32} (F : LFix D tys A p R s m args c) (hX : va_X b L xs s s.heap) (hbl : b < s.heap.size) (hbA : ¬ A b) (hin : ∀ k : Nat, k < 6 → vp_in (i + Int32.ofInt k) L) (hm : cells ≤ R.cells ∧ slots ≤ R.slots) (hAD : ∀ i : Nat, ad (1000 + i) = D.2 1000 i) (hG : GOK ad tys GG ws) (hR : RELW ws) (kk : ∀ w2 : va_W, GOK ad tys GG w2 → RELW w2 → LV p l e R s m args below meth c Q D A cells slots 2423 [(3, .int i), (2, .ref (ad 90)), (1, .ref (ad 0)), (0, .ref b)] [] w2) : LV p l e R s m args below meth c Q D A cells slots 407 [(3, .int i), (2, .ref (ad 90)), (1, .ref (ad 0)), (0, .ref b)] [] ws := by
  refine L_al (i := 1) F dk_407 rfl (List.Mem.tail _ (List.Mem.tail _ (List.Mem.head _))) ?_
  refine L_arg F hX hbl hbA (List.Mem.tail _ (List.Mem.tail _ (List.Mem.tail _ (List.Mem.head _)))) (List.Mem.head _) dk_408 dk_409 dk_410 dk_411 dk_412 (hin 1 (by omega)) ?_
  obtain ⟨v, MID, s1, s2⟩ := pairT_fault (l := l) (D := D) (A := A) hAD hG hR (xs (i + Int32.ofInt 1).toNatClampNeg)
  refine L_uc (As := [.int (xs (i + Int32.ofInt 1).toNatClampNeg)]) (y := 4) (q0 := 0) F (s1) (by omega) (show mKind 4 = 0 by decide +kernel) (w := 599) (show wAt 599 (Cond.methodLink "HalvedNamesLaw" 28 (mY 4)) = true by decide +kernel) dk_413 (show 1 = mN 4 by decide +kernel) (show GG[0]? = some _ from rfl) rfl ⟨_, _, rfl⟩ (by simp) hm hG (fun r1 w1 z1 => ?_)
  obtain ⟨rfl, hG1, K1⟩ := z1
  refine L_popI F dk_416 ?_
  refine L_al (i := 2) F dk_417 rfl (List.Mem.tail _ (List.Mem.head _)) ?_
  refine L_arg F hX hbl hbA (List.Mem.tail _ (List.Mem.tail _ (List.Mem.tail _ (List.Mem.head _)))) (List.Mem.head _) dk_418 dk_419 dk_420 dk_421 dk_422 (hin 1 (by omega)) ?_
  refine L_uc (As := [.int (xs (i + Int32.ofInt 1).toNatClampNeg)]) (y := 221) (q0 := 90) F (s2 w1 hG1 K1) (by omega) (show mKind 221 = 0 by decide +kernel) (w := 1336) (show wAt 1336 (Cond.methodLink "HalvedNamesLaw" 31 (mY 221)) = true by decide +kernel) dk_423 (show 1 = mN 221 by decide +kernel) (show GG[90]? = some _ from rfl) rfl ⟨_, _, rfl⟩ (by simp) hm hG1 (fun r2 w2 z2 => ?_)
  obtain ⟨rfl, hG2, K2⟩ := z2
  refine L_popI F dk_426 ?_
  exact L_goto F dk_427 rfl (kk w2 hG2 K2)
theorem case_4 {b L : Nat} {xs : Nat → Int32} {ad : Nat → Nat} {i : Int32} (F : LFix D tys A p R s m args c) (hX : va_X b L xs s s.heap) (hbl : b < s.heap.size) (hbA : ¬ A b) (hin : ∀ k : Nat, k < 6 → vp_in (i + Int32.ofInt k) L) (hm : cells ≤ R.cells ∧ slots ≤ R.slots) (hAD : ∀ i : Nat, ad (1000 + i) = D.2 1000 i) (hG : GOK ad tys GG ws) (hR : RELW ws) (kk : ∀ w2 : va_W, GOK ad tys GG w2 → RELW w2 → LV p l e R s m args below meth c Q D A cells slots 2423 [(3, .int i), (2, .ref (ad 90)), (1, .ref (ad 0)), (0, .ref b)] [] w2) : LV p l e R s m args below meth c Q D A cells slots 430 [(3, .int i), (2, .ref (ad 90)), (1, .ref (ad 0)), (0, .ref b)] [] ws := by
  refine L_al (i := 1) F dk_430 rfl (List.Mem.tail _ (List.Mem.tail _ (List.Mem.head _))) ?_
  refine L_arg F hX hbl hbA (List.Mem.tail _ (List.Mem.tail _ (List.Mem.tail _ (List.Mem.head _)))) (List.Mem.head _) dk_431 dk_432 dk_433 dk_434 dk_435 (hin 1 (by omega)) ?_
  refine L_arg F hX hbl hbA (List.Mem.tail _ (List.Mem.tail _ (List.Mem.tail _ (List.Mem.head _)))) (List.Mem.head _) dk_436 dk_437 dk_438 dk_439 dk_440 (hin 2 (by omega)) ?_
  obtain ⟨v, MID, s1, s2⟩ := pairT_name (l := l) (D := D) (A := A) hAD hG hR (xs (i + Int32.ofInt 1).toNatClampNeg) (xs (i + Int32.ofInt 2).toNatClampNeg)
  refine L_uc (As := [.int (xs (i + Int32.ofInt 1).toNatClampNeg), .int (xs (i + Int32.ofInt 2).toNatClampNeg)]) (y := 5) (q0 := 0) F (s1) (by omega) (show mKind 5 = 0 by decide +kernel) (w := 603) (show wAt 603 (Cond.methodLink "HalvedNamesLaw" 32 (mY 5)) = true by decide +kernel) dk_441 (show 2 = mN 5 by decide +kernel) (show GG[0]? = some _ from rfl) rfl ⟨_, _, rfl⟩ (by simp) hm hG (fun r1 w1 z1 => ?_)
  obtain ⟨rfl, hG1, K1⟩ := z1
  refine L_popI F dk_444 ?_
  refine L_al (i := 2) F dk_445 rfl (List.Mem.tail _ (List.Mem.head _)) ?_
  refine L_arg F hX hbl hbA (List.Mem.tail _ (List.Mem.tail _ (List.Mem.tail _ (List.Mem.head _)))) (List.Mem.head _) dk_446 dk_447 dk_448 dk_449 dk_450 (hin 1 (by omega)) ?_
  refine L_arg F hX hbl hbA (List.Mem.tail _ (List.Mem.tail _ (List.Mem.tail _ (List.Mem.head _)))) (List.Mem.head _) dk_451 dk_452 dk_453 dk_454 dk_455 (hin 2 (by omega)) ?_
  refine L_uc (As := [.int (xs (i + Int32.ofInt 1).toNatClampNeg), .int (xs (i + Int32.ofInt 2).toNatClampNeg)]) (y := 243) (q0 := 90) F (s2 w1 hG1 K1) (by omega) (show mKind 243 = 0 by decide +kernel) (w := 1444) (show wAt 1444 (Cond.methodLink "HalvedNamesLaw" 36 (mY 243)) = true by decide +kernel) dk_456 (show 2 = mN 243 by decide +kernel) (show GG[90]? = some _ from rfl) rfl ⟨_, _, rfl⟩ (by simp) hm hG1 (fun r2 w2 z2 => ?_)
  obtain ⟨rfl, hG2, K2⟩ := z2
  refine L_popI F dk_459 ?_
  exact L_goto F dk_460 rfl (kk w2 hG2 K2)
theorem case_5 {b L : Nat} {xs : Nat → Int32} {ad : Nat → Nat} {i : Int32} (F : LFix D tys A p R s m args c) (hX : va_X b L xs s s.heap) (hbl : b < s.heap.size) (hbA : ¬ A b) (hin : ∀ k : Nat, k < 6 → vp_in (i + Int32.ofInt k) L) (hm : cells ≤ R.cells ∧ slots ≤ R.slots) (hAD : ∀ i : Nat, ad (1000 + i) = D.2 1000 i) (hG : GOK ad tys GG ws) (hR : RELW ws) (kk : ∀ w2 : va_W, GOK ad tys GG w2 → RELW w2 → LV p l e R s m args below meth c Q D A cells slots 2423 [(3, .int i), (2, .ref (ad 90)), (1, .ref (ad 0)), (0, .ref b)] [] w2) : LV p l e R s m args below meth c Q D A cells slots 463 [(3, .int i), (2, .ref (ad 90)), (1, .ref (ad 0)), (0, .ref b)] [] ws := by
  refine L_al (i := 1) F dk_463 rfl (List.Mem.tail _ (List.Mem.tail _ (List.Mem.head _))) ?_
  refine L_arg F hX hbl hbA (List.Mem.tail _ (List.Mem.tail _ (List.Mem.tail _ (List.Mem.head _)))) (List.Mem.head _) dk_464 dk_465 dk_466 dk_467 dk_468 (hin 1 (by omega)) ?_
  obtain ⟨v, MID, s1, s2⟩ := pairT_length (l := l) (D := D) (A := A) hAD hG hR (xs (i + Int32.ofInt 1).toNatClampNeg)
  refine L_uc (As := [.int (xs (i + Int32.ofInt 1).toNatClampNeg)]) (y := 6) (q0 := 0) F (s1) (by omega) (show mKind 6 = 0 by decide +kernel) (w := 616) (show wAt 616 (Cond.methodLink "HalvedNamesLaw" 37 (mY 6)) = true by decide +kernel) dk_469 (show 1 = mN 6 by decide +kernel) (show GG[0]? = some _ from rfl) rfl ⟨_, _, rfl⟩ (by simp) hm hG (fun r1 w1 z1 => ?_)
  obtain ⟨rfl, hG1, K1⟩ := z1
  refine L_popI F dk_472 ?_
  refine L_al (i := 2) F dk_473 rfl (List.Mem.tail _ (List.Mem.head _)) ?_
  refine L_arg F hX hbl hbA (List.Mem.tail _ (List.Mem.tail _ (List.Mem.tail _ (List.Mem.head _)))) (List.Mem.head _) dk_474 dk_475 dk_476 dk_477 dk_478 (hin 1 (by omega)) ?_
  refine L_uc (As := [.int (xs (i + Int32.ofInt 1).toNatClampNeg)]) (y := 244) (q0 := 90) F (s2 w1 hG1 K1) (by omega) (show mKind 244 = 0 by decide +kernel) (w := 1460) (show wAt 1460 (Cond.methodLink "HalvedNamesLaw" 40 (mY 244)) = true by decide +kernel) dk_479 (show 1 = mN 244 by decide +kernel) (show GG[90]? = some _ from rfl) rfl ⟨_, _, rfl⟩ (by simp) hm hG1 (fun r2 w2 z2 => ?_)
  obtain ⟨rfl, hG2, K2⟩ := z2
  refine L_popI F dk_482 ?_
  exact L_goto F dk_483 rfl (kk w2 hG2 K2)
theorem case_6 {b L : Nat} {xs : Nat → Int32} {ad : Nat → Nat} {i : Int32} (F : LFix D tys A p R s m args c) (hX : va_X b L xs s s.heap) (hbl : b < s.heap.size) (hbA : ¬ A b) (hin : ∀ k : Nat, k < 6 → vp_in (i + Int32.ofInt k) L) (hm : cells ≤ R.cells ∧ slots ≤ R.slots) (hAD : ∀ i : Nat, ad (1000 + i) = D.2 1000 i) (hG : GOK ad tys GG ws) (hR : RELW ws) (kk : ∀ w2 : va_W, GOK ad tys GG w2 → RELW w2 → LV p l e R s m args below meth c Q D A cells slots 2423 [(3, .int i), (2, .ref (ad 90)), (1, .ref (ad 0)), (0, .ref b)] [] w2) : LV p l e R s m args below meth c Q D A cells slots 486 [(3, .int i), (2, .ref (ad 90)), (1, .ref (ad 0)), (0, .ref b)] [] ws := by
  refine L_al (i := 1) F dk_486 rfl (List.Mem.tail _ (List.Mem.tail _ (List.Mem.head _))) ?_
  refine L_arg F hX hbl hbA (List.Mem.tail _ (List.Mem.tail _ (List.Mem.tail _ (List.Mem.head _)))) (List.Mem.head _) dk_487 dk_488 dk_489 dk_490 dk_491 (hin 1 (by omega)) ?_
  refine L_arg F hX hbl hbA (List.Mem.tail _ (List.Mem.tail _ (List.Mem.tail _ (List.Mem.head _)))) (List.Mem.head _) dk_492 dk_493 dk_494 dk_495 dk_496 (hin 2 (by omega)) ?_
  obtain ⟨v, MID, s1, s2⟩ := pairT_folk (l := l) (D := D) (A := A) hAD hG hR (xs (i + Int32.ofInt 1).toNatClampNeg) (xs (i + Int32.ofInt 2).toNatClampNeg)
  refine L_uc (As := [.int (xs (i + Int32.ofInt 1).toNatClampNeg), .int (xs (i + Int32.ofInt 2).toNatClampNeg)]) (y := 7) (q0 := 0) F (s1) (by omega) (show mKind 7 = 0 by decide +kernel) (w := 621) (show wAt 621 (Cond.methodLink "HalvedNamesLaw" 41 (mY 7)) = true by decide +kernel) dk_497 (show 2 = mN 7 by decide +kernel) (show GG[0]? = some _ from rfl) rfl ⟨_, _, rfl⟩ (by simp) hm hG (fun r1 w1 z1 => ?_)
  obtain ⟨rfl, hG1, K1⟩ := z1
  refine L_popI F dk_500 ?_
  refine L_al (i := 2) F dk_501 rfl (List.Mem.tail _ (List.Mem.head _)) ?_
  refine L_arg F hX hbl hbA (List.Mem.tail _ (List.Mem.tail _ (List.Mem.tail _ (List.Mem.head _)))) (List.Mem.head _) dk_502 dk_503 dk_504 dk_505 dk_506 (hin 1 (by omega)) ?_
  refine L_arg F hX hbl hbA (List.Mem.tail _ (List.Mem.tail _ (List.Mem.tail _ (List.Mem.head _)))) (List.Mem.head _) dk_507 dk_508 dk_509 dk_510 dk_511 (hin 2 (by omega)) ?_
  refine L_uc (As := [.int (xs (i + Int32.ofInt 1).toNatClampNeg), .int (xs (i + Int32.ofInt 2).toNatClampNeg)]) (y := 245) (q0 := 90) F (s2 w1 hG1 K1) (by omega) (show mKind 245 = 0 by decide +kernel) (w := 1464) (show wAt 1464 (Cond.methodLink "HalvedNamesLaw" 44 (mY 245)) = true by decide +kernel) dk_512 (show 2 = mN 245 by decide +kernel) (show GG[90]? = some _ from rfl) rfl ⟨_, _, rfl⟩ (by simp) hm hG1 (fun r2 w2 z2 => ?_)
  obtain ⟨rfl, hG2, K2⟩ := z2
  refine L_popI F dk_515 ?_
  exact L_goto F dk_516 rfl (kk w2 hG2 K2)
theorem case_7 {b L : Nat} {xs : Nat → Int32} {ad : Nat → Nat} {i : Int32} (F : LFix D tys A p R s m args c) (hX : va_X b L xs s s.heap) (hbl : b < s.heap.size) (hbA : ¬ A b) (hin : ∀ k : Nat, k < 6 → vp_in (i + Int32.ofInt k) L) (hm : cells ≤ R.cells ∧ slots ≤ R.slots) (hAD : ∀ i : Nat, ad (1000 + i) = D.2 1000 i) (hG : GOK ad tys GG ws) (hR : RELW ws) (kk : ∀ w2 : va_W, GOK ad tys GG w2 → RELW w2 → LV p l e R s m args below meth c Q D A cells slots 2423 [(3, .int i), (2, .ref (ad 90)), (1, .ref (ad 0)), (0, .ref b)] [] w2) : LV p l e R s m args below meth c Q D A cells slots 519 [(3, .int i), (2, .ref (ad 90)), (1, .ref (ad 0)), (0, .ref b)] [] ws := by
  refine L_al (i := 1) F dk_519 rfl (List.Mem.tail _ (List.Mem.tail _ (List.Mem.head _))) ?_
  refine L_arg F hX hbl hbA (List.Mem.tail _ (List.Mem.tail _ (List.Mem.tail _ (List.Mem.head _)))) (List.Mem.head _) dk_520 dk_521 dk_522 dk_523 dk_524 (hin 1 (by omega)) ?_
  refine L_arg F hX hbl hbA (List.Mem.tail _ (List.Mem.tail _ (List.Mem.tail _ (List.Mem.head _)))) (List.Mem.head _) dk_525 dk_526 dk_527 dk_528 dk_529 (hin 2 (by omega)) ?_
  obtain ⟨v, MID, s1, s2⟩ := pairT_place (l := l) (D := D) (A := A) hAD hG hR (xs (i + Int32.ofInt 1).toNatClampNeg) (xs (i + Int32.ofInt 2).toNatClampNeg)
  refine L_uc (As := [.int (xs (i + Int32.ofInt 1).toNatClampNeg), .int (xs (i + Int32.ofInt 2).toNatClampNeg)]) (y := 8) (q0 := 0) F (s1) (by omega) (show mKind 8 = 0 by decide +kernel) (w := 626) (show wAt 626 (Cond.methodLink "HalvedNamesLaw" 45 (mY 8)) = true by decide +kernel) dk_530 (show 2 = mN 8 by decide +kernel) (show GG[0]? = some _ from rfl) rfl ⟨_, _, rfl⟩ (by simp) hm hG (fun r1 w1 z1 => ?_)
  obtain ⟨rfl, hG1, K1⟩ := z1
  refine L_popI F dk_533 ?_
  refine L_al (i := 2) F dk_534 rfl (List.Mem.tail _ (List.Mem.head _)) ?_
  refine L_arg F hX hbl hbA (List.Mem.tail _ (List.Mem.tail _ (List.Mem.tail _ (List.Mem.head _)))) (List.Mem.head _) dk_535 dk_536 dk_537 dk_538 dk_539 (hin 1 (by omega)) ?_
  refine L_arg F hX hbl hbA (List.Mem.tail _ (List.Mem.tail _ (List.Mem.tail _ (List.Mem.head _)))) (List.Mem.head _) dk_540 dk_541 dk_542 dk_543 dk_544 (hin 2 (by omega)) ?_
  refine L_uc (As := [.int (xs (i + Int32.ofInt 1).toNatClampNeg), .int (xs (i + Int32.ofInt 2).toNatClampNeg)]) (y := 246) (q0 := 90) F (s2 w1 hG1 K1) (by omega) (show mKind 246 = 0 by decide +kernel) (w := 1468) (show wAt 1468 (Cond.methodLink "HalvedNamesLaw" 48 (mY 246)) = true by decide +kernel) dk_545 (show 2 = mN 246 by decide +kernel) (show GG[90]? = some _ from rfl) rfl ⟨_, _, rfl⟩ (by simp) hm hG1 (fun r2 w2 z2 => ?_)
  obtain ⟨rfl, hG2, K2⟩ := z2
  refine L_popI F dk_548 ?_
  exact L_goto F dk_549 rfl (kk w2 hG2 K2)
theorem case_8 {b L : Nat} {xs : Nat → Int32} {ad : Nat → Nat} {i : Int32} (F : LFix D tys A p R s m args c) (hX : va_X b L xs s s.heap) (hbl : b < s.heap.size) (hbA : ¬ A b) (hin : ∀ k : Nat, k < 6 → vp_in (i + Int32.ofInt k) L) (hm : cells ≤ R.cells ∧ slots ≤ R.slots) (hAD : ∀ i : Nat, ad (1000 + i) = D.2 1000 i) (hG : GOK ad tys GG ws) (hR : RELW ws) (kk : ∀ w2 : va_W, GOK ad tys GG w2 → RELW w2 → LV p l e R s m args below meth c Q D A cells slots 2423 [(3, .int i), (2, .ref (ad 90)), (1, .ref (ad 0)), (0, .ref b)] [] w2) : LV p l e R s m args below meth c Q D A cells slots 552 [(3, .int i), (2, .ref (ad 90)), (1, .ref (ad 0)), (0, .ref b)] [] ws := by
  refine L_al (i := 1) F dk_552 rfl (List.Mem.tail _ (List.Mem.tail _ (List.Mem.head _))) ?_
  refine L_arg F hX hbl hbA (List.Mem.tail _ (List.Mem.tail _ (List.Mem.tail _ (List.Mem.head _)))) (List.Mem.head _) dk_553 dk_554 dk_555 dk_556 dk_557 (hin 1 (by omega)) ?_
  refine L_arg F hX hbl hbA (List.Mem.tail _ (List.Mem.tail _ (List.Mem.tail _ (List.Mem.head _)))) (List.Mem.head _) dk_558 dk_559 dk_560 dk_561 dk_562 (hin 2 (by omega)) ?_
  obtain ⟨v, MID, s1, s2⟩ := pairT_saying (l := l) (D := D) (A := A) hAD hG hR (xs (i + Int32.ofInt 1).toNatClampNeg) (xs (i + Int32.ofInt 2).toNatClampNeg)
  refine L_uc (As := [.int (xs (i + Int32.ofInt 1).toNatClampNeg), .int (xs (i + Int32.ofInt 2).toNatClampNeg)]) (y := 9) (q0 := 0) F (s1) (by omega) (show mKind 9 = 0 by decide +kernel) (w := 632) (show wAt 632 (Cond.methodLink "HalvedNamesLaw" 49 (mY 9)) = true by decide +kernel) dk_563 (show 2 = mN 9 by decide +kernel) (show GG[0]? = some _ from rfl) rfl ⟨_, _, rfl⟩ (by simp) hm hG (fun r1 w1 z1 => ?_)
  obtain ⟨rfl, hG1, K1⟩ := z1
  refine L_popI F dk_566 ?_
  refine L_al (i := 2) F dk_567 rfl (List.Mem.tail _ (List.Mem.head _)) ?_
  refine L_arg F hX hbl hbA (List.Mem.tail _ (List.Mem.tail _ (List.Mem.tail _ (List.Mem.head _)))) (List.Mem.head _) dk_568 dk_569 dk_570 dk_571 dk_572 (hin 1 (by omega)) ?_
  refine L_arg F hX hbl hbA (List.Mem.tail _ (List.Mem.tail _ (List.Mem.tail _ (List.Mem.head _)))) (List.Mem.head _) dk_573 dk_574 dk_575 dk_576 dk_577 (hin 2 (by omega)) ?_
  refine L_uc (As := [.int (xs (i + Int32.ofInt 1).toNatClampNeg), .int (xs (i + Int32.ofInt 2).toNatClampNeg)]) (y := 247) (q0 := 90) F (s2 w1 hG1 K1) (by omega) (show mKind 247 = 0 by decide +kernel) (w := 1480) (show wAt 1480 (Cond.methodLink "HalvedNamesLaw" 52 (mY 247)) = true by decide +kernel) dk_578 (show 2 = mN 247 by decide +kernel) (show GG[90]? = some _ from rfl) rfl ⟨_, _, rfl⟩ (by simp) hm hG1 (fun r2 w2 z2 => ?_)
  obtain ⟨rfl, hG2, K2⟩ := z2
  refine L_popI F dk_581 ?_
  exact L_goto F dk_582 rfl (kk w2 hG2 K2)
theorem case_9 {b L : Nat} {xs : Nat → Int32} {ad : Nat → Nat} {i : Int32} (F : LFix D tys A p R s m args c) (hX : va_X b L xs s s.heap) (hbl : b < s.heap.size) (hbA : ¬ A b) (hin : ∀ k : Nat, k < 6 → vp_in (i + Int32.ofInt k) L) (hm : cells ≤ R.cells ∧ slots ≤ R.slots) (hAD : ∀ i : Nat, ad (1000 + i) = D.2 1000 i) (hG : GOK ad tys GG ws) (hR : RELW ws) (kk : ∀ w2 : va_W, GOK ad tys GG w2 → RELW w2 → LV p l e R s m args below meth c Q D A cells slots 2423 [(3, .int i), (2, .ref (ad 90)), (1, .ref (ad 0)), (0, .ref b)] [] w2) : LV p l e R s m args below meth c Q D A cells slots 585 [(3, .int i), (2, .ref (ad 90)), (1, .ref (ad 0)), (0, .ref b)] [] ws := by
  refine L_al (i := 1) F dk_585 rfl (List.Mem.tail _ (List.Mem.tail _ (List.Mem.head _))) ?_
  refine L_arg F hX hbl hbA (List.Mem.tail _ (List.Mem.tail _ (List.Mem.tail _ (List.Mem.head _)))) (List.Mem.head _) dk_586 dk_587 dk_588 dk_589 dk_590 (hin 1 (by omega)) ?_
  refine L_arg F hX hbl hbA (List.Mem.tail _ (List.Mem.tail _ (List.Mem.tail _ (List.Mem.head _)))) (List.Mem.head _) dk_591 dk_592 dk_593 dk_594 dk_595 (hin 2 (by omega)) ?_
  refine L_uc (As := [.int (xs (i + Int32.ofInt 1).toNatClampNeg), .int (xs (i + Int32.ofInt 2).toNatClampNeg)]) (y := 10) (q0 := 0) F (u_X9 hAD hG (xs (i + Int32.ofInt 1).toNatClampNeg) (xs (i + Int32.ofInt 2).toNatClampNeg)) (by omega) (show mKind 10 = 0 by decide +kernel) (w := 640) (show wAt 640 (Cond.methodLink "HalvedNamesLaw" 53 (mY 10)) = true by decide +kernel) dk_596 (show 2 = mN 10 by decide +kernel) (show GG[0]? = some _ from rfl) rfl ⟨_, _, rfl⟩ (by simp) hm hG (fun r1 w1 z1 => ?_)
  refine L_pop0 F dk_599 z1.1 ?_
  refine L_al (i := 2) F dk_600 rfl (List.Mem.tail _ (List.Mem.head _)) ?_
  refine L_arg F hX hbl hbA (List.Mem.tail _ (List.Mem.tail _ (List.Mem.tail _ (List.Mem.head _)))) (List.Mem.head _) dk_601 dk_602 dk_603 dk_604 dk_605 (hin 1 (by omega)) ?_
  refine L_arg F hX hbl hbA (List.Mem.tail _ (List.Mem.tail _ (List.Mem.tail _ (List.Mem.head _)))) (List.Mem.head _) dk_606 dk_607 dk_608 dk_609 dk_610 (hin 2 (by omega)) ?_
  refine L_uc (As := [.int (xs (i + Int32.ofInt 1).toNatClampNeg), .int (xs (i + Int32.ofInt 2).toNatClampNeg)]) (y := 248) (q0 := 90) F (u_M9 hAD z1.1.1 (xs (i + Int32.ofInt 1).toNatClampNeg) (xs (i + Int32.ofInt 2).toNatClampNeg)) (by omega) (show mKind 248 = 0 by decide +kernel) (w := 1493) (show wAt 1493 (Cond.methodLink "HalvedNamesLaw" 56 (mY 248)) = true by decide +kernel) dk_611 (show 2 = mN 248 by decide +kernel) (show GG[90]? = some _ from rfl) rfl ⟨_, _, rfl⟩ (by simp) hm z1.1.1 (fun r2 w2 z2 => ?_)
  refine L_pop0 F dk_614 z2.1 ?_
  exact L_goto F dk_615 rfl (kk w2 z2.1.1 (KEP_rels (KEP_rels hR z1.2) z2.2))
theorem case_10 {b L : Nat} {xs : Nat → Int32} {ad : Nat → Nat} {i : Int32} (F : LFix D tys A p R s m args c) (hX : va_X b L xs s s.heap) (hbl : b < s.heap.size) (hbA : ¬ A b) (hin : ∀ k : Nat, k < 6 → vp_in (i + Int32.ofInt k) L) (hm : cells ≤ R.cells ∧ slots ≤ R.slots) (hAD : ∀ i : Nat, ad (1000 + i) = D.2 1000 i) (hG : GOK ad tys GG ws) (hR : RELW ws) (kk : ∀ w2 : va_W, GOK ad tys GG w2 → RELW w2 → LV p l e R s m args below meth c Q D A cells slots 2423 [(3, .int i), (2, .ref (ad 90)), (1, .ref (ad 0)), (0, .ref b)] [] w2) : LV p l e R s m args below meth c Q D A cells slots 618 [(3, .int i), (2, .ref (ad 90)), (1, .ref (ad 0)), (0, .ref b)] [] ws := by
  refine L_al (i := 1) F dk_618 rfl (List.Mem.tail _ (List.Mem.tail _ (List.Mem.head _))) ?_
  refine L_arg F hX hbl hbA (List.Mem.tail _ (List.Mem.tail _ (List.Mem.tail _ (List.Mem.head _)))) (List.Mem.head _) dk_619 dk_620 dk_621 dk_622 dk_623 (hin 1 (by omega)) ?_
  refine L_arg F hX hbl hbA (List.Mem.tail _ (List.Mem.tail _ (List.Mem.tail _ (List.Mem.head _)))) (List.Mem.head _) dk_624 dk_625 dk_626 dk_627 dk_628 (hin 2 (by omega)) ?_
  refine L_arg F hX hbl hbA (List.Mem.tail _ (List.Mem.tail _ (List.Mem.tail _ (List.Mem.head _)))) (List.Mem.head _) dk_629 dk_630 dk_631 dk_632 dk_633 (hin 3 (by omega)) ?_
  refine L_uc (As := [.int (xs (i + Int32.ofInt 1).toNatClampNeg), .int (xs (i + Int32.ofInt 2).toNatClampNeg), .int (xs (i + Int32.ofInt 3).toNatClampNeg)]) (y := 11) (q0 := 0) F (u_X10 hAD hG (xs (i + Int32.ofInt 1).toNatClampNeg) (xs (i + Int32.ofInt 2).toNatClampNeg) (xs (i + Int32.ofInt 3).toNatClampNeg)) (by omega) (show mKind 11 = 0 by decide +kernel) (w := 648) (show wAt 648 (Cond.methodLink "HalvedNamesLaw" 57 (mY 11)) = true by decide +kernel) dk_634 (show 3 = mN 11 by decide +kernel) (show GG[0]? = some _ from rfl) rfl ⟨_, _, rfl⟩ (by simp) hm hG (fun r1 w1 z1 => ?_)
  refine L_pop0 F dk_637 z1.1 ?_
  refine L_al (i := 2) F dk_638 rfl (List.Mem.tail _ (List.Mem.head _)) ?_
  refine L_arg F hX hbl hbA (List.Mem.tail _ (List.Mem.tail _ (List.Mem.tail _ (List.Mem.head _)))) (List.Mem.head _) dk_639 dk_640 dk_641 dk_642 dk_643 (hin 1 (by omega)) ?_
  refine L_arg F hX hbl hbA (List.Mem.tail _ (List.Mem.tail _ (List.Mem.tail _ (List.Mem.head _)))) (List.Mem.head _) dk_644 dk_645 dk_646 dk_647 dk_648 (hin 2 (by omega)) ?_
  refine L_arg F hX hbl hbA (List.Mem.tail _ (List.Mem.tail _ (List.Mem.tail _ (List.Mem.head _)))) (List.Mem.head _) dk_649 dk_650 dk_651 dk_652 dk_653 (hin 3 (by omega)) ?_
  refine L_uc (As := [.int (xs (i + Int32.ofInt 1).toNatClampNeg), .int (xs (i + Int32.ofInt 2).toNatClampNeg), .int (xs (i + Int32.ofInt 3).toNatClampNeg)]) (y := 249) (q0 := 90) F (u_M10 hAD z1.1.1 (xs (i + Int32.ofInt 1).toNatClampNeg) (xs (i + Int32.ofInt 2).toNatClampNeg) (xs (i + Int32.ofInt 3).toNatClampNeg)) (by omega) (show mKind 249 = 0 by decide +kernel) (w := 1501) (show wAt 1501 (Cond.methodLink "HalvedNamesLaw" 61 (mY 249)) = true by decide +kernel) dk_654 (show 3 = mN 249 by decide +kernel) (show GG[90]? = some _ from rfl) rfl ⟨_, _, rfl⟩ (by simp) hm z1.1.1 (fun r2 w2 z2 => ?_)
  refine L_pop0 F dk_657 z2.1 ?_
  exact L_goto F dk_658 rfl (kk w2 z2.1.1 (KEP_rels (KEP_rels hR z1.2) z2.2))
theorem case_11 {b L : Nat} {xs : Nat → Int32} {ad : Nat → Nat} {i : Int32} (F : LFix D tys A p R s m args c) (hX : va_X b L xs s s.heap) (hbl : b < s.heap.size) (hbA : ¬ A b) (hin : ∀ k : Nat, k < 6 → vp_in (i + Int32.ofInt k) L) (hm : cells ≤ R.cells ∧ slots ≤ R.slots) (hAD : ∀ i : Nat, ad (1000 + i) = D.2 1000 i) (hG : GOK ad tys GG ws) (hR : RELW ws) (kk : ∀ w2 : va_W, GOK ad tys GG w2 → RELW w2 → LV p l e R s m args below meth c Q D A cells slots 2423 [(3, .int i), (2, .ref (ad 90)), (1, .ref (ad 0)), (0, .ref b)] [] w2) : LV p l e R s m args below meth c Q D A cells slots 661 [(3, .int i), (2, .ref (ad 90)), (1, .ref (ad 0)), (0, .ref b)] [] ws := by
  refine L_al (i := 1) F dk_661 rfl (List.Mem.tail _ (List.Mem.tail _ (List.Mem.head _))) ?_
  refine L_arg F hX hbl hbA (List.Mem.tail _ (List.Mem.tail _ (List.Mem.tail _ (List.Mem.head _)))) (List.Mem.head _) dk_662 dk_663 dk_664 dk_665 dk_666 (hin 1 (by omega)) ?_
  refine L_uc (As := [.int (xs (i + Int32.ofInt 1).toNatClampNeg)]) (y := 12) (q0 := 0) F (u_X11 hAD hG (xs (i + Int32.ofInt 1).toNatClampNeg)) (by omega) (show mKind 12 = 0 by decide +kernel) (w := 652) (show wAt 652 (Cond.methodLink "HalvedNamesLaw" 62 (mY 12)) = true by decide +kernel) dk_667 (show 1 = mN 12 by decide +kernel) (show GG[0]? = some _ from rfl) rfl ⟨_, _, rfl⟩ (by simp) hm hG (fun r1 w1 z1 => ?_)
  refine L_pop0 F dk_670 z1.1 ?_
  refine L_al (i := 2) F dk_671 rfl (List.Mem.tail _ (List.Mem.head _)) ?_
  refine L_arg F hX hbl hbA (List.Mem.tail _ (List.Mem.tail _ (List.Mem.tail _ (List.Mem.head _)))) (List.Mem.head _) dk_672 dk_673 dk_674 dk_675 dk_676 (hin 1 (by omega)) ?_
  refine L_uc (As := [.int (xs (i + Int32.ofInt 1).toNatClampNeg)]) (y := 250) (q0 := 90) F (u_M11 hAD z1.1.1 (xs (i + Int32.ofInt 1).toNatClampNeg)) (by omega) (show mKind 250 = 0 by decide +kernel) (w := 1537) (show wAt 1537 (Cond.methodLink "HalvedNamesLaw" 65 (mY 250)) = true by decide +kernel) dk_677 (show 1 = mN 250 by decide +kernel) (show GG[90]? = some _ from rfl) rfl ⟨_, _, rfl⟩ (by simp) hm z1.1.1 (fun r2 w2 z2 => ?_)
  refine L_pop0 F dk_680 z2.1 ?_
  exact L_goto F dk_681 rfl (kk w2 z2.1.1 (KEP_rels (KEP_rels hR z1.2) z2.2))
theorem case_12 {b L : Nat} {xs : Nat → Int32} {ad : Nat → Nat} {i : Int32} (F : LFix D tys A p R s m args c) (hX : va_X b L xs s s.heap) (hbl : b < s.heap.size) (hbA : ¬ A b) (hin : ∀ k : Nat, k < 6 → vp_in (i + Int32.ofInt k) L) (hm : cells ≤ R.cells ∧ slots ≤ R.slots) (hAD : ∀ i : Nat, ad (1000 + i) = D.2 1000 i) (hG : GOK ad tys GG ws) (hR : RELW ws) (kk : ∀ w2 : va_W, GOK ad tys GG w2 → RELW w2 → LV p l e R s m args below meth c Q D A cells slots 2423 [(3, .int i), (2, .ref (ad 90)), (1, .ref (ad 0)), (0, .ref b)] [] w2) : LV p l e R s m args below meth c Q D A cells slots 684 [(3, .int i), (2, .ref (ad 90)), (1, .ref (ad 0)), (0, .ref b)] [] ws := by
  refine L_al (i := 1) F dk_684 rfl (List.Mem.tail _ (List.Mem.tail _ (List.Mem.head _))) ?_
  refine L_arg F hX hbl hbA (List.Mem.tail _ (List.Mem.tail _ (List.Mem.tail _ (List.Mem.head _)))) (List.Mem.head _) dk_685 dk_686 dk_687 dk_688 dk_689 (hin 1 (by omega)) ?_
  refine L_uc (As := [.int (xs (i + Int32.ofInt 1).toNatClampNeg)]) (y := 13) (q0 := 0) F (u_X12 hAD hG (xs (i + Int32.ofInt 1).toNatClampNeg)) (by omega) (show mKind 13 = 0 by decide +kernel) (w := 656) (show wAt 656 (Cond.methodLink "HalvedNamesLaw" 66 (mY 13)) = true by decide +kernel) dk_690 (show 1 = mN 13 by decide +kernel) (show GG[0]? = some _ from rfl) rfl ⟨_, _, rfl⟩ (by simp) hm hG (fun r1 w1 z1 => ?_)
  refine L_pop0 F dk_693 z1.1 ?_
  refine L_al (i := 2) F dk_694 rfl (List.Mem.tail _ (List.Mem.head _)) ?_
  refine L_arg F hX hbl hbA (List.Mem.tail _ (List.Mem.tail _ (List.Mem.tail _ (List.Mem.head _)))) (List.Mem.head _) dk_695 dk_696 dk_697 dk_698 dk_699 (hin 1 (by omega)) ?_
  refine L_uc (As := [.int (xs (i + Int32.ofInt 1).toNatClampNeg)]) (y := 251) (q0 := 90) F (u_M12 hAD z1.1.1 (xs (i + Int32.ofInt 1).toNatClampNeg)) (by omega) (show mKind 251 = 0 by decide +kernel) (w := 1541) (show wAt 1541 (Cond.methodLink "HalvedNamesLaw" 69 (mY 251)) = true by decide +kernel) dk_700 (show 1 = mN 251 by decide +kernel) (show GG[90]? = some _ from rfl) rfl ⟨_, _, rfl⟩ (by simp) hm z1.1.1 (fun r2 w2 z2 => ?_)
  refine L_pop0 F dk_703 z2.1 ?_
  exact L_goto F dk_704 rfl (kk w2 z2.1.1 (KEP_rels (KEP_rels hR z1.2) z2.2))
end CASES0
end
section
section CASES1
variable {p : Program} {l : Launch} {e : Env} {R : Room} {s : State} {m : MethodId} {args : Array Value} {below : List Frame} {meth : Method} {c : Code} {Q : State → Prop} {D : va_G} {tys : List (ClassId × FieldType)} {A : Nat → Prop}
variable {cells slots : Nat} {ws : va_W}
theorem case_13 {b L : Nat} {xs : Nat → Int32} {ad : Nat → Nat} {i : Int32} (F : LFix D tys A p R s m args c) (hX : va_X b L xs s s.heap) (hbl : b < s.heap.size) (hbA : ¬ A b) (hin : ∀ k : Nat, k < 6 → vp_in (i + Int32.ofInt k) L) (hm : cells ≤ R.cells ∧ slots ≤ R.slots) (hAD : ∀ i : Nat, ad (1000 + i) = D.2 1000 i) (hG : GOK ad tys GG ws) (hR : RELW ws) (kk : ∀ w2 : va_W, GOK ad tys GG w2 → RELW w2 → LV p l e R s m args below meth c Q D A cells slots 2423 [(3, .int i), (2, .ref (ad 90)), (1, .ref (ad 0)), (0, .ref b)] [] w2) : LV p l e R s m args below meth c Q D A cells slots 707 [(3, .int i), (2, .ref (ad 90)), (1, .ref (ad 0)), (0, .ref b)] [] ws := by
  refine L_al (i := 1) F dk_707 rfl (List.Mem.tail _ (List.Mem.tail _ (List.Mem.head _))) ?_
  refine L_arg F hX hbl hbA (List.Mem.tail _ (List.Mem.tail _ (List.Mem.tail _ (List.Mem.head _)))) (List.Mem.head _) dk_708 dk_709 dk_710 dk_711 dk_712 (hin 1 (by omega)) ?_
  refine L_uc (As := [.int (xs (i + Int32.ofInt 1).toNatClampNeg)]) (y := 14) (q0 := 0) F (u_X13 hAD hG (xs (i + Int32.ofInt 1).toNatClampNeg)) (by omega) (show mKind 14 = 0 by decide +kernel) (w := 660) (show wAt 660 (Cond.methodLink "HalvedNamesLaw" 70 (mY 14)) = true by decide +kernel) dk_713 (show 1 = mN 14 by decide +kernel) (show GG[0]? = some _ from rfl) rfl ⟨_, _, rfl⟩ (by simp) hm hG (fun r1 w1 z1 => ?_)
  refine L_pop0 F dk_716 z1.1 ?_
  refine L_al (i := 2) F dk_717 rfl (List.Mem.tail _ (List.Mem.head _)) ?_
  refine L_arg F hX hbl hbA (List.Mem.tail _ (List.Mem.tail _ (List.Mem.tail _ (List.Mem.head _)))) (List.Mem.head _) dk_718 dk_719 dk_720 dk_721 dk_722 (hin 1 (by omega)) ?_
  refine L_uc (As := [.int (xs (i + Int32.ofInt 1).toNatClampNeg)]) (y := 252) (q0 := 90) F (u_M13 hAD z1.1.1 (xs (i + Int32.ofInt 1).toNatClampNeg)) (by omega) (show mKind 252 = 0 by decide +kernel) (w := 1545) (show wAt 1545 (Cond.methodLink "HalvedNamesLaw" 73 (mY 252)) = true by decide +kernel) dk_723 (show 1 = mN 252 by decide +kernel) (show GG[90]? = some _ from rfl) rfl ⟨_, _, rfl⟩ (by simp) hm z1.1.1 (fun r2 w2 z2 => ?_)
  refine L_pop0 F dk_726 z2.1 ?_
  exact L_goto F dk_727 rfl (kk w2 z2.1.1 (KEP_rels (KEP_rels hR z1.2) z2.2))
theorem case_14 {b L : Nat} {xs : Nat → Int32} {ad : Nat → Nat} {i : Int32} (F : LFix D tys A p R s m args c) (hX : va_X b L xs s s.heap) (hbl : b < s.heap.size) (hbA : ¬ A b) (hin : ∀ k : Nat, k < 6 → vp_in (i + Int32.ofInt k) L) (hm : cells ≤ R.cells ∧ slots ≤ R.slots) (hAD : ∀ i : Nat, ad (1000 + i) = D.2 1000 i) (hG : GOK ad tys GG ws) (hR : RELW ws) (kk : ∀ w2 : va_W, GOK ad tys GG w2 → RELW w2 → LV p l e R s m args below meth c Q D A cells slots 2423 [(3, .int i), (2, .ref (ad 90)), (1, .ref (ad 0)), (0, .ref b)] [] w2) : LV p l e R s m args below meth c Q D A cells slots 730 [(3, .int i), (2, .ref (ad 90)), (1, .ref (ad 0)), (0, .ref b)] [] ws := by
  refine L_al (i := 1) F dk_730 rfl (List.Mem.tail _ (List.Mem.tail _ (List.Mem.head _))) ?_
  refine L_arg F hX hbl hbA (List.Mem.tail _ (List.Mem.tail _ (List.Mem.tail _ (List.Mem.head _)))) (List.Mem.head _) dk_731 dk_732 dk_733 dk_734 dk_735 (hin 1 (by omega)) ?_
  refine L_arg F hX hbl hbA (List.Mem.tail _ (List.Mem.tail _ (List.Mem.tail _ (List.Mem.head _)))) (List.Mem.head _) dk_736 dk_737 dk_738 dk_739 dk_740 (hin 2 (by omega)) ?_
  refine L_uc (As := [.int (xs (i + Int32.ofInt 1).toNatClampNeg), .int (xs (i + Int32.ofInt 2).toNatClampNeg)]) (y := 15) (q0 := 0) F (u_X14 hAD hG (xs (i + Int32.ofInt 1).toNatClampNeg) (xs (i + Int32.ofInt 2).toNatClampNeg)) (by omega) (show mKind 15 = 0 by decide +kernel) (w := 664) (show wAt 664 (Cond.methodLink "HalvedNamesLaw" 74 (mY 15)) = true by decide +kernel) dk_741 (show 2 = mN 15 by decide +kernel) (show GG[0]? = some _ from rfl) rfl ⟨_, _, rfl⟩ (by simp) hm hG (fun r1 w1 z1 => ?_)
  refine L_pop0 F dk_744 z1.1 ?_
  refine L_al (i := 2) F dk_745 rfl (List.Mem.tail _ (List.Mem.head _)) ?_
  refine L_arg F hX hbl hbA (List.Mem.tail _ (List.Mem.tail _ (List.Mem.tail _ (List.Mem.head _)))) (List.Mem.head _) dk_746 dk_747 dk_748 dk_749 dk_750 (hin 1 (by omega)) ?_
  refine L_arg F hX hbl hbA (List.Mem.tail _ (List.Mem.tail _ (List.Mem.tail _ (List.Mem.head _)))) (List.Mem.head _) dk_751 dk_752 dk_753 dk_754 dk_755 (hin 2 (by omega)) ?_
  refine L_uc (As := [.int (xs (i + Int32.ofInt 1).toNatClampNeg), .int (xs (i + Int32.ofInt 2).toNatClampNeg)]) (y := 254) (q0 := 90) F (u_M14 hAD z1.1.1 (xs (i + Int32.ofInt 1).toNatClampNeg) (xs (i + Int32.ofInt 2).toNatClampNeg)) (by omega) (show mKind 254 = 0 by decide +kernel) (w := 1549) (show wAt 1549 (Cond.methodLink "HalvedNamesLaw" 77 (mY 254)) = true by decide +kernel) dk_756 (show 2 = mN 254 by decide +kernel) (show GG[90]? = some _ from rfl) rfl ⟨_, _, rfl⟩ (by simp) hm z1.1.1 (fun r2 w2 z2 => ?_)
  refine L_pop0 F dk_759 z2.1 ?_
  exact L_goto F dk_760 rfl (kk w2 z2.1.1 (KEP_rels (KEP_rels hR z1.2) z2.2))
theorem case_15 {b L : Nat} {xs : Nat → Int32} {ad : Nat → Nat} {i : Int32} (F : LFix D tys A p R s m args c) (hX : va_X b L xs s s.heap) (hbl : b < s.heap.size) (hbA : ¬ A b) (hin : ∀ k : Nat, k < 6 → vp_in (i + Int32.ofInt k) L) (hm : cells ≤ R.cells ∧ slots ≤ R.slots) (hAD : ∀ i : Nat, ad (1000 + i) = D.2 1000 i) (hG : GOK ad tys GG ws) (hR : RELW ws) (kk : ∀ w2 : va_W, GOK ad tys GG w2 → RELW w2 → LV p l e R s m args below meth c Q D A cells slots 2423 [(3, .int i), (2, .ref (ad 90)), (1, .ref (ad 0)), (0, .ref b)] [] w2) : LV p l e R s m args below meth c Q D A cells slots 763 [(3, .int i), (2, .ref (ad 90)), (1, .ref (ad 0)), (0, .ref b)] [] ws := by
  refine L_al (i := 1) F dk_763 rfl (List.Mem.tail _ (List.Mem.tail _ (List.Mem.head _))) ?_
  refine L_arg F hX hbl hbA (List.Mem.tail _ (List.Mem.tail _ (List.Mem.tail _ (List.Mem.head _)))) (List.Mem.head _) dk_764 dk_765 dk_766 dk_767 dk_768 (hin 1 (by omega)) ?_
  refine L_arg F hX hbl hbA (List.Mem.tail _ (List.Mem.tail _ (List.Mem.tail _ (List.Mem.head _)))) (List.Mem.head _) dk_769 dk_770 dk_771 dk_772 dk_773 (hin 2 (by omega)) ?_
  refine L_uc (As := [.int (xs (i + Int32.ofInt 1).toNatClampNeg), .int (xs (i + Int32.ofInt 2).toNatClampNeg)]) (y := 16) (q0 := 0) F (u_X15 hAD hG (xs (i + Int32.ofInt 1).toNatClampNeg) (xs (i + Int32.ofInt 2).toNatClampNeg)) (by omega) (show mKind 16 = 0 by decide +kernel) (w := 685) (show wAt 685 (Cond.methodLink "HalvedNamesLaw" 78 (mY 16)) = true by decide +kernel) dk_774 (show 2 = mN 16 by decide +kernel) (show GG[0]? = some _ from rfl) rfl ⟨_, _, rfl⟩ (by simp) hm hG (fun r1 w1 z1 => ?_)
  refine L_pop0 F dk_777 z1.1 ?_
  refine L_al (i := 2) F dk_778 rfl (List.Mem.tail _ (List.Mem.head _)) ?_
  refine L_arg F hX hbl hbA (List.Mem.tail _ (List.Mem.tail _ (List.Mem.tail _ (List.Mem.head _)))) (List.Mem.head _) dk_779 dk_780 dk_781 dk_782 dk_783 (hin 1 (by omega)) ?_
  refine L_arg F hX hbl hbA (List.Mem.tail _ (List.Mem.tail _ (List.Mem.tail _ (List.Mem.head _)))) (List.Mem.head _) dk_784 dk_785 dk_786 dk_787 dk_788 (hin 2 (by omega)) ?_
  refine L_uc (As := [.int (xs (i + Int32.ofInt 1).toNatClampNeg), .int (xs (i + Int32.ofInt 2).toNatClampNeg)]) (y := 256) (q0 := 90) F (u_M15 hAD z1.1.1 (xs (i + Int32.ofInt 1).toNatClampNeg) (xs (i + Int32.ofInt 2).toNatClampNeg)) (by omega) (show mKind 256 = 0 by decide +kernel) (w := 1565) (show wAt 1565 (Cond.methodLink "HalvedNamesLaw" 81 (mY 256)) = true by decide +kernel) dk_789 (show 2 = mN 256 by decide +kernel) (show GG[90]? = some _ from rfl) rfl ⟨_, _, rfl⟩ (by simp) hm z1.1.1 (fun r2 w2 z2 => ?_)
  refine L_pop0 F dk_792 z2.1 ?_
  exact L_goto F dk_793 rfl (kk w2 z2.1.1 (KEP_rels (KEP_rels hR z1.2) z2.2))
theorem case_16 {b L : Nat} {xs : Nat → Int32} {ad : Nat → Nat} {i : Int32} (F : LFix D tys A p R s m args c) (hX : va_X b L xs s s.heap) (hbl : b < s.heap.size) (hbA : ¬ A b) (hin : ∀ k : Nat, k < 6 → vp_in (i + Int32.ofInt k) L) (hm : cells ≤ R.cells ∧ slots ≤ R.slots) (hAD : ∀ i : Nat, ad (1000 + i) = D.2 1000 i) (hG : GOK ad tys GG ws) (hR : RELW ws) (kk : ∀ w2 : va_W, GOK ad tys GG w2 → RELW w2 → LV p l e R s m args below meth c Q D A cells slots 2423 [(3, .int i), (2, .ref (ad 90)), (1, .ref (ad 0)), (0, .ref b)] [] w2) : LV p l e R s m args below meth c Q D A cells slots 796 [(3, .int i), (2, .ref (ad 90)), (1, .ref (ad 0)), (0, .ref b)] [] ws := by
  refine L_al (i := 1) F dk_796 rfl (List.Mem.tail _ (List.Mem.tail _ (List.Mem.head _))) ?_
  refine L_arg F hX hbl hbA (List.Mem.tail _ (List.Mem.tail _ (List.Mem.tail _ (List.Mem.head _)))) (List.Mem.head _) dk_797 dk_798 dk_799 dk_800 dk_801 (hin 1 (by omega)) ?_
  refine L_uc (As := [.int (xs (i + Int32.ofInt 1).toNatClampNeg)]) (y := 17) (q0 := 0) F (u_X16 hAD hG (xs (i + Int32.ofInt 1).toNatClampNeg)) (by omega) (show mKind 17 = 0 by decide +kernel) (w := 693) (show wAt 693 (Cond.methodLink "HalvedNamesLaw" 82 (mY 17)) = true by decide +kernel) dk_802 (show 1 = mN 17 by decide +kernel) (show GG[0]? = some _ from rfl) rfl ⟨_, _, rfl⟩ (by simp) hm hG (fun r1 w1 z1 => ?_)
  refine L_pop0 F dk_805 z1.1 ?_
  refine L_al (i := 2) F dk_806 rfl (List.Mem.tail _ (List.Mem.head _)) ?_
  refine L_arg F hX hbl hbA (List.Mem.tail _ (List.Mem.tail _ (List.Mem.tail _ (List.Mem.head _)))) (List.Mem.head _) dk_807 dk_808 dk_809 dk_810 dk_811 (hin 1 (by omega)) ?_
  refine L_uc (As := [.int (xs (i + Int32.ofInt 1).toNatClampNeg)]) (y := 258) (q0 := 90) F (u_M16 hAD z1.1.1 (xs (i + Int32.ofInt 1).toNatClampNeg)) (by omega) (show mKind 258 = 0 by decide +kernel) (w := 1573) (show wAt 1573 (Cond.methodLink "HalvedNamesLaw" 85 (mY 258)) = true by decide +kernel) dk_812 (show 1 = mN 258 by decide +kernel) (show GG[90]? = some _ from rfl) rfl ⟨_, _, rfl⟩ (by simp) hm z1.1.1 (fun r2 w2 z2 => ?_)
  refine L_pop0 F dk_815 z2.1 ?_
  exact L_goto F dk_816 rfl (kk w2 z2.1.1 (KEP_rels (KEP_rels hR z1.2) z2.2))
theorem case_17 {b L : Nat} {xs : Nat → Int32} {ad : Nat → Nat} {i : Int32} (F : LFix D tys A p R s m args c) (hX : va_X b L xs s s.heap) (hbl : b < s.heap.size) (hbA : ¬ A b) (hin : ∀ k : Nat, k < 6 → vp_in (i + Int32.ofInt k) L) (hm : cells ≤ R.cells ∧ slots ≤ R.slots) (hAD : ∀ i : Nat, ad (1000 + i) = D.2 1000 i) (hG : GOK ad tys GG ws) (hR : RELW ws) (kk : ∀ w2 : va_W, GOK ad tys GG w2 → RELW w2 → LV p l e R s m args below meth c Q D A cells slots 2423 [(3, .int i), (2, .ref (ad 90)), (1, .ref (ad 0)), (0, .ref b)] [] w2) : LV p l e R s m args below meth c Q D A cells slots 819 [(3, .int i), (2, .ref (ad 90)), (1, .ref (ad 0)), (0, .ref b)] [] ws := by
  refine L_al (i := 1) F dk_819 rfl (List.Mem.tail _ (List.Mem.tail _ (List.Mem.head _))) ?_
  refine L_arg F hX hbl hbA (List.Mem.tail _ (List.Mem.tail _ (List.Mem.tail _ (List.Mem.head _)))) (List.Mem.head _) dk_820 dk_821 dk_822 dk_823 dk_824 (hin 1 (by omega)) ?_
  refine L_uc (As := [.int (xs (i + Int32.ofInt 1).toNatClampNeg)]) (y := 18) (q0 := 0) F (u_X17 hAD hG (xs (i + Int32.ofInt 1).toNatClampNeg)) (by omega) (show mKind 18 = 0 by decide +kernel) (w := 702) (show wAt 702 (Cond.methodLink "HalvedNamesLaw" 86 (mY 18)) = true by decide +kernel) dk_825 (show 1 = mN 18 by decide +kernel) (show GG[0]? = some _ from rfl) rfl ⟨_, _, rfl⟩ (by simp) hm hG (fun r1 w1 z1 => ?_)
  refine L_pop0 F dk_828 z1.1 ?_
  refine L_al (i := 2) F dk_829 rfl (List.Mem.tail _ (List.Mem.head _)) ?_
  refine L_arg F hX hbl hbA (List.Mem.tail _ (List.Mem.tail _ (List.Mem.tail _ (List.Mem.head _)))) (List.Mem.head _) dk_830 dk_831 dk_832 dk_833 dk_834 (hin 1 (by omega)) ?_
  refine L_uc (As := [.int (xs (i + Int32.ofInt 1).toNatClampNeg)]) (y := 259) (q0 := 90) F (u_M17 hAD z1.1.1 (xs (i + Int32.ofInt 1).toNatClampNeg)) (by omega) (show mKind 259 = 0 by decide +kernel) (w := 1582) (show wAt 1582 (Cond.methodLink "HalvedNamesLaw" 89 (mY 259)) = true by decide +kernel) dk_835 (show 1 = mN 259 by decide +kernel) (show GG[90]? = some _ from rfl) rfl ⟨_, _, rfl⟩ (by simp) hm z1.1.1 (fun r2 w2 z2 => ?_)
  refine L_pop0 F dk_838 z2.1 ?_
  exact L_goto F dk_839 rfl (kk w2 z2.1.1 (KEP_rels (KEP_rels hR z1.2) z2.2))
theorem case_18 {b L : Nat} {xs : Nat → Int32} {ad : Nat → Nat} {i : Int32} (F : LFix D tys A p R s m args c) (hX : va_X b L xs s s.heap) (hbl : b < s.heap.size) (hbA : ¬ A b) (hin : ∀ k : Nat, k < 6 → vp_in (i + Int32.ofInt k) L) (hm : cells ≤ R.cells ∧ slots ≤ R.slots) (hAD : ∀ i : Nat, ad (1000 + i) = D.2 1000 i) (hG : GOK ad tys GG ws) (hR : RELW ws) (kk : ∀ w2 : va_W, GOK ad tys GG w2 → RELW w2 → LV p l e R s m args below meth c Q D A cells slots 2423 [(3, .int i), (2, .ref (ad 90)), (1, .ref (ad 0)), (0, .ref b)] [] w2) : LV p l e R s m args below meth c Q D A cells slots 842 [(3, .int i), (2, .ref (ad 90)), (1, .ref (ad 0)), (0, .ref b)] [] ws := by
  refine L_al (i := 1) F dk_842 rfl (List.Mem.tail _ (List.Mem.tail _ (List.Mem.head _))) ?_
  refine L_arg F hX hbl hbA (List.Mem.tail _ (List.Mem.tail _ (List.Mem.tail _ (List.Mem.head _)))) (List.Mem.head _) dk_843 dk_844 dk_845 dk_846 dk_847 (hin 1 (by omega)) ?_
  refine L_uc (As := [.int (xs (i + Int32.ofInt 1).toNatClampNeg)]) (y := 19) (q0 := 0) F (u_X18 hAD hG (xs (i + Int32.ofInt 1).toNatClampNeg)) (by omega) (show mKind 19 = 0 by decide +kernel) (w := 706) (show wAt 706 (Cond.methodLink "HalvedNamesLaw" 90 (mY 19)) = true by decide +kernel) dk_848 (show 1 = mN 19 by decide +kernel) (show GG[0]? = some _ from rfl) rfl ⟨_, _, rfl⟩ (by simp) hm hG (fun r1 w1 z1 => ?_)
  refine L_pop0 F dk_851 z1.1 ?_
  refine L_al (i := 2) F dk_852 rfl (List.Mem.tail _ (List.Mem.head _)) ?_
  refine L_arg F hX hbl hbA (List.Mem.tail _ (List.Mem.tail _ (List.Mem.tail _ (List.Mem.head _)))) (List.Mem.head _) dk_853 dk_854 dk_855 dk_856 dk_857 (hin 1 (by omega)) ?_
  refine L_uc (As := [.int (xs (i + Int32.ofInt 1).toNatClampNeg)]) (y := 260) (q0 := 90) F (u_M18 hAD z1.1.1 (xs (i + Int32.ofInt 1).toNatClampNeg)) (by omega) (show mKind 260 = 0 by decide +kernel) (w := 1586) (show wAt 1586 (Cond.methodLink "HalvedNamesLaw" 93 (mY 260)) = true by decide +kernel) dk_858 (show 1 = mN 260 by decide +kernel) (show GG[90]? = some _ from rfl) rfl ⟨_, _, rfl⟩ (by simp) hm z1.1.1 (fun r2 w2 z2 => ?_)
  refine L_pop0 F dk_861 z2.1 ?_
  exact L_goto F dk_862 rfl (kk w2 z2.1.1 (KEP_rels (KEP_rels hR z1.2) z2.2))
theorem case_19 {b L : Nat} {xs : Nat → Int32} {ad : Nat → Nat} {i : Int32} (F : LFix D tys A p R s m args c) (hX : va_X b L xs s s.heap) (hbl : b < s.heap.size) (hbA : ¬ A b) (hin : ∀ k : Nat, k < 6 → vp_in (i + Int32.ofInt k) L) (hm : cells ≤ R.cells ∧ slots ≤ R.slots) (hAD : ∀ i : Nat, ad (1000 + i) = D.2 1000 i) (hG : GOK ad tys GG ws) (hR : RELW ws) (kk : ∀ w2 : va_W, GOK ad tys GG w2 → RELW w2 → LV p l e R s m args below meth c Q D A cells slots 2423 [(3, .int i), (2, .ref (ad 90)), (1, .ref (ad 0)), (0, .ref b)] [] w2) : LV p l e R s m args below meth c Q D A cells slots 865 [(3, .int i), (2, .ref (ad 90)), (1, .ref (ad 0)), (0, .ref b)] [] ws := by
  refine L_al (i := 1) F dk_865 rfl (List.Mem.tail _ (List.Mem.tail _ (List.Mem.head _))) ?_
  refine L_arg F hX hbl hbA (List.Mem.tail _ (List.Mem.tail _ (List.Mem.tail _ (List.Mem.head _)))) (List.Mem.head _) dk_866 dk_867 dk_868 dk_869 dk_870 (hin 1 (by omega)) ?_
  refine L_arg F hX hbl hbA (List.Mem.tail _ (List.Mem.tail _ (List.Mem.tail _ (List.Mem.head _)))) (List.Mem.head _) dk_871 dk_872 dk_873 dk_874 dk_875 (hin 2 (by omega)) ?_
  refine L_uc (As := [.int (xs (i + Int32.ofInt 1).toNatClampNeg), .int (xs (i + Int32.ofInt 2).toNatClampNeg)]) (y := 20) (q0 := 0) F (u_X19 hAD hG (xs (i + Int32.ofInt 1).toNatClampNeg) (xs (i + Int32.ofInt 2).toNatClampNeg)) (by omega) (show mKind 20 = 0 by decide +kernel) (w := 710) (show wAt 710 (Cond.methodLink "HalvedNamesLaw" 94 (mY 20)) = true by decide +kernel) dk_876 (show 2 = mN 20 by decide +kernel) (show GG[0]? = some _ from rfl) rfl ⟨_, _, rfl⟩ (by simp) hm hG (fun r1 w1 z1 => ?_)
  refine L_pop0 F dk_879 z1.1 ?_
  refine L_al (i := 2) F dk_880 rfl (List.Mem.tail _ (List.Mem.head _)) ?_
  refine L_arg F hX hbl hbA (List.Mem.tail _ (List.Mem.tail _ (List.Mem.tail _ (List.Mem.head _)))) (List.Mem.head _) dk_881 dk_882 dk_883 dk_884 dk_885 (hin 1 (by omega)) ?_
  refine L_arg F hX hbl hbA (List.Mem.tail _ (List.Mem.tail _ (List.Mem.tail _ (List.Mem.head _)))) (List.Mem.head _) dk_886 dk_887 dk_888 dk_889 dk_890 (hin 2 (by omega)) ?_
  refine L_uc (As := [.int (xs (i + Int32.ofInt 1).toNatClampNeg), .int (xs (i + Int32.ofInt 2).toNatClampNeg)]) (y := 262) (q0 := 90) F (u_M19 hAD z1.1.1 (xs (i + Int32.ofInt 1).toNatClampNeg) (xs (i + Int32.ofInt 2).toNatClampNeg)) (by omega) (show mKind 262 = 0 by decide +kernel) (w := 1590) (show wAt 1590 (Cond.methodLink "HalvedNamesLaw" 97 (mY 262)) = true by decide +kernel) dk_891 (show 2 = mN 262 by decide +kernel) (show GG[90]? = some _ from rfl) rfl ⟨_, _, rfl⟩ (by simp) hm z1.1.1 (fun r2 w2 z2 => ?_)
  refine L_pop0 F dk_894 z2.1 ?_
  exact L_goto F dk_895 rfl (kk w2 z2.1.1 (KEP_rels (KEP_rels hR z1.2) z2.2))
theorem case_20 {b L : Nat} {xs : Nat → Int32} {ad : Nat → Nat} {i : Int32} (F : LFix D tys A p R s m args c) (hX : va_X b L xs s s.heap) (hbl : b < s.heap.size) (hbA : ¬ A b) (hin : ∀ k : Nat, k < 6 → vp_in (i + Int32.ofInt k) L) (hm : cells ≤ R.cells ∧ slots ≤ R.slots) (hAD : ∀ i : Nat, ad (1000 + i) = D.2 1000 i) (hG : GOK ad tys GG ws) (hR : RELW ws) (kk : ∀ w2 : va_W, GOK ad tys GG w2 → RELW w2 → LV p l e R s m args below meth c Q D A cells slots 2423 [(3, .int i), (2, .ref (ad 90)), (1, .ref (ad 0)), (0, .ref b)] [] w2) : LV p l e R s m args below meth c Q D A cells slots 898 [(3, .int i), (2, .ref (ad 90)), (1, .ref (ad 0)), (0, .ref b)] [] ws := by
  refine L_al (i := 1) F dk_898 rfl (List.Mem.tail _ (List.Mem.tail _ (List.Mem.head _))) ?_
  refine L_arg F hX hbl hbA (List.Mem.tail _ (List.Mem.tail _ (List.Mem.tail _ (List.Mem.head _)))) (List.Mem.head _) dk_899 dk_900 dk_901 dk_902 dk_903 (hin 1 (by omega)) ?_
  refine L_uc (As := [.int (xs (i + Int32.ofInt 1).toNatClampNeg)]) (y := 21) (q0 := 0) F (u_X20 hAD hG (xs (i + Int32.ofInt 1).toNatClampNeg)) (by omega) (show mKind 21 = 0 by decide +kernel) (w := 724) (show wAt 724 (Cond.methodLink "HalvedNamesLaw" 98 (mY 21)) = true by decide +kernel) dk_904 (show 1 = mN 21 by decide +kernel) (show GG[0]? = some _ from rfl) rfl ⟨_, _, rfl⟩ (by simp) hm hG (fun r1 w1 z1 => ?_)
  refine L_pop0 F dk_907 z1.1 ?_
  refine L_al (i := 2) F dk_908 rfl (List.Mem.tail _ (List.Mem.head _)) ?_
  refine L_arg F hX hbl hbA (List.Mem.tail _ (List.Mem.tail _ (List.Mem.tail _ (List.Mem.head _)))) (List.Mem.head _) dk_909 dk_910 dk_911 dk_912 dk_913 (hin 1 (by omega)) ?_
  refine L_uc (As := [.int (xs (i + Int32.ofInt 1).toNatClampNeg)]) (y := 263) (q0 := 90) F (u_M20 hAD z1.1.1 (xs (i + Int32.ofInt 1).toNatClampNeg)) (by omega) (show mKind 263 = 0 by decide +kernel) (w := 1601) (show wAt 1601 (Cond.methodLink "HalvedNamesLaw" 101 (mY 263)) = true by decide +kernel) dk_914 (show 1 = mN 263 by decide +kernel) (show GG[90]? = some _ from rfl) rfl ⟨_, _, rfl⟩ (by simp) hm z1.1.1 (fun r2 w2 z2 => ?_)
  refine L_pop0 F dk_917 z2.1 ?_
  exact L_goto F dk_918 rfl (kk w2 z2.1.1 (KEP_rels (KEP_rels hR z1.2) z2.2))
theorem case_21 {b L : Nat} {xs : Nat → Int32} {ad : Nat → Nat} {i : Int32} (F : LFix D tys A p R s m args c) (hX : va_X b L xs s s.heap) (hbl : b < s.heap.size) (hbA : ¬ A b) (hin : ∀ k : Nat, k < 6 → vp_in (i + Int32.ofInt k) L) (hm : cells ≤ R.cells ∧ slots ≤ R.slots) (hAD : ∀ i : Nat, ad (1000 + i) = D.2 1000 i) (hG : GOK ad tys GG ws) (hR : RELW ws) (kk : ∀ w2 : va_W, GOK ad tys GG w2 → RELW w2 → LV p l e R s m args below meth c Q D A cells slots 2423 [(3, .int i), (2, .ref (ad 90)), (1, .ref (ad 0)), (0, .ref b)] [] w2) : LV p l e R s m args below meth c Q D A cells slots 921 [(3, .int i), (2, .ref (ad 90)), (1, .ref (ad 0)), (0, .ref b)] [] ws := by
  refine L_al (i := 1) F dk_921 rfl (List.Mem.tail _ (List.Mem.tail _ (List.Mem.head _))) ?_
  refine L_arg F hX hbl hbA (List.Mem.tail _ (List.Mem.tail _ (List.Mem.tail _ (List.Mem.head _)))) (List.Mem.head _) dk_922 dk_923 dk_924 dk_925 dk_926 (hin 1 (by omega)) ?_
  refine L_arg F hX hbl hbA (List.Mem.tail _ (List.Mem.tail _ (List.Mem.tail _ (List.Mem.head _)))) (List.Mem.head _) dk_927 dk_928 dk_929 dk_930 dk_931 (hin 2 (by omega)) ?_
  refine L_arg F hX hbl hbA (List.Mem.tail _ (List.Mem.tail _ (List.Mem.tail _ (List.Mem.head _)))) (List.Mem.head _) dk_932 dk_933 dk_934 dk_935 dk_936 (hin 3 (by omega)) ?_
  refine L_uc (As := [.int (xs (i + Int32.ofInt 1).toNatClampNeg), .int (xs (i + Int32.ofInt 2).toNatClampNeg), .int (xs (i + Int32.ofInt 3).toNatClampNeg)]) (y := 22) (q0 := 0) F (u_X21 hAD hG (xs (i + Int32.ofInt 1).toNatClampNeg) (xs (i + Int32.ofInt 2).toNatClampNeg) (xs (i + Int32.ofInt 3).toNatClampNeg)) (by omega) (show mKind 22 = 0 by decide +kernel) (w := 728) (show wAt 728 (Cond.methodLink "HalvedNamesLaw" 102 (mY 22)) = true by decide +kernel) dk_937 (show 3 = mN 22 by decide +kernel) (show GG[0]? = some _ from rfl) rfl ⟨_, _, rfl⟩ (by simp) hm hG (fun r1 w1 z1 => ?_)
  refine L_pop0 F dk_940 z1.1 ?_
  refine L_al (i := 2) F dk_941 rfl (List.Mem.tail _ (List.Mem.head _)) ?_
  refine L_arg F hX hbl hbA (List.Mem.tail _ (List.Mem.tail _ (List.Mem.tail _ (List.Mem.head _)))) (List.Mem.head _) dk_942 dk_943 dk_944 dk_945 dk_946 (hin 1 (by omega)) ?_
  refine L_arg F hX hbl hbA (List.Mem.tail _ (List.Mem.tail _ (List.Mem.tail _ (List.Mem.head _)))) (List.Mem.head _) dk_947 dk_948 dk_949 dk_950 dk_951 (hin 2 (by omega)) ?_
  refine L_arg F hX hbl hbA (List.Mem.tail _ (List.Mem.tail _ (List.Mem.tail _ (List.Mem.head _)))) (List.Mem.head _) dk_952 dk_953 dk_954 dk_955 dk_956 (hin 3 (by omega)) ?_
  refine L_uc (As := [.int (xs (i + Int32.ofInt 1).toNatClampNeg), .int (xs (i + Int32.ofInt 2).toNatClampNeg), .int (xs (i + Int32.ofInt 3).toNatClampNeg)]) (y := 266) (q0 := 90) F (u_M21 hAD z1.1.1 (xs (i + Int32.ofInt 1).toNatClampNeg) (xs (i + Int32.ofInt 2).toNatClampNeg) (xs (i + Int32.ofInt 3).toNatClampNeg)) (by omega) (show mKind 266 = 0 by decide +kernel) (w := 1605) (show wAt 1605 (Cond.methodLink "HalvedNamesLaw" 105 (mY 266)) = true by decide +kernel) dk_957 (show 3 = mN 266 by decide +kernel) (show GG[90]? = some _ from rfl) rfl ⟨_, _, rfl⟩ (by simp) hm z1.1.1 (fun r2 w2 z2 => ?_)
  refine L_pop0 F dk_960 z2.1 ?_
  exact L_goto F dk_961 rfl (kk w2 z2.1.1 (KEP_rels (KEP_rels hR z1.2) z2.2))
theorem case_22 {b L : Nat} {xs : Nat → Int32} {ad : Nat → Nat} {i : Int32} (F : LFix D tys A p R s m args c) (hX : va_X b L xs s s.heap) (hbl : b < s.heap.size) (hbA : ¬ A b) (hin : ∀ k : Nat, k < 6 → vp_in (i + Int32.ofInt k) L) (hm : cells ≤ R.cells ∧ slots ≤ R.slots) (hAD : ∀ i : Nat, ad (1000 + i) = D.2 1000 i) (hG : GOK ad tys GG ws) (hR : RELW ws) (kk : ∀ w2 : va_W, GOK ad tys GG w2 → RELW w2 → LV p l e R s m args below meth c Q D A cells slots 2423 [(3, .int i), (2, .ref (ad 90)), (1, .ref (ad 0)), (0, .ref b)] [] w2) : LV p l e R s m args below meth c Q D A cells slots 964 [(3, .int i), (2, .ref (ad 90)), (1, .ref (ad 0)), (0, .ref b)] [] ws := by
  refine L_al (i := 1) F dk_964 rfl (List.Mem.tail _ (List.Mem.tail _ (List.Mem.head _))) ?_
  refine L_arg F hX hbl hbA (List.Mem.tail _ (List.Mem.tail _ (List.Mem.tail _ (List.Mem.head _)))) (List.Mem.head _) dk_965 dk_966 dk_967 dk_968 dk_969 (hin 1 (by omega)) ?_
  refine L_arg F hX hbl hbA (List.Mem.tail _ (List.Mem.tail _ (List.Mem.tail _ (List.Mem.head _)))) (List.Mem.head _) dk_970 dk_971 dk_972 dk_973 dk_974 (hin 2 (by omega)) ?_
  refine L_uc (As := [.int (xs (i + Int32.ofInt 1).toNatClampNeg), .int (xs (i + Int32.ofInt 2).toNatClampNeg)]) (y := 23) (q0 := 0) F (u_X22 hAD hG (xs (i + Int32.ofInt 1).toNatClampNeg) (xs (i + Int32.ofInt 2).toNatClampNeg)) (by omega) (show mKind 23 = 0 by decide +kernel) (w := 737) (show wAt 737 (Cond.methodLink "HalvedNamesLaw" 106 (mY 23)) = true by decide +kernel) dk_975 (show 2 = mN 23 by decide +kernel) (show GG[0]? = some _ from rfl) rfl ⟨_, _, rfl⟩ (by simp) hm hG (fun r1 w1 z1 => ?_)
  refine L_pop0 F dk_978 z1.1 ?_
  refine L_al (i := 2) F dk_979 rfl (List.Mem.tail _ (List.Mem.head _)) ?_
  refine L_arg F hX hbl hbA (List.Mem.tail _ (List.Mem.tail _ (List.Mem.tail _ (List.Mem.head _)))) (List.Mem.head _) dk_980 dk_981 dk_982 dk_983 dk_984 (hin 1 (by omega)) ?_
  refine L_arg F hX hbl hbA (List.Mem.tail _ (List.Mem.tail _ (List.Mem.tail _ (List.Mem.head _)))) (List.Mem.head _) dk_985 dk_986 dk_987 dk_988 dk_989 (hin 2 (by omega)) ?_
  refine L_uc (As := [.int (xs (i + Int32.ofInt 1).toNatClampNeg), .int (xs (i + Int32.ofInt 2).toNatClampNeg)]) (y := 267) (q0 := 90) F (u_M22 hAD z1.1.1 (xs (i + Int32.ofInt 1).toNatClampNeg) (xs (i + Int32.ofInt 2).toNatClampNeg)) (by omega) (show mKind 267 = 0 by decide +kernel) (w := 1617) (show wAt 1617 (Cond.methodLink "HalvedNamesLaw" 109 (mY 267)) = true by decide +kernel) dk_990 (show 2 = mN 267 by decide +kernel) (show GG[90]? = some _ from rfl) rfl ⟨_, _, rfl⟩ (by simp) hm z1.1.1 (fun r2 w2 z2 => ?_)
  refine L_pop0 F dk_993 z2.1 ?_
  exact L_goto F dk_994 rfl (kk w2 z2.1.1 (KEP_rels (KEP_rels hR z1.2) z2.2))
theorem case_23 {b L : Nat} {xs : Nat → Int32} {ad : Nat → Nat} {i : Int32} (F : LFix D tys A p R s m args c) (hX : va_X b L xs s s.heap) (hbl : b < s.heap.size) (hbA : ¬ A b) (hin : ∀ k : Nat, k < 6 → vp_in (i + Int32.ofInt k) L) (hm : cells ≤ R.cells ∧ slots ≤ R.slots) (hAD : ∀ i : Nat, ad (1000 + i) = D.2 1000 i) (hG : GOK ad tys GG ws) (hR : RELW ws) (kk : ∀ w2 : va_W, GOK ad tys GG w2 → RELW w2 → LV p l e R s m args below meth c Q D A cells slots 2423 [(3, .int i), (2, .ref (ad 90)), (1, .ref (ad 0)), (0, .ref b)] [] w2) : LV p l e R s m args below meth c Q D A cells slots 997 [(3, .int i), (2, .ref (ad 90)), (1, .ref (ad 0)), (0, .ref b)] [] ws := by
  refine L_al (i := 1) F dk_997 rfl (List.Mem.tail _ (List.Mem.tail _ (List.Mem.head _))) ?_
  refine L_arg F hX hbl hbA (List.Mem.tail _ (List.Mem.tail _ (List.Mem.tail _ (List.Mem.head _)))) (List.Mem.head _) dk_998 dk_999 dk_1000 dk_1001 dk_1002 (hin 1 (by omega)) ?_
  refine L_arg F hX hbl hbA (List.Mem.tail _ (List.Mem.tail _ (List.Mem.tail _ (List.Mem.head _)))) (List.Mem.head _) dk_1003 dk_1004 dk_1005 dk_1006 dk_1007 (hin 2 (by omega)) ?_
  refine L_uc (As := [.int (xs (i + Int32.ofInt 1).toNatClampNeg), .int (xs (i + Int32.ofInt 2).toNatClampNeg)]) (y := 24) (q0 := 0) F (u_X23 hAD hG (xs (i + Int32.ofInt 1).toNatClampNeg) (xs (i + Int32.ofInt 2).toNatClampNeg)) (by omega) (show mKind 24 = 0 by decide +kernel) (w := 741) (show wAt 741 (Cond.methodLink "HalvedNamesLaw" 110 (mY 24)) = true by decide +kernel) dk_1008 (show 2 = mN 24 by decide +kernel) (show GG[0]? = some _ from rfl) rfl ⟨_, _, rfl⟩ (by simp) hm hG (fun r1 w1 z1 => ?_)
  refine L_pop0 F dk_1011 z1.1 ?_
  refine L_al (i := 2) F dk_1012 rfl (List.Mem.tail _ (List.Mem.head _)) ?_
  refine L_arg F hX hbl hbA (List.Mem.tail _ (List.Mem.tail _ (List.Mem.tail _ (List.Mem.head _)))) (List.Mem.head _) dk_1013 dk_1014 dk_1015 dk_1016 dk_1017 (hin 1 (by omega)) ?_
  refine L_arg F hX hbl hbA (List.Mem.tail _ (List.Mem.tail _ (List.Mem.tail _ (List.Mem.head _)))) (List.Mem.head _) dk_1018 dk_1019 dk_1020 dk_1021 dk_1022 (hin 2 (by omega)) ?_
  refine L_uc (As := [.int (xs (i + Int32.ofInt 1).toNatClampNeg), .int (xs (i + Int32.ofInt 2).toNatClampNeg)]) (y := 268) (q0 := 90) F (u_M23 hAD z1.1.1 (xs (i + Int32.ofInt 1).toNatClampNeg) (xs (i + Int32.ofInt 2).toNatClampNeg)) (by omega) (show mKind 268 = 0 by decide +kernel) (w := 1621) (show wAt 1621 (Cond.methodLink "HalvedNamesLaw" 113 (mY 268)) = true by decide +kernel) dk_1023 (show 2 = mN 268 by decide +kernel) (show GG[90]? = some _ from rfl) rfl ⟨_, _, rfl⟩ (by simp) hm z1.1.1 (fun r2 w2 z2 => ?_)
  refine L_pop0 F dk_1026 z2.1 ?_
  exact L_goto F dk_1027 rfl (kk w2 z2.1.1 (KEP_rels (KEP_rels hR z1.2) z2.2))
theorem case_24 {b L : Nat} {xs : Nat → Int32} {ad : Nat → Nat} {i : Int32} (F : LFix D tys A p R s m args c) (hX : va_X b L xs s s.heap) (hbl : b < s.heap.size) (hbA : ¬ A b) (hin : ∀ k : Nat, k < 6 → vp_in (i + Int32.ofInt k) L) (hm : cells ≤ R.cells ∧ slots ≤ R.slots) (hAD : ∀ i : Nat, ad (1000 + i) = D.2 1000 i) (hG : GOK ad tys GG ws) (hR : RELW ws) (kk : ∀ w2 : va_W, GOK ad tys GG w2 → RELW w2 → LV p l e R s m args below meth c Q D A cells slots 2423 [(3, .int i), (2, .ref (ad 90)), (1, .ref (ad 0)), (0, .ref b)] [] w2) : LV p l e R s m args below meth c Q D A cells slots 1030 [(3, .int i), (2, .ref (ad 90)), (1, .ref (ad 0)), (0, .ref b)] [] ws := by
  refine L_al (i := 1) F dk_1030 rfl (List.Mem.tail _ (List.Mem.tail _ (List.Mem.head _))) ?_
  refine L_arg F hX hbl hbA (List.Mem.tail _ (List.Mem.tail _ (List.Mem.tail _ (List.Mem.head _)))) (List.Mem.head _) dk_1031 dk_1032 dk_1033 dk_1034 dk_1035 (hin 1 (by omega)) ?_
  refine L_arg F hX hbl hbA (List.Mem.tail _ (List.Mem.tail _ (List.Mem.tail _ (List.Mem.head _)))) (List.Mem.head _) dk_1036 dk_1037 dk_1038 dk_1039 dk_1040 (hin 2 (by omega)) ?_
  obtain ⟨v, MID, s1, s2⟩ := pairT_called (l := l) (D := D) (A := A) hAD hG hR (xs (i + Int32.ofInt 1).toNatClampNeg) (xs (i + Int32.ofInt 2).toNatClampNeg)
  refine L_uc (As := [.int (xs (i + Int32.ofInt 1).toNatClampNeg), .int (xs (i + Int32.ofInt 2).toNatClampNeg)]) (y := 25) (q0 := 0) F (s1) (by omega) (show mKind 25 = 0 by decide +kernel) (w := 745) (show wAt 745 (Cond.methodLink "HalvedNamesLaw" 114 (mY 25)) = true by decide +kernel) dk_1041 (show 2 = mN 25 by decide +kernel) (show GG[0]? = some _ from rfl) rfl ⟨_, _, rfl⟩ (by simp) hm hG (fun r1 w1 z1 => ?_)
  obtain ⟨rfl, hG1, K1⟩ := z1
  refine L_al (i := 2) F dk_1044 rfl (List.Mem.tail _ (List.Mem.head _)) ?_
  refine L_arg F hX hbl hbA (List.Mem.tail _ (List.Mem.tail _ (List.Mem.tail _ (List.Mem.head _)))) (List.Mem.head _) dk_1045 dk_1046 dk_1047 dk_1048 dk_1049 (hin 1 (by omega)) ?_
  refine L_arg F hX hbl hbA (List.Mem.tail _ (List.Mem.tail _ (List.Mem.tail _ (List.Mem.head _)))) (List.Mem.head _) dk_1050 dk_1051 dk_1052 dk_1053 dk_1054 (hin 2 (by omega)) ?_
  refine L_uc (As := [.int (xs (i + Int32.ofInt 1).toNatClampNeg), .int (xs (i + Int32.ofInt 2).toNatClampNeg)]) (y := 269) (q0 := 90) F (s2 w1 hG1 K1) (by omega) (show mKind 269 = 0 by decide +kernel) (w := 1625) (show wAt 1625 (Cond.methodLink "HalvedNamesLaw" 117 (mY 269)) = true by decide +kernel) dk_1055 (show 2 = mN 269 by decide +kernel) (show GG[90]? = some _ from rfl) rfl ⟨_, _, rfl⟩ (by simp) hm hG1 (fun r2 w2 z2 => ?_)
  obtain ⟨rfl, hG2, K2⟩ := z2
  exact L_eqE F dk_1058 rfl (kk w2 hG2 K2)
theorem case_25 {b L : Nat} {xs : Nat → Int32} {ad : Nat → Nat} {i : Int32} (F : LFix D tys A p R s m args c) (hX : va_X b L xs s s.heap) (hbl : b < s.heap.size) (hbA : ¬ A b) (hin : ∀ k : Nat, k < 6 → vp_in (i + Int32.ofInt k) L) (hm : cells ≤ R.cells ∧ slots ≤ R.slots) (hAD : ∀ i : Nat, ad (1000 + i) = D.2 1000 i) (hG : GOK ad tys GG ws) (hR : RELW ws) (kk : ∀ w2 : va_W, GOK ad tys GG w2 → RELW w2 → LV p l e R s m args below meth c Q D A cells slots 2423 [(3, .int i), (2, .ref (ad 90)), (1, .ref (ad 0)), (0, .ref b)] [] w2) : LV p l e R s m args below meth c Q D A cells slots 1063 [(3, .int i), (2, .ref (ad 90)), (1, .ref (ad 0)), (0, .ref b)] [] ws := by
  refine L_al (i := 1) F dk_1063 rfl (List.Mem.tail _ (List.Mem.tail _ (List.Mem.head _))) ?_
  refine L_arg F hX hbl hbA (List.Mem.tail _ (List.Mem.tail _ (List.Mem.tail _ (List.Mem.head _)))) (List.Mem.head _) dk_1064 dk_1065 dk_1066 dk_1067 dk_1068 (hin 1 (by omega)) ?_
  refine L_arg F hX hbl hbA (List.Mem.tail _ (List.Mem.tail _ (List.Mem.tail _ (List.Mem.head _)))) (List.Mem.head _) dk_1069 dk_1070 dk_1071 dk_1072 dk_1073 (hin 2 (by omega)) ?_
  refine L_uc (As := [.int (xs (i + Int32.ofInt 1).toNatClampNeg), .int (xs (i + Int32.ofInt 2).toNatClampNeg)]) (y := 27) (q0 := 0) F (u_X25 hAD hG (xs (i + Int32.ofInt 1).toNatClampNeg) (xs (i + Int32.ofInt 2).toNatClampNeg)) (by omega) (show mKind 27 = 0 by decide +kernel) (w := 749) (show wAt 749 (Cond.methodLink "HalvedNamesLaw" 118 (mY 27)) = true by decide +kernel) dk_1074 (show 2 = mN 27 by decide +kernel) (show GG[0]? = some _ from rfl) rfl ⟨_, _, rfl⟩ (by simp) hm hG (fun r1 w1 z1 => ?_)
  refine L_pop0 F dk_1077 z1.1 ?_
  refine L_al (i := 2) F dk_1078 rfl (List.Mem.tail _ (List.Mem.head _)) ?_
  refine L_arg F hX hbl hbA (List.Mem.tail _ (List.Mem.tail _ (List.Mem.tail _ (List.Mem.head _)))) (List.Mem.head _) dk_1079 dk_1080 dk_1081 dk_1082 dk_1083 (hin 1 (by omega)) ?_
  refine L_arg F hX hbl hbA (List.Mem.tail _ (List.Mem.tail _ (List.Mem.tail _ (List.Mem.head _)))) (List.Mem.head _) dk_1084 dk_1085 dk_1086 dk_1087 dk_1088 (hin 2 (by omega)) ?_
  refine L_uc (As := [.int (xs (i + Int32.ofInt 1).toNatClampNeg), .int (xs (i + Int32.ofInt 2).toNatClampNeg)]) (y := 270) (q0 := 90) F (u_M25 hAD z1.1.1 (xs (i + Int32.ofInt 1).toNatClampNeg) (xs (i + Int32.ofInt 2).toNatClampNeg)) (by omega) (show mKind 270 = 0 by decide +kernel) (w := 1629) (show wAt 1629 (Cond.methodLink "HalvedNamesLaw" 121 (mY 270)) = true by decide +kernel) dk_1089 (show 2 = mN 270 by decide +kernel) (show GG[90]? = some _ from rfl) rfl ⟨_, _, rfl⟩ (by simp) hm z1.1.1 (fun r2 w2 z2 => ?_)
  refine L_pop0 F dk_1092 z2.1 ?_
  exact L_goto F dk_1093 rfl (kk w2 z2.1.1 (KEP_rels (KEP_rels hR z1.2) z2.2))
end CASES1
end
section
section CASES2
variable {p : Program} {l : Launch} {e : Env} {R : Room} {s : State} {m : MethodId} {args : Array Value} {below : List Frame} {meth : Method} {c : Code} {Q : State → Prop} {D : va_G} {tys : List (ClassId × FieldType)} {A : Nat → Prop}
variable {cells slots : Nat} {ws : va_W}
theorem case_26 {b L : Nat} {xs : Nat → Int32} {ad : Nat → Nat} {i : Int32} (F : LFix D tys A p R s m args c) (hX : va_X b L xs s s.heap) (hbl : b < s.heap.size) (hbA : ¬ A b) (hin : ∀ k : Nat, k < 6 → vp_in (i + Int32.ofInt k) L) (hm : cells ≤ R.cells ∧ slots ≤ R.slots) (hAD : ∀ i : Nat, ad (1000 + i) = D.2 1000 i) (hG : GOK ad tys GG ws) (hR : RELW ws) (kk : ∀ w2 : va_W, GOK ad tys GG w2 → RELW w2 → LV p l e R s m args below meth c Q D A cells slots 2423 [(3, .int i), (2, .ref (ad 90)), (1, .ref (ad 0)), (0, .ref b)] [] w2) : LV p l e R s m args below meth c Q D A cells slots 1096 [(3, .int i), (2, .ref (ad 90)), (1, .ref (ad 0)), (0, .ref b)] [] ws := by
  refine L_al (i := 1) F dk_1096 rfl (List.Mem.tail _ (List.Mem.tail _ (List.Mem.head _))) ?_
  refine L_arg F hX hbl hbA (List.Mem.tail _ (List.Mem.tail _ (List.Mem.tail _ (List.Mem.head _)))) (List.Mem.head _) dk_1097 dk_1098 dk_1099 dk_1100 dk_1101 (hin 1 (by omega)) ?_
  refine L_uc (As := [.int (xs (i + Int32.ofInt 1).toNatClampNeg)]) (y := 28) (q0 := 0) F (u_X26 hAD hG (xs (i + Int32.ofInt 1).toNatClampNeg)) (by omega) (show mKind 28 = 0 by decide +kernel) (w := 753) (show wAt 753 (Cond.methodLink "HalvedNamesLaw" 122 (mY 28)) = true by decide +kernel) dk_1102 (show 1 = mN 28 by decide +kernel) (show GG[0]? = some _ from rfl) rfl ⟨_, _, rfl⟩ (by simp) hm hG (fun r1 w1 z1 => ?_)
  refine L_pop0 F dk_1105 z1.1 ?_
  refine L_al (i := 2) F dk_1106 rfl (List.Mem.tail _ (List.Mem.head _)) ?_
  refine L_arg F hX hbl hbA (List.Mem.tail _ (List.Mem.tail _ (List.Mem.tail _ (List.Mem.head _)))) (List.Mem.head _) dk_1107 dk_1108 dk_1109 dk_1110 dk_1111 (hin 1 (by omega)) ?_
  refine L_uc (As := [.int (xs (i + Int32.ofInt 1).toNatClampNeg)]) (y := 271) (q0 := 90) F (u_M26 hAD z1.1.1 (xs (i + Int32.ofInt 1).toNatClampNeg)) (by omega) (show mKind 271 = 0 by decide +kernel) (w := 1633) (show wAt 1633 (Cond.methodLink "HalvedNamesLaw" 125 (mY 271)) = true by decide +kernel) dk_1112 (show 1 = mN 271 by decide +kernel) (show GG[90]? = some _ from rfl) rfl ⟨_, _, rfl⟩ (by simp) hm z1.1.1 (fun r2 w2 z2 => ?_)
  refine L_pop0 F dk_1115 z2.1 ?_
  exact L_goto F dk_1116 rfl (kk w2 z2.1.1 (KEP_rels (KEP_rels hR z1.2) z2.2))
theorem case_27 {b L : Nat} {xs : Nat → Int32} {ad : Nat → Nat} {i : Int32} (F : LFix D tys A p R s m args c) (hX : va_X b L xs s s.heap) (hbl : b < s.heap.size) (hbA : ¬ A b) (hin : ∀ k : Nat, k < 6 → vp_in (i + Int32.ofInt k) L) (hm : cells ≤ R.cells ∧ slots ≤ R.slots) (hAD : ∀ i : Nat, ad (1000 + i) = D.2 1000 i) (hG : GOK ad tys GG ws) (hR : RELW ws) (kk : ∀ w2 : va_W, GOK ad tys GG w2 → RELW w2 → LV p l e R s m args below meth c Q D A cells slots 2423 [(3, .int i), (2, .ref (ad 90)), (1, .ref (ad 0)), (0, .ref b)] [] w2) : LV p l e R s m args below meth c Q D A cells slots 1119 [(3, .int i), (2, .ref (ad 90)), (1, .ref (ad 0)), (0, .ref b)] [] ws := by
  refine L_al (i := 1) F dk_1119 rfl (List.Mem.tail _ (List.Mem.tail _ (List.Mem.head _))) ?_
  refine L_arg F hX hbl hbA (List.Mem.tail _ (List.Mem.tail _ (List.Mem.tail _ (List.Mem.head _)))) (List.Mem.head _) dk_1120 dk_1121 dk_1122 dk_1123 dk_1124 (hin 1 (by omega)) ?_
  refine L_uc (As := [.int (xs (i + Int32.ofInt 1).toNatClampNeg)]) (y := 29) (q0 := 0) F (u_X27 hAD hG (xs (i + Int32.ofInt 1).toNatClampNeg)) (by omega) (show mKind 29 = 0 by decide +kernel) (w := 758) (show wAt 758 (Cond.methodLink "HalvedNamesLaw" 126 (mY 29)) = true by decide +kernel) dk_1125 (show 1 = mN 29 by decide +kernel) (show GG[0]? = some _ from rfl) rfl ⟨_, _, rfl⟩ (by simp) hm hG (fun r1 w1 z1 => ?_)
  refine L_pop0 F dk_1128 z1.1 ?_
  refine L_al (i := 2) F dk_1129 rfl (List.Mem.tail _ (List.Mem.head _)) ?_
  refine L_arg F hX hbl hbA (List.Mem.tail _ (List.Mem.tail _ (List.Mem.tail _ (List.Mem.head _)))) (List.Mem.head _) dk_1130 dk_1131 dk_1132 dk_1133 dk_1134 (hin 1 (by omega)) ?_
  refine L_uc (As := [.int (xs (i + Int32.ofInt 1).toNatClampNeg)]) (y := 273) (q0 := 90) F (u_M27 hAD z1.1.1 (xs (i + Int32.ofInt 1).toNatClampNeg)) (by omega) (show mKind 273 = 0 by decide +kernel) (w := 1637) (show wAt 1637 (Cond.methodLink "HalvedNamesLaw" 129 (mY 273)) = true by decide +kernel) dk_1135 (show 1 = mN 273 by decide +kernel) (show GG[90]? = some _ from rfl) rfl ⟨_, _, rfl⟩ (by simp) hm z1.1.1 (fun r2 w2 z2 => ?_)
  refine L_pop0 F dk_1138 z2.1 ?_
  exact L_goto F dk_1139 rfl (kk w2 z2.1.1 (KEP_rels (KEP_rels hR z1.2) z2.2))
theorem case_28 {b L : Nat} {xs : Nat → Int32} {ad : Nat → Nat} {i : Int32} (F : LFix D tys A p R s m args c) (hX : va_X b L xs s s.heap) (hbl : b < s.heap.size) (hbA : ¬ A b) (hin : ∀ k : Nat, k < 6 → vp_in (i + Int32.ofInt k) L) (hm : cells ≤ R.cells ∧ slots ≤ R.slots) (hAD : ∀ i : Nat, ad (1000 + i) = D.2 1000 i) (hG : GOK ad tys GG ws) (hR : RELW ws) (kk : ∀ w2 : va_W, GOK ad tys GG w2 → RELW w2 → LV p l e R s m args below meth c Q D A cells slots 2423 [(3, .int i), (2, .ref (ad 90)), (1, .ref (ad 0)), (0, .ref b)] [] w2) : LV p l e R s m args below meth c Q D A cells slots 1142 [(3, .int i), (2, .ref (ad 90)), (1, .ref (ad 0)), (0, .ref b)] [] ws := by
  refine L_al (i := 1) F dk_1142 rfl (List.Mem.tail _ (List.Mem.tail _ (List.Mem.head _))) ?_
  refine L_arg F hX hbl hbA (List.Mem.tail _ (List.Mem.tail _ (List.Mem.tail _ (List.Mem.head _)))) (List.Mem.head _) dk_1143 dk_1144 dk_1145 dk_1146 dk_1147 (hin 1 (by omega)) ?_
  refine L_uc (As := [.int (xs (i + Int32.ofInt 1).toNatClampNeg)]) (y := 30) (q0 := 0) F (u_X28 hAD hG (xs (i + Int32.ofInt 1).toNatClampNeg)) (by omega) (show mKind 30 = 0 by decide +kernel) (w := 767) (show wAt 767 (Cond.methodLink "HalvedNamesLaw" 130 (mY 30)) = true by decide +kernel) dk_1148 (show 1 = mN 30 by decide +kernel) (show GG[0]? = some _ from rfl) rfl ⟨_, _, rfl⟩ (by simp) hm hG (fun r1 w1 z1 => ?_)
  refine L_pop0 F dk_1151 z1.1 ?_
  refine L_al (i := 2) F dk_1152 rfl (List.Mem.tail _ (List.Mem.head _)) ?_
  refine L_arg F hX hbl hbA (List.Mem.tail _ (List.Mem.tail _ (List.Mem.tail _ (List.Mem.head _)))) (List.Mem.head _) dk_1153 dk_1154 dk_1155 dk_1156 dk_1157 (hin 1 (by omega)) ?_
  refine L_uc (As := [.int (xs (i + Int32.ofInt 1).toNatClampNeg)]) (y := 274) (q0 := 90) F (u_M28 hAD z1.1.1 (xs (i + Int32.ofInt 1).toNatClampNeg)) (by omega) (show mKind 274 = 0 by decide +kernel) (w := 1645) (show wAt 1645 (Cond.methodLink "HalvedNamesLaw" 133 (mY 274)) = true by decide +kernel) dk_1158 (show 1 = mN 274 by decide +kernel) (show GG[90]? = some _ from rfl) rfl ⟨_, _, rfl⟩ (by simp) hm z1.1.1 (fun r2 w2 z2 => ?_)
  refine L_pop0 F dk_1161 z2.1 ?_
  exact L_goto F dk_1162 rfl (kk w2 z2.1.1 (KEP_rels (KEP_rels hR z1.2) z2.2))
theorem case_29 {b L : Nat} {xs : Nat → Int32} {ad : Nat → Nat} {i : Int32} (F : LFix D tys A p R s m args c) (hX : va_X b L xs s s.heap) (hbl : b < s.heap.size) (hbA : ¬ A b) (hin : ∀ k : Nat, k < 6 → vp_in (i + Int32.ofInt k) L) (hm : cells ≤ R.cells ∧ slots ≤ R.slots) (hAD : ∀ i : Nat, ad (1000 + i) = D.2 1000 i) (hG : GOK ad tys GG ws) (hR : RELW ws) (kk : ∀ w2 : va_W, GOK ad tys GG w2 → RELW w2 → LV p l e R s m args below meth c Q D A cells slots 2423 [(3, .int i), (2, .ref (ad 90)), (1, .ref (ad 0)), (0, .ref b)] [] w2) : LV p l e R s m args below meth c Q D A cells slots 1165 [(3, .int i), (2, .ref (ad 90)), (1, .ref (ad 0)), (0, .ref b)] [] ws := by
  refine L_al (i := 1) F dk_1165 rfl (List.Mem.tail _ (List.Mem.tail _ (List.Mem.head _))) ?_
  refine L_arg F hX hbl hbA (List.Mem.tail _ (List.Mem.tail _ (List.Mem.tail _ (List.Mem.head _)))) (List.Mem.head _) dk_1166 dk_1167 dk_1168 dk_1169 dk_1170 (hin 1 (by omega)) ?_
  refine L_uc (As := [.int (xs (i + Int32.ofInt 1).toNatClampNeg)]) (y := 32) (q0 := 0) F (u_X29 hAD hG (xs (i + Int32.ofInt 1).toNatClampNeg)) (by omega) (show mKind 32 = 0 by decide +kernel) (w := 775) (show wAt 775 (Cond.methodLink "HalvedNamesLaw" 134 (mY 32)) = true by decide +kernel) dk_1171 (show 1 = mN 32 by decide +kernel) (show GG[0]? = some _ from rfl) rfl ⟨_, _, rfl⟩ (by simp) hm hG (fun r1 w1 z1 => ?_)
  refine L_pop0 F dk_1174 z1.1 ?_
  refine L_al (i := 2) F dk_1175 rfl (List.Mem.tail _ (List.Mem.head _)) ?_
  refine L_arg F hX hbl hbA (List.Mem.tail _ (List.Mem.tail _ (List.Mem.tail _ (List.Mem.head _)))) (List.Mem.head _) dk_1176 dk_1177 dk_1178 dk_1179 dk_1180 (hin 1 (by omega)) ?_
  refine L_uc (As := [.int (xs (i + Int32.ofInt 1).toNatClampNeg)]) (y := 278) (q0 := 90) F (u_M29 hAD z1.1.1 (xs (i + Int32.ofInt 1).toNatClampNeg)) (by omega) (show mKind 278 = 0 by decide +kernel) (w := 1653) (show wAt 1653 (Cond.methodLink "HalvedNamesLaw" 137 (mY 278)) = true by decide +kernel) dk_1181 (show 1 = mN 278 by decide +kernel) (show GG[90]? = some _ from rfl) rfl ⟨_, _, rfl⟩ (by simp) hm z1.1.1 (fun r2 w2 z2 => ?_)
  refine L_pop0 F dk_1184 z2.1 ?_
  exact L_goto F dk_1185 rfl (kk w2 z2.1.1 (KEP_rels (KEP_rels hR z1.2) z2.2))
theorem case_30 {b L : Nat} {xs : Nat → Int32} {ad : Nat → Nat} {i : Int32} (F : LFix D tys A p R s m args c) (hX : va_X b L xs s s.heap) (hbl : b < s.heap.size) (hbA : ¬ A b) (hin : ∀ k : Nat, k < 6 → vp_in (i + Int32.ofInt k) L) (hm : cells ≤ R.cells ∧ slots ≤ R.slots) (hAD : ∀ i : Nat, ad (1000 + i) = D.2 1000 i) (hG : GOK ad tys GG ws) (hR : RELW ws) (kk : ∀ w2 : va_W, GOK ad tys GG w2 → RELW w2 → LV p l e R s m args below meth c Q D A cells slots 2423 [(3, .int i), (2, .ref (ad 90)), (1, .ref (ad 0)), (0, .ref b)] [] w2) : LV p l e R s m args below meth c Q D A cells slots 1188 [(3, .int i), (2, .ref (ad 90)), (1, .ref (ad 0)), (0, .ref b)] [] ws := by
  refine L_al (i := 1) F dk_1188 rfl (List.Mem.tail _ (List.Mem.tail _ (List.Mem.head _))) ?_
  refine L_arg F hX hbl hbA (List.Mem.tail _ (List.Mem.tail _ (List.Mem.tail _ (List.Mem.head _)))) (List.Mem.head _) dk_1189 dk_1190 dk_1191 dk_1192 dk_1193 (hin 1 (by omega)) ?_
  refine L_arg F hX hbl hbA (List.Mem.tail _ (List.Mem.tail _ (List.Mem.tail _ (List.Mem.head _)))) (List.Mem.head _) dk_1194 dk_1195 dk_1196 dk_1197 dk_1198 (hin 2 (by omega)) ?_
  refine L_uc (As := [.int (xs (i + Int32.ofInt 1).toNatClampNeg), .int (xs (i + Int32.ofInt 2).toNatClampNeg)]) (y := 33) (q0 := 0) F (u_X30 hAD hG (xs (i + Int32.ofInt 1).toNatClampNeg) (xs (i + Int32.ofInt 2).toNatClampNeg)) (by omega) (show mKind 33 = 0 by decide +kernel) (w := 795) (show wAt 795 (Cond.methodLink "HalvedNamesLaw" 138 (mY 33)) = true by decide +kernel) dk_1199 (show 2 = mN 33 by decide +kernel) (show GG[0]? = some _ from rfl) rfl ⟨_, _, rfl⟩ (by simp) hm hG (fun r1 w1 z1 => ?_)
  refine L_pop0 F dk_1202 z1.1 ?_
  refine L_al (i := 2) F dk_1203 rfl (List.Mem.tail _ (List.Mem.head _)) ?_
  refine L_arg F hX hbl hbA (List.Mem.tail _ (List.Mem.tail _ (List.Mem.tail _ (List.Mem.head _)))) (List.Mem.head _) dk_1204 dk_1205 dk_1206 dk_1207 dk_1208 (hin 1 (by omega)) ?_
  refine L_arg F hX hbl hbA (List.Mem.tail _ (List.Mem.tail _ (List.Mem.tail _ (List.Mem.head _)))) (List.Mem.head _) dk_1209 dk_1210 dk_1211 dk_1212 dk_1213 (hin 2 (by omega)) ?_
  refine L_uc (As := [.int (xs (i + Int32.ofInt 1).toNatClampNeg), .int (xs (i + Int32.ofInt 2).toNatClampNeg)]) (y := 280) (q0 := 90) F (u_M30 hAD z1.1.1 (xs (i + Int32.ofInt 1).toNatClampNeg) (xs (i + Int32.ofInt 2).toNatClampNeg)) (by omega) (show mKind 280 = 0 by decide +kernel) (w := 1673) (show wAt 1673 (Cond.methodLink "HalvedNamesLaw" 141 (mY 280)) = true by decide +kernel) dk_1214 (show 2 = mN 280 by decide +kernel) (show GG[90]? = some _ from rfl) rfl ⟨_, _, rfl⟩ (by simp) hm z1.1.1 (fun r2 w2 z2 => ?_)
  refine L_pop0 F dk_1217 z2.1 ?_
  exact L_goto F dk_1218 rfl (kk w2 z2.1.1 (KEP_rels (KEP_rels hR z1.2) z2.2))
theorem case_31 {b L : Nat} {xs : Nat → Int32} {ad : Nat → Nat} {i : Int32} (F : LFix D tys A p R s m args c) (hX : va_X b L xs s s.heap) (hbl : b < s.heap.size) (hbA : ¬ A b) (hin : ∀ k : Nat, k < 6 → vp_in (i + Int32.ofInt k) L) (hm : cells ≤ R.cells ∧ slots ≤ R.slots) (hAD : ∀ i : Nat, ad (1000 + i) = D.2 1000 i) (hG : GOK ad tys GG ws) (hR : RELW ws) (kk : ∀ w2 : va_W, GOK ad tys GG w2 → RELW w2 → LV p l e R s m args below meth c Q D A cells slots 2423 [(3, .int i), (2, .ref (ad 90)), (1, .ref (ad 0)), (0, .ref b)] [] w2) : LV p l e R s m args below meth c Q D A cells slots 1221 [(3, .int i), (2, .ref (ad 90)), (1, .ref (ad 0)), (0, .ref b)] [] ws := by
  refine L_al (i := 1) F dk_1221 rfl (List.Mem.tail _ (List.Mem.tail _ (List.Mem.head _))) ?_
  refine L_arg F hX hbl hbA (List.Mem.tail _ (List.Mem.tail _ (List.Mem.tail _ (List.Mem.head _)))) (List.Mem.head _) dk_1222 dk_1223 dk_1224 dk_1225 dk_1226 (hin 1 (by omega)) ?_
  refine L_arg F hX hbl hbA (List.Mem.tail _ (List.Mem.tail _ (List.Mem.tail _ (List.Mem.head _)))) (List.Mem.head _) dk_1227 dk_1228 dk_1229 dk_1230 dk_1231 (hin 2 (by omega)) ?_
  refine L_uc (As := [.int (xs (i + Int32.ofInt 1).toNatClampNeg), .int (xs (i + Int32.ofInt 2).toNatClampNeg)]) (y := 34) (q0 := 0) F (u_X31 hAD hG (xs (i + Int32.ofInt 1).toNatClampNeg) (xs (i + Int32.ofInt 2).toNatClampNeg)) (by omega) (show mKind 34 = 0 by decide +kernel) (w := 809) (show wAt 809 (Cond.methodLink "HalvedNamesLaw" 142 (mY 34)) = true by decide +kernel) dk_1232 (show 2 = mN 34 by decide +kernel) (show GG[0]? = some _ from rfl) rfl ⟨_, _, rfl⟩ (by simp) hm hG (fun r1 w1 z1 => ?_)
  refine L_pop0 F dk_1235 z1.1 ?_
  refine L_al (i := 2) F dk_1236 rfl (List.Mem.tail _ (List.Mem.head _)) ?_
  refine L_arg F hX hbl hbA (List.Mem.tail _ (List.Mem.tail _ (List.Mem.tail _ (List.Mem.head _)))) (List.Mem.head _) dk_1237 dk_1238 dk_1239 dk_1240 dk_1241 (hin 1 (by omega)) ?_
  refine L_arg F hX hbl hbA (List.Mem.tail _ (List.Mem.tail _ (List.Mem.tail _ (List.Mem.head _)))) (List.Mem.head _) dk_1242 dk_1243 dk_1244 dk_1245 dk_1246 (hin 2 (by omega)) ?_
  refine L_uc (As := [.int (xs (i + Int32.ofInt 1).toNatClampNeg), .int (xs (i + Int32.ofInt 2).toNatClampNeg)]) (y := 281) (q0 := 90) F (u_M31 hAD z1.1.1 (xs (i + Int32.ofInt 1).toNatClampNeg) (xs (i + Int32.ofInt 2).toNatClampNeg)) (by omega) (show mKind 281 = 0 by decide +kernel) (w := 1681) (show wAt 1681 (Cond.methodLink "HalvedNamesLaw" 145 (mY 281)) = true by decide +kernel) dk_1247 (show 2 = mN 281 by decide +kernel) (show GG[90]? = some _ from rfl) rfl ⟨_, _, rfl⟩ (by simp) hm z1.1.1 (fun r2 w2 z2 => ?_)
  refine L_pop0 F dk_1250 z2.1 ?_
  exact L_goto F dk_1251 rfl (kk w2 z2.1.1 (KEP_rels (KEP_rels hR z1.2) z2.2))
theorem case_32 {b L : Nat} {xs : Nat → Int32} {ad : Nat → Nat} {i : Int32} (F : LFix D tys A p R s m args c) (hX : va_X b L xs s s.heap) (hbl : b < s.heap.size) (hbA : ¬ A b) (hin : ∀ k : Nat, k < 6 → vp_in (i + Int32.ofInt k) L) (hm : cells ≤ R.cells ∧ slots ≤ R.slots) (hAD : ∀ i : Nat, ad (1000 + i) = D.2 1000 i) (hG : GOK ad tys GG ws) (hR : RELW ws) (kk : ∀ w2 : va_W, GOK ad tys GG w2 → RELW w2 → LV p l e R s m args below meth c Q D A cells slots 2423 [(3, .int i), (2, .ref (ad 90)), (1, .ref (ad 0)), (0, .ref b)] [] w2) : LV p l e R s m args below meth c Q D A cells slots 1254 [(3, .int i), (2, .ref (ad 90)), (1, .ref (ad 0)), (0, .ref b)] [] ws := by
  refine L_al (i := 1) F dk_1254 rfl (List.Mem.tail _ (List.Mem.tail _ (List.Mem.head _))) ?_
  refine L_uc (As := []) (y := 35) (q0 := 0) F (u_X32 hAD hG ) (by omega) (show mKind 35 = 0 by decide +kernel) (w := 813) (show wAt 813 (Cond.methodLink "HalvedNamesLaw" 146 (mY 35)) = true by decide +kernel) dk_1255 (show 0 = mN 35 by decide +kernel) (show GG[0]? = some _ from rfl) rfl ⟨_, _, rfl⟩ (by simp) hm hG (fun r1 w1 z1 => ?_)
  refine L_pop0 F dk_1258 z1.1 ?_
  refine L_al (i := 2) F dk_1259 rfl (List.Mem.tail _ (List.Mem.head _)) ?_
  refine L_uc (As := []) (y := 283) (q0 := 90) F (u_M32 hAD z1.1.1 ) (by omega) (show mKind 283 = 0 by decide +kernel) (w := 1685) (show wAt 1685 (Cond.methodLink "HalvedNamesLaw" 149 (mY 283)) = true by decide +kernel) dk_1260 (show 0 = mN 283 by decide +kernel) (show GG[90]? = some _ from rfl) rfl ⟨_, _, rfl⟩ (by simp) hm z1.1.1 (fun r2 w2 z2 => ?_)
  refine L_pop0 F dk_1263 z2.1 ?_
  exact L_goto F dk_1264 rfl (kk w2 z2.1.1 (KEP_rels (KEP_rels hR z1.2) z2.2))
theorem case_33 {b L : Nat} {xs : Nat → Int32} {ad : Nat → Nat} {i : Int32} (F : LFix D tys A p R s m args c) (hX : va_X b L xs s s.heap) (hbl : b < s.heap.size) (hbA : ¬ A b) (hin : ∀ k : Nat, k < 6 → vp_in (i + Int32.ofInt k) L) (hm : cells ≤ R.cells ∧ slots ≤ R.slots) (hAD : ∀ i : Nat, ad (1000 + i) = D.2 1000 i) (hG : GOK ad tys GG ws) (hR : RELW ws) (kk : ∀ w2 : va_W, GOK ad tys GG w2 → RELW w2 → LV p l e R s m args below meth c Q D A cells slots 2423 [(3, .int i), (2, .ref (ad 90)), (1, .ref (ad 0)), (0, .ref b)] [] w2) : LV p l e R s m args below meth c Q D A cells slots 1267 [(3, .int i), (2, .ref (ad 90)), (1, .ref (ad 0)), (0, .ref b)] [] ws := by
  refine L_al (i := 1) F dk_1267 rfl (List.Mem.tail _ (List.Mem.tail _ (List.Mem.head _))) ?_
  refine L_arg F hX hbl hbA (List.Mem.tail _ (List.Mem.tail _ (List.Mem.tail _ (List.Mem.head _)))) (List.Mem.head _) dk_1268 dk_1269 dk_1270 dk_1271 dk_1272 (hin 1 (by omega)) ?_
  refine L_arg F hX hbl hbA (List.Mem.tail _ (List.Mem.tail _ (List.Mem.tail _ (List.Mem.head _)))) (List.Mem.head _) dk_1273 dk_1274 dk_1275 dk_1276 dk_1277 (hin 2 (by omega)) ?_
  refine L_uc (As := [.int (xs (i + Int32.ofInt 1).toNatClampNeg), .int (xs (i + Int32.ofInt 2).toNatClampNeg)]) (y := 36) (q0 := 0) F (u_X33 hAD hG (xs (i + Int32.ofInt 1).toNatClampNeg) (xs (i + Int32.ofInt 2).toNatClampNeg)) (by omega) (show mKind 36 = 0 by decide +kernel) (w := 833) (show wAt 833 (Cond.methodLink "HalvedNamesLaw" 150 (mY 36)) = true by decide +kernel) dk_1278 (show 2 = mN 36 by decide +kernel) (show GG[0]? = some _ from rfl) rfl ⟨_, _, rfl⟩ (by simp) hm hG (fun r1 w1 z1 => ?_)
  refine L_pop0 F dk_1281 z1.1 ?_
  refine L_al (i := 2) F dk_1282 rfl (List.Mem.tail _ (List.Mem.head _)) ?_
  refine L_arg F hX hbl hbA (List.Mem.tail _ (List.Mem.tail _ (List.Mem.tail _ (List.Mem.head _)))) (List.Mem.head _) dk_1283 dk_1284 dk_1285 dk_1286 dk_1287 (hin 1 (by omega)) ?_
  refine L_arg F hX hbl hbA (List.Mem.tail _ (List.Mem.tail _ (List.Mem.tail _ (List.Mem.head _)))) (List.Mem.head _) dk_1288 dk_1289 dk_1290 dk_1291 dk_1292 (hin 2 (by omega)) ?_
  refine L_uc (As := [.int (xs (i + Int32.ofInt 1).toNatClampNeg), .int (xs (i + Int32.ofInt 2).toNatClampNeg)]) (y := 286) (q0 := 90) F (u_M33 hAD z1.1.1 (xs (i + Int32.ofInt 1).toNatClampNeg) (xs (i + Int32.ofInt 2).toNatClampNeg)) (by omega) (show mKind 286 = 0 by decide +kernel) (w := 1701) (show wAt 1701 (Cond.methodLink "HalvedNamesLaw" 153 (mY 286)) = true by decide +kernel) dk_1293 (show 2 = mN 286 by decide +kernel) (show GG[90]? = some _ from rfl) rfl ⟨_, _, rfl⟩ (by simp) hm z1.1.1 (fun r2 w2 z2 => ?_)
  refine L_pop0 F dk_1296 z2.1 ?_
  exact L_goto F dk_1297 rfl (kk w2 z2.1.1 (KEP_rels (KEP_rels hR z1.2) z2.2))
theorem case_34 {b L : Nat} {xs : Nat → Int32} {ad : Nat → Nat} {i : Int32} (F : LFix D tys A p R s m args c) (hX : va_X b L xs s s.heap) (hbl : b < s.heap.size) (hbA : ¬ A b) (hin : ∀ k : Nat, k < 6 → vp_in (i + Int32.ofInt k) L) (hm : cells ≤ R.cells ∧ slots ≤ R.slots) (hAD : ∀ i : Nat, ad (1000 + i) = D.2 1000 i) (hG : GOK ad tys GG ws) (hR : RELW ws) (kk : ∀ w2 : va_W, GOK ad tys GG w2 → RELW w2 → LV p l e R s m args below meth c Q D A cells slots 2423 [(3, .int i), (2, .ref (ad 90)), (1, .ref (ad 0)), (0, .ref b)] [] w2) : LV p l e R s m args below meth c Q D A cells slots 1300 [(3, .int i), (2, .ref (ad 90)), (1, .ref (ad 0)), (0, .ref b)] [] ws := by
  refine L_al (i := 1) F dk_1300 rfl (List.Mem.tail _ (List.Mem.tail _ (List.Mem.head _))) ?_
  refine L_arg F hX hbl hbA (List.Mem.tail _ (List.Mem.tail _ (List.Mem.tail _ (List.Mem.head _)))) (List.Mem.head _) dk_1301 dk_1302 dk_1303 dk_1304 dk_1305 (hin 1 (by omega)) ?_
  refine L_arg F hX hbl hbA (List.Mem.tail _ (List.Mem.tail _ (List.Mem.tail _ (List.Mem.head _)))) (List.Mem.head _) dk_1306 dk_1307 dk_1308 dk_1309 dk_1310 (hin 2 (by omega)) ?_
  refine L_uc (As := [.int (xs (i + Int32.ofInt 1).toNatClampNeg), .int (xs (i + Int32.ofInt 2).toNatClampNeg)]) (y := 37) (q0 := 0) F (u_X34 hAD hG (xs (i + Int32.ofInt 1).toNatClampNeg) (xs (i + Int32.ofInt 2).toNatClampNeg)) (by omega) (show mKind 37 = 0 by decide +kernel) (w := 850) (show wAt 850 (Cond.methodLink "HalvedNamesLaw" 154 (mY 37)) = true by decide +kernel) dk_1311 (show 2 = mN 37 by decide +kernel) (show GG[0]? = some _ from rfl) rfl ⟨_, _, rfl⟩ (by simp) hm hG (fun r1 w1 z1 => ?_)
  refine L_pop0 F dk_1314 z1.1 ?_
  refine L_al (i := 2) F dk_1315 rfl (List.Mem.tail _ (List.Mem.head _)) ?_
  refine L_arg F hX hbl hbA (List.Mem.tail _ (List.Mem.tail _ (List.Mem.tail _ (List.Mem.head _)))) (List.Mem.head _) dk_1316 dk_1317 dk_1318 dk_1319 dk_1320 (hin 1 (by omega)) ?_
  refine L_arg F hX hbl hbA (List.Mem.tail _ (List.Mem.tail _ (List.Mem.tail _ (List.Mem.head _)))) (List.Mem.head _) dk_1321 dk_1322 dk_1323 dk_1324 dk_1325 (hin 2 (by omega)) ?_
  refine L_uc (As := [.int (xs (i + Int32.ofInt 1).toNatClampNeg), .int (xs (i + Int32.ofInt 2).toNatClampNeg)]) (y := 287) (q0 := 90) F (u_M34 hAD z1.1.1 (xs (i + Int32.ofInt 1).toNatClampNeg) (xs (i + Int32.ofInt 2).toNatClampNeg)) (by omega) (show mKind 287 = 0 by decide +kernel) (w := 1713) (show wAt 1713 (Cond.methodLink "HalvedNamesLaw" 157 (mY 287)) = true by decide +kernel) dk_1326 (show 2 = mN 287 by decide +kernel) (show GG[90]? = some _ from rfl) rfl ⟨_, _, rfl⟩ (by simp) hm z1.1.1 (fun r2 w2 z2 => ?_)
  refine L_pop0 F dk_1329 z2.1 ?_
  exact L_goto F dk_1330 rfl (kk w2 z2.1.1 (KEP_rels (KEP_rels hR z1.2) z2.2))
theorem case_35 {b L : Nat} {xs : Nat → Int32} {ad : Nat → Nat} {i : Int32} (F : LFix D tys A p R s m args c) (hX : va_X b L xs s s.heap) (hbl : b < s.heap.size) (hbA : ¬ A b) (hin : ∀ k : Nat, k < 6 → vp_in (i + Int32.ofInt k) L) (hm : cells ≤ R.cells ∧ slots ≤ R.slots) (hAD : ∀ i : Nat, ad (1000 + i) = D.2 1000 i) (hG : GOK ad tys GG ws) (hR : RELW ws) (kk : ∀ w2 : va_W, GOK ad tys GG w2 → RELW w2 → LV p l e R s m args below meth c Q D A cells slots 2423 [(3, .int i), (2, .ref (ad 90)), (1, .ref (ad 0)), (0, .ref b)] [] w2) : LV p l e R s m args below meth c Q D A cells slots 1333 [(3, .int i), (2, .ref (ad 90)), (1, .ref (ad 0)), (0, .ref b)] [] ws := by
  refine L_al (i := 1) F dk_1333 rfl (List.Mem.tail _ (List.Mem.tail _ (List.Mem.head _))) ?_
  refine L_arg F hX hbl hbA (List.Mem.tail _ (List.Mem.tail _ (List.Mem.tail _ (List.Mem.head _)))) (List.Mem.head _) dk_1334 dk_1335 dk_1336 dk_1337 dk_1338 (hin 1 (by omega)) ?_
  refine L_arg F hX hbl hbA (List.Mem.tail _ (List.Mem.tail _ (List.Mem.tail _ (List.Mem.head _)))) (List.Mem.head _) dk_1339 dk_1340 dk_1341 dk_1342 dk_1343 (hin 2 (by omega)) ?_
  refine L_uc (As := [.int (xs (i + Int32.ofInt 1).toNatClampNeg), .int (xs (i + Int32.ofInt 2).toNatClampNeg)]) (y := 38) (q0 := 0) F (u_X35 hAD hG (xs (i + Int32.ofInt 1).toNatClampNeg) (xs (i + Int32.ofInt 2).toNatClampNeg)) (by omega) (show mKind 38 = 0 by decide +kernel) (w := 854) (show wAt 854 (Cond.methodLink "HalvedNamesLaw" 158 (mY 38)) = true by decide +kernel) dk_1344 (show 2 = mN 38 by decide +kernel) (show GG[0]? = some _ from rfl) rfl ⟨_, _, rfl⟩ (by simp) hm hG (fun r1 w1 z1 => ?_)
  refine L_pop0 F dk_1347 z1.1 ?_
  refine L_al (i := 2) F dk_1348 rfl (List.Mem.tail _ (List.Mem.head _)) ?_
  refine L_arg F hX hbl hbA (List.Mem.tail _ (List.Mem.tail _ (List.Mem.tail _ (List.Mem.head _)))) (List.Mem.head _) dk_1349 dk_1350 dk_1351 dk_1352 dk_1353 (hin 1 (by omega)) ?_
  refine L_arg F hX hbl hbA (List.Mem.tail _ (List.Mem.tail _ (List.Mem.tail _ (List.Mem.head _)))) (List.Mem.head _) dk_1354 dk_1355 dk_1356 dk_1357 dk_1358 (hin 2 (by omega)) ?_
  refine L_uc (As := [.int (xs (i + Int32.ofInt 1).toNatClampNeg), .int (xs (i + Int32.ofInt 2).toNatClampNeg)]) (y := 289) (q0 := 90) F (u_M35 hAD z1.1.1 (xs (i + Int32.ofInt 1).toNatClampNeg) (xs (i + Int32.ofInt 2).toNatClampNeg)) (by omega) (show mKind 289 = 0 by decide +kernel) (w := 1717) (show wAt 1717 (Cond.methodLink "HalvedNamesLaw" 161 (mY 289)) = true by decide +kernel) dk_1359 (show 2 = mN 289 by decide +kernel) (show GG[90]? = some _ from rfl) rfl ⟨_, _, rfl⟩ (by simp) hm z1.1.1 (fun r2 w2 z2 => ?_)
  refine L_pop0 F dk_1362 z2.1 ?_
  exact L_goto F dk_1363 rfl (kk w2 z2.1.1 (KEP_rels (KEP_rels hR z1.2) z2.2))
theorem case_36 {b L : Nat} {xs : Nat → Int32} {ad : Nat → Nat} {i : Int32} (F : LFix D tys A p R s m args c) (hX : va_X b L xs s s.heap) (hbl : b < s.heap.size) (hbA : ¬ A b) (hin : ∀ k : Nat, k < 6 → vp_in (i + Int32.ofInt k) L) (hm : cells ≤ R.cells ∧ slots ≤ R.slots) (hAD : ∀ i : Nat, ad (1000 + i) = D.2 1000 i) (hG : GOK ad tys GG ws) (hR : RELW ws) (kk : ∀ w2 : va_W, GOK ad tys GG w2 → RELW w2 → LV p l e R s m args below meth c Q D A cells slots 2423 [(3, .int i), (2, .ref (ad 90)), (1, .ref (ad 0)), (0, .ref b)] [] w2) : LV p l e R s m args below meth c Q D A cells slots 1366 [(3, .int i), (2, .ref (ad 90)), (1, .ref (ad 0)), (0, .ref b)] [] ws := by
  refine L_al (i := 1) F dk_1366 rfl (List.Mem.tail _ (List.Mem.tail _ (List.Mem.head _))) ?_
  refine L_arg F hX hbl hbA (List.Mem.tail _ (List.Mem.tail _ (List.Mem.tail _ (List.Mem.head _)))) (List.Mem.head _) dk_1367 dk_1368 dk_1369 dk_1370 dk_1371 (hin 1 (by omega)) ?_
  refine L_arg F hX hbl hbA (List.Mem.tail _ (List.Mem.tail _ (List.Mem.tail _ (List.Mem.head _)))) (List.Mem.head _) dk_1372 dk_1373 dk_1374 dk_1375 dk_1376 (hin 2 (by omega)) ?_
  refine L_uc (As := [.int (xs (i + Int32.ofInt 1).toNatClampNeg), .int (xs (i + Int32.ofInt 2).toNatClampNeg)]) (y := 39) (q0 := 0) F (u_X36 hAD hG (xs (i + Int32.ofInt 1).toNatClampNeg) (xs (i + Int32.ofInt 2).toNatClampNeg)) (by omega) (show mKind 39 = 0 by decide +kernel) (w := 862) (show wAt 862 (Cond.methodLink "HalvedNamesLaw" 162 (mY 39)) = true by decide +kernel) dk_1377 (show 2 = mN 39 by decide +kernel) (show GG[0]? = some _ from rfl) rfl ⟨_, _, rfl⟩ (by simp) hm hG (fun r1 w1 z1 => ?_)
  refine L_pop0 F dk_1380 z1.1 ?_
  refine L_al (i := 2) F dk_1381 rfl (List.Mem.tail _ (List.Mem.head _)) ?_
  refine L_arg F hX hbl hbA (List.Mem.tail _ (List.Mem.tail _ (List.Mem.tail _ (List.Mem.head _)))) (List.Mem.head _) dk_1382 dk_1383 dk_1384 dk_1385 dk_1386 (hin 1 (by omega)) ?_
  refine L_arg F hX hbl hbA (List.Mem.tail _ (List.Mem.tail _ (List.Mem.tail _ (List.Mem.head _)))) (List.Mem.head _) dk_1387 dk_1388 dk_1389 dk_1390 dk_1391 (hin 2 (by omega)) ?_
  refine L_uc (As := [.int (xs (i + Int32.ofInt 1).toNatClampNeg), .int (xs (i + Int32.ofInt 2).toNatClampNeg)]) (y := 290) (q0 := 90) F (u_M36 hAD z1.1.1 (xs (i + Int32.ofInt 1).toNatClampNeg) (xs (i + Int32.ofInt 2).toNatClampNeg)) (by omega) (show mKind 290 = 0 by decide +kernel) (w := 1725) (show wAt 1725 (Cond.methodLink "HalvedNamesLaw" 165 (mY 290)) = true by decide +kernel) dk_1392 (show 2 = mN 290 by decide +kernel) (show GG[90]? = some _ from rfl) rfl ⟨_, _, rfl⟩ (by simp) hm z1.1.1 (fun r2 w2 z2 => ?_)
  refine L_pop0 F dk_1395 z2.1 ?_
  exact L_goto F dk_1396 rfl (kk w2 z2.1.1 (KEP_rels (KEP_rels hR z1.2) z2.2))
theorem case_37 {b L : Nat} {xs : Nat → Int32} {ad : Nat → Nat} {i : Int32} (F : LFix D tys A p R s m args c) (hX : va_X b L xs s s.heap) (hbl : b < s.heap.size) (hbA : ¬ A b) (hin : ∀ k : Nat, k < 6 → vp_in (i + Int32.ofInt k) L) (hm : cells ≤ R.cells ∧ slots ≤ R.slots) (hAD : ∀ i : Nat, ad (1000 + i) = D.2 1000 i) (hG : GOK ad tys GG ws) (hR : RELW ws) (kk : ∀ w2 : va_W, GOK ad tys GG w2 → RELW w2 → LV p l e R s m args below meth c Q D A cells slots 2423 [(3, .int i), (2, .ref (ad 90)), (1, .ref (ad 0)), (0, .ref b)] [] w2) : LV p l e R s m args below meth c Q D A cells slots 1399 [(3, .int i), (2, .ref (ad 90)), (1, .ref (ad 0)), (0, .ref b)] [] ws := by
  refine L_al (i := 1) F dk_1399 rfl (List.Mem.tail _ (List.Mem.tail _ (List.Mem.head _))) ?_
  refine L_arg F hX hbl hbA (List.Mem.tail _ (List.Mem.tail _ (List.Mem.tail _ (List.Mem.head _)))) (List.Mem.head _) dk_1400 dk_1401 dk_1402 dk_1403 dk_1404 (hin 1 (by omega)) ?_
  refine L_arg F hX hbl hbA (List.Mem.tail _ (List.Mem.tail _ (List.Mem.tail _ (List.Mem.head _)))) (List.Mem.head _) dk_1405 dk_1406 dk_1407 dk_1408 dk_1409 (hin 2 (by omega)) ?_
  refine L_arg F hX hbl hbA (List.Mem.tail _ (List.Mem.tail _ (List.Mem.tail _ (List.Mem.head _)))) (List.Mem.head _) dk_1410 dk_1411 dk_1412 dk_1413 dk_1414 (hin 3 (by omega)) ?_
  refine L_arg F hX hbl hbA (List.Mem.tail _ (List.Mem.tail _ (List.Mem.tail _ (List.Mem.head _)))) (List.Mem.head _) dk_1415 dk_1416 dk_1417 dk_1418 dk_1419 (hin 4 (by omega)) ?_
  obtain ⟨v, MID, s1, s2⟩ := pairT_say (l := l) (D := D) (A := A) hAD hG hR (xs (i + Int32.ofInt 1).toNatClampNeg) (xs (i + Int32.ofInt 2).toNatClampNeg) (xs (i + Int32.ofInt 3).toNatClampNeg) (xs (i + Int32.ofInt 4).toNatClampNeg)
  refine L_uc (As := [.int (xs (i + Int32.ofInt 1).toNatClampNeg), .int (xs (i + Int32.ofInt 2).toNatClampNeg), .int (xs (i + Int32.ofInt 3).toNatClampNeg), .int (xs (i + Int32.ofInt 4).toNatClampNeg)]) (y := 41) (q0 := 0) F (s1) (by omega) (show mKind 41 = 0 by decide +kernel) (w := 866) (show wAt 866 (Cond.methodLink "HalvedNamesLaw" 166 (mY 41)) = true by decide +kernel) dk_1420 (show 4 = mN 41 by decide +kernel) (show GG[0]? = some _ from rfl) rfl ⟨_, _, rfl⟩ (by simp) hm hG (fun r1 w1 z1 => ?_)
  obtain ⟨rfl, hG1, K1⟩ := z1
  refine L_popI F dk_1423 ?_
  refine L_al (i := 2) F dk_1424 rfl (List.Mem.tail _ (List.Mem.head _)) ?_
  refine L_arg F hX hbl hbA (List.Mem.tail _ (List.Mem.tail _ (List.Mem.tail _ (List.Mem.head _)))) (List.Mem.head _) dk_1425 dk_1426 dk_1427 dk_1428 dk_1429 (hin 1 (by omega)) ?_
  refine L_arg F hX hbl hbA (List.Mem.tail _ (List.Mem.tail _ (List.Mem.tail _ (List.Mem.head _)))) (List.Mem.head _) dk_1430 dk_1431 dk_1432 dk_1433 dk_1434 (hin 2 (by omega)) ?_
  refine L_arg F hX hbl hbA (List.Mem.tail _ (List.Mem.tail _ (List.Mem.tail _ (List.Mem.head _)))) (List.Mem.head _) dk_1435 dk_1436 dk_1437 dk_1438 dk_1439 (hin 3 (by omega)) ?_
  refine L_arg F hX hbl hbA (List.Mem.tail _ (List.Mem.tail _ (List.Mem.tail _ (List.Mem.head _)))) (List.Mem.head _) dk_1440 dk_1441 dk_1442 dk_1443 dk_1444 (hin 4 (by omega)) ?_
  refine L_uc (As := [.int (xs (i + Int32.ofInt 1).toNatClampNeg), .int (xs (i + Int32.ofInt 2).toNatClampNeg), .int (xs (i + Int32.ofInt 3).toNatClampNeg), .int (xs (i + Int32.ofInt 4).toNatClampNeg)]) (y := 291) (q0 := 90) F (s2 w1 hG1 K1) (by omega) (show mKind 291 = 0 by decide +kernel) (w := 1729) (show wAt 1729 (Cond.methodLink "HalvedNamesLaw" 170 (mY 291)) = true by decide +kernel) dk_1445 (show 4 = mN 291 by decide +kernel) (show GG[90]? = some _ from rfl) rfl ⟨_, _, rfl⟩ (by simp) hm hG1 (fun r2 w2 z2 => ?_)
  obtain ⟨rfl, hG2, K2⟩ := z2
  refine L_popI F dk_1448 ?_
  exact L_goto F dk_1449 rfl (kk w2 hG2 K2)
theorem case_38 {b L : Nat} {xs : Nat → Int32} {ad : Nat → Nat} {i : Int32} (F : LFix D tys A p R s m args c) (hX : va_X b L xs s s.heap) (hbl : b < s.heap.size) (hbA : ¬ A b) (hin : ∀ k : Nat, k < 6 → vp_in (i + Int32.ofInt k) L) (hm : cells ≤ R.cells ∧ slots ≤ R.slots) (hAD : ∀ i : Nat, ad (1000 + i) = D.2 1000 i) (hG : GOK ad tys GG ws) (hR : RELW ws) (kk : ∀ w2 : va_W, GOK ad tys GG w2 → RELW w2 → LV p l e R s m args below meth c Q D A cells slots 2423 [(3, .int i), (2, .ref (ad 90)), (1, .ref (ad 0)), (0, .ref b)] [] w2) : LV p l e R s m args below meth c Q D A cells slots 1452 [(3, .int i), (2, .ref (ad 90)), (1, .ref (ad 0)), (0, .ref b)] [] ws := by
  refine L_al (i := 1) F dk_1452 rfl (List.Mem.tail _ (List.Mem.tail _ (List.Mem.head _))) ?_
  obtain ⟨v, MID, s1, s2⟩ := pairT_unsay (l := l) (D := D) (A := A) hAD hG hR 
  refine L_uc (As := []) (y := 42) (q0 := 0) F (s1) (by omega) (show mKind 42 = 0 by decide +kernel) (w := 871) (show wAt 871 (Cond.methodLink "HalvedNamesLaw" 171 (mY 42)) = true by decide +kernel) dk_1453 (show 0 = mN 42 by decide +kernel) (show GG[0]? = some _ from rfl) rfl ⟨_, _, rfl⟩ (by simp) hm hG (fun r1 w1 z1 => ?_)
  obtain ⟨rfl, hG1, K1⟩ := z1
  refine L_popI F dk_1456 ?_
  refine L_al (i := 2) F dk_1457 rfl (List.Mem.tail _ (List.Mem.head _)) ?_
  refine L_uc (As := []) (y := 292) (q0 := 90) F (s2 w1 hG1 K1) (by omega) (show mKind 292 = 0 by decide +kernel) (w := 1733) (show wAt 1733 (Cond.methodLink "HalvedNamesLaw" 174 (mY 292)) = true by decide +kernel) dk_1458 (show 0 = mN 292 by decide +kernel) (show GG[90]? = some _ from rfl) rfl ⟨_, _, rfl⟩ (by simp) hm hG1 (fun r2 w2 z2 => ?_)
  obtain ⟨rfl, hG2, K2⟩ := z2
  refine L_popI F dk_1461 ?_
  exact L_goto F dk_1462 rfl (kk w2 hG2 K2)
end CASES2
end
section
section CASES3
variable {p : Program} {l : Launch} {e : Env} {R : Room} {s : State} {m : MethodId} {args : Array Value} {below : List Frame} {meth : Method} {c : Code} {Q : State → Prop} {D : va_G} {tys : List (ClassId × FieldType)} {A : Nat → Prop}
variable {cells slots : Nat} {ws : va_W}
theorem case_39 {b L : Nat} {xs : Nat → Int32} {ad : Nat → Nat} {i : Int32} (F : LFix D tys A p R s m args c) (hX : va_X b L xs s s.heap) (hbl : b < s.heap.size) (hbA : ¬ A b) (hin : ∀ k : Nat, k < 6 → vp_in (i + Int32.ofInt k) L) (hm : cells ≤ R.cells ∧ slots ≤ R.slots) (hAD : ∀ i : Nat, ad (1000 + i) = D.2 1000 i) (hG : GOK ad tys GG ws) (hR : RELW ws) (kk : ∀ w2 : va_W, GOK ad tys GG w2 → RELW w2 → LV p l e R s m args below meth c Q D A cells slots 2423 [(3, .int i), (2, .ref (ad 90)), (1, .ref (ad 0)), (0, .ref b)] [] w2) : LV p l e R s m args below meth c Q D A cells slots 1465 [(3, .int i), (2, .ref (ad 90)), (1, .ref (ad 0)), (0, .ref b)] [] ws := by
  refine L_al (i := 1) F dk_1465 rfl (List.Mem.tail _ (List.Mem.tail _ (List.Mem.head _))) ?_
  refine L_arg F hX hbl hbA (List.Mem.tail _ (List.Mem.tail _ (List.Mem.tail _ (List.Mem.head _)))) (List.Mem.head _) dk_1466 dk_1467 dk_1468 dk_1469 dk_1470 (hin 1 (by omega)) ?_
  refine L_arg F hX hbl hbA (List.Mem.tail _ (List.Mem.tail _ (List.Mem.tail _ (List.Mem.head _)))) (List.Mem.head _) dk_1471 dk_1472 dk_1473 dk_1474 dk_1475 (hin 2 (by omega)) ?_
  refine L_arg F hX hbl hbA (List.Mem.tail _ (List.Mem.tail _ (List.Mem.tail _ (List.Mem.head _)))) (List.Mem.head _) dk_1476 dk_1477 dk_1478 dk_1479 dk_1480 (hin 3 (by omega)) ?_
  obtain ⟨v, MID, s1, s2⟩ := pairT_move (l := l) (D := D) (A := A) hAD hG hR (xs (i + Int32.ofInt 1).toNatClampNeg) (xs (i + Int32.ofInt 2).toNatClampNeg) (xs (i + Int32.ofInt 3).toNatClampNeg)
  refine L_uc (As := [.int (xs (i + Int32.ofInt 1).toNatClampNeg), .int (xs (i + Int32.ofInt 2).toNatClampNeg), .int (xs (i + Int32.ofInt 3).toNatClampNeg)]) (y := 43) (q0 := 0) F (s1) (by omega) (show mKind 43 = 0 by decide +kernel) (w := 875) (show wAt 875 (Cond.methodLink "HalvedNamesLaw" 175 (mY 43)) = true by decide +kernel) dk_1481 (show 3 = mN 43 by decide +kernel) (show GG[0]? = some _ from rfl) rfl ⟨_, _, rfl⟩ (by simp) hm hG (fun r1 w1 z1 => ?_)
  obtain ⟨rfl, hG1, K1⟩ := z1
  refine L_popI F dk_1484 ?_
  refine L_al (i := 2) F dk_1485 rfl (List.Mem.tail _ (List.Mem.head _)) ?_
  refine L_arg F hX hbl hbA (List.Mem.tail _ (List.Mem.tail _ (List.Mem.tail _ (List.Mem.head _)))) (List.Mem.head _) dk_1486 dk_1487 dk_1488 dk_1489 dk_1490 (hin 1 (by omega)) ?_
  refine L_arg F hX hbl hbA (List.Mem.tail _ (List.Mem.tail _ (List.Mem.tail _ (List.Mem.head _)))) (List.Mem.head _) dk_1491 dk_1492 dk_1493 dk_1494 dk_1495 (hin 2 (by omega)) ?_
  refine L_arg F hX hbl hbA (List.Mem.tail _ (List.Mem.tail _ (List.Mem.tail _ (List.Mem.head _)))) (List.Mem.head _) dk_1496 dk_1497 dk_1498 dk_1499 dk_1500 (hin 3 (by omega)) ?_
  refine L_uc (As := [.int (xs (i + Int32.ofInt 1).toNatClampNeg), .int (xs (i + Int32.ofInt 2).toNatClampNeg), .int (xs (i + Int32.ofInt 3).toNatClampNeg)]) (y := 293) (q0 := 90) F (s2 w1 hG1 K1) (by omega) (show mKind 293 = 0 by decide +kernel) (w := 1737) (show wAt 1737 (Cond.methodLink "HalvedNamesLaw" 178 (mY 293)) = true by decide +kernel) dk_1501 (show 3 = mN 293 by decide +kernel) (show GG[90]? = some _ from rfl) rfl ⟨_, _, rfl⟩ (by simp) hm hG1 (fun r2 w2 z2 => ?_)
  obtain ⟨rfl, hG2, K2⟩ := z2
  refine L_popI F dk_1504 ?_
  exact L_goto F dk_1505 rfl (kk w2 hG2 K2)
theorem case_40 {b L : Nat} {xs : Nat → Int32} {ad : Nat → Nat} {i : Int32} (F : LFix D tys A p R s m args c) (hX : va_X b L xs s s.heap) (hbl : b < s.heap.size) (hbA : ¬ A b) (hin : ∀ k : Nat, k < 6 → vp_in (i + Int32.ofInt k) L) (hm : cells ≤ R.cells ∧ slots ≤ R.slots) (hAD : ∀ i : Nat, ad (1000 + i) = D.2 1000 i) (hG : GOK ad tys GG ws) (hR : RELW ws) (kk : ∀ w2 : va_W, GOK ad tys GG w2 → RELW w2 → LV p l e R s m args below meth c Q D A cells slots 2423 [(3, .int i), (2, .ref (ad 90)), (1, .ref (ad 0)), (0, .ref b)] [] w2) : LV p l e R s m args below meth c Q D A cells slots 1508 [(3, .int i), (2, .ref (ad 90)), (1, .ref (ad 0)), (0, .ref b)] [] ws := by
  refine L_al (i := 1) F dk_1508 rfl (List.Mem.tail _ (List.Mem.tail _ (List.Mem.head _))) ?_
  refine L_arg F hX hbl hbA (List.Mem.tail _ (List.Mem.tail _ (List.Mem.tail _ (List.Mem.head _)))) (List.Mem.head _) dk_1509 dk_1510 dk_1511 dk_1512 dk_1513 (hin 1 (by omega)) ?_
  refine L_arg F hX hbl hbA (List.Mem.tail _ (List.Mem.tail _ (List.Mem.tail _ (List.Mem.head _)))) (List.Mem.head _) dk_1514 dk_1515 dk_1516 dk_1517 dk_1518 (hin 2 (by omega)) ?_
  refine L_arg F hX hbl hbA (List.Mem.tail _ (List.Mem.tail _ (List.Mem.tail _ (List.Mem.head _)))) (List.Mem.head _) dk_1519 dk_1520 dk_1521 dk_1522 dk_1523 (hin 3 (by omega)) ?_
  refine L_uc (As := [.int (xs (i + Int32.ofInt 1).toNatClampNeg), .int (xs (i + Int32.ofInt 2).toNatClampNeg), .int (xs (i + Int32.ofInt 3).toNatClampNeg)]) (y := 45) (q0 := 0) F (u_X40 hAD hG (xs (i + Int32.ofInt 1).toNatClampNeg) (xs (i + Int32.ofInt 2).toNatClampNeg) (xs (i + Int32.ofInt 3).toNatClampNeg)) (by omega) (show mKind 45 = 0 by decide +kernel) (w := 884) (show wAt 884 (Cond.methodLink "HalvedNamesLaw" 179 (mY 45)) = true by decide +kernel) dk_1524 (show 3 = mN 45 by decide +kernel) (show GG[0]? = some _ from rfl) rfl ⟨_, _, rfl⟩ (by simp) hm hG (fun r1 w1 z1 => ?_)
  refine L_pop0 F dk_1527 z1.1 ?_
  refine L_al (i := 2) F dk_1528 rfl (List.Mem.tail _ (List.Mem.head _)) ?_
  refine L_arg F hX hbl hbA (List.Mem.tail _ (List.Mem.tail _ (List.Mem.tail _ (List.Mem.head _)))) (List.Mem.head _) dk_1529 dk_1530 dk_1531 dk_1532 dk_1533 (hin 1 (by omega)) ?_
  refine L_arg F hX hbl hbA (List.Mem.tail _ (List.Mem.tail _ (List.Mem.tail _ (List.Mem.head _)))) (List.Mem.head _) dk_1534 dk_1535 dk_1536 dk_1537 dk_1538 (hin 2 (by omega)) ?_
  refine L_arg F hX hbl hbA (List.Mem.tail _ (List.Mem.tail _ (List.Mem.tail _ (List.Mem.head _)))) (List.Mem.head _) dk_1539 dk_1540 dk_1541 dk_1542 dk_1543 (hin 3 (by omega)) ?_
  refine L_uc (As := [.int (xs (i + Int32.ofInt 1).toNatClampNeg), .int (xs (i + Int32.ofInt 2).toNatClampNeg), .int (xs (i + Int32.ofInt 3).toNatClampNeg)]) (y := 296) (q0 := 90) F (u_M40 hAD z1.1.1 (xs (i + Int32.ofInt 1).toNatClampNeg) (xs (i + Int32.ofInt 2).toNatClampNeg) (xs (i + Int32.ofInt 3).toNatClampNeg)) (by omega) (show mKind 296 = 0 by decide +kernel) (w := 1745) (show wAt 1745 (Cond.methodLink "HalvedNamesLaw" 182 (mY 296)) = true by decide +kernel) dk_1544 (show 3 = mN 296 by decide +kernel) (show GG[90]? = some _ from rfl) rfl ⟨_, _, rfl⟩ (by simp) hm z1.1.1 (fun r2 w2 z2 => ?_)
  refine L_pop0 F dk_1547 z2.1 ?_
  exact L_goto F dk_1548 rfl (kk w2 z2.1.1 (KEP_rels (KEP_rels hR z1.2) z2.2))
theorem case_41 {b L : Nat} {xs : Nat → Int32} {ad : Nat → Nat} {i : Int32} (F : LFix D tys A p R s m args c) (hX : va_X b L xs s s.heap) (hbl : b < s.heap.size) (hbA : ¬ A b) (hin : ∀ k : Nat, k < 6 → vp_in (i + Int32.ofInt k) L) (hm : cells ≤ R.cells ∧ slots ≤ R.slots) (hAD : ∀ i : Nat, ad (1000 + i) = D.2 1000 i) (hG : GOK ad tys GG ws) (hR : RELW ws) (kk : ∀ w2 : va_W, GOK ad tys GG w2 → RELW w2 → LV p l e R s m args below meth c Q D A cells slots 2423 [(3, .int i), (2, .ref (ad 90)), (1, .ref (ad 0)), (0, .ref b)] [] w2) : LV p l e R s m args below meth c Q D A cells slots 1551 [(3, .int i), (2, .ref (ad 90)), (1, .ref (ad 0)), (0, .ref b)] [] ws := by
  refine L_al (i := 1) F dk_1551 rfl (List.Mem.tail _ (List.Mem.tail _ (List.Mem.head _))) ?_
  refine L_arg F hX hbl hbA (List.Mem.tail _ (List.Mem.tail _ (List.Mem.tail _ (List.Mem.head _)))) (List.Mem.head _) dk_1552 dk_1553 dk_1554 dk_1555 dk_1556 (hin 1 (by omega)) ?_
  refine L_arg F hX hbl hbA (List.Mem.tail _ (List.Mem.tail _ (List.Mem.tail _ (List.Mem.head _)))) (List.Mem.head _) dk_1557 dk_1558 dk_1559 dk_1560 dk_1561 (hin 2 (by omega)) ?_
  refine L_uc (As := [.int (xs (i + Int32.ofInt 1).toNatClampNeg), .int (xs (i + Int32.ofInt 2).toNatClampNeg)]) (y := 46) (q0 := 0) F (u_X41 hAD hG (xs (i + Int32.ofInt 1).toNatClampNeg) (xs (i + Int32.ofInt 2).toNatClampNeg)) (by omega) (show mKind 46 = 0 by decide +kernel) (w := 892) (show wAt 892 (Cond.methodLink "HalvedNamesLaw" 183 (mY 46)) = true by decide +kernel) dk_1562 (show 2 = mN 46 by decide +kernel) (show GG[0]? = some _ from rfl) rfl ⟨_, _, rfl⟩ (by simp) hm hG (fun r1 w1 z1 => ?_)
  refine L_pop0 F dk_1565 z1.1 ?_
  refine L_al (i := 2) F dk_1566 rfl (List.Mem.tail _ (List.Mem.head _)) ?_
  refine L_arg F hX hbl hbA (List.Mem.tail _ (List.Mem.tail _ (List.Mem.tail _ (List.Mem.head _)))) (List.Mem.head _) dk_1567 dk_1568 dk_1569 dk_1570 dk_1571 (hin 1 (by omega)) ?_
  refine L_arg F hX hbl hbA (List.Mem.tail _ (List.Mem.tail _ (List.Mem.tail _ (List.Mem.head _)))) (List.Mem.head _) dk_1572 dk_1573 dk_1574 dk_1575 dk_1576 (hin 2 (by omega)) ?_
  refine L_uc (As := [.int (xs (i + Int32.ofInt 1).toNatClampNeg), .int (xs (i + Int32.ofInt 2).toNatClampNeg)]) (y := 298) (q0 := 90) F (u_M41 hAD z1.1.1 (xs (i + Int32.ofInt 1).toNatClampNeg) (xs (i + Int32.ofInt 2).toNatClampNeg)) (by omega) (show mKind 298 = 0 by decide +kernel) (w := 1753) (show wAt 1753 (Cond.methodLink "HalvedNamesLaw" 186 (mY 298)) = true by decide +kernel) dk_1577 (show 2 = mN 298 by decide +kernel) (show GG[90]? = some _ from rfl) rfl ⟨_, _, rfl⟩ (by simp) hm z1.1.1 (fun r2 w2 z2 => ?_)
  refine L_pop0 F dk_1580 z2.1 ?_
  exact L_goto F dk_1581 rfl (kk w2 z2.1.1 (KEP_rels (KEP_rels hR z1.2) z2.2))
theorem case_42 {b L : Nat} {xs : Nat → Int32} {ad : Nat → Nat} {i : Int32} (F : LFix D tys A p R s m args c) (hX : va_X b L xs s s.heap) (hbl : b < s.heap.size) (hbA : ¬ A b) (hin : ∀ k : Nat, k < 6 → vp_in (i + Int32.ofInt k) L) (hm : cells ≤ R.cells ∧ slots ≤ R.slots) (hAD : ∀ i : Nat, ad (1000 + i) = D.2 1000 i) (hG : GOK ad tys GG ws) (hR : RELW ws) (kk : ∀ w2 : va_W, GOK ad tys GG w2 → RELW w2 → LV p l e R s m args below meth c Q D A cells slots 2423 [(3, .int i), (2, .ref (ad 90)), (1, .ref (ad 0)), (0, .ref b)] [] w2) : LV p l e R s m args below meth c Q D A cells slots 1584 [(3, .int i), (2, .ref (ad 90)), (1, .ref (ad 0)), (0, .ref b)] [] ws := by
  refine L_al (i := 1) F dk_1584 rfl (List.Mem.tail _ (List.Mem.tail _ (List.Mem.head _))) ?_
  refine L_arg F hX hbl hbA (List.Mem.tail _ (List.Mem.tail _ (List.Mem.tail _ (List.Mem.head _)))) (List.Mem.head _) dk_1585 dk_1586 dk_1587 dk_1588 dk_1589 (hin 1 (by omega)) ?_
  refine L_arg F hX hbl hbA (List.Mem.tail _ (List.Mem.tail _ (List.Mem.tail _ (List.Mem.head _)))) (List.Mem.head _) dk_1590 dk_1591 dk_1592 dk_1593 dk_1594 (hin 2 (by omega)) ?_
  refine L_uc (As := [.int (xs (i + Int32.ofInt 1).toNatClampNeg), .int (xs (i + Int32.ofInt 2).toNatClampNeg)]) (y := 47) (q0 := 0) F (u_X42 hAD hG (xs (i + Int32.ofInt 1).toNatClampNeg) (xs (i + Int32.ofInt 2).toNatClampNeg)) (by omega) (show mKind 47 = 0 by decide +kernel) (w := 902) (show wAt 902 (Cond.methodLink "HalvedNamesLaw" 187 (mY 47)) = true by decide +kernel) dk_1595 (show 2 = mN 47 by decide +kernel) (show GG[0]? = some _ from rfl) rfl ⟨_, _, rfl⟩ (by simp) hm hG (fun r1 w1 z1 => ?_)
  refine L_pop0 F dk_1598 z1.1 ?_
  refine L_al (i := 2) F dk_1599 rfl (List.Mem.tail _ (List.Mem.head _)) ?_
  refine L_arg F hX hbl hbA (List.Mem.tail _ (List.Mem.tail _ (List.Mem.tail _ (List.Mem.head _)))) (List.Mem.head _) dk_1600 dk_1601 dk_1602 dk_1603 dk_1604 (hin 1 (by omega)) ?_
  refine L_arg F hX hbl hbA (List.Mem.tail _ (List.Mem.tail _ (List.Mem.tail _ (List.Mem.head _)))) (List.Mem.head _) dk_1605 dk_1606 dk_1607 dk_1608 dk_1609 (hin 2 (by omega)) ?_
  refine L_uc (As := [.int (xs (i + Int32.ofInt 1).toNatClampNeg), .int (xs (i + Int32.ofInt 2).toNatClampNeg)]) (y := 299) (q0 := 90) F (u_M42 hAD z1.1.1 (xs (i + Int32.ofInt 1).toNatClampNeg) (xs (i + Int32.ofInt 2).toNatClampNeg)) (by omega) (show mKind 299 = 0 by decide +kernel) (w := 1761) (show wAt 1761 (Cond.methodLink "HalvedNamesLaw" 190 (mY 299)) = true by decide +kernel) dk_1610 (show 2 = mN 299 by decide +kernel) (show GG[90]? = some _ from rfl) rfl ⟨_, _, rfl⟩ (by simp) hm z1.1.1 (fun r2 w2 z2 => ?_)
  refine L_pop0 F dk_1613 z2.1 ?_
  exact L_goto F dk_1614 rfl (kk w2 z2.1.1 (KEP_rels (KEP_rels hR z1.2) z2.2))
theorem case_43 {b L : Nat} {xs : Nat → Int32} {ad : Nat → Nat} {i : Int32} (F : LFix D tys A p R s m args c) (hX : va_X b L xs s s.heap) (hbl : b < s.heap.size) (hbA : ¬ A b) (hin : ∀ k : Nat, k < 6 → vp_in (i + Int32.ofInt k) L) (hm : cells ≤ R.cells ∧ slots ≤ R.slots) (hAD : ∀ i : Nat, ad (1000 + i) = D.2 1000 i) (hG : GOK ad tys GG ws) (hR : RELW ws) (kk : ∀ w2 : va_W, GOK ad tys GG w2 → RELW w2 → LV p l e R s m args below meth c Q D A cells slots 2423 [(3, .int i), (2, .ref (ad 90)), (1, .ref (ad 0)), (0, .ref b)] [] w2) : LV p l e R s m args below meth c Q D A cells slots 1617 [(3, .int i), (2, .ref (ad 90)), (1, .ref (ad 0)), (0, .ref b)] [] ws := by
  refine L_al (i := 1) F dk_1617 rfl (List.Mem.tail _ (List.Mem.tail _ (List.Mem.head _))) ?_
  refine L_arg F hX hbl hbA (List.Mem.tail _ (List.Mem.tail _ (List.Mem.tail _ (List.Mem.head _)))) (List.Mem.head _) dk_1618 dk_1619 dk_1620 dk_1621 dk_1622 (hin 1 (by omega)) ?_
  refine L_arg F hX hbl hbA (List.Mem.tail _ (List.Mem.tail _ (List.Mem.tail _ (List.Mem.head _)))) (List.Mem.head _) dk_1623 dk_1624 dk_1625 dk_1626 dk_1627 (hin 2 (by omega)) ?_
  refine L_arg F hX hbl hbA (List.Mem.tail _ (List.Mem.tail _ (List.Mem.tail _ (List.Mem.head _)))) (List.Mem.head _) dk_1628 dk_1629 dk_1630 dk_1631 dk_1632 (hin 3 (by omega)) ?_
  refine L_uc (As := [.int (xs (i + Int32.ofInt 1).toNatClampNeg), .int (xs (i + Int32.ofInt 2).toNatClampNeg), .int (xs (i + Int32.ofInt 3).toNatClampNeg)]) (y := 48) (q0 := 0) F (u_X43 hAD hG (xs (i + Int32.ofInt 1).toNatClampNeg) (xs (i + Int32.ofInt 2).toNatClampNeg) (xs (i + Int32.ofInt 3).toNatClampNeg)) (by omega) (show mKind 48 = 0 by decide +kernel) (w := 906) (show wAt 906 (Cond.methodLink "HalvedNamesLaw" 191 (mY 48)) = true by decide +kernel) dk_1633 (show 3 = mN 48 by decide +kernel) (show GG[0]? = some _ from rfl) rfl ⟨_, _, rfl⟩ (by simp) hm hG (fun r1 w1 z1 => ?_)
  refine L_pop0 F dk_1636 z1.1 ?_
  refine L_al (i := 2) F dk_1637 rfl (List.Mem.tail _ (List.Mem.head _)) ?_
  refine L_arg F hX hbl hbA (List.Mem.tail _ (List.Mem.tail _ (List.Mem.tail _ (List.Mem.head _)))) (List.Mem.head _) dk_1638 dk_1639 dk_1640 dk_1641 dk_1642 (hin 1 (by omega)) ?_
  refine L_arg F hX hbl hbA (List.Mem.tail _ (List.Mem.tail _ (List.Mem.tail _ (List.Mem.head _)))) (List.Mem.head _) dk_1643 dk_1644 dk_1645 dk_1646 dk_1647 (hin 2 (by omega)) ?_
  refine L_arg F hX hbl hbA (List.Mem.tail _ (List.Mem.tail _ (List.Mem.tail _ (List.Mem.head _)))) (List.Mem.head _) dk_1648 dk_1649 dk_1650 dk_1651 dk_1652 (hin 3 (by omega)) ?_
  refine L_uc (As := [.int (xs (i + Int32.ofInt 1).toNatClampNeg), .int (xs (i + Int32.ofInt 2).toNatClampNeg), .int (xs (i + Int32.ofInt 3).toNatClampNeg)]) (y := 303) (q0 := 90) F (u_M43 hAD z1.1.1 (xs (i + Int32.ofInt 1).toNatClampNeg) (xs (i + Int32.ofInt 2).toNatClampNeg) (xs (i + Int32.ofInt 3).toNatClampNeg)) (by omega) (show mKind 303 = 0 by decide +kernel) (w := 1765) (show wAt 1765 (Cond.methodLink "HalvedNamesLaw" 194 (mY 303)) = true by decide +kernel) dk_1653 (show 3 = mN 303 by decide +kernel) (show GG[90]? = some _ from rfl) rfl ⟨_, _, rfl⟩ (by simp) hm z1.1.1 (fun r2 w2 z2 => ?_)
  refine L_pop0 F dk_1656 z2.1 ?_
  exact L_goto F dk_1657 rfl (kk w2 z2.1.1 (KEP_rels (KEP_rels hR z1.2) z2.2))
theorem case_44 {b L : Nat} {xs : Nat → Int32} {ad : Nat → Nat} {i : Int32} (F : LFix D tys A p R s m args c) (hX : va_X b L xs s s.heap) (hbl : b < s.heap.size) (hbA : ¬ A b) (hin : ∀ k : Nat, k < 6 → vp_in (i + Int32.ofInt k) L) (hm : cells ≤ R.cells ∧ slots ≤ R.slots) (hAD : ∀ i : Nat, ad (1000 + i) = D.2 1000 i) (hG : GOK ad tys GG ws) (hR : RELW ws) (kk : ∀ w2 : va_W, GOK ad tys GG w2 → RELW w2 → LV p l e R s m args below meth c Q D A cells slots 2423 [(3, .int i), (2, .ref (ad 90)), (1, .ref (ad 0)), (0, .ref b)] [] w2) : LV p l e R s m args below meth c Q D A cells slots 1660 [(3, .int i), (2, .ref (ad 90)), (1, .ref (ad 0)), (0, .ref b)] [] ws := by
  refine L_al (i := 1) F dk_1660 rfl (List.Mem.tail _ (List.Mem.tail _ (List.Mem.head _))) ?_
  refine L_arg F hX hbl hbA (List.Mem.tail _ (List.Mem.tail _ (List.Mem.tail _ (List.Mem.head _)))) (List.Mem.head _) dk_1661 dk_1662 dk_1663 dk_1664 dk_1665 (hin 1 (by omega)) ?_
  refine L_arg F hX hbl hbA (List.Mem.tail _ (List.Mem.tail _ (List.Mem.tail _ (List.Mem.head _)))) (List.Mem.head _) dk_1666 dk_1667 dk_1668 dk_1669 dk_1670 (hin 2 (by omega)) ?_
  refine L_arg F hX hbl hbA (List.Mem.tail _ (List.Mem.tail _ (List.Mem.tail _ (List.Mem.head _)))) (List.Mem.head _) dk_1671 dk_1672 dk_1673 dk_1674 dk_1675 (hin 3 (by omega)) ?_
  refine L_arg F hX hbl hbA (List.Mem.tail _ (List.Mem.tail _ (List.Mem.tail _ (List.Mem.head _)))) (List.Mem.head _) dk_1676 dk_1677 dk_1678 dk_1679 dk_1680 (hin 4 (by omega)) ?_
  refine L_uc (As := [.int (xs (i + Int32.ofInt 1).toNatClampNeg), .int (xs (i + Int32.ofInt 2).toNatClampNeg), .int (xs (i + Int32.ofInt 3).toNatClampNeg), .int (xs (i + Int32.ofInt 4).toNatClampNeg)]) (y := 49) (q0 := 0) F (u_X44 hAD hG (xs (i + Int32.ofInt 1).toNatClampNeg) (xs (i + Int32.ofInt 2).toNatClampNeg) (xs (i + Int32.ofInt 3).toNatClampNeg) (xs (i + Int32.ofInt 4).toNatClampNeg)) (by omega) (show mKind 49 = 0 by decide +kernel) (w := 967) (show wAt 967 (Cond.methodLink "HalvedNamesLaw" 195 (mY 49)) = true by decide +kernel) dk_1681 (show 4 = mN 49 by decide +kernel) (show GG[0]? = some _ from rfl) rfl ⟨_, _, rfl⟩ (by simp) hm hG (fun r1 w1 z1 => ?_)
  refine L_pop0 F dk_1684 z1.1 ?_
  refine L_al (i := 2) F dk_1685 rfl (List.Mem.tail _ (List.Mem.head _)) ?_
  refine L_arg F hX hbl hbA (List.Mem.tail _ (List.Mem.tail _ (List.Mem.tail _ (List.Mem.head _)))) (List.Mem.head _) dk_1686 dk_1687 dk_1688 dk_1689 dk_1690 (hin 1 (by omega)) ?_
  refine L_arg F hX hbl hbA (List.Mem.tail _ (List.Mem.tail _ (List.Mem.tail _ (List.Mem.head _)))) (List.Mem.head _) dk_1691 dk_1692 dk_1693 dk_1694 dk_1695 (hin 2 (by omega)) ?_
  refine L_arg F hX hbl hbA (List.Mem.tail _ (List.Mem.tail _ (List.Mem.tail _ (List.Mem.head _)))) (List.Mem.head _) dk_1696 dk_1697 dk_1698 dk_1699 dk_1700 (hin 3 (by omega)) ?_
  refine L_arg F hX hbl hbA (List.Mem.tail _ (List.Mem.tail _ (List.Mem.tail _ (List.Mem.head _)))) (List.Mem.head _) dk_1701 dk_1702 dk_1703 dk_1704 dk_1705 (hin 4 (by omega)) ?_
  refine L_uc (As := [.int (xs (i + Int32.ofInt 1).toNatClampNeg), .int (xs (i + Int32.ofInt 2).toNatClampNeg), .int (xs (i + Int32.ofInt 3).toNatClampNeg), .int (xs (i + Int32.ofInt 4).toNatClampNeg)]) (y := 304) (q0 := 90) F (u_M44 hAD z1.1.1 (xs (i + Int32.ofInt 1).toNatClampNeg) (xs (i + Int32.ofInt 2).toNatClampNeg) (xs (i + Int32.ofInt 3).toNatClampNeg) (xs (i + Int32.ofInt 4).toNatClampNeg)) (by omega) (show mKind 304 = 0 by decide +kernel) (w := 1786) (show wAt 1786 (Cond.methodLink "HalvedNamesLaw" 198 (mY 304)) = true by decide +kernel) dk_1706 (show 4 = mN 304 by decide +kernel) (show GG[90]? = some _ from rfl) rfl ⟨_, _, rfl⟩ (by simp) hm z1.1.1 (fun r2 w2 z2 => ?_)
  refine L_pop0 F dk_1709 z2.1 ?_
  exact L_goto F dk_1710 rfl (kk w2 z2.1.1 (KEP_rels (KEP_rels hR z1.2) z2.2))
theorem case_45 {b L : Nat} {xs : Nat → Int32} {ad : Nat → Nat} {i : Int32} (F : LFix D tys A p R s m args c) (hX : va_X b L xs s s.heap) (hbl : b < s.heap.size) (hbA : ¬ A b) (hin : ∀ k : Nat, k < 6 → vp_in (i + Int32.ofInt k) L) (hm : cells ≤ R.cells ∧ slots ≤ R.slots) (hAD : ∀ i : Nat, ad (1000 + i) = D.2 1000 i) (hG : GOK ad tys GG ws) (hR : RELW ws) (kk : ∀ w2 : va_W, GOK ad tys GG w2 → RELW w2 → LV p l e R s m args below meth c Q D A cells slots 2423 [(3, .int i), (2, .ref (ad 90)), (1, .ref (ad 0)), (0, .ref b)] [] w2) : LV p l e R s m args below meth c Q D A cells slots 1713 [(3, .int i), (2, .ref (ad 90)), (1, .ref (ad 0)), (0, .ref b)] [] ws := by
  refine L_al (i := 1) F dk_1713 rfl (List.Mem.tail _ (List.Mem.tail _ (List.Mem.head _))) ?_
  refine L_arg F hX hbl hbA (List.Mem.tail _ (List.Mem.tail _ (List.Mem.tail _ (List.Mem.head _)))) (List.Mem.head _) dk_1714 dk_1715 dk_1716 dk_1717 dk_1718 (hin 1 (by omega)) ?_
  refine L_uc (As := [.int (xs (i + Int32.ofInt 1).toNatClampNeg)]) (y := 51) (q0 := 0) F (u_X45 hAD hG (xs (i + Int32.ofInt 1).toNatClampNeg)) (by omega) (show mKind 51 = 0 by decide +kernel) (w := 971) (show wAt 971 (Cond.methodLink "HalvedNamesLaw" 199 (mY 51)) = true by decide +kernel) dk_1719 (show 1 = mN 51 by decide +kernel) (show GG[0]? = some _ from rfl) rfl ⟨_, _, rfl⟩ (by simp) hm hG (fun r1 w1 z1 => ?_)
  refine L_pop0 F dk_1722 z1.1 ?_
  refine L_al (i := 2) F dk_1723 rfl (List.Mem.tail _ (List.Mem.head _)) ?_
  refine L_arg F hX hbl hbA (List.Mem.tail _ (List.Mem.tail _ (List.Mem.tail _ (List.Mem.head _)))) (List.Mem.head _) dk_1724 dk_1725 dk_1726 dk_1727 dk_1728 (hin 1 (by omega)) ?_
  refine L_uc (As := [.int (xs (i + Int32.ofInt 1).toNatClampNeg)]) (y := 308) (q0 := 90) F (u_M45 hAD z1.1.1 (xs (i + Int32.ofInt 1).toNatClampNeg)) (by omega) (show mKind 308 = 0 by decide +kernel) (w := 1790) (show wAt 1790 (Cond.methodLink "HalvedNamesLaw" 202 (mY 308)) = true by decide +kernel) dk_1729 (show 1 = mN 308 by decide +kernel) (show GG[90]? = some _ from rfl) rfl ⟨_, _, rfl⟩ (by simp) hm z1.1.1 (fun r2 w2 z2 => ?_)
  refine L_pop0 F dk_1732 z2.1 ?_
  exact L_goto F dk_1733 rfl (kk w2 z2.1.1 (KEP_rels (KEP_rels hR z1.2) z2.2))
theorem case_46 {b L : Nat} {xs : Nat → Int32} {ad : Nat → Nat} {i : Int32} (F : LFix D tys A p R s m args c) (hX : va_X b L xs s s.heap) (hbl : b < s.heap.size) (hbA : ¬ A b) (hin : ∀ k : Nat, k < 6 → vp_in (i + Int32.ofInt k) L) (hm : cells ≤ R.cells ∧ slots ≤ R.slots) (hAD : ∀ i : Nat, ad (1000 + i) = D.2 1000 i) (hG : GOK ad tys GG ws) (hR : RELW ws) (kk : ∀ w2 : va_W, GOK ad tys GG w2 → RELW w2 → LV p l e R s m args below meth c Q D A cells slots 2423 [(3, .int i), (2, .ref (ad 90)), (1, .ref (ad 0)), (0, .ref b)] [] w2) : LV p l e R s m args below meth c Q D A cells slots 1736 [(3, .int i), (2, .ref (ad 90)), (1, .ref (ad 0)), (0, .ref b)] [] ws := by
  refine L_al (i := 1) F dk_1736 rfl (List.Mem.tail _ (List.Mem.tail _ (List.Mem.head _))) ?_
  refine L_arg F hX hbl hbA (List.Mem.tail _ (List.Mem.tail _ (List.Mem.tail _ (List.Mem.head _)))) (List.Mem.head _) dk_1737 dk_1738 dk_1739 dk_1740 dk_1741 (hin 1 (by omega)) ?_
  refine L_arg F hX hbl hbA (List.Mem.tail _ (List.Mem.tail _ (List.Mem.tail _ (List.Mem.head _)))) (List.Mem.head _) dk_1742 dk_1743 dk_1744 dk_1745 dk_1746 (hin 2 (by omega)) ?_
  refine L_uc (As := [.int (xs (i + Int32.ofInt 1).toNatClampNeg), .int (xs (i + Int32.ofInt 2).toNatClampNeg)]) (y := 52) (q0 := 0) F (u_X46 hAD hG (xs (i + Int32.ofInt 1).toNatClampNeg) (xs (i + Int32.ofInt 2).toNatClampNeg)) (by omega) (show mKind 52 = 0 by decide +kernel) (w := 990) (show wAt 990 (Cond.methodLink "HalvedNamesLaw" 203 (mY 52)) = true by decide +kernel) dk_1747 (show 2 = mN 52 by decide +kernel) (show GG[0]? = some _ from rfl) rfl ⟨_, _, rfl⟩ (by simp) hm hG (fun r1 w1 z1 => ?_)
  refine L_pop0 F dk_1750 z1.1 ?_
  refine L_al (i := 2) F dk_1751 rfl (List.Mem.tail _ (List.Mem.head _)) ?_
  refine L_arg F hX hbl hbA (List.Mem.tail _ (List.Mem.tail _ (List.Mem.tail _ (List.Mem.head _)))) (List.Mem.head _) dk_1752 dk_1753 dk_1754 dk_1755 dk_1756 (hin 1 (by omega)) ?_
  refine L_arg F hX hbl hbA (List.Mem.tail _ (List.Mem.tail _ (List.Mem.tail _ (List.Mem.head _)))) (List.Mem.head _) dk_1757 dk_1758 dk_1759 dk_1760 dk_1761 (hin 2 (by omega)) ?_
  refine L_uc (As := [.int (xs (i + Int32.ofInt 1).toNatClampNeg), .int (xs (i + Int32.ofInt 2).toNatClampNeg)]) (y := 311) (q0 := 90) F (u_M46 hAD z1.1.1 (xs (i + Int32.ofInt 1).toNatClampNeg) (xs (i + Int32.ofInt 2).toNatClampNeg)) (by omega) (show mKind 311 = 0 by decide +kernel) (w := 1810) (show wAt 1810 (Cond.methodLink "HalvedNamesLaw" 206 (mY 311)) = true by decide +kernel) dk_1762 (show 2 = mN 311 by decide +kernel) (show GG[90]? = some _ from rfl) rfl ⟨_, _, rfl⟩ (by simp) hm z1.1.1 (fun r2 w2 z2 => ?_)
  refine L_pop0 F dk_1765 z2.1 ?_
  exact L_goto F dk_1766 rfl (kk w2 z2.1.1 (KEP_rels (KEP_rels hR z1.2) z2.2))
theorem case_47 {b L : Nat} {xs : Nat → Int32} {ad : Nat → Nat} {i : Int32} (F : LFix D tys A p R s m args c) (hX : va_X b L xs s s.heap) (hbl : b < s.heap.size) (hbA : ¬ A b) (hin : ∀ k : Nat, k < 6 → vp_in (i + Int32.ofInt k) L) (hm : cells ≤ R.cells ∧ slots ≤ R.slots) (hAD : ∀ i : Nat, ad (1000 + i) = D.2 1000 i) (hG : GOK ad tys GG ws) (hR : RELW ws) (kk : ∀ w2 : va_W, GOK ad tys GG w2 → RELW w2 → LV p l e R s m args below meth c Q D A cells slots 2423 [(3, .int i), (2, .ref (ad 90)), (1, .ref (ad 0)), (0, .ref b)] [] w2) : LV p l e R s m args below meth c Q D A cells slots 1769 [(3, .int i), (2, .ref (ad 90)), (1, .ref (ad 0)), (0, .ref b)] [] ws := by
  refine L_al (i := 1) F dk_1769 rfl (List.Mem.tail _ (List.Mem.tail _ (List.Mem.head _))) ?_
  refine L_arg F hX hbl hbA (List.Mem.tail _ (List.Mem.tail _ (List.Mem.tail _ (List.Mem.head _)))) (List.Mem.head _) dk_1770 dk_1771 dk_1772 dk_1773 dk_1774 (hin 1 (by omega)) ?_
  refine L_uc (As := [.int (xs (i + Int32.ofInt 1).toNatClampNeg)]) (y := 54) (q0 := 0) F (u_X47 hAD hG (xs (i + Int32.ofInt 1).toNatClampNeg)) (by omega) (show mKind 54 = 0 by decide +kernel) (w := 1005) (show wAt 1005 (Cond.methodLink "HalvedNamesLaw" 207 (mY 54)) = true by decide +kernel) dk_1775 (show 1 = mN 54 by decide +kernel) (show GG[0]? = some _ from rfl) rfl ⟨_, _, rfl⟩ (by simp) hm hG (fun r1 w1 z1 => ?_)
  refine L_pop0 F dk_1778 z1.1 ?_
  refine L_al (i := 2) F dk_1779 rfl (List.Mem.tail _ (List.Mem.head _)) ?_
  refine L_arg F hX hbl hbA (List.Mem.tail _ (List.Mem.tail _ (List.Mem.tail _ (List.Mem.head _)))) (List.Mem.head _) dk_1780 dk_1781 dk_1782 dk_1783 dk_1784 (hin 1 (by omega)) ?_
  refine L_uc (As := [.int (xs (i + Int32.ofInt 1).toNatClampNeg)]) (y := 315) (q0 := 90) F (u_M47 hAD z1.1.1 (xs (i + Int32.ofInt 1).toNatClampNeg)) (by omega) (show mKind 315 = 0 by decide +kernel) (w := 1822) (show wAt 1822 (Cond.methodLink "HalvedNamesLaw" 210 (mY 315)) = true by decide +kernel) dk_1785 (show 1 = mN 315 by decide +kernel) (show GG[90]? = some _ from rfl) rfl ⟨_, _, rfl⟩ (by simp) hm z1.1.1 (fun r2 w2 z2 => ?_)
  refine L_pop0 F dk_1788 z2.1 ?_
  exact L_goto F dk_1789 rfl (kk w2 z2.1.1 (KEP_rels (KEP_rels hR z1.2) z2.2))
theorem case_48 {b L : Nat} {xs : Nat → Int32} {ad : Nat → Nat} {i : Int32} (F : LFix D tys A p R s m args c) (hX : va_X b L xs s s.heap) (hbl : b < s.heap.size) (hbA : ¬ A b) (hin : ∀ k : Nat, k < 6 → vp_in (i + Int32.ofInt k) L) (hm : cells ≤ R.cells ∧ slots ≤ R.slots) (hAD : ∀ i : Nat, ad (1000 + i) = D.2 1000 i) (hG : GOK ad tys GG ws) (hR : RELW ws) (kk : ∀ w2 : va_W, GOK ad tys GG w2 → RELW w2 → LV p l e R s m args below meth c Q D A cells slots 2423 [(3, .int i), (2, .ref (ad 90)), (1, .ref (ad 0)), (0, .ref b)] [] w2) : LV p l e R s m args below meth c Q D A cells slots 1792 [(3, .int i), (2, .ref (ad 90)), (1, .ref (ad 0)), (0, .ref b)] [] ws := by
  refine L_al (i := 1) F dk_1792 rfl (List.Mem.tail _ (List.Mem.tail _ (List.Mem.head _))) ?_
  refine L_arg F hX hbl hbA (List.Mem.tail _ (List.Mem.tail _ (List.Mem.tail _ (List.Mem.head _)))) (List.Mem.head _) dk_1793 dk_1794 dk_1795 dk_1796 dk_1797 (hin 1 (by omega)) ?_
  refine L_uc (As := [.int (xs (i + Int32.ofInt 1).toNatClampNeg)]) (y := 55) (q0 := 0) F (u_X48 hAD hG (xs (i + Int32.ofInt 1).toNatClampNeg)) (by omega) (show mKind 55 = 0 by decide +kernel) (w := 1023) (show wAt 1023 (Cond.methodLink "HalvedNamesLaw" 211 (mY 55)) = true by decide +kernel) dk_1798 (show 1 = mN 55 by decide +kernel) (show GG[0]? = some _ from rfl) rfl ⟨_, _, rfl⟩ (by simp) hm hG (fun r1 w1 z1 => ?_)
  refine L_pop0 F dk_1801 z1.1 ?_
  refine L_al (i := 2) F dk_1802 rfl (List.Mem.tail _ (List.Mem.head _)) ?_
  refine L_arg F hX hbl hbA (List.Mem.tail _ (List.Mem.tail _ (List.Mem.tail _ (List.Mem.head _)))) (List.Mem.head _) dk_1803 dk_1804 dk_1805 dk_1806 dk_1807 (hin 1 (by omega)) ?_
  refine L_uc (As := [.int (xs (i + Int32.ofInt 1).toNatClampNeg)]) (y := 318) (q0 := 90) F (u_M48 hAD z1.1.1 (xs (i + Int32.ofInt 1).toNatClampNeg)) (by omega) (show mKind 318 = 0 by decide +kernel) (w := 1839) (show wAt 1839 (Cond.methodLink "HalvedNamesLaw" 214 (mY 318)) = true by decide +kernel) dk_1808 (show 1 = mN 318 by decide +kernel) (show GG[90]? = some _ from rfl) rfl ⟨_, _, rfl⟩ (by simp) hm z1.1.1 (fun r2 w2 z2 => ?_)
  refine L_pop0 F dk_1811 z2.1 ?_
  exact L_goto F dk_1812 rfl (kk w2 z2.1.1 (KEP_rels (KEP_rels hR z1.2) z2.2))
theorem case_49 {b L : Nat} {xs : Nat → Int32} {ad : Nat → Nat} {i : Int32} (F : LFix D tys A p R s m args c) (hX : va_X b L xs s s.heap) (hbl : b < s.heap.size) (hbA : ¬ A b) (hin : ∀ k : Nat, k < 6 → vp_in (i + Int32.ofInt k) L) (hm : cells ≤ R.cells ∧ slots ≤ R.slots) (hAD : ∀ i : Nat, ad (1000 + i) = D.2 1000 i) (hG : GOK ad tys GG ws) (hR : RELW ws) (kk : ∀ w2 : va_W, GOK ad tys GG w2 → RELW w2 → LV p l e R s m args below meth c Q D A cells slots 2423 [(3, .int i), (2, .ref (ad 90)), (1, .ref (ad 0)), (0, .ref b)] [] w2) : LV p l e R s m args below meth c Q D A cells slots 1815 [(3, .int i), (2, .ref (ad 90)), (1, .ref (ad 0)), (0, .ref b)] [] ws := by
  refine L_al (i := 1) F dk_1815 rfl (List.Mem.tail _ (List.Mem.tail _ (List.Mem.head _))) ?_
  refine L_arg F hX hbl hbA (List.Mem.tail _ (List.Mem.tail _ (List.Mem.tail _ (List.Mem.head _)))) (List.Mem.head _) dk_1816 dk_1817 dk_1818 dk_1819 dk_1820 (hin 1 (by omega)) ?_
  refine L_uc (As := [.int (xs (i + Int32.ofInt 1).toNatClampNeg)]) (y := 56) (q0 := 0) F (u_X49 hAD hG (xs (i + Int32.ofInt 1).toNatClampNeg)) (by omega) (show mKind 56 = 0 by decide +kernel) (w := 1037) (show wAt 1037 (Cond.methodLink "HalvedNamesLaw" 215 (mY 56)) = true by decide +kernel) dk_1821 (show 1 = mN 56 by decide +kernel) (show GG[0]? = some _ from rfl) rfl ⟨_, _, rfl⟩ (by simp) hm hG (fun r1 w1 z1 => ?_)
  refine L_pop0 F dk_1824 z1.1 ?_
  refine L_al (i := 2) F dk_1825 rfl (List.Mem.tail _ (List.Mem.head _)) ?_
  refine L_arg F hX hbl hbA (List.Mem.tail _ (List.Mem.tail _ (List.Mem.tail _ (List.Mem.head _)))) (List.Mem.head _) dk_1826 dk_1827 dk_1828 dk_1829 dk_1830 (hin 1 (by omega)) ?_
  refine L_uc (As := [.int (xs (i + Int32.ofInt 1).toNatClampNeg)]) (y := 319) (q0 := 90) F (u_M49 hAD z1.1.1 (xs (i + Int32.ofInt 1).toNatClampNeg)) (by omega) (show mKind 319 = 0 by decide +kernel) (w := 1852) (show wAt 1852 (Cond.methodLink "HalvedNamesLaw" 218 (mY 319)) = true by decide +kernel) dk_1831 (show 1 = mN 319 by decide +kernel) (show GG[90]? = some _ from rfl) rfl ⟨_, _, rfl⟩ (by simp) hm z1.1.1 (fun r2 w2 z2 => ?_)
  refine L_pop0 F dk_1834 z2.1 ?_
  exact L_goto F dk_1835 rfl (kk w2 z2.1.1 (KEP_rels (KEP_rels hR z1.2) z2.2))
theorem case_50 {b L : Nat} {xs : Nat → Int32} {ad : Nat → Nat} {i : Int32} (F : LFix D tys A p R s m args c) (hX : va_X b L xs s s.heap) (hbl : b < s.heap.size) (hbA : ¬ A b) (hin : ∀ k : Nat, k < 6 → vp_in (i + Int32.ofInt k) L) (hm : cells ≤ R.cells ∧ slots ≤ R.slots) (hAD : ∀ i : Nat, ad (1000 + i) = D.2 1000 i) (hG : GOK ad tys GG ws) (hR : RELW ws) (kk : ∀ w2 : va_W, GOK ad tys GG w2 → RELW w2 → LV p l e R s m args below meth c Q D A cells slots 2423 [(3, .int i), (2, .ref (ad 90)), (1, .ref (ad 0)), (0, .ref b)] [] w2) : LV p l e R s m args below meth c Q D A cells slots 1838 [(3, .int i), (2, .ref (ad 90)), (1, .ref (ad 0)), (0, .ref b)] [] ws := by
  refine L_al (i := 1) F dk_1838 rfl (List.Mem.tail _ (List.Mem.tail _ (List.Mem.head _))) ?_
  refine L_arg F hX hbl hbA (List.Mem.tail _ (List.Mem.tail _ (List.Mem.tail _ (List.Mem.head _)))) (List.Mem.head _) dk_1839 dk_1840 dk_1841 dk_1842 dk_1843 (hin 1 (by omega)) ?_
  refine L_arg F hX hbl hbA (List.Mem.tail _ (List.Mem.tail _ (List.Mem.tail _ (List.Mem.head _)))) (List.Mem.head _) dk_1844 dk_1845 dk_1846 dk_1847 dk_1848 (hin 2 (by omega)) ?_
  refine L_arg F hX hbl hbA (List.Mem.tail _ (List.Mem.tail _ (List.Mem.tail _ (List.Mem.head _)))) (List.Mem.head _) dk_1849 dk_1850 dk_1851 dk_1852 dk_1853 (hin 3 (by omega)) ?_
  refine L_uc (As := [.int (xs (i + Int32.ofInt 1).toNatClampNeg), .int (xs (i + Int32.ofInt 2).toNatClampNeg), .int (xs (i + Int32.ofInt 3).toNatClampNeg)]) (y := 58) (q0 := 0) F (u_X50 hAD hG (xs (i + Int32.ofInt 1).toNatClampNeg) (xs (i + Int32.ofInt 2).toNatClampNeg) (xs (i + Int32.ofInt 3).toNatClampNeg)) (by omega) (show mKind 58 = 0 by decide +kernel) (w := 1042) (show wAt 1042 (Cond.methodLink "HalvedNamesLaw" 219 (mY 58)) = true by decide +kernel) dk_1854 (show 3 = mN 58 by decide +kernel) (show GG[0]? = some _ from rfl) rfl ⟨_, _, rfl⟩ (by simp) hm hG (fun r1 w1 z1 => ?_)
  refine L_pop0 F dk_1857 z1.1 ?_
  refine L_al (i := 2) F dk_1858 rfl (List.Mem.tail _ (List.Mem.head _)) ?_
  refine L_arg F hX hbl hbA (List.Mem.tail _ (List.Mem.tail _ (List.Mem.tail _ (List.Mem.head _)))) (List.Mem.head _) dk_1859 dk_1860 dk_1861 dk_1862 dk_1863 (hin 1 (by omega)) ?_
  refine L_arg F hX hbl hbA (List.Mem.tail _ (List.Mem.tail _ (List.Mem.tail _ (List.Mem.head _)))) (List.Mem.head _) dk_1864 dk_1865 dk_1866 dk_1867 dk_1868 (hin 2 (by omega)) ?_
  refine L_arg F hX hbl hbA (List.Mem.tail _ (List.Mem.tail _ (List.Mem.tail _ (List.Mem.head _)))) (List.Mem.head _) dk_1869 dk_1870 dk_1871 dk_1872 dk_1873 (hin 3 (by omega)) ?_
  refine L_uc (As := [.int (xs (i + Int32.ofInt 1).toNatClampNeg), .int (xs (i + Int32.ofInt 2).toNatClampNeg), .int (xs (i + Int32.ofInt 3).toNatClampNeg)]) (y := 321) (q0 := 90) F (u_M50 hAD z1.1.1 (xs (i + Int32.ofInt 1).toNatClampNeg) (xs (i + Int32.ofInt 2).toNatClampNeg) (xs (i + Int32.ofInt 3).toNatClampNeg)) (by omega) (show mKind 321 = 0 by decide +kernel) (w := 1856) (show wAt 1856 (Cond.methodLink "HalvedNamesLaw" 222 (mY 321)) = true by decide +kernel) dk_1874 (show 3 = mN 321 by decide +kernel) (show GG[90]? = some _ from rfl) rfl ⟨_, _, rfl⟩ (by simp) hm z1.1.1 (fun r2 w2 z2 => ?_)
  refine L_pop0 F dk_1877 z2.1 ?_
  exact L_goto F dk_1878 rfl (kk w2 z2.1.1 (KEP_rels (KEP_rels hR z1.2) z2.2))
theorem case_51 {b L : Nat} {xs : Nat → Int32} {ad : Nat → Nat} {i : Int32} (F : LFix D tys A p R s m args c) (hX : va_X b L xs s s.heap) (hbl : b < s.heap.size) (hbA : ¬ A b) (hin : ∀ k : Nat, k < 6 → vp_in (i + Int32.ofInt k) L) (hm : cells ≤ R.cells ∧ slots ≤ R.slots) (hAD : ∀ i : Nat, ad (1000 + i) = D.2 1000 i) (hG : GOK ad tys GG ws) (hR : RELW ws) (kk : ∀ w2 : va_W, GOK ad tys GG w2 → RELW w2 → LV p l e R s m args below meth c Q D A cells slots 2423 [(3, .int i), (2, .ref (ad 90)), (1, .ref (ad 0)), (0, .ref b)] [] w2) : LV p l e R s m args below meth c Q D A cells slots 1881 [(3, .int i), (2, .ref (ad 90)), (1, .ref (ad 0)), (0, .ref b)] [] ws := by
  refine L_al (i := 1) F dk_1881 rfl (List.Mem.tail _ (List.Mem.tail _ (List.Mem.head _))) ?_
  refine L_arg F hX hbl hbA (List.Mem.tail _ (List.Mem.tail _ (List.Mem.tail _ (List.Mem.head _)))) (List.Mem.head _) dk_1882 dk_1883 dk_1884 dk_1885 dk_1886 (hin 1 (by omega)) ?_
  refine L_arg F hX hbl hbA (List.Mem.tail _ (List.Mem.tail _ (List.Mem.tail _ (List.Mem.head _)))) (List.Mem.head _) dk_1887 dk_1888 dk_1889 dk_1890 dk_1891 (hin 2 (by omega)) ?_
  refine L_uc (As := [.int (xs (i + Int32.ofInt 1).toNatClampNeg), .int (xs (i + Int32.ofInt 2).toNatClampNeg)]) (y := 59) (q0 := 0) F (u_X51 hAD hG (xs (i + Int32.ofInt 1).toNatClampNeg) (xs (i + Int32.ofInt 2).toNatClampNeg)) (by omega) (show mKind 59 = 0 by decide +kernel) (w := 1056) (show wAt 1056 (Cond.methodLink "HalvedNamesLaw" 223 (mY 59)) = true by decide +kernel) dk_1892 (show 2 = mN 59 by decide +kernel) (show GG[0]? = some _ from rfl) rfl ⟨_, _, rfl⟩ (by simp) hm hG (fun r1 w1 z1 => ?_)
  refine L_pop0 F dk_1895 z1.1 ?_
  refine L_al (i := 2) F dk_1896 rfl (List.Mem.tail _ (List.Mem.head _)) ?_
  refine L_arg F hX hbl hbA (List.Mem.tail _ (List.Mem.tail _ (List.Mem.tail _ (List.Mem.head _)))) (List.Mem.head _) dk_1897 dk_1898 dk_1899 dk_1900 dk_1901 (hin 1 (by omega)) ?_
  refine L_arg F hX hbl hbA (List.Mem.tail _ (List.Mem.tail _ (List.Mem.tail _ (List.Mem.head _)))) (List.Mem.head _) dk_1902 dk_1903 dk_1904 dk_1905 dk_1906 (hin 2 (by omega)) ?_
  refine L_uc (As := [.int (xs (i + Int32.ofInt 1).toNatClampNeg), .int (xs (i + Int32.ofInt 2).toNatClampNeg)]) (y := 322) (q0 := 90) F (u_M51 hAD z1.1.1 (xs (i + Int32.ofInt 1).toNatClampNeg) (xs (i + Int32.ofInt 2).toNatClampNeg)) (by omega) (show mKind 322 = 0 by decide +kernel) (w := 1865) (show wAt 1865 (Cond.methodLink "HalvedNamesLaw" 226 (mY 322)) = true by decide +kernel) dk_1907 (show 2 = mN 322 by decide +kernel) (show GG[90]? = some _ from rfl) rfl ⟨_, _, rfl⟩ (by simp) hm z1.1.1 (fun r2 w2 z2 => ?_)
  refine L_pop0 F dk_1910 z2.1 ?_
  exact L_goto F dk_1911 rfl (kk w2 z2.1.1 (KEP_rels (KEP_rels hR z1.2) z2.2))
end CASES3
end
section
section CASES4
variable {p : Program} {l : Launch} {e : Env} {R : Room} {s : State} {m : MethodId} {args : Array Value} {below : List Frame} {meth : Method} {c : Code} {Q : State → Prop} {D : va_G} {tys : List (ClassId × FieldType)} {A : Nat → Prop}
variable {cells slots : Nat} {ws : va_W}
theorem case_52 {b L : Nat} {xs : Nat → Int32} {ad : Nat → Nat} {i : Int32} (F : LFix D tys A p R s m args c) (hX : va_X b L xs s s.heap) (hbl : b < s.heap.size) (hbA : ¬ A b) (hin : ∀ k : Nat, k < 6 → vp_in (i + Int32.ofInt k) L) (hm : cells ≤ R.cells ∧ slots ≤ R.slots) (hAD : ∀ i : Nat, ad (1000 + i) = D.2 1000 i) (hG : GOK ad tys GG ws) (hR : RELW ws) (kk : ∀ w2 : va_W, GOK ad tys GG w2 → RELW w2 → LV p l e R s m args below meth c Q D A cells slots 2423 [(3, .int i), (2, .ref (ad 90)), (1, .ref (ad 0)), (0, .ref b)] [] w2) : LV p l e R s m args below meth c Q D A cells slots 1914 [(3, .int i), (2, .ref (ad 90)), (1, .ref (ad 0)), (0, .ref b)] [] ws := by
  refine L_al (i := 1) F dk_1914 rfl (List.Mem.tail _ (List.Mem.tail _ (List.Mem.head _))) ?_
  refine L_arg F hX hbl hbA (List.Mem.tail _ (List.Mem.tail _ (List.Mem.tail _ (List.Mem.head _)))) (List.Mem.head _) dk_1915 dk_1916 dk_1917 dk_1918 dk_1919 (hin 1 (by omega)) ?_
  refine L_uc (As := [.int (xs (i + Int32.ofInt 1).toNatClampNeg)]) (y := 60) (q0 := 0) F (u_X52 hAD hG (xs (i + Int32.ofInt 1).toNatClampNeg)) (by omega) (show mKind 60 = 0 by decide +kernel) (w := 1060) (show wAt 1060 (Cond.methodLink "HalvedNamesLaw" 227 (mY 60)) = true by decide +kernel) dk_1920 (show 1 = mN 60 by decide +kernel) (show GG[0]? = some _ from rfl) rfl ⟨_, _, rfl⟩ (by simp) hm hG (fun r1 w1 z1 => ?_)
  refine L_pop0 F dk_1923 z1.1 ?_
  refine L_al (i := 2) F dk_1924 rfl (List.Mem.tail _ (List.Mem.head _)) ?_
  refine L_arg F hX hbl hbA (List.Mem.tail _ (List.Mem.tail _ (List.Mem.tail _ (List.Mem.head _)))) (List.Mem.head _) dk_1925 dk_1926 dk_1927 dk_1928 dk_1929 (hin 1 (by omega)) ?_
  refine L_uc (As := [.int (xs (i + Int32.ofInt 1).toNatClampNeg)]) (y := 325) (q0 := 90) F (u_M52 hAD z1.1.1 (xs (i + Int32.ofInt 1).toNatClampNeg)) (by omega) (show mKind 325 = 0 by decide +kernel) (w := 1869) (show wAt 1869 (Cond.methodLink "HalvedNamesLaw" 230 (mY 325)) = true by decide +kernel) dk_1930 (show 1 = mN 325 by decide +kernel) (show GG[90]? = some _ from rfl) rfl ⟨_, _, rfl⟩ (by simp) hm z1.1.1 (fun r2 w2 z2 => ?_)
  refine L_pop0 F dk_1933 z2.1 ?_
  exact L_goto F dk_1934 rfl (kk w2 z2.1.1 (KEP_rels (KEP_rels hR z1.2) z2.2))
theorem case_53 {b L : Nat} {xs : Nat → Int32} {ad : Nat → Nat} {i : Int32} (F : LFix D tys A p R s m args c) (hX : va_X b L xs s s.heap) (hbl : b < s.heap.size) (hbA : ¬ A b) (hin : ∀ k : Nat, k < 6 → vp_in (i + Int32.ofInt k) L) (hm : cells ≤ R.cells ∧ slots ≤ R.slots) (hAD : ∀ i : Nat, ad (1000 + i) = D.2 1000 i) (hG : GOK ad tys GG ws) (hR : RELW ws) (kk : ∀ w2 : va_W, GOK ad tys GG w2 → RELW w2 → LV p l e R s m args below meth c Q D A cells slots 2423 [(3, .int i), (2, .ref (ad 90)), (1, .ref (ad 0)), (0, .ref b)] [] w2) : LV p l e R s m args below meth c Q D A cells slots 1937 [(3, .int i), (2, .ref (ad 90)), (1, .ref (ad 0)), (0, .ref b)] [] ws := by
  refine L_al (i := 1) F dk_1937 rfl (List.Mem.tail _ (List.Mem.tail _ (List.Mem.head _))) ?_
  refine L_arg F hX hbl hbA (List.Mem.tail _ (List.Mem.tail _ (List.Mem.tail _ (List.Mem.head _)))) (List.Mem.head _) dk_1938 dk_1939 dk_1940 dk_1941 dk_1942 (hin 1 (by omega)) ?_
  refine L_uc (As := [.int (xs (i + Int32.ofInt 1).toNatClampNeg)]) (y := 61) (q0 := 0) F (u_X53 hAD hG (xs (i + Int32.ofInt 1).toNatClampNeg)) (by omega) (show mKind 61 = 0 by decide +kernel) (w := 1084) (show wAt 1084 (Cond.methodLink "HalvedNamesLaw" 231 (mY 61)) = true by decide +kernel) dk_1943 (show 1 = mN 61 by decide +kernel) (show GG[0]? = some _ from rfl) rfl ⟨_, _, rfl⟩ (by simp) hm hG (fun r1 w1 z1 => ?_)
  refine L_pop0 F dk_1946 z1.1 ?_
  refine L_al (i := 2) F dk_1947 rfl (List.Mem.tail _ (List.Mem.head _)) ?_
  refine L_arg F hX hbl hbA (List.Mem.tail _ (List.Mem.tail _ (List.Mem.tail _ (List.Mem.head _)))) (List.Mem.head _) dk_1948 dk_1949 dk_1950 dk_1951 dk_1952 (hin 1 (by omega)) ?_
  refine L_uc (As := [.int (xs (i + Int32.ofInt 1).toNatClampNeg)]) (y := 326) (q0 := 90) F (u_M53 hAD z1.1.1 (xs (i + Int32.ofInt 1).toNatClampNeg)) (by omega) (show mKind 326 = 0 by decide +kernel) (w := 1881) (show wAt 1881 (Cond.methodLink "HalvedNamesLaw" 234 (mY 326)) = true by decide +kernel) dk_1953 (show 1 = mN 326 by decide +kernel) (show GG[90]? = some _ from rfl) rfl ⟨_, _, rfl⟩ (by simp) hm z1.1.1 (fun r2 w2 z2 => ?_)
  refine L_pop0 F dk_1956 z2.1 ?_
  exact L_goto F dk_1957 rfl (kk w2 z2.1.1 (KEP_rels (KEP_rels hR z1.2) z2.2))
theorem case_54 {b L : Nat} {xs : Nat → Int32} {ad : Nat → Nat} {i : Int32} (F : LFix D tys A p R s m args c) (hX : va_X b L xs s s.heap) (hbl : b < s.heap.size) (hbA : ¬ A b) (hin : ∀ k : Nat, k < 6 → vp_in (i + Int32.ofInt k) L) (hm : cells ≤ R.cells ∧ slots ≤ R.slots) (hAD : ∀ i : Nat, ad (1000 + i) = D.2 1000 i) (hG : GOK ad tys GG ws) (hR : RELW ws) (kk : ∀ w2 : va_W, GOK ad tys GG w2 → RELW w2 → LV p l e R s m args below meth c Q D A cells slots 2423 [(3, .int i), (2, .ref (ad 90)), (1, .ref (ad 0)), (0, .ref b)] [] w2) : LV p l e R s m args below meth c Q D A cells slots 1960 [(3, .int i), (2, .ref (ad 90)), (1, .ref (ad 0)), (0, .ref b)] [] ws := by
  refine L_al (i := 1) F dk_1960 rfl (List.Mem.tail _ (List.Mem.tail _ (List.Mem.head _))) ?_
  refine L_arg F hX hbl hbA (List.Mem.tail _ (List.Mem.tail _ (List.Mem.tail _ (List.Mem.head _)))) (List.Mem.head _) dk_1961 dk_1962 dk_1963 dk_1964 dk_1965 (hin 1 (by omega)) ?_
  refine L_uc (As := [.int (xs (i + Int32.ofInt 1).toNatClampNeg)]) (y := 31) (q0 := 0) F (u_X54 hAD hG (xs (i + Int32.ofInt 1).toNatClampNeg)) (by omega) (show mKind 31 = 0 by decide +kernel) (w := 771) (show wAt 771 (Cond.methodLink "HalvedNamesLaw" 235 (mY 31)) = true by decide +kernel) dk_1966 (show 1 = mN 31 by decide +kernel) (show GG[0]? = some _ from rfl) rfl ⟨_, _, rfl⟩ (by simp) hm hG (fun r1 w1 z1 => ?_)
  refine L_pop0 F dk_1969 z1.1 ?_
  refine L_al (i := 2) F dk_1970 rfl (List.Mem.tail _ (List.Mem.head _)) ?_
  refine L_arg F hX hbl hbA (List.Mem.tail _ (List.Mem.tail _ (List.Mem.tail _ (List.Mem.head _)))) (List.Mem.head _) dk_1971 dk_1972 dk_1973 dk_1974 dk_1975 (hin 1 (by omega)) ?_
  refine L_uc (As := [.int (xs (i + Int32.ofInt 1).toNatClampNeg)]) (y := 275) (q0 := 90) F (u_M54 hAD z1.1.1 (xs (i + Int32.ofInt 1).toNatClampNeg)) (by omega) (show mKind 275 = 0 by decide +kernel) (w := 1649) (show wAt 1649 (Cond.methodLink "HalvedNamesLaw" 238 (mY 275)) = true by decide +kernel) dk_1976 (show 1 = mN 275 by decide +kernel) (show GG[90]? = some _ from rfl) rfl ⟨_, _, rfl⟩ (by simp) hm z1.1.1 (fun r2 w2 z2 => ?_)
  refine L_pop0 F dk_1979 z2.1 ?_
  exact L_goto F dk_1980 rfl (kk w2 z2.1.1 (KEP_rels (KEP_rels hR z1.2) z2.2))
theorem case_55 {b L : Nat} {xs : Nat → Int32} {ad : Nat → Nat} {i : Int32} (F : LFix D tys A p R s m args c) (hX : va_X b L xs s s.heap) (hbl : b < s.heap.size) (hbA : ¬ A b) (hin : ∀ k : Nat, k < 6 → vp_in (i + Int32.ofInt k) L) (hm : cells ≤ R.cells ∧ slots ≤ R.slots) (hAD : ∀ i : Nat, ad (1000 + i) = D.2 1000 i) (hG : GOK ad tys GG ws) (hR : RELW ws) (kk : ∀ w2 : va_W, GOK ad tys GG w2 → RELW w2 → LV p l e R s m args below meth c Q D A cells slots 2423 [(3, .int i), (2, .ref (ad 90)), (1, .ref (ad 0)), (0, .ref b)] [] w2) : LV p l e R s m args below meth c Q D A cells slots 1983 [(3, .int i), (2, .ref (ad 90)), (1, .ref (ad 0)), (0, .ref b)] [] ws := by
  refine L_al (i := 1) F dk_1983 rfl (List.Mem.tail _ (List.Mem.tail _ (List.Mem.head _))) ?_
  refine L_arg F hX hbl hbA (List.Mem.tail _ (List.Mem.tail _ (List.Mem.tail _ (List.Mem.head _)))) (List.Mem.head _) dk_1984 dk_1985 dk_1986 dk_1987 dk_1988 (hin 1 (by omega)) ?_
  refine L_arg F hX hbl hbA (List.Mem.tail _ (List.Mem.tail _ (List.Mem.tail _ (List.Mem.head _)))) (List.Mem.head _) dk_1989 dk_1990 dk_1991 dk_1992 dk_1993 (hin 2 (by omega)) ?_
  refine L_arg F hX hbl hbA (List.Mem.tail _ (List.Mem.tail _ (List.Mem.tail _ (List.Mem.head _)))) (List.Mem.head _) dk_1994 dk_1995 dk_1996 dk_1997 dk_1998 (hin 3 (by omega)) ?_
  refine L_uc (As := [.int (xs (i + Int32.ofInt 1).toNatClampNeg), .int (xs (i + Int32.ofInt 2).toNatClampNeg), .int (xs (i + Int32.ofInt 3).toNatClampNeg)]) (y := 62) (q0 := 0) F (u_X55 hAD hG (xs (i + Int32.ofInt 1).toNatClampNeg) (xs (i + Int32.ofInt 2).toNatClampNeg) (xs (i + Int32.ofInt 3).toNatClampNeg)) (by omega) (show mKind 62 = 0 by decide +kernel) (w := 1097) (show wAt 1097 (Cond.methodLink "HalvedNamesLaw" 239 (mY 62)) = true by decide +kernel) dk_1999 (show 3 = mN 62 by decide +kernel) (show GG[0]? = some _ from rfl) rfl ⟨_, _, rfl⟩ (by simp) hm hG (fun r1 w1 z1 => ?_)
  refine L_pop1 F dk_2002 z1.1 ?_
  refine L_al (i := 2) F dk_2003 rfl (List.Mem.tail _ (List.Mem.head _)) ?_
  refine L_arg F hX hbl hbA (List.Mem.tail _ (List.Mem.tail _ (List.Mem.tail _ (List.Mem.head _)))) (List.Mem.head _) dk_2004 dk_2005 dk_2006 dk_2007 dk_2008 (hin 1 (by omega)) ?_
  refine L_arg F hX hbl hbA (List.Mem.tail _ (List.Mem.tail _ (List.Mem.tail _ (List.Mem.head _)))) (List.Mem.head _) dk_2009 dk_2010 dk_2011 dk_2012 dk_2013 (hin 2 (by omega)) ?_
  refine L_arg F hX hbl hbA (List.Mem.tail _ (List.Mem.tail _ (List.Mem.tail _ (List.Mem.head _)))) (List.Mem.head _) dk_2014 dk_2015 dk_2016 dk_2017 dk_2018 (hin 3 (by omega)) ?_
  refine L_uc (As := [.int (xs (i + Int32.ofInt 1).toNatClampNeg), .int (xs (i + Int32.ofInt 2).toNatClampNeg), .int (xs (i + Int32.ofInt 3).toNatClampNeg)]) (y := 330) (q0 := 90) F (u_M55 hAD z1.1.1 (z1.2.2.2 ⟨hR.2.2.2.2.1, hR.2.2.2.2.2⟩) (xs (i + Int32.ofInt 1).toNatClampNeg) (xs (i + Int32.ofInt 2).toNatClampNeg) (xs (i + Int32.ofInt 3).toNatClampNeg)) (by omega) (show mKind 330 = 0 by decide +kernel) (w := 1885) (show wAt 1885 (Cond.methodLink "HalvedNamesLaw" 243 (mY 330)) = true by decide +kernel) dk_2019 (show 3 = mN 330 by decide +kernel) (show GG[90]? = some _ from rfl) rfl ⟨_, _, rfl⟩ (by simp) hm z1.1.1 (fun r2 w2 z2 => ?_)
  refine L_pop1 F dk_2022 z2.1 ?_
  exact L_goto F dk_2023 rfl (kk w2 z2.1.1 (KEP_rels (KEP_rels hR z1.2) z2.2))
theorem case_56 {b L : Nat} {xs : Nat → Int32} {ad : Nat → Nat} {i : Int32} (F : LFix D tys A p R s m args c) (hX : va_X b L xs s s.heap) (hbl : b < s.heap.size) (hbA : ¬ A b) (hin : ∀ k : Nat, k < 6 → vp_in (i + Int32.ofInt k) L) (hm : cells ≤ R.cells ∧ slots ≤ R.slots) (hAD : ∀ i : Nat, ad (1000 + i) = D.2 1000 i) (hG : GOK ad tys GG ws) (hR : RELW ws) (kk : ∀ w2 : va_W, GOK ad tys GG w2 → RELW w2 → LV p l e R s m args below meth c Q D A cells slots 2423 [(3, .int i), (2, .ref (ad 90)), (1, .ref (ad 0)), (0, .ref b)] [] w2) : LV p l e R s m args below meth c Q D A cells slots 2026 [(3, .int i), (2, .ref (ad 90)), (1, .ref (ad 0)), (0, .ref b)] [] ws := by
  refine L_al (i := 1) F dk_2026 rfl (List.Mem.tail _ (List.Mem.tail _ (List.Mem.head _))) ?_
  refine L_arg F hX hbl hbA (List.Mem.tail _ (List.Mem.tail _ (List.Mem.tail _ (List.Mem.head _)))) (List.Mem.head _) dk_2027 dk_2028 dk_2029 dk_2030 dk_2031 (hin 1 (by omega)) ?_
  refine L_arg F hX hbl hbA (List.Mem.tail _ (List.Mem.tail _ (List.Mem.tail _ (List.Mem.head _)))) (List.Mem.head _) dk_2032 dk_2033 dk_2034 dk_2035 dk_2036 (hin 2 (by omega)) ?_
  refine L_arg F hX hbl hbA (List.Mem.tail _ (List.Mem.tail _ (List.Mem.tail _ (List.Mem.head _)))) (List.Mem.head _) dk_2037 dk_2038 dk_2039 dk_2040 dk_2041 (hin 3 (by omega)) ?_
  refine L_uc (As := [.int (xs (i + Int32.ofInt 1).toNatClampNeg), .int (xs (i + Int32.ofInt 2).toNatClampNeg), .int (xs (i + Int32.ofInt 3).toNatClampNeg)]) (y := 64) (q0 := 0) F (u_X56 hAD hG (xs (i + Int32.ofInt 1).toNatClampNeg) (xs (i + Int32.ofInt 2).toNatClampNeg) (xs (i + Int32.ofInt 3).toNatClampNeg)) (by omega) (show mKind 64 = 0 by decide +kernel) (w := 1122) (show wAt 1122 (Cond.methodLink "HalvedNamesLaw" 244 (mY 64)) = true by decide +kernel) dk_2042 (show 3 = mN 64 by decide +kernel) (show GG[0]? = some _ from rfl) rfl ⟨_, _, rfl⟩ (by simp) hm hG (fun r1 w1 z1 => ?_)
  refine L_pop0 F dk_2045 z1.1 ?_
  refine L_al (i := 2) F dk_2046 rfl (List.Mem.tail _ (List.Mem.head _)) ?_
  refine L_arg F hX hbl hbA (List.Mem.tail _ (List.Mem.tail _ (List.Mem.tail _ (List.Mem.head _)))) (List.Mem.head _) dk_2047 dk_2048 dk_2049 dk_2050 dk_2051 (hin 1 (by omega)) ?_
  refine L_arg F hX hbl hbA (List.Mem.tail _ (List.Mem.tail _ (List.Mem.tail _ (List.Mem.head _)))) (List.Mem.head _) dk_2052 dk_2053 dk_2054 dk_2055 dk_2056 (hin 2 (by omega)) ?_
  refine L_arg F hX hbl hbA (List.Mem.tail _ (List.Mem.tail _ (List.Mem.tail _ (List.Mem.head _)))) (List.Mem.head _) dk_2057 dk_2058 dk_2059 dk_2060 dk_2061 (hin 3 (by omega)) ?_
  refine L_uc (As := [.int (xs (i + Int32.ofInt 1).toNatClampNeg), .int (xs (i + Int32.ofInt 2).toNatClampNeg), .int (xs (i + Int32.ofInt 3).toNatClampNeg)]) (y := 333) (q0 := 90) F (u_M56 hAD z1.1.1 (z1.2.2.2 ⟨hR.2.2.2.2.1, hR.2.2.2.2.2⟩) (xs (i + Int32.ofInt 1).toNatClampNeg) (xs (i + Int32.ofInt 2).toNatClampNeg) (xs (i + Int32.ofInt 3).toNatClampNeg)) (by omega) (show mKind 333 = 0 by decide +kernel) (w := 1902) (show wAt 1902 (Cond.methodLink "HalvedNamesLaw" 247 (mY 333)) = true by decide +kernel) dk_2062 (show 3 = mN 333 by decide +kernel) (show GG[90]? = some _ from rfl) rfl ⟨_, _, rfl⟩ (by simp) hm z1.1.1 (fun r2 w2 z2 => ?_)
  refine L_pop0 F dk_2065 z2.1 ?_
  exact L_goto F dk_2066 rfl (kk w2 z2.1.1 (KEP_rels (KEP_rels hR z1.2) z2.2))
theorem case_57 {b L : Nat} {xs : Nat → Int32} {ad : Nat → Nat} {i : Int32} (F : LFix D tys A p R s m args c) (hX : va_X b L xs s s.heap) (hbl : b < s.heap.size) (hbA : ¬ A b) (hin : ∀ k : Nat, k < 6 → vp_in (i + Int32.ofInt k) L) (hm : cells ≤ R.cells ∧ slots ≤ R.slots) (hAD : ∀ i : Nat, ad (1000 + i) = D.2 1000 i) (hG : GOK ad tys GG ws) (hR : RELW ws) (kk : ∀ w2 : va_W, GOK ad tys GG w2 → RELW w2 → LV p l e R s m args below meth c Q D A cells slots 2423 [(3, .int i), (2, .ref (ad 90)), (1, .ref (ad 0)), (0, .ref b)] [] w2) : LV p l e R s m args below meth c Q D A cells slots 2069 [(3, .int i), (2, .ref (ad 90)), (1, .ref (ad 0)), (0, .ref b)] [] ws := by
  refine L_al (i := 1) F dk_2069 rfl (List.Mem.tail _ (List.Mem.tail _ (List.Mem.head _))) ?_
  refine L_arg F hX hbl hbA (List.Mem.tail _ (List.Mem.tail _ (List.Mem.tail _ (List.Mem.head _)))) (List.Mem.head _) dk_2070 dk_2071 dk_2072 dk_2073 dk_2074 (hin 1 (by omega)) ?_
  refine L_arg F hX hbl hbA (List.Mem.tail _ (List.Mem.tail _ (List.Mem.tail _ (List.Mem.head _)))) (List.Mem.head _) dk_2075 dk_2076 dk_2077 dk_2078 dk_2079 (hin 2 (by omega)) ?_
  refine L_arg F hX hbl hbA (List.Mem.tail _ (List.Mem.tail _ (List.Mem.tail _ (List.Mem.head _)))) (List.Mem.head _) dk_2080 dk_2081 dk_2082 dk_2083 dk_2084 (hin 3 (by omega)) ?_
  refine L_arg F hX hbl hbA (List.Mem.tail _ (List.Mem.tail _ (List.Mem.tail _ (List.Mem.head _)))) (List.Mem.head _) dk_2085 dk_2086 dk_2087 dk_2088 dk_2089 (hin 4 (by omega)) ?_
  refine L_uc (As := [.int (xs (i + Int32.ofInt 1).toNatClampNeg), .int (xs (i + Int32.ofInt 2).toNatClampNeg), .int (xs (i + Int32.ofInt 3).toNatClampNeg), .int (xs (i + Int32.ofInt 4).toNatClampNeg)]) (y := 65) (q0 := 0) F (u_X57 hAD hG (xs (i + Int32.ofInt 1).toNatClampNeg) (xs (i + Int32.ofInt 2).toNatClampNeg) (xs (i + Int32.ofInt 3).toNatClampNeg) (xs (i + Int32.ofInt 4).toNatClampNeg)) (by omega) (show mKind 65 = 0 by decide +kernel) (w := 1137) (show wAt 1137 (Cond.methodLink "HalvedNamesLaw" 248 (mY 65)) = true by decide +kernel) dk_2090 (show 4 = mN 65 by decide +kernel) (show GG[0]? = some _ from rfl) rfl ⟨_, _, rfl⟩ (by simp) hm hG (fun r1 w1 z1 => ?_)
  refine L_pop0 F dk_2093 z1.1 ?_
  refine L_al (i := 2) F dk_2094 rfl (List.Mem.tail _ (List.Mem.head _)) ?_
  refine L_arg F hX hbl hbA (List.Mem.tail _ (List.Mem.tail _ (List.Mem.tail _ (List.Mem.head _)))) (List.Mem.head _) dk_2095 dk_2096 dk_2097 dk_2098 dk_2099 (hin 1 (by omega)) ?_
  refine L_arg F hX hbl hbA (List.Mem.tail _ (List.Mem.tail _ (List.Mem.tail _ (List.Mem.head _)))) (List.Mem.head _) dk_2100 dk_2101 dk_2102 dk_2103 dk_2104 (hin 2 (by omega)) ?_
  refine L_arg F hX hbl hbA (List.Mem.tail _ (List.Mem.tail _ (List.Mem.tail _ (List.Mem.head _)))) (List.Mem.head _) dk_2105 dk_2106 dk_2107 dk_2108 dk_2109 (hin 3 (by omega)) ?_
  refine L_arg F hX hbl hbA (List.Mem.tail _ (List.Mem.tail _ (List.Mem.tail _ (List.Mem.head _)))) (List.Mem.head _) dk_2110 dk_2111 dk_2112 dk_2113 dk_2114 (hin 4 (by omega)) ?_
  refine L_uc (As := [.int (xs (i + Int32.ofInt 1).toNatClampNeg), .int (xs (i + Int32.ofInt 2).toNatClampNeg), .int (xs (i + Int32.ofInt 3).toNatClampNeg), .int (xs (i + Int32.ofInt 4).toNatClampNeg)]) (y := 334) (q0 := 90) F (u_M57 hAD z1.1.1 (z1.2.2.2 ⟨hR.2.2.2.2.1, hR.2.2.2.2.2⟩) (xs (i + Int32.ofInt 1).toNatClampNeg) (xs (i + Int32.ofInt 2).toNatClampNeg) (xs (i + Int32.ofInt 3).toNatClampNeg) (xs (i + Int32.ofInt 4).toNatClampNeg)) (by omega) (show mKind 334 = 0 by decide +kernel) (w := 1914) (show wAt 1914 (Cond.methodLink "HalvedNamesLaw" 251 (mY 334)) = true by decide +kernel) dk_2115 (show 4 = mN 334 by decide +kernel) (show GG[90]? = some _ from rfl) rfl ⟨_, _, rfl⟩ (by simp) hm z1.1.1 (fun r2 w2 z2 => ?_)
  refine L_pop0 F dk_2118 z2.1 ?_
  exact L_goto F dk_2119 rfl (kk w2 z2.1.1 (KEP_rels (KEP_rels hR z1.2) z2.2))
theorem case_58 {b L : Nat} {xs : Nat → Int32} {ad : Nat → Nat} {i : Int32} (F : LFix D tys A p R s m args c) (hX : va_X b L xs s s.heap) (hbl : b < s.heap.size) (hbA : ¬ A b) (hin : ∀ k : Nat, k < 6 → vp_in (i + Int32.ofInt k) L) (hm : cells ≤ R.cells ∧ slots ≤ R.slots) (hAD : ∀ i : Nat, ad (1000 + i) = D.2 1000 i) (hG : GOK ad tys GG ws) (hR : RELW ws) (kk : ∀ w2 : va_W, GOK ad tys GG w2 → RELW w2 → LV p l e R s m args below meth c Q D A cells slots 2423 [(3, .int i), (2, .ref (ad 90)), (1, .ref (ad 0)), (0, .ref b)] [] w2) : LV p l e R s m args below meth c Q D A cells slots 2122 [(3, .int i), (2, .ref (ad 90)), (1, .ref (ad 0)), (0, .ref b)] [] ws := by
  refine L_al (i := 1) F dk_2122 rfl (List.Mem.tail _ (List.Mem.tail _ (List.Mem.head _))) ?_
  refine L_arg F hX hbl hbA (List.Mem.tail _ (List.Mem.tail _ (List.Mem.tail _ (List.Mem.head _)))) (List.Mem.head _) dk_2123 dk_2124 dk_2125 dk_2126 dk_2127 (hin 1 (by omega)) ?_
  refine L_arg F hX hbl hbA (List.Mem.tail _ (List.Mem.tail _ (List.Mem.tail _ (List.Mem.head _)))) (List.Mem.head _) dk_2128 dk_2129 dk_2130 dk_2131 dk_2132 (hin 2 (by omega)) ?_
  refine L_arg F hX hbl hbA (List.Mem.tail _ (List.Mem.tail _ (List.Mem.tail _ (List.Mem.head _)))) (List.Mem.head _) dk_2133 dk_2134 dk_2135 dk_2136 dk_2137 (hin 3 (by omega)) ?_
  refine L_arg F hX hbl hbA (List.Mem.tail _ (List.Mem.tail _ (List.Mem.tail _ (List.Mem.head _)))) (List.Mem.head _) dk_2138 dk_2139 dk_2140 dk_2141 dk_2142 (hin 4 (by omega)) ?_
  obtain ⟨v, MID, s1, s2⟩ := pairT_teach (l := l) (D := D) (A := A) hAD hG hR (xs (i + Int32.ofInt 1).toNatClampNeg) (xs (i + Int32.ofInt 2).toNatClampNeg) (xs (i + Int32.ofInt 3).toNatClampNeg) (xs (i + Int32.ofInt 4).toNatClampNeg)
  refine L_uc (As := [.int (xs (i + Int32.ofInt 1).toNatClampNeg), .int (xs (i + Int32.ofInt 2).toNatClampNeg), .int (xs (i + Int32.ofInt 3).toNatClampNeg), .int (xs (i + Int32.ofInt 4).toNatClampNeg)]) (y := 44) (q0 := 0) F (s1) (by omega) (show mKind 44 = 0 by decide +kernel) (w := 880) (show wAt 880 (Cond.methodLink "HalvedNamesLaw" 252 (mY 44)) = true by decide +kernel) dk_2143 (show 4 = mN 44 by decide +kernel) (show GG[0]? = some _ from rfl) rfl ⟨_, _, rfl⟩ (by simp) hm hG (fun r1 w1 z1 => ?_)
  obtain ⟨rfl, hG1, K1⟩ := z1
  refine L_popI F dk_2146 ?_
  refine L_al (i := 2) F dk_2147 rfl (List.Mem.tail _ (List.Mem.head _)) ?_
  refine L_arg F hX hbl hbA (List.Mem.tail _ (List.Mem.tail _ (List.Mem.tail _ (List.Mem.head _)))) (List.Mem.head _) dk_2148 dk_2149 dk_2150 dk_2151 dk_2152 (hin 1 (by omega)) ?_
  refine L_arg F hX hbl hbA (List.Mem.tail _ (List.Mem.tail _ (List.Mem.tail _ (List.Mem.head _)))) (List.Mem.head _) dk_2153 dk_2154 dk_2155 dk_2156 dk_2157 (hin 2 (by omega)) ?_
  refine L_arg F hX hbl hbA (List.Mem.tail _ (List.Mem.tail _ (List.Mem.tail _ (List.Mem.head _)))) (List.Mem.head _) dk_2158 dk_2159 dk_2160 dk_2161 dk_2162 (hin 3 (by omega)) ?_
  refine L_arg F hX hbl hbA (List.Mem.tail _ (List.Mem.tail _ (List.Mem.tail _ (List.Mem.head _)))) (List.Mem.head _) dk_2163 dk_2164 dk_2165 dk_2166 dk_2167 (hin 4 (by omega)) ?_
  refine L_uc (As := [.int (xs (i + Int32.ofInt 1).toNatClampNeg), .int (xs (i + Int32.ofInt 2).toNatClampNeg), .int (xs (i + Int32.ofInt 3).toNatClampNeg), .int (xs (i + Int32.ofInt 4).toNatClampNeg)]) (y := 294) (q0 := 90) F (s2 w1 hG1 K1) (by omega) (show mKind 294 = 0 by decide +kernel) (w := 1741) (show wAt 1741 (Cond.methodLink "HalvedNamesLaw" 255 (mY 294)) = true by decide +kernel) dk_2168 (show 4 = mN 294 by decide +kernel) (show GG[90]? = some _ from rfl) rfl ⟨_, _, rfl⟩ (by simp) hm hG1 (fun r2 w2 z2 => ?_)
  obtain ⟨rfl, hG2, K2⟩ := z2
  refine L_popI F dk_2171 ?_
  exact L_goto F dk_2172 rfl (kk w2 hG2 K2)
theorem case_59 {b L : Nat} {xs : Nat → Int32} {ad : Nat → Nat} {i : Int32} (F : LFix D tys A p R s m args c) (hX : va_X b L xs s s.heap) (hbl : b < s.heap.size) (hbA : ¬ A b) (hin : ∀ k : Nat, k < 6 → vp_in (i + Int32.ofInt k) L) (hm : cells ≤ R.cells ∧ slots ≤ R.slots) (hAD : ∀ i : Nat, ad (1000 + i) = D.2 1000 i) (hG : GOK ad tys GG ws) (hR : RELW ws) (kk : ∀ w2 : va_W, GOK ad tys GG w2 → RELW w2 → LV p l e R s m args below meth c Q D A cells slots 2423 [(3, .int i), (2, .ref (ad 90)), (1, .ref (ad 0)), (0, .ref b)] [] w2) : LV p l e R s m args below meth c Q D A cells slots 2175 [(3, .int i), (2, .ref (ad 90)), (1, .ref (ad 0)), (0, .ref b)] [] ws := by
  refine L_al (i := 1) F dk_2175 rfl (List.Mem.tail _ (List.Mem.tail _ (List.Mem.head _))) ?_
  refine L_arg F hX hbl hbA (List.Mem.tail _ (List.Mem.tail _ (List.Mem.tail _ (List.Mem.head _)))) (List.Mem.head _) dk_2176 dk_2177 dk_2178 dk_2179 dk_2180 (hin 1 (by omega)) ?_
  refine L_uc (As := [.int (xs (i + Int32.ofInt 1).toNatClampNeg)]) (y := 66) (q0 := 0) F (u_X59 hAD hG (xs (i + Int32.ofInt 1).toNatClampNeg)) (by omega) (show mKind 66 = 0 by decide +kernel) (w := 1142) (show wAt 1142 (Cond.methodLink "HalvedNamesLaw" 256 (mY 66)) = true by decide +kernel) dk_2181 (show 1 = mN 66 by decide +kernel) (show GG[0]? = some _ from rfl) rfl ⟨_, _, rfl⟩ (by simp) hm hG (fun r1 w1 z1 => ?_)
  refine L_pop0 F dk_2184 z1.1 ?_
  refine L_al (i := 2) F dk_2185 rfl (List.Mem.tail _ (List.Mem.head _)) ?_
  refine L_arg F hX hbl hbA (List.Mem.tail _ (List.Mem.tail _ (List.Mem.tail _ (List.Mem.head _)))) (List.Mem.head _) dk_2186 dk_2187 dk_2188 dk_2189 dk_2190 (hin 1 (by omega)) ?_
  refine L_uc (As := [.int (xs (i + Int32.ofInt 1).toNatClampNeg)]) (y := 335) (q0 := 90) F (u_M59 hAD z1.1.1 (xs (i + Int32.ofInt 1).toNatClampNeg)) (by omega) (show mKind 335 = 0 by decide +kernel) (w := 1919) (show wAt 1919 (Cond.methodLink "HalvedNamesLaw" 259 (mY 335)) = true by decide +kernel) dk_2191 (show 1 = mN 335 by decide +kernel) (show GG[90]? = some _ from rfl) rfl ⟨_, _, rfl⟩ (by simp) hm z1.1.1 (fun r2 w2 z2 => ?_)
  refine L_pop0 F dk_2194 z2.1 ?_
  exact L_goto F dk_2195 rfl (kk w2 z2.1.1 (KEP_rels (KEP_rels hR z1.2) z2.2))
theorem case_60 {b L : Nat} {xs : Nat → Int32} {ad : Nat → Nat} {i : Int32} (F : LFix D tys A p R s m args c) (hX : va_X b L xs s s.heap) (hbl : b < s.heap.size) (hbA : ¬ A b) (hin : ∀ k : Nat, k < 6 → vp_in (i + Int32.ofInt k) L) (hm : cells ≤ R.cells ∧ slots ≤ R.slots) (hAD : ∀ i : Nat, ad (1000 + i) = D.2 1000 i) (hG : GOK ad tys GG ws) (hR : RELW ws) (kk : ∀ w2 : va_W, GOK ad tys GG w2 → RELW w2 → LV p l e R s m args below meth c Q D A cells slots 2423 [(3, .int i), (2, .ref (ad 90)), (1, .ref (ad 0)), (0, .ref b)] [] w2) : LV p l e R s m args below meth c Q D A cells slots 2198 [(3, .int i), (2, .ref (ad 90)), (1, .ref (ad 0)), (0, .ref b)] [] ws := by
  refine L_al (i := 1) F dk_2198 rfl (List.Mem.tail _ (List.Mem.tail _ (List.Mem.head _))) ?_
  refine L_arg F hX hbl hbA (List.Mem.tail _ (List.Mem.tail _ (List.Mem.tail _ (List.Mem.head _)))) (List.Mem.head _) dk_2199 dk_2200 dk_2201 dk_2202 dk_2203 (hin 1 (by omega)) ?_
  obtain ⟨v, MID, s1, s2⟩ := pairT_image (l := l) (D := D) (A := A) hAD hG hR (xs (i + Int32.ofInt 1).toNatClampNeg)
  refine L_uc (As := [.int (xs (i + Int32.ofInt 1).toNatClampNeg)]) (y := 67) (q0 := 0) F (s1) (by omega) (show mKind 67 = 0 by decide +kernel) (w := 1151) (show wAt 1151 (Cond.methodLink "HalvedNamesLaw" 260 (mY 67)) = true by decide +kernel) dk_2204 (show 1 = mN 67 by decide +kernel) (show GG[0]? = some _ from rfl) rfl ⟨_, _, rfl⟩ (by simp) hm hG (fun r1 w1 z1 => ?_)
  obtain ⟨rfl, hG1, K1⟩ := z1
  refine L_popI F dk_2207 ?_
  refine L_al (i := 2) F dk_2208 rfl (List.Mem.tail _ (List.Mem.head _)) ?_
  refine L_arg F hX hbl hbA (List.Mem.tail _ (List.Mem.tail _ (List.Mem.tail _ (List.Mem.head _)))) (List.Mem.head _) dk_2209 dk_2210 dk_2211 dk_2212 dk_2213 (hin 1 (by omega)) ?_
  refine L_uc (As := [.int (xs (i + Int32.ofInt 1).toNatClampNeg)]) (y := 196) (q0 := 90) F (s2 w1 hG1 K1) (by omega) (show mKind 196 = 0 by decide +kernel) (w := 1316) (show wAt 1316 (Cond.methodLink "HalvedNamesLaw" 263 (mY 196)) = true by decide +kernel) dk_2214 (show 1 = mN 196 by decide +kernel) (show GG[90]? = some _ from rfl) rfl ⟨_, _, rfl⟩ (by simp) hm hG1 (fun r2 w2 z2 => ?_)
  obtain ⟨rfl, hG2, K2⟩ := z2
  refine L_popI F dk_2217 ?_
  exact L_goto F dk_2218 rfl (kk w2 hG2 K2)
theorem case_61 {b L : Nat} {xs : Nat → Int32} {ad : Nat → Nat} {i : Int32} (F : LFix D tys A p R s m args c) (hX : va_X b L xs s s.heap) (hbl : b < s.heap.size) (hbA : ¬ A b) (hin : ∀ k : Nat, k < 6 → vp_in (i + Int32.ofInt k) L) (hm : cells ≤ R.cells ∧ slots ≤ R.slots) (hAD : ∀ i : Nat, ad (1000 + i) = D.2 1000 i) (hG : GOK ad tys GG ws) (hR : RELW ws) (kk : ∀ w2 : va_W, GOK ad tys GG w2 → RELW w2 → LV p l e R s m args below meth c Q D A cells slots 2423 [(3, .int i), (2, .ref (ad 90)), (1, .ref (ad 0)), (0, .ref b)] [] w2) : LV p l e R s m args below meth c Q D A cells slots 2221 [(3, .int i), (2, .ref (ad 90)), (1, .ref (ad 0)), (0, .ref b)] [] ws := by
  refine L_al (i := 1) F dk_2221 rfl (List.Mem.tail _ (List.Mem.tail _ (List.Mem.head _))) ?_
  refine L_arg F hX hbl hbA (List.Mem.tail _ (List.Mem.tail _ (List.Mem.tail _ (List.Mem.head _)))) (List.Mem.head _) dk_2222 dk_2223 dk_2224 dk_2225 dk_2226 (hin 1 (by omega)) ?_
  obtain ⟨v, MID, s1, s2⟩ := pairT_back (l := l) (D := D) (A := A) hAD hG hR (xs (i + Int32.ofInt 1).toNatClampNeg)
  refine L_uc (As := [.int (xs (i + Int32.ofInt 1).toNatClampNeg)]) (y := 68) (q0 := 0) F (s1) (by omega) (show mKind 68 = 0 by decide +kernel) (w := 1159) (show wAt 1159 (Cond.methodLink "HalvedNamesLaw" 264 (mY 68)) = true by decide +kernel) dk_2227 (show 1 = mN 68 by decide +kernel) (show GG[0]? = some _ from rfl) rfl ⟨_, _, rfl⟩ (by simp) hm hG (fun r1 w1 z1 => ?_)
  obtain ⟨rfl, hG1, K1⟩ := z1
  refine L_popI F dk_2230 ?_
  refine L_al (i := 2) F dk_2231 rfl (List.Mem.tail _ (List.Mem.head _)) ?_
  refine L_arg F hX hbl hbA (List.Mem.tail _ (List.Mem.tail _ (List.Mem.tail _ (List.Mem.head _)))) (List.Mem.head _) dk_2232 dk_2233 dk_2234 dk_2235 dk_2236 (hin 1 (by omega)) ?_
  refine L_uc (As := [.int (xs (i + Int32.ofInt 1).toNatClampNeg)]) (y := 197) (q0 := 90) F (s2 w1 hG1 K1) (by omega) (show mKind 197 = 0 by decide +kernel) (w := 1324) (show wAt 1324 (Cond.methodLink "HalvedNamesLaw" 267 (mY 197)) = true by decide +kernel) dk_2237 (show 1 = mN 197 by decide +kernel) (show GG[90]? = some _ from rfl) rfl ⟨_, _, rfl⟩ (by simp) hm hG1 (fun r2 w2 z2 => ?_)
  obtain ⟨rfl, hG2, K2⟩ := z2
  refine L_popI F dk_2240 ?_
  exact L_goto F dk_2241 rfl (kk w2 hG2 K2)
theorem case_62 {b L : Nat} {xs : Nat → Int32} {ad : Nat → Nat} {i : Int32} (F : LFix D tys A p R s m args c) (hX : va_X b L xs s s.heap) (hbl : b < s.heap.size) (hbA : ¬ A b) (hin : ∀ k : Nat, k < 6 → vp_in (i + Int32.ofInt k) L) (hm : cells ≤ R.cells ∧ slots ≤ R.slots) (hAD : ∀ i : Nat, ad (1000 + i) = D.2 1000 i) (hG : GOK ad tys GG ws) (hR : RELW ws) (kk : ∀ w2 : va_W, GOK ad tys GG w2 → RELW w2 → LV p l e R s m args below meth c Q D A cells slots 2423 [(3, .int i), (2, .ref (ad 90)), (1, .ref (ad 0)), (0, .ref b)] [] w2) : LV p l e R s m args below meth c Q D A cells slots 2244 [(3, .int i), (2, .ref (ad 90)), (1, .ref (ad 0)), (0, .ref b)] [] ws := by
  refine L_al (i := 1) F dk_2244 rfl (List.Mem.tail _ (List.Mem.tail _ (List.Mem.head _))) ?_
  refine L_arg F hX hbl hbA (List.Mem.tail _ (List.Mem.tail _ (List.Mem.tail _ (List.Mem.head _)))) (List.Mem.head _) dk_2245 dk_2246 dk_2247 dk_2248 dk_2249 (hin 1 (by omega)) ?_
  refine L_arg F hX hbl hbA (List.Mem.tail _ (List.Mem.tail _ (List.Mem.tail _ (List.Mem.head _)))) (List.Mem.head _) dk_2250 dk_2251 dk_2252 dk_2253 dk_2254 (hin 2 (by omega)) ?_
  refine L_arg F hX hbl hbA (List.Mem.tail _ (List.Mem.tail _ (List.Mem.tail _ (List.Mem.head _)))) (List.Mem.head _) dk_2255 dk_2256 dk_2257 dk_2258 dk_2259 (hin 3 (by omega)) ?_
  refine L_uc (As := [.int (xs (i + Int32.ofInt 1).toNatClampNeg), .int (xs (i + Int32.ofInt 2).toNatClampNeg), .int (xs (i + Int32.ofInt 3).toNatClampNeg)]) (y := 70) (q0 := 0) F (u_X62 hAD hG (xs (i + Int32.ofInt 1).toNatClampNeg) (xs (i + Int32.ofInt 2).toNatClampNeg) (xs (i + Int32.ofInt 3).toNatClampNeg)) (by omega) (show mKind 70 = 0 by decide +kernel) (w := 1163) (show wAt 1163 (Cond.methodLink "HalvedNamesLaw" 268 (mY 70)) = true by decide +kernel) dk_2260 (show 3 = mN 70 by decide +kernel) (show GG[0]? = some _ from rfl) rfl ⟨_, _, rfl⟩ (by simp) hm hG (fun r1 w1 z1 => ?_)
  refine L_pop0 F dk_2263 z1.1 ?_
  refine L_al (i := 2) F dk_2264 rfl (List.Mem.tail _ (List.Mem.head _)) ?_
  refine L_arg F hX hbl hbA (List.Mem.tail _ (List.Mem.tail _ (List.Mem.tail _ (List.Mem.head _)))) (List.Mem.head _) dk_2265 dk_2266 dk_2267 dk_2268 dk_2269 (hin 1 (by omega)) ?_
  refine L_arg F hX hbl hbA (List.Mem.tail _ (List.Mem.tail _ (List.Mem.tail _ (List.Mem.head _)))) (List.Mem.head _) dk_2270 dk_2271 dk_2272 dk_2273 dk_2274 (hin 2 (by omega)) ?_
  refine L_arg F hX hbl hbA (List.Mem.tail _ (List.Mem.tail _ (List.Mem.tail _ (List.Mem.head _)))) (List.Mem.head _) dk_2275 dk_2276 dk_2277 dk_2278 dk_2279 (hin 3 (by omega)) ?_
  refine L_uc (As := [.int (xs (i + Int32.ofInt 1).toNatClampNeg), .int (xs (i + Int32.ofInt 2).toNatClampNeg), .int (xs (i + Int32.ofInt 3).toNatClampNeg)]) (y := 338) (q0 := 90) F (u_M62 hAD z1.1.1 (xs (i + Int32.ofInt 1).toNatClampNeg) (xs (i + Int32.ofInt 2).toNatClampNeg) (xs (i + Int32.ofInt 3).toNatClampNeg)) (by omega) (show mKind 338 = 0 by decide +kernel) (w := 1923) (show wAt 1923 (Cond.methodLink "HalvedNamesLaw" 271 (mY 338)) = true by decide +kernel) dk_2280 (show 3 = mN 338 by decide +kernel) (show GG[90]? = some _ from rfl) rfl ⟨_, _, rfl⟩ (by simp) hm z1.1.1 (fun r2 w2 z2 => ?_)
  refine L_pop0 F dk_2283 z2.1 ?_
  exact L_goto F dk_2284 rfl (kk w2 z2.1.1 (KEP_rels (KEP_rels hR z1.2) z2.2))
theorem case_63 {b L : Nat} {xs : Nat → Int32} {ad : Nat → Nat} {i : Int32} (F : LFix D tys A p R s m args c) (hX : va_X b L xs s s.heap) (hbl : b < s.heap.size) (hbA : ¬ A b) (hin : ∀ k : Nat, k < 6 → vp_in (i + Int32.ofInt k) L) (hm : cells ≤ R.cells ∧ slots ≤ R.slots) (hAD : ∀ i : Nat, ad (1000 + i) = D.2 1000 i) (hG : GOK ad tys GG ws) (hR : RELW ws) (kk : ∀ w2 : va_W, GOK ad tys GG w2 → RELW w2 → LV p l e R s m args below meth c Q D A cells slots 2423 [(3, .int i), (2, .ref (ad 90)), (1, .ref (ad 0)), (0, .ref b)] [] w2) : LV p l e R s m args below meth c Q D A cells slots 2287 [(3, .int i), (2, .ref (ad 90)), (1, .ref (ad 0)), (0, .ref b)] [] ws := by
  refine L_al (i := 1) F dk_2287 rfl (List.Mem.tail _ (List.Mem.tail _ (List.Mem.head _))) ?_
  refine L_arg F hX hbl hbA (List.Mem.tail _ (List.Mem.tail _ (List.Mem.tail _ (List.Mem.head _)))) (List.Mem.head _) dk_2288 dk_2289 dk_2290 dk_2291 dk_2292 (hin 1 (by omega)) ?_
  refine L_arg F hX hbl hbA (List.Mem.tail _ (List.Mem.tail _ (List.Mem.tail _ (List.Mem.head _)))) (List.Mem.head _) dk_2293 dk_2294 dk_2295 dk_2296 dk_2297 (hin 2 (by omega)) ?_
  refine L_arg F hX hbl hbA (List.Mem.tail _ (List.Mem.tail _ (List.Mem.tail _ (List.Mem.head _)))) (List.Mem.head _) dk_2298 dk_2299 dk_2300 dk_2301 dk_2302 (hin 3 (by omega)) ?_
  refine L_i2l F dk_2303 ?_
  refine L_bp (v := 32) F dk_2304 (by decide) ?_
  refine L_lshl F dk_2306 ?_
  refine L_arg F hX hbl hbA (List.Mem.tail _ (List.Mem.tail _ (List.Mem.tail _ (List.Mem.head _)))) (List.Mem.head _) dk_2307 dk_2308 dk_2309 dk_2310 dk_2311 (hin 4 (by omega)) ?_
  refine L_i2l F dk_2312 ?_
  refine L_ldc2 F (w := 1938) (show wAt 1938 (Cond.constantLong "HalvedNamesLaw" 272 4294967295) = true by decide +kernel) dk_2313 ?_
  refine L_land F dk_2316 ?_
  refine L_lor F dk_2317 ?_
  refine L_uc (As := [.int (xs (i + Int32.ofInt 1).toNatClampNeg), .int (xs (i + Int32.ofInt 2).toNatClampNeg), .long (((xs (i + Int32.ofInt 3).toNatClampNeg).toInt64 <<< ((32 : Int32).toInt64 &&& 63) ||| ((xs (i + Int32.ofInt 4).toNatClampNeg).toInt64 &&& 4294967295)))]) (y := 71) (q0 := 0) F (u_X63 hAD hG (xs (i + Int32.ofInt 1).toNatClampNeg) (xs (i + Int32.ofInt 2).toNatClampNeg) (((xs (i + Int32.ofInt 3).toNatClampNeg).toInt64 <<< ((32 : Int32).toInt64 &&& 63) ||| ((xs (i + Int32.ofInt 4).toNatClampNeg).toInt64 &&& 4294967295)))) (by omega) (show mKind 71 = 0 by decide +kernel) (w := 1183) (show wAt 1183 (Cond.methodLink "HalvedNamesLaw" 274 (mY 71)) = true by decide +kernel) dk_2318 (show 3 = mN 71 by decide +kernel) (show GG[0]? = some _ from rfl) rfl ⟨_, _, rfl⟩ (by simp) hm hG (fun r1 w1 z1 => ?_)
  refine L_pop0 F dk_2321 z1.1 ?_
  refine L_al (i := 2) F dk_2322 rfl (List.Mem.tail _ (List.Mem.head _)) ?_
  refine L_arg F hX hbl hbA (List.Mem.tail _ (List.Mem.tail _ (List.Mem.tail _ (List.Mem.head _)))) (List.Mem.head _) dk_2323 dk_2324 dk_2325 dk_2326 dk_2327 (hin 1 (by omega)) ?_
  refine L_arg F hX hbl hbA (List.Mem.tail _ (List.Mem.tail _ (List.Mem.tail _ (List.Mem.head _)))) (List.Mem.head _) dk_2328 dk_2329 dk_2330 dk_2331 dk_2332 (hin 2 (by omega)) ?_
  refine L_arg F hX hbl hbA (List.Mem.tail _ (List.Mem.tail _ (List.Mem.tail _ (List.Mem.head _)))) (List.Mem.head _) dk_2333 dk_2334 dk_2335 dk_2336 dk_2337 (hin 3 (by omega)) ?_
  refine L_i2l F dk_2338 ?_
  refine L_bp (v := 32) F dk_2339 (by decide) ?_
  refine L_lshl F dk_2341 ?_
  refine L_arg F hX hbl hbA (List.Mem.tail _ (List.Mem.tail _ (List.Mem.tail _ (List.Mem.head _)))) (List.Mem.head _) dk_2342 dk_2343 dk_2344 dk_2345 dk_2346 (hin 4 (by omega)) ?_
  refine L_i2l F dk_2347 ?_
  refine L_ldc2 F (w := 1938) (show wAt 1938 (Cond.constantLong "HalvedNamesLaw" 272 4294967295) = true by decide +kernel) dk_2348 ?_
  refine L_land F dk_2351 ?_
  refine L_lor F dk_2352 ?_
  refine L_uc (As := [.int (xs (i + Int32.ofInt 1).toNatClampNeg), .int (xs (i + Int32.ofInt 2).toNatClampNeg), .long (((xs (i + Int32.ofInt 3).toNatClampNeg).toInt64 <<< ((32 : Int32).toInt64 &&& 63) ||| ((xs (i + Int32.ofInt 4).toNatClampNeg).toInt64 &&& 4294967295)))]) (y := 339) (q0 := 90) F (u_M63 hAD z1.1.1 (xs (i + Int32.ofInt 1).toNatClampNeg) (xs (i + Int32.ofInt 2).toNatClampNeg) (((xs (i + Int32.ofInt 3).toNatClampNeg).toInt64 <<< ((32 : Int32).toInt64 &&& 63) ||| ((xs (i + Int32.ofInt 4).toNatClampNeg).toInt64 &&& 4294967295)))) (by omega) (show mKind 339 = 0 by decide +kernel) (w := 1927) (show wAt 1927 (Cond.methodLink "HalvedNamesLaw" 278 (mY 339)) = true by decide +kernel) dk_2353 (show 3 = mN 339 by decide +kernel) (show GG[90]? = some _ from rfl) rfl ⟨_, _, rfl⟩ (by simp) hm z1.1.1 (fun r2 w2 z2 => ?_)
  refine L_pop0 F dk_2356 z2.1 ?_
  exact L_goto F dk_2357 rfl (kk w2 z2.1.1 (KEP_rels (KEP_rels hR z1.2) z2.2))
theorem case_64 {b L : Nat} {xs : Nat → Int32} {ad : Nat → Nat} {i : Int32} (F : LFix D tys A p R s m args c) (hX : va_X b L xs s s.heap) (hbl : b < s.heap.size) (hbA : ¬ A b) (hin : ∀ k : Nat, k < 6 → vp_in (i + Int32.ofInt k) L) (hm : cells ≤ R.cells ∧ slots ≤ R.slots) (hAD : ∀ i : Nat, ad (1000 + i) = D.2 1000 i) (hG : GOK ad tys GG ws) (hR : RELW ws) (kk : ∀ w2 : va_W, GOK ad tys GG w2 → RELW w2 → LV p l e R s m args below meth c Q D A cells slots 2423 [(3, .int i), (2, .ref (ad 90)), (1, .ref (ad 0)), (0, .ref b)] [] w2) : LV p l e R s m args below meth c Q D A cells slots 2360 [(3, .int i), (2, .ref (ad 90)), (1, .ref (ad 0)), (0, .ref b)] [] ws := by
  refine L_al (i := 1) F dk_2360 rfl (List.Mem.tail _ (List.Mem.tail _ (List.Mem.head _))) ?_
  refine L_arg F hX hbl hbA (List.Mem.tail _ (List.Mem.tail _ (List.Mem.tail _ (List.Mem.head _)))) (List.Mem.head _) dk_2361 dk_2362 dk_2363 dk_2364 dk_2365 (hin 1 (by omega)) ?_
  refine L_arg F hX hbl hbA (List.Mem.tail _ (List.Mem.tail _ (List.Mem.tail _ (List.Mem.head _)))) (List.Mem.head _) dk_2366 dk_2367 dk_2368 dk_2369 dk_2370 (hin 2 (by omega)) ?_
  refine L_arg F hX hbl hbA (List.Mem.tail _ (List.Mem.tail _ (List.Mem.tail _ (List.Mem.head _)))) (List.Mem.head _) dk_2371 dk_2372 dk_2373 dk_2374 dk_2375 (hin 3 (by omega)) ?_
  refine L_arg F hX hbl hbA (List.Mem.tail _ (List.Mem.tail _ (List.Mem.tail _ (List.Mem.head _)))) (List.Mem.head _) dk_2376 dk_2377 dk_2378 dk_2379 dk_2380 (hin 4 (by omega)) ?_
  refine L_arg F hX hbl hbA (List.Mem.tail _ (List.Mem.tail _ (List.Mem.tail _ (List.Mem.head _)))) (List.Mem.head _) dk_2381 dk_2382 dk_2383 dk_2384 dk_2385 (hin 5 (by omega)) ?_
  refine L_uc (As := [.int (xs (i + Int32.ofInt 1).toNatClampNeg), .int (xs (i + Int32.ofInt 2).toNatClampNeg), .int (xs (i + Int32.ofInt 3).toNatClampNeg), .int (xs (i + Int32.ofInt 4).toNatClampNeg), .int (xs (i + Int32.ofInt 5).toNatClampNeg)]) (y := 72) (q0 := 0) F (u_X64 hAD hG (xs (i + Int32.ofInt 1).toNatClampNeg) (xs (i + Int32.ofInt 2).toNatClampNeg) (xs (i + Int32.ofInt 3).toNatClampNeg) (xs (i + Int32.ofInt 4).toNatClampNeg) (xs (i + Int32.ofInt 5).toNatClampNeg)) (by omega) (show mKind 72 = 0 by decide +kernel) (w := 1188) (show wAt 1188 (Cond.methodLink "HalvedNamesLaw" 279 (mY 72)) = true by decide +kernel) dk_2386 (show 5 = mN 72 by decide +kernel) (show GG[0]? = some _ from rfl) rfl ⟨_, _, rfl⟩ (by simp) hm hG (fun r1 w1 z1 => ?_)
  refine L_pop0 F dk_2389 z1.1 ?_
  refine L_al (i := 2) F dk_2390 rfl (List.Mem.tail _ (List.Mem.head _)) ?_
  refine L_arg F hX hbl hbA (List.Mem.tail _ (List.Mem.tail _ (List.Mem.tail _ (List.Mem.head _)))) (List.Mem.head _) dk_2391 dk_2392 dk_2393 dk_2394 dk_2395 (hin 1 (by omega)) ?_
  refine L_arg F hX hbl hbA (List.Mem.tail _ (List.Mem.tail _ (List.Mem.tail _ (List.Mem.head _)))) (List.Mem.head _) dk_2396 dk_2397 dk_2398 dk_2399 dk_2400 (hin 2 (by omega)) ?_
  refine L_arg F hX hbl hbA (List.Mem.tail _ (List.Mem.tail _ (List.Mem.tail _ (List.Mem.head _)))) (List.Mem.head _) dk_2401 dk_2402 dk_2403 dk_2404 dk_2405 (hin 3 (by omega)) ?_
  refine L_arg F hX hbl hbA (List.Mem.tail _ (List.Mem.tail _ (List.Mem.tail _ (List.Mem.head _)))) (List.Mem.head _) dk_2406 dk_2407 dk_2408 dk_2409 dk_2410 (hin 4 (by omega)) ?_
  refine L_arg F hX hbl hbA (List.Mem.tail _ (List.Mem.tail _ (List.Mem.tail _ (List.Mem.head _)))) (List.Mem.head _) dk_2411 dk_2412 dk_2413 dk_2414 dk_2415 (hin 5 (by omega)) ?_
  refine L_uc (As := [.int (xs (i + Int32.ofInt 1).toNatClampNeg), .int (xs (i + Int32.ofInt 2).toNatClampNeg), .int (xs (i + Int32.ofInt 3).toNatClampNeg), .int (xs (i + Int32.ofInt 4).toNatClampNeg), .int (xs (i + Int32.ofInt 5).toNatClampNeg)]) (y := 340) (q0 := 90) F (u_M64 hAD z1.1.1 (xs (i + Int32.ofInt 1).toNatClampNeg) (xs (i + Int32.ofInt 2).toNatClampNeg) (xs (i + Int32.ofInt 3).toNatClampNeg) (xs (i + Int32.ofInt 4).toNatClampNeg) (xs (i + Int32.ofInt 5).toNatClampNeg)) (by omega) (show mKind 340 = 0 by decide +kernel) (w := 1934) (show wAt 1934 (Cond.methodLink "HalvedNamesLaw" 282 (mY 340)) = true by decide +kernel) dk_2416 (show 5 = mN 340 by decide +kernel) (show GG[90]? = some _ from rfl) rfl ⟨_, _, rfl⟩ (by simp) hm z1.1.1 (fun r2 w2 z2 => ?_)
  refine L_pop0 F dk_2419 z2.1 ?_
  exact L_goto F dk_2420 rfl (kk w2 z2.1.1 (KEP_rels (KEP_rels hR z1.2) z2.2))
end CASES4
end
