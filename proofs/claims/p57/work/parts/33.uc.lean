noncomputable def KS : List Nat := [0, 1, 2, 3, 4, 5, 6, 7, 8, 9, 10, 11, 12, 13, 14, 15, 29, 30, 32, 33, 34, 35, 54, 55, 56, 57, 58, 59, 60, 61, 62, 63, 64, 65, 66, 67, 68, 69, 70, 71, 72, 73, 74, 75, 76, 77, 78, 79, 80, 81, 82, 83, 84, 85, 86, 87, 88, 89, 91, 92, 93, 94]
noncomputable def Z0 (w : va_W) : Prop := rd w 90 22 = some (.int (Int32.ofInt (-1))) ∧ rd w 90 24 = some (.int (Int32.ofInt 0))
noncomputable def KEP (w0 w : va_W) : Prop := (∀ c ∈ KS, ∀ j, rd w c j = rd w0 c j) ∧ (∀ j, spK j → rd w 90 j = rd w0 90 j) ∧ (Z0 w0 → Z0 w)
noncomputable def kpZ (ms : List Nat) : Bool := KS.all (fun c => !(memN c ms))
noncomputable def kpB (ms : List Nat) : Bool := !(memN 1022 ms) && (!(memN 1024 ms) && kpZ ms)
theorem mem_memN {c : Nat} : ∀ {l : List Nat}, c ∈ l → memN c l = true
  | [], h => by cases h
  | x :: t, h => by
    unfold memN
    rcases List.mem_cons.mp h with rfl | h
    · rw [Nat.beq_refl, Bool.true_or]
    · rw [mem_memN h, Bool.or_true]
theorem KEP_z {ms : List Nat} {w0 w : va_W} (h : KEEP ms w0 w) (hb : kpZ ms = true) (hz : Z0 w0 → Z0 w) : KEP w0 w := ⟨fun c hc j => h.1 c (fun q => by
  have e := List.all_eq_true.mp hb c hc
  rw [mem_memN q] at e
  cases e) j, fun j hj => h.2 j (Or.inl hj), hz⟩
theorem KEP_of {ms : List Nat} {w0 w : va_W} (h : KEEP ms w0 w) (hb : kpB ms = true) : KEP w0 w := by
  unfold kpB at hb
  rw [Bool.and_eq_true, Bool.and_eq_true] at hb
  refine KEP_z h hb.2.2 (fun z => ⟨(h.2 22 (Or.inr (Or.inl ⟨rfl, memN_not (by simpa using hb.1)⟩))).trans z.1, (h.2 24 (Or.inr (Or.inr ⟨rfl, memN_not (by simpa using hb.2.1)⟩))).trans z.2⟩)
noncomputable def postZ : List ((Nat × Nat) × SP3) := [((90, 22), (0, (-1), (-1))), ((90, 24), (0, 0, 0))]
theorem Z0_pre {ad : Nat → Nat} {w : va_W} (h : Z0 w) : preOK ad postZ w := by
  intro q hq
  rcases List.mem_cons.mp hq with rfl | hq
  · exact ⟨_, h.1, -1, rfl, by decide, by decide⟩
  · rw [List.mem_singleton.mp hq]
    exact ⟨_, h.2, 0, rfl, by decide, by decide⟩
theorem Z0_of {ad : Nat → Nat} {w : va_W} (h : preOK ad postZ w) : Z0 w := by
  obtain ⟨v, h1, z, rfl, z1, z2⟩ := h _ (List.mem_cons_self)
  obtain ⟨v2, h3, z3, rfl, z4, z5⟩ := h _ (List.mem_cons_of_mem _ (List.mem_cons_self))
  have z1 : (-1 : Int) ≤ z := z1
  have z2 : z ≤ (-1 : Int) := z2
  have z4 : (0 : Int) ≤ z3 := z4
  have z5 : z3 ≤ (0 : Int) := z5
  refine ⟨?_, ?_⟩
  · rw [h1, show z = -1 by omega]
  · rw [h3, show z3 = 0 by omega]
theorem KS_mem : (List.range 95).all (fun c => !(Nat.ble c 15 || Nat.beq c 29 || Nat.beq c 30 || (Nat.ble 32 c && Nat.ble c 35) || (Nat.ble 54 c && Nat.ble c 89) || Nat.ble 91 c) || memN c KS) = true := by decide +kernel
theorem KEP_in {w0 w : va_W} (k : KEP w0 w) (c : Nat) (hc : c ≤ 15 ∨ c = 29 ∨ c = 30 ∨ (32 ≤ c ∧ c ≤ 35) ∨ (54 ≤ c ∧ c ≤ 89) ∨ (91 ≤ c ∧ c ≤ 94)) (j : Nat) : rd w c j = rd w0 c j := k.1 c (memN_in (by
  have q := List.all_eq_true.mp KS_mem c (List.mem_range.mpr (by omega))
  have e : (Nat.ble c 15 || Nat.beq c 29 || Nat.beq c 30 || (Nat.ble 32 c && Nat.ble c 35) || (Nat.ble 54 c && Nat.ble c 89) || Nat.ble 91 c) = true := by
    simp only [Bool.or_eq_true, Bool.and_eq_true, Nat.ble_eq, Nat.beq_eq]
    omega
  rw [e] at q
  simpa using q)) j
theorem KEP_rels {w0 w : va_W} (h : RELW w0) (k : KEP w0 w) : RELW w := by
  have z := k.2.2 ⟨h.2.2.2.2.1, h.2.2.2.2.2⟩
  refine ⟨relh_keep h.1 (fun c hc j => KEP_in k c (by omega) j) k.2.1, aux_keep h.2 (fun c j hc => ?_)⟩
  rcases (show (c ≤ 15 ∨ c = 29 ∨ c = 30 ∨ (32 ≤ c ∧ c ≤ 35) ∨ (54 ≤ c ∧ c ≤ 89) ∨ (91 ≤ c ∧ c ≤ 94)) ∨ (c = 90 ∧ j = 22) ∨ (c = 90 ∧ j = 24) by omega) with q | ⟨rfl, rfl⟩ | ⟨rfl, rfl⟩
  · exact KEP_in k c q j
  · exact z.1.trans h.2.2.2.2.1.symm
  · exact z.2.trans h.2.2.2.2.2.symm
noncomputable def UPk (ad : Nat → Nat) (tys : List (ClassId × FieldType)) (t : Nat) (w0 : va_W) (r : Option Value) (w : va_W) : Prop := UPo ad tys t r w ∧ KEP w0 w
noncomputable def UCP (l : Launch) (D : va_G) (tys : List (ClassId × FieldType)) (A : Nat → Prop) (ad : Nat → Nat) (y : Nat) (vs : List Value) (ws : va_W) (t : Nat) : Prop := ∃ d', d' < 11 ∧ CT l D tys A y d' 0 0 vs ws (UPk ad tys t ws)
section UCS
variable {l : Launch} {D : va_G} {tys : List (ClassId × FieldType)} {A : Nat → Prop} {ad : Nat → Nat} {ws : va_W}
theorem uc_i {c : CR} {d y : Nat} {lo hi : Int} {vs : List Value} (h : CRok l D tys A ad GG d c) (hy : c.1 = y) (hd : d ≤ 11) (hv : okvs ad c.2.1 vs) (hG : GOK ad tys GG ws) (hp : preOK ad c.2.2.1 ws) (hr : c.2.2.2.1 = some (0, lo, hi)) (hm : kpB c.2.2.2.2.2 = true) : UCP l D tys A ad y vs ws 0 := by
  subst hy
  obtain ⟨d', h1, h2⟩ := h vs ws hv hG hp
  refine ⟨d', Nat.lt_of_lt_of_le h1 hd, CT_post h2 ?_⟩
  rintro r w ⟨q1, q2, q3, q4⟩
  rw [hr] at q3
  cases r with
  | none => exact q3.elim
  | some v =>
    obtain ⟨z, rfl, -, -⟩ := q3
    exact ⟨⟨q1, Or.inl ⟨rfl, _, rfl⟩⟩, KEP_of (KEEP_F q2) hm⟩
theorem uc_k {K0 : va_W → Prop} {c : CR} {d y : Nat} {lo hi : Int} {vs : List Value} (h : CRokK l D tys A ad GG K0 d c) (hy : c.1 = y) (hd : d ≤ 11) (hv : okvs ad c.2.1 vs) (hG : GOK ad tys GG ws) (hp : preOK ad c.2.2.1 ws) (hk : K0 ws) (hr : c.2.2.2.1 = some (0, lo, hi)) (hm : kpB c.2.2.2.2.2 = true) : UCP l D tys A ad y vs ws 0 := by
  subst hy
  obtain ⟨d', h1, h2⟩ := h vs ws hv hG hp hk
  refine ⟨d', Nat.lt_of_lt_of_le h1 hd, CT_post h2 ?_⟩
  rintro r w ⟨q1, q2, q3, q4⟩
  rw [hr] at q3
  cases r with
  | none => exact q3.elim
  | some v =>
    obtain ⟨z, rfl, -, -⟩ := q3
    exact ⟨⟨q1, Or.inl ⟨rfl, _, rfl⟩⟩, KEP_of (KEEP_F q2) hm⟩
theorem uc_l {c : CR} {d y : Nat} {lo hi : Int} {vs : List Value} (h : CRok l D tys A ad GG d c) (hy : c.1 = y) (hd : d ≤ 11) (hv : okvs ad c.2.1 vs) (hG : GOK ad tys GG ws) (hp : preOK ad c.2.2.1 ws) (hr : c.2.2.2.1 = some (1, lo, hi)) (hm : kpB c.2.2.2.2.2 = true) : UCP l D tys A ad y vs ws 1 := by
  subst hy
  obtain ⟨d', h1, h2⟩ := h vs ws hv hG hp
  refine ⟨d', Nat.lt_of_lt_of_le h1 hd, CT_post h2 ?_⟩
  rintro r w ⟨q1, q2, q3, q4⟩
  rw [hr] at q3
  cases r with
  | none => exact q3.elim
  | some v =>
    obtain ⟨z, rfl, -, -⟩ := q3
    exact ⟨⟨q1, Or.inr ⟨rfl, _, rfl⟩⟩, KEP_of (KEEP_F q2) hm⟩
theorem uc_iz {c : CR} {d y : Nat} {lo hi : Int} {vs : List Value} (h : CRok l D tys A ad GG d c) (hy : c.1 = y) (hd : d ≤ 11) (hv : okvs ad c.2.1 vs) (hG : GOK ad tys GG ws) (hp : preOK ad c.2.2.1 ws) (hr : c.2.2.2.1 = some (0, lo, hi)) (hpo : c.2.2.2.2.1 = postZ) (hm : kpZ c.2.2.2.2.2 = true) : UCP l D tys A ad y vs ws 0 := by
  subst hy
  obtain ⟨d', h1, h2⟩ := h vs ws hv hG hp
  refine ⟨d', Nat.lt_of_lt_of_le h1 hd, CT_post h2 ?_⟩
  rintro r w ⟨q1, q2, q3, q4⟩
  rw [hr] at q3
  cases r with
  | none => exact q3.elim
  | some v =>
    obtain ⟨z, rfl, -, -⟩ := q3
    exact ⟨⟨q1, Or.inl ⟨rfl, _, rfl⟩⟩, KEP_z (KEEP_F q2) hm (fun _ => Z0_of (by rw [hpo] at q4; exact q4))⟩
theorem uc_lz {c : CR} {d y : Nat} {lo hi : Int} {vs : List Value} (h : CRok l D tys A ad GG d c) (hy : c.1 = y) (hd : d ≤ 11) (hv : okvs ad c.2.1 vs) (hG : GOK ad tys GG ws) (hp : preOK ad c.2.2.1 ws) (hr : c.2.2.2.1 = some (1, lo, hi)) (hpo : c.2.2.2.2.1 = postZ) (hm : kpZ c.2.2.2.2.2 = true) : UCP l D tys A ad y vs ws 1 := by
  subst hy
  obtain ⟨d', h1, h2⟩ := h vs ws hv hG hp
  refine ⟨d', Nat.lt_of_lt_of_le h1 hd, CT_post h2 ?_⟩
  rintro r w ⟨q1, q2, q3, q4⟩
  rw [hr] at q3
  cases r with
  | none => exact q3.elim
  | some v =>
    obtain ⟨z, rfl, -, -⟩ := q3
    exact ⟨⟨q1, Or.inr ⟨rfl, _, rfl⟩⟩, KEP_z (KEEP_F q2) hm (fun _ => Z0_of (by rw [hpo] at q4; exact q4))⟩
theorem cell_bd {c j ty n : Nat} {lo hi : Int} {segs : List SG} (hG : GOK ad tys GG ws) (hg : GG[c]? = some ((1, ty, n), segs)) (hj : j < n) (hs : segAt segs j = some (0, lo, hi)) : ∃ z : Int, rd ws c j = some (.int (Int32.ofInt z)) ∧ lo ≤ z ∧ z ≤ hi := by
  obtain ⟨e, b1, b2, b3⟩ := hG c _ hg
  obtain ⟨cA, f, rfl, c1, -⟩ := b2
  have hr : rdE (.inl (cA, n, .inl f)) j = some (.int (f j)) := by show (if j < n then _ else _) = _; rw [if_pos hj]
  obtain ⟨sp, r1, r2⟩ := b3 j _ hr
  rw [hs] at r1
  cases r1
  obtain ⟨z, z1, z2, z3⟩ := r2
  exact ⟨z, by rw [rd_at b1, hr, z1], z2, z3⟩
theorem pre_one {c j : Nat} {lo hi z : Int} (h : rd ws c j = some (.int (Int32.ofInt z))) (h1 : lo ≤ z) (h2 : z ≤ hi) : preOK ad [((c, j), (0, lo, hi))] ws := by
  intro q hq
  rw [List.mem_singleton.mp hq]
  exact ⟨_, h, z, rfl, h1, h2⟩
end UCS
