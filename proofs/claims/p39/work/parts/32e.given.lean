section GVH
variable {l : Launch} {D : va_G} {tys : List (ClassId × FieldType)} {A : Nat → Prop} {ad : Nat → Nat} {ws : va_W}
noncomputable def AG (ad : Nat → Nat) (tys : List (ClassId × FieldType)) (n fr fo : Int32) (w0 : va_W) (r : Option Value) (w : va_W) : Prop := GOK ad tys GG w ∧ FRm [] w0 w ∧ ∃ z : Int, r = some (.int (Int32.ofInt z)) ∧ -6 ≤ z ∧ z ≤ 0 ∧ (z < 0 ∨ ∃ N R F m : Nat, n = Int32.ofInt (N : Int) ∧ fr = Int32.ofInt (R : Int) ∧ fo = Int32.ofInt (F : Int) ∧ 1 ≤ N ∧ N ≤ 6 ∧ R < 4 ∧ F < 4 ∧ m ≤ 8 ∧ rd w0 107 F = some (.int (Int32.ofInt (m : Int))))
theorem ag_of {c : CR} {dd : Nat} {n fr fo : Int32} {lo hi : Int} (hc : CRok l D tys A ad GG dd c) (hd : dd ≤ 3) (hy : c.1 = 301) (hv : okvs ad c.2.1 [.ref (ad 90), .int n, .int fr, .int fo]) (hG : GOK ad tys GG ws) (hp : preOK ad c.2.2.1 ws) (hr : c.2.2.2.1 = some (0, lo, hi)) (hm : c.2.2.2.2.2 = []) (h6 : -6 ≤ lo) (h0 : hi ≤ 0) (hz : hi < 0 ∨ ∃ N R F m : Nat, n = Int32.ofInt (N : Int) ∧ fr = Int32.ofInt (R : Int) ∧ fo = Int32.ofInt (F : Int) ∧ 1 ≤ N ∧ N ≤ 6 ∧ R < 4 ∧ F < 4 ∧ m ≤ 8 ∧ rd ws 107 F = some (.int (Int32.ofInt (m : Int)))) : ∃ d', d' < 4 ∧ CT l D tys A 301 d' 0 0 [.ref (ad 90), .int n, .int fr, .int fo] ws (AG ad tys n fr fo ws) := by
  obtain ⟨d', h1, h2⟩ := hc _ ws hv hG hp
  rw [hy] at h2
  refine ⟨d', by omega, CT_post h2 ?_⟩
  rintro r w ⟨q1, q2, q3, -⟩
  rw [hr] at q3
  rw [hm] at q2
  refine ⟨q1, q2, ?_⟩
  cases r with
  | none => exact q3.elim
  | some v =>
    obtain ⟨z, rfl, z1, z2⟩ := q3
    have z1 : lo ≤ z := z1
    have z2 : z ≤ hi := z2
    refine ⟨z, rfl, by omega, by omega, ?_⟩
    rcases hz with hz | hz
    · exact Or.inl (by omega)
    · exact Or.inr hz
theorem okI {lo hi : Int} {v : Int32} (h1 : lo ≤ v.toInt) (h2 : v.toInt ≤ hi) : okv ad (0, lo, hi) (.int v) := ⟨v.toInt, by rw [Int32.ofInt_toInt], h1, h2⟩
theorem natI {v : Int32} (h : 0 ≤ v.toInt) : v = Int32.ofInt ((v.toInt.toNat : Nat) : Int) := by rw [Int.toNat_of_nonneg h, Int32.ofInt_toInt]
theorem gf107 : ∃ s, GG[107]? = some ((1, 0, 4), s) ∧ ∀ j, j < 4 → segAt s j = some (0, -1, 60) := by
  refine ⟨_, rfl, fun j hj => ?_⟩
  show (bif Nat.blt j 4 then some _ else _) = _
  rw [show Nat.blt j 4 = true from Nat.blt_eq.mpr hj]
  rfl
theorem ag_ct (hAD : ∀ i : Nat, ad (1000 + i) = D.2 1000 i) (hG : GOK ad tys GG ws) (n fr fo : Int32) : ∃ d', d' < 4 ∧ CT l D tys A 301 d' 0 0 [.ref (ad 90), .int n, .int fr, .int fo] ws (AG ad tys n fr fo ws) := by
  have n1 := Int32.le_toInt n
  have n2 := Int32.toInt_lt n
  have a1 := Int32.le_toInt fr
  have a2 := Int32.toInt_lt fr
  have b1 := Int32.le_toInt fo
  have b2 := Int32.toInt_lt fo
  have no : ∀ q ∈ ([] : List ((Nat × Nat) × SP3)), ∃ v, rd ws q.1.1 q.1.2 = some v ∧ okv ad q.2 v := fun q hq => by cases hq
  rcases (show n.toInt ≤ 0 ∨ 7 ≤ n.toInt ∨ (1 ≤ n.toInt ∧ n.toInt ≤ 6) by omega) with h | h | h
  · exact ag_of (r216 hAD) (by omega) rfl ⟨rfl, okI (by omega) (by omega), okI (by omega) (by omega), okI (by omega) (by omega), trivial⟩ hG (no) rfl rfl (by omega) (by omega) (Or.inl (by decide))
  · exact ag_of (r218 hAD) (by omega) rfl ⟨rfl, okI (by omega) (by omega), okI (by omega) (by omega), okI (by omega) (by omega), trivial⟩ hG (no) rfl rfl (by omega) (by omega) (Or.inl (by decide))
  rcases (show fr.toInt ≤ -1 ∨ 4 ≤ fr.toInt ∨ (0 ≤ fr.toInt ∧ fr.toInt ≤ 3) by omega) with h2 | h2 | h2
  · exact ag_of (r220 hAD) (by omega) rfl ⟨rfl, okI (by omega) (by omega), okI (by omega) (by omega), okI (by omega) (by omega), trivial⟩ hG (no) rfl rfl (by omega) (by omega) (Or.inl (by decide))
  · exact ag_of (r222 hAD) (by omega) rfl ⟨rfl, okI (by omega) (by omega), okI (by omega) (by omega), okI (by omega) (by omega), trivial⟩ hG (no) rfl rfl (by omega) (by omega) (Or.inl (by decide))
  rcases (show fo.toInt ≤ -1 ∨ 4 ≤ fo.toInt ∨ (0 ≤ fo.toInt ∧ fo.toInt ≤ 3) by omega) with h3 | h3 | h3
  · exact ag_of (r224 hAD) (by omega) rfl ⟨rfl, okI (by omega) (by omega), okI (by omega) (by omega), okI (by omega) (by omega), trivial⟩ hG (no) rfl rfl (by omega) (by omega) (Or.inl (by decide))
  · exact ag_of (r226 hAD) (by omega) rfl ⟨rfl, okI (by omega) (by omega), okI (by omega) (by omega), okI (by omega) (by omega), trivial⟩ hG (no) rfl rfl (by omega) (by omega) (Or.inl (by decide))
  obtain ⟨s7, e7, f7⟩ := gf107
  rcases (show fo.toInt = 0 ∨ fo.toInt = 1 ∨ fo.toInt = 2 ∨ fo.toInt = 3 by omega) with h4 | h4 | h4 | h4
  · obtain ⟨m, hm, m0, m1⟩ := cel (j := 0) hG e7 (by omega) (f7 0 (by omega))
    rcases (show m = -1 ∨ (0 ≤ m ∧ m ≤ 8) ∨ 9 ≤ m by omega) with h5 | h5 | h5
    · exact ag_of (r228 hAD) (by omega) rfl ⟨rfl, okI (by omega) (by omega), okI (by omega) (by omega), okI (by omega) (by omega), trivial⟩ hG (pre1 hm (by omega) (by omega)) rfl rfl (by omega) (by omega) (Or.inl (by decide))
    · exact ag_of (r230 hAD) (by omega) rfl ⟨rfl, okI (by omega) (by omega), okI (by omega) (by omega), okI (by omega) (by omega), trivial⟩ hG (pre1 hm (by omega) (by omega)) rfl rfl (by omega) (by omega) (Or.inr ⟨n.toInt.toNat, fr.toInt.toNat, 0, m.toNat, natI (by omega), natI (by omega), (by rw [show ((0 : Nat) : Int) = fo.toInt by omega, Int32.ofInt_toInt]), by omega, by omega, by omega, by omega, by omega, by rw [Int.toNat_of_nonneg h5.1]; exact hm⟩)
    · exact ag_of (r233 hAD) (by omega) rfl ⟨rfl, okI (by omega) (by omega), okI (by omega) (by omega), okI (by omega) (by omega), trivial⟩ hG (pre1 hm (by omega) (by omega)) rfl rfl (by omega) (by omega) (Or.inl (by decide))
  · obtain ⟨m, hm, m0, m1⟩ := cel (j := 1) hG e7 (by omega) (f7 1 (by omega))
    rcases (show m = -1 ∨ (0 ≤ m ∧ m ≤ 8) ∨ 9 ≤ m by omega) with h5 | h5 | h5
    · exact ag_of (r235 hAD) (by omega) rfl ⟨rfl, okI (by omega) (by omega), okI (by omega) (by omega), okI (by omega) (by omega), trivial⟩ hG (pre1 hm (by omega) (by omega)) rfl rfl (by omega) (by omega) (Or.inl (by decide))
    · exact ag_of (r237 hAD) (by omega) rfl ⟨rfl, okI (by omega) (by omega), okI (by omega) (by omega), okI (by omega) (by omega), trivial⟩ hG (pre1 hm (by omega) (by omega)) rfl rfl (by omega) (by omega) (Or.inr ⟨n.toInt.toNat, fr.toInt.toNat, 1, m.toNat, natI (by omega), natI (by omega), (by rw [show ((1 : Nat) : Int) = fo.toInt by omega, Int32.ofInt_toInt]), by omega, by omega, by omega, by omega, by omega, by rw [Int.toNat_of_nonneg h5.1]; exact hm⟩)
    · exact ag_of (r240 hAD) (by omega) rfl ⟨rfl, okI (by omega) (by omega), okI (by omega) (by omega), okI (by omega) (by omega), trivial⟩ hG (pre1 hm (by omega) (by omega)) rfl rfl (by omega) (by omega) (Or.inl (by decide))
  · obtain ⟨m, hm, m0, m1⟩ := cel (j := 2) hG e7 (by omega) (f7 2 (by omega))
    rcases (show m = -1 ∨ (0 ≤ m ∧ m ≤ 8) ∨ 9 ≤ m by omega) with h5 | h5 | h5
    · exact ag_of (r242 hAD) (by omega) rfl ⟨rfl, okI (by omega) (by omega), okI (by omega) (by omega), okI (by omega) (by omega), trivial⟩ hG (pre1 hm (by omega) (by omega)) rfl rfl (by omega) (by omega) (Or.inl (by decide))
    · exact ag_of (r244 hAD) (by omega) rfl ⟨rfl, okI (by omega) (by omega), okI (by omega) (by omega), okI (by omega) (by omega), trivial⟩ hG (pre1 hm (by omega) (by omega)) rfl rfl (by omega) (by omega) (Or.inr ⟨n.toInt.toNat, fr.toInt.toNat, 2, m.toNat, natI (by omega), natI (by omega), (by rw [show ((2 : Nat) : Int) = fo.toInt by omega, Int32.ofInt_toInt]), by omega, by omega, by omega, by omega, by omega, by rw [Int.toNat_of_nonneg h5.1]; exact hm⟩)
    · exact ag_of (r247 hAD) (by omega) rfl ⟨rfl, okI (by omega) (by omega), okI (by omega) (by omega), okI (by omega) (by omega), trivial⟩ hG (pre1 hm (by omega) (by omega)) rfl rfl (by omega) (by omega) (Or.inl (by decide))
  · obtain ⟨m, hm, m0, m1⟩ := cel (j := 3) hG e7 (by omega) (f7 3 (by omega))
    rcases (show m = -1 ∨ (0 ≤ m ∧ m ≤ 8) ∨ 9 ≤ m by omega) with h5 | h5 | h5
    · exact ag_of (r249 hAD) (by omega) rfl ⟨rfl, okI (by omega) (by omega), okI (by omega) (by omega), okI (by omega) (by omega), trivial⟩ hG (pre1 hm (by omega) (by omega)) rfl rfl (by omega) (by omega) (Or.inl (by decide))
    · exact ag_of (r251 hAD) (by omega) rfl ⟨rfl, okI (by omega) (by omega), okI (by omega) (by omega), okI (by omega) (by omega), trivial⟩ hG (pre1 hm (by omega) (by omega)) rfl rfl (by omega) (by omega) (Or.inr ⟨n.toInt.toNat, fr.toInt.toNat, 3, m.toNat, natI (by omega), natI (by omega), (by rw [show ((3 : Nat) : Int) = fo.toInt by omega, Int32.ofInt_toInt]), by omega, by omega, by omega, by omega, by omega, by rw [Int.toNat_of_nonneg h5.1]; exact hm⟩)
    · exact ag_of (r254 hAD) (by omega) rfl ⟨rfl, okI (by omega) (by omega), okI (by omega) (by omega), okI (by omega) (by omega), trivial⟩ hG (pre1 hm (by omega) (by omega)) rfl rfl (by omega) (by omega) (Or.inl (by decide))
theorem gv_no {n : Int32} {d : Nat} {lv : List (Nat × Value)} {w0 w : va_W} (hG : GOK ad tys GG w) (K : KEEP [102, 103, 104] w0 w) : V l D tys A 304 d 0 0 (HP ad tys [102, 103, 104] w0) 0 0 50 lv [] w := V_ipush mi_304_50 (V_retI mi_304_51 (fun h => absurd h (by decide +kernel)) ⟨hG, ⟨_, rfl⟩, K⟩)
theorem gv_ct (hAD : ∀ i : Nat, ad (1000 + i) = D.2 1000 i) (hG : GOK ad tys GG ws) (n fr fo no : Int32) : CT l D tys A 304 4 0 0 [.ref (ad 90), .int n, .int fr, .int fo, .int no] ws (HP ad tys [102, 103, 104] ws) := by
  refine CT_of_V (by omega) (show (5 : Nat) ≤ mML 304 by decide +kernel) ?_
  obtain ⟨d', hd, hct⟩ := ag_ct (l := l) (A := A) hAD hG n fr fo
  have hl : lv_args 0 [Value.ref (ad 90), .int n, .int fr, .int fo, .int no] = [(0, .ref (ad 90)), (1, .int n), (2, .int fr), (3, .int fo), (4, .int no)] := rfl
  rw [hl]
  refine V_aload (v := ad 90) mi_304_0 (by simp) ?_
  refine V_iload (v := n) mi_304_1 (by simp) ?_
  refine V_iload (v := fr) mi_304_2 (by simp) ?_
  refine V_iload (v := fo) mi_304_3 (by simp) ?_
  refine V_callM (As := [.int n, .int fr, .int fo]) (st := []) mi_304_4 (by omega) (by decide +kernel) (by decide +kernel) hG hct (by omega) (show 3 = mN 301 by decide +kernel) (by simp) ?_
  rintro r w ⟨G, F, z, rfl, z6, z0, hz⟩
  refine V_istore mi_304_7 ?_
  have m5 : (5, Value.int (Int32.ofInt z)) ∈ stL 5 (.int (Int32.ofInt z)) [(0, .ref (ad 90)), (1, .int n), (2, .int fr), (3, .int fo), (4, .int no)] := by simp [stL]
  refine V_iload (v := Int32.ofInt z) mi_304_9 m5 ?_
  have hc : cdP 3 (Int32.ofInt z) 0 ↔ cdZ 3 (z - 0) := cdP_iff (x := 3) (a := z) (b := 0) (by omega) (by omega) (by omega) (by omega)
  refine V_if mi_304_11 (fun hge => ?_) (fun _ => ?_)
  · have hge : 0 ≤ z - 0 := hc.mp hge
    rcases hz with hz | ⟨N, R, Fo, m, rfl, rfl, rfl, hN1, hN, hR, hF, hm, hM⟩
    · omega
    have hM := (F.1 107 (by simp) Fo).trans hM
    have h2m : 2 ^ m ≤ 256 := by
      have q := List.all_eq_true.mp all_m m (List.mem_range.mpr (by omega))
      simp only [Bool.and_eq_true, decide_eq_true_eq] at q
      exact q.2
    refine V_aload (v := ad 90) mi_304_17 (by simp [stL, Value.category]) ?_
    refine V_iload (v := Int32.ofInt (N : Int)) mi_304_18 (by simp [stL, Value.category]) ?_
    refine V_iload (v := Int32.ofInt (R : Int)) mi_304_19 (by simp [stL, Value.category]) ?_
    refine V_iload (v := Int32.ofInt (Fo : Int)) mi_304_20 (by simp [stL, Value.category]) ?_
    refine V_callM (As := [.int (Int32.ofInt (N : Int)), .int (Int32.ofInt (R : Int)), .int (Int32.ofInt (Fo : Int))]) (st := []) mi_304_21 (by omega) (by decide +kernel) (by decide +kernel) G (fillGive_ct hAD hN hR hF hm hM G) (by omega) (show 3 = mN 302 by decide +kernel) (by simp) ?_
    rintro r w2 ⟨rfl, hI⟩
    have K2 : KEEP [102, 103, 104] ws w2 := KEEP_tr (m2 := [102, 103, 104]) ⟨fun c _ j => F.1 c (by simp) j, F.2.2.2⟩ (KEEP_F hI.2.1) (fun _ h => h)
    obtain ⟨p, p1, p2, p3, -⟩ := hI.2.2.2.1 0 0 (Nat.le_refl _) (by omega) (Nat.two_pow_pos m)
    obtain ⟨s4, e104, f104⟩ := gc104
    refine V_aload (v := ad 90) mi_304_24 (by simp [stL, Value.category]) ?_
    refine V_getR mi_304_25 gf28 (by omega) hI.1 ?_
    refine V_ipush mi_304_28 ?_
    refine V_aldX (j := 0) mi_304_29 rfl hI.1 e104 (by omega) (by omega) p1 ?_
    refine V_ipush mi_304_30 ?_
    have hc2 := cdP_iff (x := 3) (a := p) (b := 1000000) (by omega) (by omega) (by omega) (by omega)
    refine V_icmp mi_304_33 (fun _ => gv_no (n := no) hI.1 K2) (fun hlt => ?_)
    have hlt : ¬ (0 ≤ p - 1000000) := fun q => hlt (hc2.mpr q)
    have no1 := Int32.le_toInt no
    have no2 := Int32.toInt_lt no
    refine V_iload (v := no) mi_304_36 (by simp [stL, Value.category]) ?_
    refine V_i2l mi_304_38 ?_
    refine V_lpush mi_304_39 ?_
    refine V_iload (v := Int32.ofInt (N : Int)) mi_304_40 (by simp [stL, Value.category]) ?_
    refine V_ipush mi_304_41 ?_
    refine V_ibin mi_304_42 (by omega) ?_
    rw [show ibF 1 (Int32.ofInt (N : Int)) (Int32.ofInt 1) = Int32.ofInt ((N : Int) - 1) by show Int32.ofInt (N : Int) - Int32.ofInt 1 = _; rw [← Int32.ofInt_sub]]
    refine V_i2l mi_304_43 ?_
    have el : no.toInt64 = Int64.ofInt no.toInt := by
      have q := Int32.toInt64_ofInt (n := no.toInt) (by show -2147483648 ≤ _; omega) (by show _ ≤ 2147483647; omega)
      rw [Int32.ofInt_toInt] at q
      exact q
    rw [el, Int32.toInt64_ofInt (n := (N : Int) - 1) (by show -2147483648 ≤ _; omega) (by show _ ≤ 2147483647; omega)]
    refine V_stat (As := [.long (Int64.ofInt no.toInt), .long (Int64.ofInt 0), .long (Int64.ofInt ((N : Int) - 1))]) (st := []) mi_304_44 (by omega) (in_ct (by omega) (by omega) (by omega) (by omega) (by omega) (by omega)) (by omega) (show 3 = mN 193 by decide +kernel) (by simp) ⟨Nat.le_refl _, Nat.le_refl _⟩ ?_
    rintro r w3 ⟨rfl, hr⟩
    rcases hr with ⟨rfl, i0, i1⟩ | rfl
    · refine V_if mi_304_47 (fun _ => ?_) (fun h => absurd (show (1 : Int32) ≠ 0 by decide) h)
      refine V_ipush mi_304_52 ?_
      refine V_istore mi_304_53 ?_
      refine V_ipush mi_304_55 ?_
      refine V_istore mi_304_56 ?_
      refine V_ipush mi_304_58 ?_
      refine V_istore mi_304_59 ?_
      have en := natI i0
      refine V_sub (lv' := LG9 ad (Int32.ofInt (N : Int)) (Int32.ofInt (R : Int)) (Int32.ofInt (Fo : Int)) (Int32.ofInt z) no.toInt.toNat 0 0 0) (fun q hq => ?_) (gv_k hAD (by omega) h2m hN (i := no.toInt.toNat) (by omega) (fun z w hw => ⟨hw.1, ⟨z, rfl⟩, KEEP_tr (m2 := [102, 103, 104]) ⟨fun c _ j => F.1 c (by simp) j, F.2.2.2⟩ (KEEP_F hw.2.1) (fun _ h => h)⟩) (no.toInt.toNat + 2) 0 0 0 _ (by omega) (by omega) (Nat.two_pow_pos m) hI ⟨p, p1, p2, by omega⟩)
      simp only [LG9, List.mem_cons, List.not_mem_nil, or_false] at hq
      rw [← en] at hq
      rcases hq with h | h | h | h | h | h | h | h | h <;> simp [h, stL, Value.category]
    · exact V_if mi_304_47 (fun h => absurd (show (0 : Int32) = 0 from rfl) h) (fun _ => gv_no (n := no) hI.1 K2)
  · refine V_iload (v := Int32.ofInt z) mi_304_14 m5 ?_
    exact V_retI mi_304_16 (fun h => absurd h (by decide +kernel)) ⟨G, ⟨_, rfl⟩, fun c _ j => F.1 c (by simp) j, F.2.2.2⟩
end GVH
