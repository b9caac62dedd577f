section PAS
variable {l : Launch} {D : va_G} {tys : List (ClassId × FieldType)} {A : Nat → Prop} {ad : Nat → Nat} {ws : va_W} {k d : Nat} {post : Option Value → va_W → Prop} {pc : Nat} {lv : List (Nat × Value)} {st : List Value} {a : Int} {x y z : Nat}
theorem V_laldI {c n j : Nat} {segs : List SG} {ix : Int32} (hi : mI k pc = (19, a, 2, y, z)) (hix : ix = Int32.ofInt (j : Int)) (hG : GOK ad tys GG ws) (hg : GG[c]? = some ((2, 3, n), segs)) (hj : j < n) (hn : n ≤ 100000) (kk : ∀ q : Int64, V l D tys A k d 0 0 post 0 0 (pc + 1) lv (.long q :: st) ws) : V l D tys A k d 0 0 post 0 0 pc lv (.int ix :: .ref (ad c) :: st) ws := by
  subst hix
  obtain ⟨e, b1, b2, b3⟩ := hG c _ hg
  obtain ⟨cA, f, rfl, c1⟩ := b2
  exact V_lald hi b1 c1 (ix_in hj hn).1 (kk _)
theorem V_lastI {c n j : Nat} {segs : List SG} {ix : Int32} {q : Int64} (hi : mI k pc = (20, a, 2, y, z)) (hix : ix = Int32.ofInt (j : Int)) (hG : GOK ad tys GG ws) (hg : GG[c]? = some ((2, 3, n), segs)) (hj : j < n) (hn : n ≤ 100000) (hs : segAt segs j = some (1, -9223372036854775808, 9223372036854775807)) (kk : ∀ w : va_W, GOK ad tys GG w → Upd1 ws w c j (.long q) → V l D tys A k d 0 0 post 0 0 (pc + 1) lv st w) : V l D tys A k d 0 0 post 0 0 pc lv (.long q :: .int ix :: .ref (ad c) :: st) ws := by
  subst hix
  obtain ⟨e, b1, b2, b3⟩ := hG c _ hg
  obtain ⟨cA, f, rfl, c1⟩ := b2
  refine V_last hi b1 c1 (ix_in hj hn).1 ?_
  rw [(ix_in hj hn).2]
  have q1 := Int64.le_toInt q
  have q2 := Int64.toInt_lt q
  have hu := GOK_upd (j := j) (v := .long q) (e' := .inl (cA, n, .inr (.inl (vp_updL f j q)))) hG hg b1 ⟨cA, _, rfl, c1⟩ (fun j' => by
    show (if j' < n then some (Value.long (vp_updL f j q j')) else none) = if j' = j then some (Value.long q) else if j' < n then some (Value.long (f j')) else none
    unfold vp_updL
    by_cases h : j' = j
    · subst h; simp [hj]
    · simp [h]) hs ⟨q.toInt, by rw [Int64.ofInt_toInt], by show (-9223372036854775808 : Int) ≤ q.toInt; omega, by show q.toInt ≤ (9223372036854775807 : Int); omega⟩
  exact kk _ hu.1 hu.2
theorem gl109 : ∃ s, GG[109]? = some ((2, 3, 240), s) ∧ ∀ j, j < 240 → segAt s j = some (1, -9223372036854775808, 9223372036854775807) := by
  refine ⟨_, rfl, fun j hj => ?_⟩
  show (bif Nat.blt j 240 then some _ else _) = _
  rw [show Nat.blt j 240 = true from Nat.blt_eq.mpr hj]
  rfl
theorem gl110 : ∃ s, GG[110]? = some ((2, 3, 60), s) ∧ ∀ j, j < 60 → segAt s j = some (1, -9223372036854775808, 9223372036854775807) := by
  refine ⟨_, rfl, fun j hj => ?_⟩
  show (bif Nat.blt j 60 then some _ else _) = _
  rw [show Nat.blt j 60 = true from Nat.blt_eq.mpr hj]
  rfl
theorem gr34 : ∃ g, GG[90]? = some ((0, 11, 36), g) ∧ segAt g 34 = some (2, ((109 : Nat) : Int), ((109 : Nat) : Int)) := ⟨_, rfl, by decide +kernel⟩
theorem gr35 : ∃ g, GG[90]? = some ((0, 11, 36), g) ∧ segAt g 35 = some (2, ((110 : Nat) : Int), ((110 : Nat) : Int)) := ⟨_, rfl, by decide +kernel⟩
theorem wid_ct {v m : Int32} (hv : SL v) (hG : GOK ad tys GG ws) (hm : rd ws 41 v.toInt.toNat = some (.int m)) : CT l D tys A 163 1 0 0 [.ref (ad 39), .int v] ws (fun r w => w = ws ∧ r = some (.int m)) := by
  refine CT_of_V (by omega) (show (2 : Nat) ≤ mML 163 by decide +kernel) ?_
  obtain ⟨ev, sv⟩ := sl_nat hv
  obtain ⟨s39, e39, t1, t2⟩ := gx39
  obtain ⟨s41, e41, f41⟩ := gx41
  have lvs : lv_args 0 [Value.ref (ad 39), .int v] = [(0, .ref (ad 39)), (1, .int v)] := rfl
  rw [lvs]
  refine V_aload (v := ad 39) mi_163_0 (by simp) ?_
  refine V_getO mi_163_1 hG e39 (rrO e39 t1 (by omega) hG) ?_
  refine V_iload (v := v) mi_163_4 (by simp) ?_
  refine V_stat (As := [.ref (ad 41), .int v]) (st := []) mi_163_5 (by omega) (by rw [ev]; exact at_ct hG e41 sv (by omega) hm) (by omega) (show 2 = mN 147 by decide +kernel) (by simp) ⟨Nat.le_refl _, Nat.le_refl _⟩ ?_
  rintro r w ⟨rfl, rfl⟩
  exact V_retI mi_163_8 (fun h => absurd h (by decide +kernel)) ⟨rfl, rfl⟩
theorem ladd_ {u v : Int} : lbF 0 (Int64.ofInt u) (Int64.ofInt v) = Int64.ofInt (u + v) := by
  show Int64.ofInt u + Int64.ofInt v = _
  rw [← Int64.ofInt_add]
noncomputable abbrev RG (i n m : Int32) : Prop := 0 ≤ i.toInt ∧ 0 ≤ n.toInt ∧ i.toInt + n.toInt ≤ m.toInt
theorem nl0 {v : Int32} (h : ¬ cdP 2 v 0) : 0 ≤ v.toInt := by
  rcases Int.lt_or_le v.toInt 0 with q | q
  · exact absurd (cmp_l.mpr (show v.toInt < (0 : Int32).toInt from q)) h
  · exact q
theorem l0 {v : Int32} (h : cdP 2 v 0) : v.toInt < 0 := cmp_l.mp h
theorem ran_ct {v i n m : Int32} (hv : SL v) (hG : GOK ad tys GG ws) (hm : rd ws 42 v.toInt.toNat = some (.int m)) : CT l D tys A 168 2 0 0 [.ref (ad 39), .int v, .int i, .int n] ws (fun r w => w = ws ∧ r = some (.int (bI (decide (RG i n m))))) := by
  refine CT_of_V (by omega) (show (4 : Nat) ≤ mML 168 by decide +kernel) ?_
  obtain ⟨s39, e39, t1, t2⟩ := gx39
  have lvs : lv_args 0 [Value.ref (ad 39), .int v, .int i, .int n] = [(0, .ref (ad 39)), (1, .int v), (2, .int i), (3, .int n)] := rfl
  rw [lvs]
  have no : ¬ RG i n m → V l D tys A 168 2 0 0 (fun r w => w = ws ∧ r = some (.int (bI (decide (RG i n m))))) 0 0 27 [(0, .ref (ad 39)), (1, .int v), (2, .int i), (3, .int n)] [] ws := fun h => V_ipush mi_168_27 (V_retI mi_168_28 (fun _ => by decide) ⟨rfl, by rw [decide_eq_false h]; rfl⟩)
  have i1 := Int32.le_toInt i
  have i2 := Int32.toInt_lt i
  have n1 := Int32.le_toInt n
  have n2 := Int32.toInt_lt n
  have m1 := Int32.le_toInt m
  have m2 := Int32.toInt_lt m
  refine V_iload (v := i) mi_168_0 (by simp) ?_
  refine V_if mi_168_1 (fun h => no (fun q => by have := l0 h; have := q.1; omega)) (fun h1 => ?_)
  have h1 := nl0 h1
  refine V_iload (v := n) mi_168_4 (by simp) ?_
  refine V_if mi_168_5 (fun h => no (fun q => by have := l0 h; have := q.2.1; omega)) (fun h2 => ?_)
  have h2 := nl0 h2
  refine V_iload (v := i) mi_168_8 (by simp) ?_
  refine V_i2l mi_168_9 ?_
  refine V_iload (v := n) mi_168_10 (by simp) ?_
  refine V_i2l mi_168_11 ?_
  refine V_lbin mi_168_12 (by omega) ?_
  rw [el_, el_, ladd_]
  refine V_aload (v := ad 39) mi_168_13 (by simp) ?_
  refine V_iload (v := v) mi_168_14 (by simp) ?_
  refine V_callO (c := 39) (As := [.int v]) (st := [.long (Int64.ofInt (i.toInt + n.toInt))]) mi_168_15 (by omega) (by decide +kernel) (show mCi 162 = 7 by decide +kernel) (by omega) e39 hG (size_ct hv hG hm) (by omega) (show 1 = mN 162 by decide +kernel) (by simp [Value.category]) ?_
  rintro r w ⟨rfl, rfl⟩
  refine V_i2l mi_168_18 ?_
  rw [el_]
  refine V_lcmp mi_168_19 ?_
  have hc := cdL_iff (x := 4) (a := i.toInt + n.toInt) (b := m.toInt) (by omega) (by omega) (by omega) (by omega)
  refine V_if mi_168_20 (fun h => no (fun q => by have : i.toInt + n.toInt - m.toInt > 0 := hc.mp h; have := q.2.2; omega)) (fun h3 => ?_)
  have h3 : i.toInt + n.toInt ≤ m.toInt := by
    have : ¬ (i.toInt + n.toInt - m.toInt > 0) := fun q => h3 (hc.mpr q)
    omega
  refine V_ipush mi_168_23 ?_
  refine V_goto mi_168_24 ?_
  exact V_retI mi_168_28 (fun _ => by decide) ⟨rfl, by rw [decide_eq_true (show RG i n m from ⟨h1, h2, h3⟩)]; rfl⟩
noncomputable def cSh : CR := (169, [(2, 39, 39), (0, 0, 3), (0, 0, 60), (0, 0, 3), (0, 0, 60), (0, 0, 60)], [], none, [], [40])
theorem mSh : vrf GG [] [] 600 4 cSh [(3, [(0, 3), (0, 60), (0, 3), (0, 60), (0, 60), (0, 60)], [(0, rA 39), (1, iA (0, [(1, 0)])), (2, iA (0, [(1, 1)])), (3, iA (0, [(1, 2)])), (4, iA (0, [(1, 3)])), (5, iA (0, [(1, 4)])), (6, iA (0, [(1, 5)]))], [], [], (61, [((-1), 5)]))] = true := by decide +kernel
noncomputable def paV (v i t q n m1 m2 w1 w2 : Int32) : Int := if SL v ∧ SL t then (if m1.toInt < 0 ∨ m2.toInt < 0 then -6 else if w1 ≠ w2 then -8 else if RG i n m1 ∧ RG q n m2 then 0 else -7) else -2
theorem pastex_ct (hAD : ∀ i : Nat, ad (1000 + i) = D.2 1000 i) (v i t q n : Int32) {m1 m2 w1 w2 : Int32} (hm1 : SL v → rd ws 42 v.toInt.toNat = some (.int m1)) (hm2 : SL t → rd ws 42 t.toInt.toNat = some (.int m2)) (hw1 : SL v → rd ws 41 v.toInt.toNat = some (.int w1)) (hw2 : SL t → rd ws 41 t.toInt.toNat = some (.int w2)) (hG : GOK ad tys GG ws) : CT l D tys A 72 6 0 0 [.ref (ad 0), .int v, .int i, .int t, .int q, .int n] ws (fun r w => r = some (.int (Int32.ofInt (paV v i t q n m1 m2 w1 w2))) ∧ GOK ad tys GG w ∧ FRm [40] ws w) := by
  refine CT_of_V (by omega) (show (6 : Nat) ≤ mML 72 by decide +kernel) ?_
  obtain ⟨s0, e0, t7, -⟩ := gx0
  obtain ⟨s39, e39, -, -⟩ := gx39
  have lvs : lv_args 0 [Value.ref (ad 0), .int v, .int i, .int t, .int q, .int n] = [(0, .ref (ad 0)), (1, .int v), (2, .int i), (3, .int t), (4, .int q), (5, .int n)] := rfl
  rw [lvs]
  have no2 : ¬ (SL v ∧ SL t) → V l D tys A 72 6 0 0 (fun r w => r = some (.int (Int32.ofInt (paV v i t q n m1 m2 w1 w2))) ∧ GOK ad tys GG w ∧ FRm [40] ws w) 0 0 22 [(0, .ref (ad 0)), (1, .int v), (2, .int i), (3, .int t), (4, .int q), (5, .int n)] [] ws := fun h => V_ipush mi_72_22 (V_retI mi_72_24 (fun h => absurd h (by decide +kernel)) ⟨by unfold paV; rw [if_neg h], hG, FRm_rf⟩)
  refine V_aload (v := ad 0) mi_72_0 (by simp) ?_
  refine V_getO mi_72_1 hG e0 (rrO e0 t7 (by omega) hG) ?_
  refine V_iload (v := v) mi_72_4 (by simp) ?_
  refine V_callO (c := 39) (As := [.int v]) (st := []) mi_72_5 (by omega) (by decide +kernel) (show mCi 160 = 7 by decide +kernel) (by omega) e39 hG (has_ct v) (by omega) (show 1 = mN 160 by decide +kernel) (by simp) ?_
  rintro r w ⟨rfl, rfl⟩
  by_cases hv : SL v
  case neg =>
    rw [decide_eq_false hv]
    exact V_if mi_72_8 (fun _ => no2 (fun z => hv z.1)) (fun h => absurd (show (0 : Int32) = 0 from rfl) h)
  rw [decide_eq_true hv]
  refine V_if mi_72_8 (fun h => absurd (show (1 : Int32) = 0 from h) (by decide)) (fun _ => ?_)
  refine V_aload (v := ad 0) mi_72_11 (by simp) ?_
  refine V_getO mi_72_12 hG e0 (rrO e0 t7 (by omega) hG) ?_
  refine V_iload (v := t) mi_72_15 (by simp) ?_
  refine V_callO (c := 39) (As := [.int t]) (st := []) mi_72_16 (by omega) (by decide +kernel) (show mCi 160 = 7 by decide +kernel) (by omega) e39 hG (has_ct t) (by omega) (show 1 = mN 160 by decide +kernel) (by simp) ?_
  rintro r w ⟨rfl, rfl⟩
  by_cases ht : SL t
  case neg =>
    rw [decide_eq_false ht]
    exact V_if mi_72_19 (fun h => absurd (show (0 : Int32) = 0 from rfl) h) (fun _ => no2 (fun z => ht z.2))
  rw [decide_eq_true ht]
  refine V_if mi_72_19 (fun _ => ?_) (fun h => absurd (show (1 : Int32) ≠ 0 by decide) h)
  have hm1 := hm1 hv
  have hm2 := hm2 ht
  have hw1 := hw1 hv
  have hw2 := hw2 ht
  have no6 : m1.toInt < 0 ∨ m2.toInt < 0 → V l D tys A 72 6 0 0 (fun r w' => r = some (.int (Int32.ofInt (paV v i t q n m1 m2 w1 w2))) ∧ GOK ad tys GG w' ∧ FRm [40] w w') 0 0 47 [(0, .ref (ad 0)), (1, .int v), (2, .int i), (3, .int t), (4, .int q), (5, .int n)] [] w := fun h => V_ipush mi_72_47 (V_retI mi_72_49 (fun h => absurd h (by decide +kernel)) ⟨by unfold paV; rw [if_pos ⟨hv, ht⟩, if_pos h], hG, FRm_rf⟩)
  refine V_aload (v := ad 0) mi_72_25 (by simp) ?_
  refine V_getO mi_72_26 hG e0 (rrO e0 t7 (by omega) hG) ?_
  refine V_iload (v := v) mi_72_29 (by simp) ?_
  refine V_callO (c := 39) (As := [.int v]) (st := []) mi_72_30 (by omega) (by decide +kernel) (show mCi 161 = 7 by decide +kernel) (by omega) e39 hG (bare_ct hv hG hm1) (by omega) (show 1 = mN 161 by decide +kernel) (by simp) ?_
  rintro r w ⟨rfl, rfl⟩
  by_cases hb1 : m1.toInt < 0
  · rw [decide_eq_true hb1]
    exact V_if mi_72_33 (fun _ => no6 (Or.inl hb1)) (fun h => absurd (show (1 : Int32) ≠ 0 by decide) h)
  rw [decide_eq_false hb1]
  refine V_if mi_72_33 (fun h => absurd (show (0 : Int32) = 0 from rfl) h) (fun _ => ?_)
  refine V_aload (v := ad 0) mi_72_36 (by simp) ?_
  refine V_getO mi_72_37 hG e0 (rrO e0 t7 (by omega) hG) ?_
  refine V_iload (v := t) mi_72_40 (by simp) ?_
  refine V_callO (c := 39) (As := [.int t]) (st := []) mi_72_41 (by omega) (by decide +kernel) (show mCi 161 = 7 by decide +kernel) (by omega) e39 hG (bare_ct ht hG hm2) (by omega) (show 1 = mN 161 by decide +kernel) (by simp) ?_
  rintro r w ⟨rfl, rfl⟩
  by_cases hb2 : m2.toInt < 0
  · rw [decide_eq_true hb2]
    exact V_if mi_72_44 (fun h => absurd (show (1 : Int32) = 0 from h) (by decide)) (fun _ => no6 (Or.inr hb2))
  rw [decide_eq_false hb2]
  refine V_if mi_72_44 (fun _ => ?_) (fun h => absurd (show (0 : Int32) = 0 from rfl) h)
  have hb : ¬ (m1.toInt < 0 ∨ m2.toInt < 0) := by omega
  refine V_aload (v := ad 0) mi_72_50 (by simp) ?_
  refine V_getO mi_72_51 hG e0 (rrO e0 t7 (by omega) hG) ?_
  refine V_iload (v := v) mi_72_54 (by simp) ?_
  refine V_callO (c := 39) (As := [.int v]) (st := []) mi_72_55 (by omega) (by decide +kernel) (show mCi 163 = 7 by decide +kernel) (by omega) e39 hG (wid_ct hv hG hw1) (by omega) (show 1 = mN 163 by decide +kernel) (by simp) ?_
  rintro r w ⟨rfl, rfl⟩
  refine V_aload (v := ad 0) mi_72_58 (by simp) ?_
  refine V_getO mi_72_59 hG e0 (rrO e0 t7 (by omega) hG) ?_
  refine V_iload (v := t) mi_72_62 (by simp) ?_
  refine V_callO (c := 39) (As := [.int t]) (st := [.int w1]) mi_72_63 (by omega) (by decide +kernel) (show mCi 163 = 7 by decide +kernel) (by omega) e39 hG (wid_ct ht hG hw2) (by omega) (show 1 = mN 163 by decide +kernel) (by simp [Value.category]) ?_
  rintro r w ⟨rfl, rfl⟩
  refine V_icmp mi_72_66 (fun hw => ?_) (fun hw => ?_)
  rotate_left
  · have hw : w1 ≠ w2 := hw
    refine V_ipush mi_72_69 ?_
    exact V_retI mi_72_71 (fun h => absurd h (by decide +kernel)) ⟨by unfold paV; rw [if_pos ⟨hv, ht⟩, if_neg hb, if_pos hw], hG, FRm_rf⟩
  have hw : w1 = w2 := hw
  have hw' : ¬ (w1 ≠ w2) := fun z => z hw
  have no7 : ¬ (RG i n m1 ∧ RG q n m2) → V l D tys A 72 6 0 0 (fun r w' => r = some (.int (Int32.ofInt (paV v i t q n m1 m2 w1 w2))) ∧ GOK ad tys GG w' ∧ FRm [40] w w') 0 0 101 [(0, .ref (ad 0)), (1, .int v), (2, .int i), (3, .int t), (4, .int q), (5, .int n)] [] w := fun h => V_ipush mi_72_101 (V_retI mi_72_103 (fun h => absurd h (by decide +kernel)) ⟨by unfold paV; rw [if_pos ⟨hv, ht⟩, if_neg hb, if_neg hw', if_neg h], hG, FRm_rf⟩)
  refine V_aload (v := ad 0) mi_72_72 (by simp) ?_
  refine V_getO mi_72_73 hG e0 (rrO e0 t7 (by omega) hG) ?_
  refine V_iload (v := v) mi_72_76 (by simp) ?_
  refine V_iload (v := i) mi_72_77 (by simp) ?_
  refine V_iload (v := n) mi_72_78 (by simp) ?_
  refine V_callO (c := 39) (As := [.int v, .int i, .int n]) (st := []) mi_72_80 (by omega) (by decide +kernel) (show mCi 168 = 7 by decide +kernel) (by omega) e39 hG (ran_ct hv hG hm1) (by omega) (show 3 = mN 168 by decide +kernel) (by simp) ?_
  rintro r w ⟨rfl, rfl⟩
  by_cases hr1 : RG i n m1
  case neg =>
    rw [decide_eq_false hr1]
    exact V_if mi_72_83 (fun _ => no7 (fun z => hr1 z.1)) (fun h => absurd (show (0 : Int32) = 0 from rfl) h)
  rw [decide_eq_true hr1]
  refine V_if mi_72_83 (fun h => absurd (show (1 : Int32) = 0 from h) (by decide)) (fun _ => ?_)
  refine V_aload (v := ad 0) mi_72_86 (by simp) ?_
  refine V_getO mi_72_87 hG e0 (rrO e0 t7 (by omega) hG) ?_
  refine V_iload (v := t) mi_72_90 (by simp) ?_
  refine V_iload (v := q) mi_72_91 (by simp) ?_
  refine V_iload (v := n) mi_72_93 (by simp) ?_
  refine V_callO (c := 39) (As := [.int t, .int q, .int n]) (st := []) mi_72_95 (by omega) (by decide +kernel) (show mCi 168 = 7 by decide +kernel) (by omega) e39 hG (ran_ct ht hG hm2) (by omega) (show 3 = mN 168 by decide +kernel) (by simp) ?_
  rintro r w ⟨rfl, rfl⟩
  by_cases hr2 : RG q n m2
  case neg =>
    rw [decide_eq_false hr2]
    exact V_if mi_72_98 (fun h => absurd (show (0 : Int32) = 0 from rfl) h) (fun _ => no7 (fun z => hr2 z.2))
  rw [decide_eq_true hr2]
  refine V_if mi_72_98 (fun _ => ?_) (fun h => absurd (show (1 : Int32) ≠ 0 by decide) h)
  obtain ⟨s42, e42, f42⟩ := gx42
  have bd : ∀ {u m : Int32}, SL u → rd w 42 u.toInt.toNat = some (.int m) → m.toInt ≤ 60 := by
    intro u m hu hm
    obtain ⟨zz, hz, z1, z2⟩ := cel (j := u.toInt.toNat) hG e42 (sl_nat hu).2 (f42 _ (sl_nat hu).2)
    rw [hm] at hz
    have q := congrArg Int32.toInt (Value.int.inj (Option.some.inj hz))
    rw [tIi zz (by omega) (by omega)] at q
    omega
  have bd1 := bd hv hm1
  have bd2 := bd ht hm2
  obtain ⟨p1, p2, p3⟩ := hr1
  obtain ⟨p4, p5, p6⟩ := hr2
  refine V_aload (v := ad 0) mi_72_104 (by simp) ?_
  refine V_getO mi_72_105 hG e0 (rrO e0 t7 (by omega) hG) ?_
  refine V_iload (v := v) mi_72_108 (by simp) ?_
  refine V_iload (v := i) mi_72_109 (by simp) ?_
  refine V_iload (v := t) mi_72_110 (by simp) ?_
  refine V_iload (v := q) mi_72_111 (by simp) ?_
  refine V_iload (v := n) mi_72_113 (by simp) ?_
  obtain ⟨d', k1, k2⟩ := CR_of_vrf (l := l) (tys := tys) (A := A) (dep := 4) hAD (fun c hc => by cases hc) T2OK_nil mSh [.ref (ad 39), .int v, .int i, .int t, .int q, .int n] w ⟨rfl, okI hv.1 hv.2, okI p1 (by omega), okI ht.1 ht.2, okI p4 (by omega), okI p2 (by omega), trivial⟩ hG (fun q hq => by cases hq)
  refine V_callO (c := 39) (As := [.int v, .int i, .int t, .int q, .int n]) (st := []) mi_72_115 (by omega) (by decide +kernel) (show mCi 169 = 7 by decide +kernel) (by omega) e39 hG k2 (by omega) (show 5 = mN 169 by decide +kernel) (by simp) ?_
  rintro r w2 ⟨G2, F2, g3, -⟩
  cases r with
  | some v => exact g3.elim
  | none =>
    refine V_ipush mi_72_118 ?_
    exact V_retI mi_72_119 (fun h => absurd h (by decide +kernel)) ⟨by unfold paV; rw [if_pos ⟨hv, ht⟩, if_neg hb, if_neg hw', if_pos ⟨⟨p1, p2, p3⟩, p4, p5, p6⟩], G2, F2⟩
end PAS
section PAT
variable {l : Launch} {D : va_G} {tys : List (ClassId × FieldType)} {A : Nat → Prop} {ad : Nat → Nat} {ws : va_W}
noncomputable def LPa (ad : Nat → Nat) (v i t q n : Int32) (x : Nat) : List (Nat × Value) := [(0, .ref (ad 90)), (1, .int v), (2, .int i), (3, .int t), (4, .int q), (5, .int n), (6, .int (Int32.ofInt (x : Int)))]
theorem ge_ {x : Nat} {n : Int32} (hx : x ≤ 1000) : cdP 3 (Int32.ofInt (x : Int)) n ↔ n.toInt ≤ x := by
  rw [cmp_g, tIi (x : Int) (by omega) (by omega)]
theorem idx3 {v i : Int32} {x : Nat} (hv : SL v) (h0 : 0 ≤ i.toInt) (h1 : i.toInt + x < 60) : ibF 0 (ibF 0 (ibF 2 (Int32.ofInt 60) v) i) (Int32.ofInt (x : Int)) = Int32.ofInt (((60 * v.toInt + i.toInt + x).toNat : Nat) : Int) := by
  obtain ⟨a, b⟩ := hv
  have e1 : v = Int32.ofInt v.toInt := by rw [Int32.ofInt_toInt]
  have e2 : i = Int32.ofInt i.toInt := by rw [Int32.ofInt_toInt]
  rw [Int.toNat_of_nonneg (by omega)]
  show Int32.ofInt 60 * v + i + Int32.ofInt (x : Int) = _
  conv => lhs; rw [e1, e2]
  rw [← Int32.ofInt_mul, ← Int32.ofInt_add, ← Int32.ofInt_add]
theorem pm_2 {p0 : Int} {w0 : va_W} {v i t q n : Int32} (hv : SL v) (ht : SL t) (q0 : 0 ≤ q.toInt) (n0 : 0 ≤ n.toInt) (qn : q.toInt + n.toInt ≤ 60) : ∀ (f x : Nat) (w : va_W), n.toInt - x < (f : Int) → (x : Int) ≤ n.toInt → GOK ad tys GG w → FRm [109, 110] w0 w → V l D tys A 340 2 0 0 (fun r w' => r = some (.int (Int32.ofInt 0)) ∧ GOK ad tys GG w' ∧ FRm [109, 110] w0 w') 0 0 150 (LPa ad v i t q n x) [] w
  | 0, x, w, h, hx, _, _ => by omega
  | f + 1, x, w, h, hx, G, F => by
    obtain ⟨s9, e9, f9⟩ := gl109
    obtain ⟨s10, e10, f10⟩ := gl110
    refine V_iload (v := Int32.ofInt (x : Int)) mi_340_150 (by simp [LPa]) ?_
    refine V_iload (v := n) mi_340_152 (by simp [LPa]) ?_
    refine V_icmp mi_340_154 (fun _ => ?_) (fun hlt => ?_)
    · refine V_ipush mi_340_185 ?_
      exact V_retI mi_340_186 (fun h => absurd h (by decide +kernel)) ⟨rfl, G, F⟩
    have hlt : (x : Int) < n.toInt := by
      rcases Int.lt_or_le (x : Int) n.toInt with z | z
      · exact z
      · exact absurd ((ge_ (by omega)).mpr z) hlt
    refine V_aload (v := ad 90) mi_340_157 (by simp [LPa]) ?_
    refine V_getR mi_340_158 gr34 (by omega) G ?_
    refine V_ipush mi_340_161 ?_
    refine V_iload (v := t) mi_340_163 (by simp [LPa]) ?_
    refine V_ibin mi_340_164 (by omega) ?_
    refine V_iload (v := q) mi_340_165 (by simp [LPa]) ?_
    refine V_ibin mi_340_167 (by omega) ?_
    refine V_iload (v := Int32.ofInt (x : Int)) mi_340_168 (by simp [LPa]) ?_
    refine V_ibin mi_340_170 (by omega) ?_
    refine V_aload (v := ad 90) mi_340_171 (by simp [LPa]) ?_
    refine V_getR mi_340_172 gr35 (by omega) G ?_
    refine V_iload (v := Int32.ofInt (x : Int)) mi_340_175 (by simp [LPa]) ?_
    refine V_laldI (j := x) mi_340_177 rfl G e10 (by omega) (by omega) (fun u => ?_)
    have hj : (60 * t.toInt + q.toInt + x).toNat < 240 := by have := ht.1; have := ht.2; omega
    refine V_lastI (j := (60 * t.toInt + q.toInt + x).toNat) mi_340_178 (idx3 ht q0 (by omega)) G e9 hj (by omega) (f9 _ hj) (fun w2 G2 U2 => ?_)
    refine V_iinc (v := Int32.ofInt (x : Int)) mi_340_179 (by simp [LPa]) ?_
    refine V_goto mi_340_182 ?_
    refine V_sub (lv' := LPa ad v i t q n (x + 1)) (fun p hp => ?_) (pm_2 (p0 := p0) hv ht q0 n0 qn f (x + 1) w2 (by omega) (by omega) G2 (FRm_upd F U2 (by simp) (n8c (by omega))))
    simp only [LPa, List.mem_cons, List.not_mem_nil, or_false] at hp
    rcases hp with h | h | h | h | h | h | h <;> simp [h, LPa, stL, Value.category, Int32.ofInt_add]
theorem pm_1 {w0 : va_W} {v i t q n : Int32} (hv : SL v) (ht : SL t) (i0 : 0 ≤ i.toInt) (q0 : 0 ≤ q.toInt) (n0 : 0 ≤ n.toInt) (hin : i.toInt + n.toInt ≤ 60) (qn : q.toInt + n.toInt ≤ 60) : ∀ (f x : Nat) (w : va_W), n.toInt - x < (f : Int) → (x : Int) ≤ n.toInt → GOK ad tys GG w → FRm [109, 110] w0 w → V l D tys A 340 2 0 0 (fun r w' => r = some (.int (Int32.ofInt 0)) ∧ GOK ad tys GG w' ∧ FRm [109, 110] w0 w') 0 0 113 (LPa ad v i t q n x) [] w
  | 0, x, w, h, hx, _, _ => by omega
  | f + 1, x, w, h, hx, G, F => by
    obtain ⟨s9, e9, f9⟩ := gl109
    obtain ⟨s10, e10, f10⟩ := gl110
    refine V_iload (v := Int32.ofInt (x : Int)) mi_340_113 (by simp [LPa]) ?_
    refine V_iload (v := n) mi_340_115 (by simp [LPa]) ?_
    refine V_icmp mi_340_117 (fun _ => ?_) (fun hlt => ?_)
    · refine V_ipush mi_340_147 ?_
      refine V_istore mi_340_148 ?_
      refine V_sub (lv' := LPa ad v i t q n 0) (fun p hp => ?_) (pm_2 (p0 := 0) hv ht q0 n0 qn 61 0 w (by omega) (by omega) G F)
      simp only [LPa, List.mem_cons, List.not_mem_nil, or_false] at hp
      rcases hp with h | h | h | h | h | h | h <;> simp [h, LPa, stL, Value.category]
    have hlt : (x : Int) < n.toInt := by
      rcases Int.lt_or_le (x : Int) n.toInt with z | z
      · exact z
      · exact absurd ((ge_ (by omega)).mpr z) hlt
    refine V_aload (v := ad 90) mi_340_120 (by simp [LPa]) ?_
    refine V_getR mi_340_121 gr35 (by omega) G ?_
    refine V_iload (v := Int32.ofInt (x : Int)) mi_340_124 (by simp [LPa]) ?_
    refine V_aload (v := ad 90) mi_340_126 (by simp [LPa]) ?_
    refine V_getR mi_340_127 gr34 (by omega) G ?_
    refine V_ipush mi_340_130 ?_
    refine V_iload (v := v) mi_340_132 (by simp [LPa]) ?_
    refine V_ibin mi_340_133 (by omega) ?_
    refine V_iload (v := i) mi_340_134 (by simp [LPa]) ?_
    refine V_ibin mi_340_135 (by omega) ?_
    refine V_iload (v := Int32.ofInt (x : Int)) mi_340_136 (by simp [LPa]) ?_
    refine V_ibin mi_340_138 (by omega) ?_
    have hj : (60 * v.toInt + i.toInt + x).toNat < 240 := by have := hv.1; have := hv.2; omega
    refine V_laldI (j := (60 * v.toInt + i.toInt + x).toNat) mi_340_139 (idx3 hv i0 (by omega)) G e9 hj (by omega) (fun u => ?_)
    refine V_lastI (j := x) mi_340_140 rfl G e10 (by omega) (by omega) (f10 _ (by omega)) (fun w2 G2 U2 => ?_)
    refine V_iinc (v := Int32.ofInt (x : Int)) mi_340_141 (by simp [LPa]) ?_
    refine V_goto mi_340_144 ?_
    refine V_sub (lv' := LPa ad v i t q n (x + 1)) (fun p hp => ?_) (pm_1 hv ht i0 q0 n0 hin qn f (x + 1) w2 (by omega) (by omega) G2 (FRm_upd F U2 (by simp) (n8c (by omega))))
    simp only [LPa, List.mem_cons, List.not_mem_nil, or_false] at hp
    rcases hp with h | h | h | h | h | h | h <;> simp [h, LPa, stL, Value.category, Int32.ofInt_add]
theorem pastem_ct (v i t q n : Int32) {m1 m2 w1 w2 : Int32} (hm1 : SL v → rd ws 107 v.toInt.toNat = some (.int m1)) (hm2 : SL t → rd ws 107 t.toInt.toNat = some (.int m2)) (hw1 : SL v → rd ws 108 v.toInt.toNat = some (.int w1)) (hw2 : SL t → rd ws 108 t.toInt.toNat = some (.int w2)) (hG : GOK ad tys GG ws) : CT l D tys A 340 2 0 0 [.ref (ad 90), .int v, .int i, .int t, .int q, .int n] ws (fun r w => r = some (.int (Int32.ofInt (paV v i t q n m1 m2 w1 w2))) ∧ GOK ad tys GG w ∧ FRm [109, 110] ws w) := by
  refine CT_of_V (by omega) (show (6 : Nat) ≤ mML 340 by decide +kernel) ?_
  have lvs : lv_args 0 [Value.ref (ad 90), .int v, .int i, .int t, .int q, .int n] = [(0, .ref (ad 90)), (1, .int v), (2, .int i), (3, .int t), (4, .int q), (5, .int n)] := rfl
  rw [lvs]
  have no2 : ¬ (SL v ∧ SL t) → V l D tys A 340 2 0 0 (fun r w => r = some (.int (Int32.ofInt (paV v i t q n m1 m2 w1 w2))) ∧ GOK ad tys GG w ∧ FRm [109, 110] ws w) 0 0 14 [(0, .ref (ad 90)), (1, .int v), (2, .int i), (3, .int t), (4, .int q), (5, .int n)] [] ws := fun h => V_ipush mi_340_14 (V_retI mi_340_16 (fun h => absurd h (by decide +kernel)) ⟨by unfold paV; rw [if_neg h], hG, FRm_rf⟩)
  refine V_iload (v := v) mi_340_0 (by simp) ?_
  refine V_stat (As := [.int v]) (st := []) mi_340_1 (by omega) (slot_ct v) (by omega) (show 1 = mN 336 by decide +kernel) (by simp) ⟨Nat.le_refl _, Nat.le_refl _⟩ ?_
  rintro r w ⟨rfl, rfl⟩
  by_cases hv : SL v
  case neg =>
    rw [decide_eq_false hv]
    exact V_if mi_340_4 (fun _ => no2 (fun z => hv z.1)) (fun h => absurd (show (0 : Int32) = 0 from rfl) h)
  rw [decide_eq_true hv]
  refine V_if mi_340_4 (fun h => absurd (show (1 : Int32) = 0 from h) (by decide)) (fun _ => ?_)
  refine V_iload (v := t) mi_340_7 (by simp) ?_
  refine V_stat (As := [.int t]) (st := []) mi_340_8 (by omega) (slot_ct t) (by omega) (show 1 = mN 336 by decide +kernel) (by simp) ⟨Nat.le_refl _, Nat.le_refl _⟩ ?_
  rintro r w ⟨rfl, rfl⟩
  by_cases ht : SL t
  case neg =>
    rw [decide_eq_false ht]
    exact V_if mi_340_11 (fun h => absurd (show (0 : Int32) = 0 from rfl) h) (fun _ => no2 (fun z => ht z.2))
  rw [decide_eq_true ht]
  refine V_if mi_340_11 (fun _ => ?_) (fun h => absurd (show (1 : Int32) ≠ 0 by decide) h)
  have hm1 := hm1 hv
  have hm2 := hm2 ht
  have hw1 := hw1 hv
  have hw2 := hw2 ht
  obtain ⟨ev, sv⟩ := sl_nat hv
  obtain ⟨et, s_t⟩ := sl_nat ht
  obtain ⟨s7, e7, f7⟩ := gm107
  obtain ⟨s8, e8, f8⟩ := gm108
  have bd : ∀ {u m : Int32}, SL u → rd w 107 u.toInt.toNat = some (.int m) → -1 ≤ m.toInt ∧ m.toInt ≤ 60 := by
    intro u m hu hm
    obtain ⟨zz, hz, z1, z2⟩ := cel (j := u.toInt.toNat) hG e7 (sl_nat hu).2 (f7 _ (sl_nat hu).2)
    rw [hm] at hz
    have q := congrArg Int32.toInt (Value.int.inj (Option.some.inj hz))
    rw [tIi zz (by omega) (by omega)] at q
    omega
  obtain ⟨bd1, bd1'⟩ := bd hv hm1
  obtain ⟨bd2, bd2'⟩ := bd ht hm2
  have no6 : m1.toInt < 0 ∨ m2.toInt < 0 → V l D tys A 340 2 0 0 (fun r w' => r = some (.int (Int32.ofInt (paV v i t q n m1 m2 w1 w2))) ∧ GOK ad tys GG w' ∧ FRm [109, 110] w w') 0 0 37 [(0, .ref (ad 90)), (1, .int v), (2, .int i), (3, .int t), (4, .int q), (5, .int n)] [] w := fun h => V_ipush mi_340_37 (V_retI mi_340_39 (fun h => absurd h (by decide +kernel)) ⟨by unfold paV; rw [if_pos ⟨hv, ht⟩, if_pos h], hG, FRm_rf⟩)
  have em : ∀ {m : Int32}, -1 ≤ m.toInt → m.toInt ≤ 60 → (m = Int32.ofInt (-1) ↔ m.toInt < 0) := by
    intro m h1 h2
    constructor
    · intro h
      rw [h, tIi (-1) (by omega) (by omega)]
      omega
    · intro h
      rw [← Int32.ofInt_toInt m, show m.toInt = -1 by omega]
  refine V_aload (v := ad 90) mi_340_17 (by simp) ?_
  refine V_getR mi_340_18 gr32 (by omega) hG ?_
  refine V_iload (v := v) mi_340_21 (by simp) ?_
  refine V_aldX (j := v.toInt.toNat) mi_340_22 ev hG e7 sv (by omega) hm1 ?_
  refine V_ipush mi_340_23 ?_
  refine V_icmp mi_340_24 (fun h => no6 (Or.inl ((em bd1 bd1').mp h))) (fun hb1 => ?_)
  have hb1 : ¬ (m1.toInt < 0) := fun h => hb1 ((em bd1 bd1').mpr h)
  refine V_aload (v := ad 90) mi_340_27 (by simp) ?_
  refine V_getR mi_340_28 gr32 (by omega) hG ?_
  refine V_iload (v := t) mi_340_31 (by simp) ?_
  refine V_aldX (j := t.toInt.toNat) mi_340_32 et hG e7 s_t (by omega) hm2 ?_
  refine V_ipush mi_340_33 ?_
  refine V_icmp mi_340_34 (fun hb2 => ?_) (fun h => no6 (Or.inr ((em bd2 bd2').mp (by
    rcases Classical.em (m2 = Int32.ofInt (-1)) with z | z
    · exact z
    · exact absurd z h))))
  have hb2 : ¬ (m2.toInt < 0) := fun h => absurd ((em bd2 bd2').mpr h) hb2
  have hb : ¬ (m1.toInt < 0 ∨ m2.toInt < 0) := by omega
  refine V_aload (v := ad 90) mi_340_40 (by simp) ?_
  refine V_getR mi_340_41 gr33 (by omega) hG ?_
  refine V_iload (v := v) mi_340_44 (by simp) ?_
  refine V_aldX (j := v.toInt.toNat) mi_340_45 ev hG e8 sv (by omega) hw1 ?_
  refine V_aload (v := ad 90) mi_340_46 (by simp) ?_
  refine V_getR mi_340_47 gr33 (by omega) hG ?_
  refine V_iload (v := t) mi_340_50 (by simp) ?_
  refine V_aldX (j := t.toInt.toNat) mi_340_51 et hG e8 s_t (by omega) hw2 ?_
  refine V_icmp mi_340_52 (fun hw => ?_) (fun hw => ?_)
  rotate_left
  · have hw : w1 ≠ w2 := hw
    refine V_ipush mi_340_55 ?_
    exact V_retI mi_340_57 (fun h => absurd h (by decide +kernel)) ⟨by unfold paV; rw [if_pos ⟨hv, ht⟩, if_neg hb, if_pos hw], hG, FRm_rf⟩
  have hw : w1 = w2 := hw
  have hw' : ¬ (w1 ≠ w2) := fun z => z hw
  have no7 : ¬ (RG i n m1 ∧ RG q n m2) → V l D tys A 340 2 0 0 (fun r w' => r = some (.int (Int32.ofInt (paV v i t q n m1 m2 w1 w2))) ∧ GOK ad tys GG w' ∧ FRm [109, 110] w w') 0 0 107 [(0, .ref (ad 90)), (1, .int v), (2, .int i), (3, .int t), (4, .int q), (5, .int n)] [] w := fun h => V_ipush mi_340_107 (V_retI mi_340_109 (fun h => absurd h (by decide +kernel)) ⟨by unfold paV; rw [if_pos ⟨hv, ht⟩, if_neg hb, if_neg hw', if_neg h], hG, FRm_rf⟩)
  have i1 := Int32.le_toInt i
  have i2 := Int32.toInt_lt i
  have n1 := Int32.le_toInt n
  have n2 := Int32.toInt_lt n
  have q1 := Int32.le_toInt q
  have q2 := Int32.toInt_lt q
  refine V_iload (v := i) mi_340_58 (by simp) ?_
  refine V_if mi_340_59 (fun h => no7 (fun z => by have := l0 h; have := z.1.1; omega)) (fun h1 => ?_)
  have h1 := nl0 h1
  refine V_iload (v := q) mi_340_62 (by simp) ?_
  refine V_if mi_340_64 (fun h => no7 (fun z => by have := l0 h; have := z.2.1; omega)) (fun h2 => ?_)
  have h2 := nl0 h2
  refine V_iload (v := n) mi_340_67 (by simp) ?_
  refine V_if mi_340_69 (fun h => no7 (fun z => by have := l0 h; have := z.1.2.1; omega)) (fun h3 => ?_)
  have h3 := nl0 h3
  refine V_iload (v := i) mi_340_72 (by simp) ?_
  refine V_i2l mi_340_73 ?_
  refine V_iload (v := n) mi_340_74 (by simp) ?_
  refine V_i2l mi_340_76 ?_
  refine V_lbin mi_340_77 (by omega) ?_
  rw [el_ i, el_ n, ladd_]
  refine V_aload (v := ad 90) mi_340_78 (by simp) ?_
  refine V_getR mi_340_79 gr32 (by omega) hG ?_
  refine V_iload (v := v) mi_340_82 (by simp) ?_
  refine V_aldX (j := v.toInt.toNat) mi_340_83 ev hG e7 sv (by omega) hm1 ?_
  refine V_i2l mi_340_84 ?_
  rw [el_ m1]
  refine V_lcmp mi_340_85 ?_
  have c1 := cdL_iff (x := 4) (a := i.toInt + n.toInt) (b := m1.toInt) (by omega) (by omega) (by omega) (by omega)
  refine V_if mi_340_86 (fun h => no7 (fun z => by have : i.toInt + n.toInt - m1.toInt > 0 := c1.mp h; have := z.1.2.2; omega)) (fun h4 => ?_)
  have h4 : i.toInt + n.toInt ≤ m1.toInt := by
    have : ¬ (i.toInt + n.toInt - m1.toInt > 0) := fun z => h4 (c1.mpr z)
    omega
  refine V_iload (v := q) mi_340_89 (by simp) ?_
  refine V_i2l mi_340_91 ?_
  refine V_iload (v := n) mi_340_92 (by simp) ?_
  refine V_i2l mi_340_94 ?_
  refine V_lbin mi_340_95 (by omega) ?_
  rw [el_ q, el_ n, ladd_]
  refine V_aload (v := ad 90) mi_340_96 (by simp) ?_
  refine V_getR mi_340_97 gr32 (by omega) hG ?_
  refine V_iload (v := t) mi_340_100 (by simp) ?_
  refine V_aldX (j := t.toInt.toNat) mi_340_101 et hG e7 s_t (by omega) hm2 ?_
  refine V_i2l mi_340_102 ?_
  rw [el_ m2]
  refine V_lcmp mi_340_103 ?_
  have c2 := cdL_iff (x := 5) (a := q.toInt + n.toInt) (b := m2.toInt) (by omega) (by omega) (by omega) (by omega)
  refine V_if mi_340_104 (fun h5 => ?_) (fun h => no7 (fun z => h (c2.mpr (show q.toInt + n.toInt - m2.toInt ≤ 0 by have := z.2.2.2; omega))))
  have h5 : q.toInt + n.toInt ≤ m2.toInt := by
    have : q.toInt + n.toInt - m2.toInt ≤ 0 := c2.mp h5
    omega
  refine V_ipush mi_340_110 ?_
  refine V_istore mi_340_111 ?_
  refine V_sub (lv' := LPa ad v i t q n 0) (fun p hp => ?_) (V_post (fun r w' hh => ⟨hh.1.trans (by unfold paV; rw [if_pos ⟨hv, ht⟩, if_neg hb, if_neg hw', if_pos ⟨⟨h1, h3, h4⟩, h2, h3, h5⟩]), hh.2⟩) (pm_1 (w0 := w) hv ht h1 h2 h3 (by omega) (by omega) 61 0 w (by omega) (by omega) hG FRm_rf))
  simp only [LPa, List.mem_cons, List.not_mem_nil, or_false] at hp
  rcases hp with h | h | h | h | h | h | h <;> simp [h, LPa, stL, Value.category]
end PAT
section PAU
variable {l : Launch} {D : va_G} {tys : List (ClassId × FieldType)} {A : Nat → Prop} {ad : Nat → Nat} {ws : va_W}
theorem upx (hAD : ∀ i : Nat, ad (1000 + i) = D.2 1000 i) (hG : GOK ad tys GG ws) (a1 a2 a3 a4 a5 : Int32) : ∃ d', d' < 11 ∧ CT l D tys A 72 d' 0 0 [.ref (ad 0), .int a1, .int a2, .int a3, .int a4, .int a5] ws (fun r w => (∃ v : Int32, r = some (.int v)) ∧ GOK ad tys GG w ∧ FRm [40] ws w) := by
  have hm : ∀ (c : Nat) (lo hi : Int), (∃ s, GG[c]? = some ((1, 0, 4), s) ∧ ∀ j, j < 4 → segAt s j = some (0, lo, hi)) → ∀ u : Int32, ∃ m : Int32, SL u → rd ws c u.toInt.toNat = some (.int m) := by
    intro c lo hi hc u
    by_cases h : SL u
    · obtain ⟨s42, e42, f42⟩ := hc
      obtain ⟨z, hz, -, -⟩ := cel (j := u.toInt.toNat) hG e42 (sl_nat h).2 (f42 _ (sl_nat h).2)
      exact ⟨_, fun _ => hz⟩
    · exact ⟨0, fun q => absurd q h⟩
  obtain ⟨m1, hm1⟩ := hm 42 _ _ gx42 a1
  obtain ⟨m2, hm2⟩ := hm 42 _ _ gx42 a3
  obtain ⟨w1, hw1⟩ := hm 41 _ _ gx41 a1
  obtain ⟨w2, hw2⟩ := hm 41 _ _ gx41 a3
  exact ⟨6, by omega, CT_post (pastex_ct hAD a1 a2 a3 a4 a5 hm1 hm2 hw1 hw2 hG) (fun r w h => ⟨⟨_, h.1⟩, h.2⟩)⟩
theorem upm (hG : GOK ad tys GG ws) (a1 a2 a3 a4 a5 : Int32) : ∃ d', d' < 11 ∧ CT l D tys A 340 d' 0 0 [.ref (ad 90), .int a1, .int a2, .int a3, .int a4, .int a5] ws (fun r w => (∃ v : Int32, r = some (.int v)) ∧ GOK ad tys GG w ∧ FRm [109, 110] ws w) := by
  have hm : ∀ (c : Nat) (lo hi : Int), (∃ s, GG[c]? = some ((1, 0, 4), s) ∧ ∀ j, j < 4 → segAt s j = some (0, lo, hi)) → ∀ u : Int32, ∃ m : Int32, SL u → rd ws c u.toInt.toNat = some (.int m) := by
    intro c lo hi hc u
    by_cases h : SL u
    · obtain ⟨s42, e42, f42⟩ := hc
      obtain ⟨z, hz, -, -⟩ := cel (j := u.toInt.toNat) hG e42 (sl_nat h).2 (f42 _ (sl_nat h).2)
      exact ⟨_, fun _ => hz⟩
    · exact ⟨0, fun q => absurd q h⟩
  obtain ⟨m1, hm1⟩ := hm 107 _ _ gm107 a1
  obtain ⟨m2, hm2⟩ := hm 107 _ _ gm107 a3
  obtain ⟨w1, hw1⟩ := hm 108 _ _ gm108 a1
  obtain ⟨w2, hw2⟩ := hm 108 _ _ gm108 a3
  exact ⟨2, by omega, CT_post (pastem_ct a1 a2 a3 a4 a5 hm1 hm2 hw1 hw2 hG) (fun r w h => ⟨⟨_, h.1⟩, h.2⟩)⟩
end PAU
