noncomputable def kJ9223372036854775808 : Int := Int.negSucc (nat_lit 9223372036854775807)
noncomputable def kJ377957122400 : Int := Int.negSucc (nat_lit 377957122399)
noncomputable def kJ2147483648 : Int := Int.negSucc (nat_lit 2147483647)
noncomputable def kJ2147483647 : Int := Int.negSucc (nat_lit 2147483646)
noncomputable def kJ934572 : Int := Int.negSucc (nat_lit 934571)
noncomputable def kJ49348 : Int := Int.negSucc (nat_lit 49347)
noncomputable def kJ45292 : Int := Int.negSucc (nat_lit 45291)
noncomputable def kJ35970 : Int := Int.negSucc (nat_lit 35969)
noncomputable def kJ32010 : Int := Int.negSucc (nat_lit 32009)
noncomputable def kJ28050 : Int := Int.negSucc (nat_lit 28049)
noncomputable def kJ24090 : Int := Int.negSucc (nat_lit 24089)
noncomputable def kJ20130 : Int := Int.negSucc (nat_lit 20129)
noncomputable def kJ19822 : Int := Int.negSucc (nat_lit 19821)
noncomputable def kJ16498 : Int := Int.negSucc (nat_lit 16497)
noncomputable def kJ13332 : Int := Int.negSucc (nat_lit 13331)
noncomputable def kJ4770 : Int := Int.negSucc (nat_lit 4769)
noncomputable def kJ3960 : Int := Int.negSucc (nat_lit 3959)
noncomputable def kJ3942 : Int := Int.negSucc (nat_lit 3941)
noncomputable def kJ3366 : Int := Int.negSucc (nat_lit 3365)
noncomputable def kJ3270 : Int := Int.negSucc (nat_lit 3269)
noncomputable def kJ3180 : Int := Int.negSucc (nat_lit 3179)
noncomputable def kJ2840 : Int := Int.negSucc (nat_lit 2839)
noncomputable def kJ2772 : Int := Int.negSucc (nat_lit 2771)
noncomputable def kJ2664 : Int := Int.negSucc (nat_lit 2663)
noncomputable def kJ2034 : Int := Int.negSucc (nat_lit 2033)
noncomputable def kJ1836 : Int := Int.negSucc (nat_lit 1835)
noncomputable def kJ1674 : Int := Int.negSucc (nat_lit 1673)
noncomputable def kJ1600 : Int := Int.negSucc (nat_lit 1599)
noncomputable def kJ1548 : Int := Int.negSucc (nat_lit 1547)
noncomputable def kJ1440 : Int := Int.negSucc (nat_lit 1439)
noncomputable def kJ1416 : Int := Int.negSucc (nat_lit 1415)
noncomputable def kJ1376 : Int := Int.negSucc (nat_lit 1375)
noncomputable def kJ1204 : Int := Int.negSucc (nat_lit 1203)
noncomputable def kJ1062 : Int := Int.negSucc (nat_lit 1061)
noncomputable def kJ1032 : Int := Int.negSucc (nat_lit 1031)
noncomputable def kJ860 : Int := Int.negSucc (nat_lit 859)
noncomputable def kJ688 : Int := Int.negSucc (nat_lit 687)
noncomputable def kJ676 : Int := Int.negSucc (nat_lit 675)
noncomputable def kJ406 : Int := Int.negSucc (nat_lit 405)
noncomputable def kJ374 : Int := Int.negSucc (nat_lit 373)
noncomputable def kJ330 : Int := Int.negSucc (nat_lit 329)
noncomputable def kJ300 : Int := Int.negSucc (nat_lit 299)
noncomputable def kJ296 : Int := Int.negSucc (nat_lit 295)
noncomputable def kJ284 : Int := Int.negSucc (nat_lit 283)
noncomputable def kJ252 : Int := Int.negSucc (nat_lit 251)
noncomputable def kJ240 : Int := Int.negSucc (nat_lit 239)
noncomputable def kJ228 : Int := Int.negSucc (nat_lit 227)
noncomputable def kJ218 : Int := Int.negSucc (nat_lit 217)
noncomputable def kJ212 : Int := Int.negSucc (nat_lit 211)
noncomputable def kJ206 : Int := Int.negSucc (nat_lit 205)
noncomputable def kJ204 : Int := Int.negSucc (nat_lit 203)
noncomputable def kJ202 : Int := Int.negSucc (nat_lit 201)
noncomputable def kJ196 : Int := Int.negSucc (nat_lit 195)
noncomputable def kJ194 : Int := Int.negSucc (nat_lit 193)
noncomputable def kJ192 : Int := Int.negSucc (nat_lit 191)
noncomputable def kJ188 : Int := Int.negSucc (nat_lit 187)
noncomputable def kJ186 : Int := Int.negSucc (nat_lit 185)
noncomputable def kJ176 : Int := Int.negSucc (nat_lit 175)
noncomputable def kJ174 : Int := Int.negSucc (nat_lit 173)
noncomputable def kJ172 : Int := Int.negSucc (nat_lit 171)
noncomputable def kJ168 : Int := Int.negSucc (nat_lit 167)
noncomputable def kJ160 : Int := Int.negSucc (nat_lit 159)
noncomputable def kJ154 : Int := Int.negSucc (nat_lit 153)
noncomputable def kJ148 : Int := Int.negSucc (nat_lit 147)
noncomputable def kJ146 : Int := Int.negSucc (nat_lit 145)
noncomputable def kJ144 : Int := Int.negSucc (nat_lit 143)
noncomputable def kJ132 : Int := Int.negSucc (nat_lit 131)
noncomputable def kJ128 : Int := Int.negSucc (nat_lit 127)
noncomputable def kJ122 : Int := Int.negSucc (nat_lit 121)
noncomputable def kJ120 : Int := Int.negSucc (nat_lit 119)
noncomputable def kJ118 : Int := Int.negSucc (nat_lit 117)
noncomputable def kJ112 : Int := Int.negSucc (nat_lit 111)
noncomputable def kJ106 : Int := Int.negSucc (nat_lit 105)
noncomputable def kJ104 : Int := Int.negSucc (nat_lit 103)
noncomputable def kJ102 : Int := Int.negSucc (nat_lit 101)
noncomputable def kJ96 : Int := Int.negSucc (nat_lit 95)
noncomputable def kJ92 : Int := Int.negSucc (nat_lit 91)
noncomputable def kJ90 : Int := Int.negSucc (nat_lit 89)
noncomputable def kJ88 : Int := Int.negSucc (nat_lit 87)
noncomputable def kJ80 : Int := Int.negSucc (nat_lit 79)
noncomputable def kJ60 : Int := Int.negSucc (nat_lit 59)
noncomputable def kJ58 : Int := Int.negSucc (nat_lit 57)
noncomputable def kI58 : Int := Int.ofNat (nat_lit 58)
noncomputable def kI59 : Int := Int.ofNat (nat_lit 59)
noncomputable def kI78 : Int := Int.ofNat (nat_lit 78)
noncomputable def kI174 : Int := Int.ofNat (nat_lit 174)
noncomputable def kI248 : Int := Int.ofNat (nat_lit 248)
noncomputable def kI274 : Int := Int.ofNat (nat_lit 274)
noncomputable def kI330 : Int := Int.ofNat (nat_lit 330)
noncomputable def kI692 : Int := Int.ofNat (nat_lit 692)
noncomputable def kI1269 : Int := Int.ofNat (nat_lit 1269)
noncomputable def kI1340 : Int := Int.ofNat (nat_lit 1340)
noncomputable def kI1359 : Int := Int.ofNat (nat_lit 1359)
noncomputable def kI1426 : Int := Int.ofNat (nat_lit 1426)
noncomputable def kI1646 : Int := Int.ofNat (nat_lit 1646)
noncomputable def kI1648 : Int := Int.ofNat (nat_lit 1648)
noncomputable def kI1791 : Int := Int.ofNat (nat_lit 1791)
noncomputable def kI1854 : Int := Int.ofNat (nat_lit 1854)
noncomputable def kI2048 : Int := Int.ofNat (nat_lit 2048)
noncomputable def kI2140 : Int := Int.ofNat (nat_lit 2140)
noncomputable def kI2480 : Int := Int.ofNat (nat_lit 2480)
noncomputable def kI2748 : Int := Int.ofNat (nat_lit 2748)
noncomputable def kI2789 : Int := Int.ofNat (nat_lit 2789)
noncomputable def kI2850 : Int := Int.ofNat (nat_lit 2850)
noncomputable def kI3090 : Int := Int.ofNat (nat_lit 3090)
noncomputable def kI3710 : Int := Int.ofNat (nat_lit 3710)
noncomputable def kI3780 : Int := Int.ofNat (nat_lit 3780)
noncomputable def kI3821 : Int := Int.ofNat (nat_lit 3821)
noncomputable def kI4095 : Int := Int.ofNat (nat_lit 4095)
noncomputable def kI4096 : Int := Int.ofNat (nat_lit 4096)
noncomputable def kI4122 : Int := Int.ofNat (nat_lit 4122)
noncomputable def kI4226 : Int := Int.ofNat (nat_lit 4226)
noncomputable def kI4398 : Int := Int.ofNat (nat_lit 4398)
noncomputable def kI4468 : Int := Int.ofNat (nat_lit 4468)
noncomputable def kI4509 : Int := Int.ofNat (nat_lit 4509)
noncomputable def kI4810 : Int := Int.ofNat (nat_lit 4810)
noncomputable def kI4812 : Int := Int.ofNat (nat_lit 4812)
noncomputable def kI4853 : Int := Int.ofNat (nat_lit 4853)
noncomputable def kI5154 : Int := Int.ofNat (nat_lit 5154)
noncomputable def kI10538 : Int := Int.ofNat (nat_lit 10538)
noncomputable def kI10565 : Int := Int.ofNat (nat_lit 10565)
noncomputable def kI10592 : Int := Int.ofNat (nat_lit 10592)
noncomputable def kI21160 : Int := Int.ofNat (nat_lit 21160)
noncomputable def kI101713 : Int := Int.ofNat (nat_lit 101713)
noncomputable def kI101755 : Int := Int.ofNat (nat_lit 101755)
noncomputable def kI102094 : Int := Int.ofNat (nat_lit 102094)
noncomputable def kI168112 : Int := Int.ofNat (nat_lit 168112)
noncomputable def kI11686012 : Int := Int.ofNat (nat_lit 11686012)
noncomputable def kI23324404 : Int := Int.ofNat (nat_lit 23324404)
noncomputable def kI23324482 : Int := Int.ofNat (nat_lit 23324482)
noncomputable def kI23325763 : Int := Int.ofNat (nat_lit 23325763)
noncomputable def kI23371614 : Int := Int.ofNat (nat_lit 23371614)
noncomputable def kI93661475 : Int := Int.ofNat (nat_lit 93661475)
noncomputable def kI93661508 : Int := Int.ofNat (nat_lit 93661508)
noncomputable def kI96826975 : Int := Int.ofNat (nat_lit 96826975)
noncomputable def kI96827018 : Int := Int.ofNat (nat_lit 96827018)
noncomputable def kI96868998 : Int := Int.ofNat (nat_lit 96868998)
noncomputable def kI96868999 : Int := Int.ofNat (nat_lit 96868999)
noncomputable def kI96869046 : Int := Int.ofNat (nat_lit 96869046)
noncomputable def kI96870116 : Int := Int.ofNat (nat_lit 96870116)
noncomputable def kI2147483646 : Int := Int.ofNat (nat_lit 2147483646)
noncomputable def kI2147483647 : Int := Int.ofNat (nat_lit 2147483647)
noncomputable def kI283467841454 : Int := Int.ofNat (nat_lit 283467841454)
noncomputable def kI283467841482 : Int := Int.ofNat (nat_lit 283467841482)
noncomputable def kI313532612520 : Int := Int.ofNat (nat_lit 313532612520)
noncomputable def kI313532612552 : Int := Int.ofNat (nat_lit 313532612552)
noncomputable def kI9223372036854775807 : Int := Int.ofNat (nat_lit 9223372036854775807)
noncomputable def uL0 : List (Int × Nat) := []
noncomputable def uL (a : Int) (s : Nat) (t : List (Int × Nat)) : List (Int × Nat) := (a, s) :: t
noncomputable def uic (c : Int) : AV := iA (c, [])
noncomputable def uis (s : Nat) : AV := iA (0, [(1, s)])
noncomputable def ulc (c : Int) : AV := lA (c, [])
noncomputable def uls (s : Nat) : AV := lA (0, [(1, s)])
noncomputable def uE0 : EV := []
noncomputable def uE (a b : Int) (t : EV) : EV := (a, b) :: t
noncomputable def uA0 : AL := []
noncomputable def uA (i : Nat) (v : AV) (t : AL) : AL := (i, v) :: t
noncomputable def uS0 : List AV := []
noncomputable def uS (v : AV) (t : List AV) : List AV := v :: t
noncomputable def uO0 : OV := []
noncomputable def uO (c j : Nat) (v : AV) (t : OV) : OV := ((c, j), v) :: t
noncomputable def uC (pc : Nat) (E : EV) (als : AL) (ast : List AV) (ov : OV) (c : Int) (l : List (Int × Nat)) : Nat × CUT := (pc, E, als, ast, ov, (c, l))
noncomputable def uK0 : List (Nat × CUT) := []
noncomputable def uK (q : Nat × CUT) (t : List (Nat × CUT)) : List (Nat × CUT) := q :: t
section ZQA
variable {l : Launch} {D : va_G} {tys : List (ClassId × FieldType)} {A : Nat → Prop} {ad : Nat → Nat} {ws : va_W} {k d mc ms : Nat} {post : Option Value → va_W → Prop} {cells slots pc : Nat} {lv : List (Nat × Value)} {st : List Value} {a : Int} {x y z : Nat}
theorem zqidx_in {j n : Nat} (hj : j < n) (hn : n ≤ 100000) : vp_in (Int32.ofInt j) n ∧ (Int32.ofInt j).toNatClampNeg = j := by
  have e : (Int32.ofInt (j : Int)).toInt = (j : Int) := Int32.toInt_ofInt_of_le (by omega) (by omega)
  refine ⟨vp_in_iff.mpr (by rw [e]; omega), ?_⟩
  show (Int32.ofInt (j : Int)).toInt.toNat = j
  rw [e]; rfl
theorem zqarr_of {c ty n : Nat} {segs : List SG} (hG : GOK ad tys GG ws) (hg : GG[c]? = some ((1, ty, n), segs)) : ∃ (cA : ClassId) (f : Nat → Int32), ws[c]? = some (ad c, .inl (cA, n, .inl f)) ∧ tys[ty]? = some (cA, ftyp ty) := by
  obtain ⟨e, b1, b2, b3⟩ := hG c _ hg
  obtain ⟨cA, f, rfl, c1, -⟩ := b2
  exact ⟨cA, f, b1, c1⟩
theorem zqrd_arr {c j b n : Nat} {cA : ClassId} {f : Nat → Int32} (he : ws[c]? = some (b, .inl (cA, n, .inl f))) (hj : j < n) : rd ws c j = some (.int (f j)) := by
  rw [rd_at he]
  show (if j < n then _ else _) = _
  rw [if_pos hj]
theorem zqV_aldR {c n j : Nat} {segs : List SG} {v : Int32} (hi : mI k pc = (19, 0, 0, 0, 0)) (hG : GOK ad tys GG ws) (hg : GG[c]? = some ((1, 0, n), segs)) (hj : j < n) (hn : n ≤ 100000) (hx : rd ws c j = some (.int v)) (kk : V l D tys A k d mc ms post cells slots (pc + 1) lv (.int v :: st) ws) : V l D tys A k d mc ms post cells slots pc lv (.int (Int32.ofInt j) :: .ref (ad c) :: st) ws := by
  obtain ⟨cA, f, h1, h2⟩ := zqarr_of hG hg
  refine V_iald hi h1 h2 (zqidx_in hj hn).1 ?_
  rw [(zqidx_in hj hn).2]
  rw [zqrd_arr h1 hj] at hx
  cases hx
  exact kk
theorem zqV_astR {c n j : Nat} {lo hi : Int} {segs : List SG} {v : Int32} (hi0 : mI k pc = (20, a, 0, y, z)) (hG : GOK ad tys GG ws) (hg : GG[c]? = some ((1, 0, n), segs)) (hj : j < n) (hn : n ≤ 100000) (hs : segAt segs j = some (0, lo, hi)) (h1 : lo ≤ v.toInt) (h2 : v.toInt ≤ hi) (kk : ∀ w : va_W, GOK ad tys GG w → Upd1 ws w c j (.int v) → V l D tys A k d mc ms post cells slots (pc + 1) lv st w) : V l D tys A k d mc ms post cells slots pc lv (.int v :: .int (Int32.ofInt j) :: .ref (ad c) :: st) ws := by
  obtain ⟨cA, f, q1, q2⟩ := zqarr_of hG hg
  refine V_iast hi0 q1 q2 (zqidx_in hj hn).1 ?_
  rw [(zqidx_in hj hn).2]
  have hu := GOK_upd (j := j) (v := .int v) (e' := .inl (cA, n, .inl (upd f j v))) hG hg q1 ⟨cA, _, rfl, q2, by omega⟩ (fun j' => by
    show (if j' < n then some (Value.int (upd f j v j')) else none) = if j' = j then some (Value.int v) else if j' < n then some (Value.int (f j')) else none
    unfold upd
    by_cases h : j' = j
    · subst h; simp [hj]
    · simp [h]) hs ⟨v.toInt, by rw [Int32.ofInt_toInt], h1, h2⟩
  exact kk _ hu.1 hu.2
theorem zqV_aldX {c n j : Nat} {segs : List SG} {v ix : Int32} (hi : mI k pc = (19, 0, 0, 0, 0)) (hix : ix = Int32.ofInt (j : Int)) (hG : GOK ad tys GG ws) (hg : GG[c]? = some ((1, 0, n), segs)) (hj : j < n) (hn : n ≤ 100000) (hx : rd ws c j = some (.int v)) (kk : V l D tys A k d mc ms post cells slots (pc + 1) lv (.int v :: st) ws) : V l D tys A k d mc ms post cells slots pc lv (.int ix :: .ref (ad c) :: st) ws := by
  subst hix
  exact zqV_aldR hi hG hg hj hn hx kk
theorem zqV_astX {c n j : Nat} {lo hi : Int} {segs : List SG} {v ix : Int32} (hi0 : mI k pc = (20, a, 0, y, z)) (hix : ix = Int32.ofInt (j : Int)) (hG : GOK ad tys GG ws) (hg : GG[c]? = some ((1, 0, n), segs)) (hj : j < n) (hn : n ≤ 100000) (hs : segAt segs j = some (0, lo, hi)) (h1 : lo ≤ v.toInt) (h2 : v.toInt ≤ hi) (kk : ∀ w : va_W, GOK ad tys GG w → Upd1 ws w c j (.int v) → V l D tys A k d mc ms post cells slots (pc + 1) lv st w) : V l D tys A k d mc ms post cells slots pc lv (.int v :: .int ix :: .ref (ad c) :: st) ws := by
  subst hix
  exact zqV_astR hi0 hG hg hj hn hs h1 h2 kk
theorem zqo90 (hG : GOK ad tys GG ws) : ∃ fs : List Value, ws[90]? = some (ad 90, .inr (11, fs)) ∧ fs.length = 36 := by
  obtain ⟨e, a1, a2, a3⟩ := hG 90 _ rfl
  obtain ⟨fs, rfl, hl⟩ := a2
  exact ⟨fs, a1, hl⟩
theorem zqV_getI {i : Nat} {v : Value} (hi : mI k pc = (17, a, x, 11, i)) (hG : GOK ad tys GG ws) (hx : rd ws 90 i = some v) (kk : V l D tys A k d 0 0 post 0 0 (pc + 3) lv (v :: st) ws) : V l D tys A k d 0 0 post 0 0 pc lv (.ref (ad 90) :: st) ws := by
  obtain ⟨fs, a1, hl⟩ := zqo90 hG
  rw [rd_at a1] at hx
  exact V_get hi a1 hx kk
theorem zqrref {c i : Nat} (hs : ∃ g, GG[90]? = some ((0, 11, 36), g) ∧ segAt g i = some (2, (c : Int), (c : Int))) (hi2 : i < 36) (hG : GOK ad tys GG ws) : rd ws 90 i = some (.ref (ad c)) := by
  obtain ⟨g, hg, hs⟩ := hs
  obtain ⟨e, a1, a2, a3⟩ := hG 90 _ hg
  obtain ⟨fs, rfl, hl⟩ := a2
  have hv : fs[i]? = some fs[i] := List.getElem?_eq_getElem (by omega)
  obtain ⟨sp, q1, q2⟩ := a3 i _ hv
  rw [hs] at q1
  cases q1
  have q2 : fs[i] = .ref (ad ((c : Int).toNat)) := q2
  rw [Int.toNat_natCast] at q2
  rw [rd_at a1]
  show fs[i]? = _
  rw [hv, q2]
theorem zqupd_ne {w w' : va_W} {c j c' j' : Nat} {v : Value} (hu : Upd1 w w' c j v) (h : ¬ (c' = c ∧ j' = j)) : rd w' c' j' = rd w c' j' := by rw [hu, if_neg h]
theorem zqupd_eq {w w' : va_W} {c j : Nat} {v : Value} (hu : Upd1 w w' c j v) : rd w' c j = some v := by rw [hu, if_pos ⟨rfl, rfl⟩]
theorem zqmi_320_0 : mI 320 0 = (1, 0, 0, 0, 0) := rfl
theorem zqmi_320_1 : mI 320 1 = (6, 0, 4, 1, 0) := rfl
theorem zqmi_320_3 : mI 320 3 = (3, 0, 4, 1, 0) := rfl
theorem zqmi_320_5 : mI 320 5 = (3, 0, 1, 0, 0) := rfl
theorem zqmi_320_6 : mI 320 6 = (15, 122, 4, 128, 0) := rfl
theorem zqmi_320_9 : mI 320 9 = (1, 0, 0, 0, 0) := rfl
theorem zqmi_320_10 : mI 320 10 = (6, 0, 5, 1, 0) := rfl
theorem zqmi_320_12 : mI 320 12 = (3, 0, 5, 1, 0) := rfl
theorem zqmi_320_14 : mI 320 14 = (3, 0, 2, 0, 0) := rfl
theorem zqmi_320_15 : mI 320 15 = (15, 107, 4, 122, 0) := rfl
theorem zqmi_320_18 : mI 320 18 = (3, 0, 4, 1, 0) := rfl
theorem zqmi_320_20 : mI 320 20 = (14, 12, 1, 32, 0) := rfl
theorem zqmi_320_23 : mI 320 23 = (3, 0, 5, 1, 0) := rfl
theorem zqmi_320_25 : mI 320 25 = (14, 7, 1, 32, 0) := rfl
theorem zqmi_320_28 : mI 320 28 = (1, 1, 0, 0, 0) := rfl
theorem zqmi_320_29 : mI 320 29 = (16, 4, 0, 33, 0) := rfl
theorem zqmi_320_32 : mI 320 32 = (1, 0, 0, 0, 0) := rfl
theorem zqmi_320_33 : mI 320 33 = (6, 0, 6, 1, 0) := rfl
theorem zqmi_320_35 : mI 320 35 = (3, 0, 4, 1, 0) := rfl
theorem zqmi_320_37 : mI 320 37 = (14, 23, 5, 60, 0) := rfl
theorem zqmi_320_40 : mI 320 40 = (3, 0, 6, 1, 0) := rfl
theorem zqmi_320_42 : mI 320 42 = (5, 0, 0, 0, 0) := rfl
theorem zqmi_320_43 : mI 320 43 = (17, 1237, 64, 11, 31) := rfl
theorem zqmi_320_46 : mI 320 46 = (1, 7, 1, 0, 0) := rfl
theorem zqmi_320_48 : mI 320 48 = (3, 0, 4, 1, 0) := rfl
theorem zqmi_320_50 : mI 320 50 = (1, 1, 0, 0, 0) := rfl
theorem zqmi_320_51 : mI 320 51 = (10, 0, 1, 0, 0) := rfl
theorem zqmi_320_52 : mI 320 52 = (10, 0, 2, 0, 0) := rfl
theorem zqmi_320_53 : mI 320 53 = (3, 0, 5, 1, 0) := rfl
theorem zqmi_320_55 : mI 320 55 = (10, 0, 0, 0, 0) := rfl
theorem zqmi_320_56 : mI 320 56 = (19, 0, 0, 0, 0) := rfl
theorem zqmi_320_57 : mI 320 57 = (10, 0, 0, 0, 0) := rfl
theorem zqmi_320_58 : mI 320 58 = (6, 0, 6, 1, 0) := rfl
theorem zqmi_320_60 : mI 320 60 = (3, 0, 5, 1, 0) := rfl
theorem zqmi_320_62 : mI 320 62 = (14, 23, 5, 85, 0) := rfl
theorem zqmi_320_65 : mI 320 65 = (3, 0, 6, 1, 0) := rfl
theorem zqmi_320_67 : mI 320 67 = (5, 0, 0, 0, 0) := rfl
theorem zqmi_320_68 : mI 320 68 = (17, 1237, 64, 11, 31) := rfl
theorem zqmi_320_71 : mI 320 71 = (1, 7, 1, 0, 0) := rfl
theorem zqmi_320_73 : mI 320 73 = (3, 0, 4, 1, 0) := rfl
theorem zqmi_320_75 : mI 320 75 = (10, 0, 2, 0, 0) := rfl
theorem zqmi_320_76 : mI 320 76 = (3, 0, 5, 1, 0) := rfl
theorem zqmi_320_78 : mI 320 78 = (10, 0, 0, 0, 0) := rfl
theorem zqmi_320_79 : mI 320 79 = (1, 1, 0, 0, 0) := rfl
theorem zqmi_320_80 : mI 320 80 = (10, 0, 1, 0, 0) := rfl
theorem zqmi_320_81 : mI 320 81 = (19, 0, 0, 0, 0) := rfl
theorem zqmi_320_82 : mI 320 82 = (10, 0, 0, 0, 0) := rfl
theorem zqmi_320_83 : mI 320 83 = (6, 0, 6, 1, 0) := rfl
theorem zqmi_320_85 : mI 320 85 = (5, 0, 0, 0, 0) := rfl
theorem zqmi_320_86 : mI 320 86 = (17, 1237, 64, 11, 31) := rfl
theorem zqmi_320_89 : mI 320 89 = (1, 7, 1, 0, 0) := rfl
theorem zqmi_320_91 : mI 320 91 = (3, 0, 4, 1, 0) := rfl
theorem zqmi_320_93 : mI 320 93 = (10, 0, 2, 0, 0) := rfl
theorem zqmi_320_94 : mI 320 94 = (3, 0, 5, 1, 0) := rfl
theorem zqmi_320_96 : mI 320 96 = (10, 0, 0, 0, 0) := rfl
theorem zqmi_320_97 : mI 320 97 = (3, 0, 4, 1, 0) := rfl
theorem zqmi_320_99 : mI 320 99 = (3, 0, 5, 1, 0) := rfl
theorem zqmi_320_101 : mI 320 101 = (10, 0, 1, 0, 0) := rfl
theorem zqmi_320_102 : mI 320 102 = (26, 1864, 433, 343, 1) := rfl
theorem zqmi_320_105 : mI 320 105 = (3, 0, 3, 0, 0) := rfl
theorem zqmi_320_106 : mI 320 106 = (15, 8, 4, 114, 0) := rfl
theorem zqmi_320_109 : mI 320 109 = (3, 0, 6, 1, 0) := rfl
theorem zqmi_320_111 : mI 320 111 = (16, 4, 0, 115, 0) := rfl
theorem zqmi_320_114 : mI 320 114 = (1, 0, 0, 0, 0) := rfl
theorem zqmi_320_115 : mI 320 115 = (20, 0, 0, 0, 0) := rfl
theorem zqmi_320_116 : mI 320 116 = (9, 1, 5, 0, 0) := rfl
theorem zqmi_320_119 : mI 320 119 = (16, (-107), 0, 12, 0) := rfl
theorem zqmi_320_122 : mI 320 122 = (9, 1, 4, 0, 0) := rfl
theorem zqmi_320_125 : mI 320 125 = (16, (-122), 0, 3, 0) := rfl
theorem zqmi_320_128 : mI 320 128 = (5, 0, 0, 0, 0) := rfl
theorem zqmi_320_129 : mI 320 129 = (17, 1237, 64, 11, 31) := rfl
theorem zqmi_320_132 : mI 320 132 = (1, 7, 1, 0, 0) := rfl
theorem zqmi_320_134 : mI 320 134 = (3, 0, 1, 0, 0) := rfl
theorem zqmi_320_135 : mI 320 135 = (10, 0, 2, 0, 0) := rfl
theorem zqmi_320_136 : mI 320 136 = (3, 0, 2, 0, 0) := rfl
theorem zqmi_320_137 : mI 320 137 = (10, 0, 0, 0, 0) := rfl
theorem zqmi_320_138 : mI 320 138 = (19, 0, 0, 0, 0) := rfl
theorem zqmi_320_139 : mI 320 139 = (27, 0, 0, 0, 0) := rfl
theorem zqmi_343_0 : mI 343 0 = (3, 0, 0, 0, 0) := rfl
theorem zqmi_343_1 : mI 343 1 = (14, 8, 3, 9, 0) := rfl
theorem zqmi_343_4 : mI 343 4 = (3, 0, 0, 0, 0) := rfl
theorem zqmi_343_5 : mI 343 5 = (12, 0, 0, 0, 0) := rfl
theorem zqmi_343_6 : mI 343 6 = (16, 4, 0, 10, 0) := rfl
theorem zqmi_343_9 : mI 343 9 = (3, 0, 0, 0, 0) := rfl
theorem zqmi_343_10 : mI 343 10 = (27, 0, 0, 0, 0) := rfl
theorem zqib0 {a b : Int} : ibF 0 (Int32.ofInt a) (Int32.ofInt b) = Int32.ofInt (a + b) := by show Int32.ofInt a + Int32.ofInt b = _; rw [← Int32.ofInt_add]
theorem zqib1 {a b : Int} : ibF 1 (Int32.ofInt a) (Int32.ofInt b) = Int32.ofInt (a - b) := by show Int32.ofInt a - Int32.ofInt b = _; rw [← Int32.ofInt_sub]
theorem zqib2 {a b : Int} : ibF 2 (Int32.ofInt a) (Int32.ofInt b) = Int32.ofInt (a * b) := by show Int32.ofInt a * Int32.ofInt b = _; rw [← Int32.ofInt_mul]
theorem zqia2 {a b : Int} : Int32.ofInt a + Int32.ofInt b = Int32.ofInt (a + b) := by rw [← Int32.ofInt_add]
noncomputable abbrev zqI32 (v : Int) : Prop := -2147483648 ≤ v ∧ v ≤ 2147483647
theorem zqV_zne {u : Int} (hi : mI k pc = (14, a, 1, y, z)) (b : zqI32 u) (kt : u ≠ 0 → V l D tys A k d 0 0 post 0 0 y lv st ws) (kf : u = 0 → V l D tys A k d 0 0 post 0 0 (pc + 3) lv st ws) : V l D tys A k d 0 0 post 0 0 pc lv (.int (Int32.ofInt u) :: st) ws := by
  have h : cdP 1 (Int32.ofInt u) 0 ↔ cdZ 1 (u - 0) := cdP_iff (b := 0) b.1 b.2 (by omega) (by omega)
  exact V_if hi (fun q => kt (by have : u - 0 ≠ 0 := h.mp q; omega)) (fun q => kf (by by_cases e : u = 0; exact e; exact absurd (h.mpr (show u - 0 ≠ 0 by omega)) q))
theorem zqV_zle {u : Int} (hi : mI k pc = (14, a, 5, y, z)) (b : zqI32 u) (kt : u ≤ 0 → V l D tys A k d 0 0 post 0 0 y lv st ws) (kf : 0 < u → V l D tys A k d 0 0 post 0 0 (pc + 3) lv st ws) : V l D tys A k d 0 0 post 0 0 pc lv (.int (Int32.ofInt u) :: st) ws := by
  have h : cdP 5 (Int32.ofInt u) 0 ↔ cdZ 5 (u - 0) := cdP_iff (b := 0) b.1 b.2 (by omega) (by omega)
  exact V_if hi (fun q => kt (by have : u - 0 ≤ 0 := h.mp q; omega)) (fun q => kf (by by_cases e : 0 < u; exact e; exact absurd (h.mpr (show u - 0 ≤ 0 by omega)) q))
theorem zqV_cgt {u v : Int} (hi : mI k pc = (15, a, 4, y, z)) (b : zqI32 u) (c : zqI32 v) (kt : v < u → V l D tys A k d 0 0 post 0 0 y lv st ws) (kf : u ≤ v → V l D tys A k d 0 0 post 0 0 (pc + 3) lv st ws) : V l D tys A k d 0 0 post 0 0 pc lv (.int (Int32.ofInt v) :: .int (Int32.ofInt u) :: st) ws := by
  have h : cdP 4 (Int32.ofInt u) (Int32.ofInt v) ↔ cdZ 4 (u - v) := cdP_iff b.1 b.2 c.1 c.2
  exact V_icmp hi (fun q => kt (by have : 0 < u - v := h.mp q; omega)) (fun q => kf (by by_cases e : u ≤ v; exact e; exact absurd (h.mpr (show 0 < u - v by omega)) q))
noncomputable def zqgA (c n : Nat) (lo hi : Int) : Prop := ∃ s, GG[c]? = some ((1, 0, n), s) ∧ ∀ j, j < n → segAt s j = some (0, lo, hi)
theorem zqgA_of {c n : Nat} {lo hi : Int} (h : GG[c]? = some ((1, 0, n), [(n, 0, lo, hi)])) : zqgA c n lo hi := by
  refine ⟨_, h, fun j hj => ?_⟩
  show (bif Nat.blt j n then some _ else _) = _
  rw [show Nat.blt j n = true from Nat.blt_eq.mpr hj]
  rfl
theorem zqi32b (v : Int32) : -2147483648 ≤ v.toInt ∧ v.toInt ≤ 2147483647 := by
  have h1 := Int32.le_toInt v
  have h2 := Int32.toInt_lt v
  omega
end ZQA
section ZQB
variable {l : Launch} {D : va_G} {tys : List (ClassId × FieldType)} {A : Nat → Prop} {ad : Nat → Nat} {ws : va_W}
theorem zqgr31 : ∃ g, GG[90]? = some ((0, 11, 36), g) ∧ segAt g 31 = some (2, ((106 : Nat) : Int), ((106 : Nat) : Int)) := ⟨_, rfl, by decide +kernel⟩
theorem zqa106 : zqgA 106 49 (-2147483648) 2147483647 := zqgA_of rfl
theorem zqV_zge {k pc d y z : Nat} {a : Int} {post : Option Value → va_W → Prop} {lv : List (Nat × Value)} {st : List Value} {u : Int} (hi : mI k pc = (14, a, 3, y, z)) (b : zqI32 u) (kt : 0 ≤ u → V l D tys A k d 0 0 post 0 0 y lv st ws) (kf : u < 0 → V l D tys A k d 0 0 post 0 0 (pc + 3) lv st ws) : V l D tys A k d 0 0 post 0 0 pc lv (.int (Int32.ofInt u) :: st) ws := by
  have h : cdP 3 (Int32.ofInt u) 0 ↔ cdZ 3 (u - 0) := cdP_iff (b := 0) b.1 b.2 (by omega) (by omega)
  exact V_if hi (fun q => kt (by have : 0 ≤ u - 0 := h.mp q; omega)) (fun q => kf (by by_cases e : u < 0; exact e; exact absurd (h.mpr (show 0 ≤ u - 0 by omega)) q))
noncomputable def zqabI (x : Int) : Int := if 0 ≤ x then x else -x
noncomputable def zqlvR (n : Int) (pv : Nat → Int) (i : Nat) : Nat → Int
  | 0 => if zqabI ((i : Int) - ((0 : Nat) : Int)) ≤ n then (if i = 0 then 1 else pv 0) else 0
  | k + 1 => if zqabI ((i : Int) - ((k + 1 : Nat) : Int)) ≤ n then pv (k + 1) + zqlvR n pv i k else 0
noncomputable def zqlvF (n : Int) : Nat → Nat → Int
  | 0 => zqlvR n (fun _ => 0) 0
  | i + 1 => zqlvR n (zqlvF n i) (i + 1)
noncomputable def zqlvP (n : Int) : Nat → Nat → Int
  | 0 => fun _ => 0
  | i + 1 => zqlvF n i
noncomputable def zqlvS (n : Int) (i k : Nat) : Int := if k = 0 then (if i = 0 then 1 else zqlvP n i 0) else zqlvP n i k + zqlvF n i (k - 1)
theorem zqlvF_S {n : Int} {i : Nat} : ∀ k : Nat, zqlvF n i k = if zqabI ((i : Int) - (k : Int)) ≤ n then zqlvS n i k else 0 := by
  cases i with
  | zero => intro k; cases k <;> rfl
  | succ i => intro k; cases k <;> rfl
noncomputable def zqO106 (w0 w : va_W) : Prop := ∀ c j, c ≠ 106 → rd w c j = rd w0 c j
noncomputable def zqLMW (n : Int) (b i k : Nat) (w : va_W) : Prop := ∀ p q : Nat, q ≤ b → (p < i ∨ (p = i ∧ q < k)) → rd w 106 (7 * p + q) = some (.int (Int32.ofInt (zqlvF n p q)))
theorem zqLMW_n {n : Int} {b i : Nat} {w : va_W} (h : zqLMW n b i (b + 1) w) : zqLMW n b (i + 1) 0 w := fun p q hq e => h p q hq (by omega)
theorem zqabs_ct {x : Int} (h : zqI32 x) : CT l D tys A 343 0 0 0 [.int (Int32.ofInt (x))] ws (fun r w => w = ws ∧ r = some (.int (Int32.ofInt (zqabI x)))) := by
  refine CT_of_V (by omega) (show (1 : Nat) ≤ mML 343 by decide +kernel) ?_
  refine V_iload (v := Int32.ofInt (x)) zqmi_343_0 (by simp [stL, lv_args, Value.category]) ?_
  refine zqV_zge zqmi_343_1 h (fun q => ?_) (fun q => ?_)
  · refine V_iload (v := Int32.ofInt (x)) zqmi_343_9 (by simp [stL, lv_args, Value.category]) ?_
    exact V_retI zqmi_343_10 (fun h => absurd h (by decide +kernel)) ⟨rfl, by unfold zqabI; rw [if_pos (by omega)]⟩
  · refine V_iload (v := Int32.ofInt (x)) zqmi_343_4 (by simp [stL, lv_args, Value.category]) ?_
    refine V_ineg zqmi_343_5 ?_
    rw [show -(Int32.ofInt x) = Int32.ofInt (-x) from (Int32.ofInt_neg x).symm]
    refine V_goto zqmi_343_6 ?_
    exact V_retI zqmi_343_10 (fun h => absurd h (by decide +kernel)) ⟨rfl, by unfold zqabI; rw [if_neg (by omega)]⟩
theorem zqtlm_85 {a b i : Nat} {n : Int} (ha : a ≤ 6) (hb : b ≤ 6) (n0 : 0 ≤ n) (n6 : n ≤ 6) {k : Nat} (hi : i ≤ a) (hk : k ≤ b) {w0 : va_W} {post : Option Value → va_W → Prop} (hG : GOK ad tys GG ws) (hO : zqO106 w0 ws) (hR : zqLMW n b i k ws) (kk : ∀ w : va_W, GOK ad tys GG w → zqO106 w0 w → zqLMW n b i (k + 1) w → V l D tys A 320 1 0 0 post 0 0 12 [(0, .ref (ad 90)), (1, .int (Int32.ofInt ((a : Int)))), (2, .int (Int32.ofInt ((b : Int)))), (3, .int (Int32.ofInt (n))), (4, .int (Int32.ofInt ((i : Int)))), (5, .int (Int32.ofInt (((k + 1 : Nat) : Int))))] [] w) : V l D tys A 320 1 0 0 post 0 0 85 [(0, .ref (ad 90)), (1, .int (Int32.ofInt ((a : Int)))), (2, .int (Int32.ofInt ((b : Int)))), (3, .int (Int32.ofInt (n))), (4, .int (Int32.ofInt ((i : Int)))), (5, .int (Int32.ofInt ((k : Int)))), (6, .int (Int32.ofInt (zqlvS n i k)))] [] ws := by
  obtain ⟨s106, e106, f106⟩ := zqa106
  refine V_aload (v := ad 90) zqmi_320_85 (by simp [stL, lv_args, Value.category]) ?_
  refine zqV_getI zqmi_320_86 hG (zqrref zqgr31 (by omega) hG) ?_
  refine V_ipush zqmi_320_89 ?_
  refine V_iload (v := Int32.ofInt ((i : Int))) zqmi_320_91 (by simp [stL, lv_args, Value.category]) ?_
  refine V_ibin zqmi_320_93 (by omega) ?_
  rw [zqib2]
  refine V_iload (v := Int32.ofInt ((k : Int))) zqmi_320_94 (by simp [stL, lv_args, Value.category]) ?_
  refine V_ibin zqmi_320_96 (by omega) ?_
  rw [zqib0]
  refine V_iload (v := Int32.ofInt ((i : Int))) zqmi_320_97 (by simp [stL, lv_args, Value.category]) ?_
  refine V_iload (v := Int32.ofInt ((k : Int))) zqmi_320_99 (by simp [stL, lv_args, Value.category]) ?_
  refine V_ibin zqmi_320_101 (by omega) ?_
  rw [zqib1]
  refine V_stat (As := [.int (Int32.ofInt (((i : Int)) - ((k : Int))))]) (st := [.int (Int32.ofInt (((7) * ((i : Int))) + ((k : Int)))), .ref (ad 106)]) zqmi_320_102 (by omega) (zqabs_ct (x := (i : Int) - (k : Int)) ⟨by omega, by omega⟩) (by omega) (show 1 = mN 343 by decide +kernel) (by simp [Value.category]) ⟨Nat.le_refl _, Nat.le_refl _⟩ ?_
  rintro r w1 ⟨e1, rfl⟩
  rw [e1]
  have ab : 0 ≤ zqabI ((i : Int) - (k : Int)) ∧ zqabI ((i : Int) - (k : Int)) ≤ 6 := by unfold zqabI; split <;> omega
  have es := zqlvF_S (n := n) (i := i) k
  refine V_iload (v := Int32.ofInt (n)) zqmi_320_105 (by simp [stL, lv_args, Value.category]) ?_
  refine zqV_cgt zqmi_320_106 ⟨by omega, by omega⟩ ⟨by omega, by omega⟩ (fun q => ?_) (fun q => ?_)
  · rw [if_neg (by omega)] at es
    refine V_ipush zqmi_320_114 ?_
    rw [← es]
    refine zqV_astX (j := 7 * i + k) zqmi_320_115 (by rw [show 7 * (i : Int) + (k : Int) = ((7 * i + k : Nat) : Int) by omega]) hG e106 (by omega) (by omega) (f106 _ (by omega)) (zqi32b _).1 (zqi32b _).2 (fun w3 G3 U3 => ?_)
    refine V_iinc (v := Int32.ofInt ((k : Int))) zqmi_320_116 (by simp [stL, lv_args, Value.category]) ?_
    rw [zqia2]
    refine V_goto zqmi_320_119 ?_
    refine V_sub (lv' := [(0, .ref (ad 90)), (1, .int (Int32.ofInt ((a : Int)))), (2, .int (Int32.ofInt ((b : Int)))), (3, .int (Int32.ofInt (n))), (4, .int (Int32.ofInt ((i : Int)))), (5, .int (Int32.ofInt (((k + 1 : Nat) : Int))))]) (fun q hq => ?_) ?_
    · simp only [List.mem_cons, List.not_mem_nil, or_false] at hq
      rcases hq with rfl | rfl | rfl | rfl | rfl | rfl <;> simp [stL, lv_args, Value.category]
    refine kk w3 G3 (fun c j hc => (zqupd_ne U3 (by omega)).trans (hO c j hc)) (fun p q hq h => ?_)
    by_cases e : p = i ∧ q = k
    · rw [e.1, e.2]
      exact zqupd_eq U3
    · exact (zqupd_ne U3 (by omega)).trans (hR p q hq (by omega))
  · rw [if_pos (by omega)] at es
    refine V_iload (v := Int32.ofInt (zqlvS n i k)) zqmi_320_109 (by simp [stL, lv_args, Value.category]) ?_
    refine V_goto zqmi_320_111 ?_
    rw [← es]
    refine zqV_astX (j := 7 * i + k) zqmi_320_115 (by rw [show 7 * (i : Int) + (k : Int) = ((7 * i + k : Nat) : Int) by omega]) hG e106 (by omega) (by omega) (f106 _ (by omega)) (zqi32b _).1 (zqi32b _).2 (fun w3 G3 U3 => ?_)
    refine V_iinc (v := Int32.ofInt ((k : Int))) zqmi_320_116 (by simp [stL, lv_args, Value.category]) ?_
    rw [zqia2]
    refine V_goto zqmi_320_119 ?_
    refine V_sub (lv' := [(0, .ref (ad 90)), (1, .int (Int32.ofInt ((a : Int)))), (2, .int (Int32.ofInt ((b : Int)))), (3, .int (Int32.ofInt (n))), (4, .int (Int32.ofInt ((i : Int)))), (5, .int (Int32.ofInt (((k + 1 : Nat) : Int))))]) (fun q hq => ?_) ?_
    · simp only [List.mem_cons, List.not_mem_nil, or_false] at hq
      rcases hq with rfl | rfl | rfl | rfl | rfl | rfl <;> simp [stL, lv_args, Value.category]
    refine kk w3 G3 (fun c j hc => (zqupd_ne U3 (by omega)).trans (hO c j hc)) (fun p q hq h => ?_)
    by_cases e : p = i ∧ q = k
    · rw [e.1, e.2]
      exact zqupd_eq U3
    · exact (zqupd_ne U3 (by omega)).trans (hR p q hq (by omega))
theorem zqtlm_12 {a b i : Nat} {n : Int} (ha : a ≤ 6) (hb : b ≤ 6) (n0 : 0 ≤ n) (n6 : n ≤ 6) (hi : i ≤ a) {w0 : va_W} {post : Option Value → va_W → Prop} : ∀ (m k : Nat) (ws : va_W), k + m = b + 1 → GOK ad tys GG ws → zqO106 w0 ws → zqLMW n b i k ws → (∀ w : va_W, GOK ad tys GG w → zqO106 w0 w → zqLMW n b (i + 1) 0 w → V l D tys A 320 1 0 0 post 0 0 3 [(0, .ref (ad 90)), (1, .int (Int32.ofInt ((a : Int)))), (2, .int (Int32.ofInt ((b : Int)))), (3, .int (Int32.ofInt (n))), (4, .int (Int32.ofInt (((i + 1 : Nat) : Int))))] [] w) → V l D tys A 320 1 0 0 post 0 0 12 [(0, .ref (ad 90)), (1, .int (Int32.ofInt ((a : Int)))), (2, .int (Int32.ofInt ((b : Int)))), (3, .int (Int32.ofInt (n))), (4, .int (Int32.ofInt ((i : Int)))), (5, .int (Int32.ofInt ((k : Int))))] [] ws
  | 0, k, ws, hm, hG, hO, hR, kk => by
    refine V_iload (v := Int32.ofInt ((k : Int))) zqmi_320_12 (by simp [stL, lv_args, Value.category]) ?_
    refine V_iload (v := Int32.ofInt ((b : Int))) zqmi_320_14 (by simp [stL, lv_args, Value.category]) ?_
    refine zqV_cgt zqmi_320_15 ⟨by omega, by omega⟩ ⟨by omega, by omega⟩ (fun q => ?_) (fun q => ?_)
    · have e : k = b + 1 := by omega
      rw [e] at hR
      refine V_iinc (v := Int32.ofInt ((i : Int))) zqmi_320_122 (by simp [stL, lv_args, Value.category]) ?_
      rw [zqia2]
      rw [show (i : Int) + (1) = ((i + 1 : Nat) : Int) by omega]
      refine V_goto zqmi_320_125 ?_
      refine V_sub (lv' := [(0, .ref (ad 90)), (1, .int (Int32.ofInt ((a : Int)))), (2, .int (Int32.ofInt ((b : Int)))), (3, .int (Int32.ofInt (n))), (4, .int (Int32.ofInt (((i + 1 : Nat) : Int))))]) (fun q hq => ?_) ?_
      · simp only [List.mem_cons, List.not_mem_nil, or_false] at hq
        rcases hq with rfl | rfl | rfl | rfl | rfl <;> simp [stL, lv_args, Value.category]
      exact kk ws hG hO (zqLMW_n hR)
    · exact absurd q (by omega)
  | m + 1, k, ws, hm, hG, hO, hR, kk => by
    obtain ⟨s106, e106, f106⟩ := zqa106
    refine V_iload (v := Int32.ofInt ((k : Int))) zqmi_320_12 (by simp [stL, lv_args, Value.category]) ?_
    refine V_iload (v := Int32.ofInt ((b : Int))) zqmi_320_14 (by simp [stL, lv_args, Value.category]) ?_
    refine zqV_cgt zqmi_320_15 ⟨by omega, by omega⟩ ⟨by omega, by omega⟩ (fun q => ?_) (fun q => ?_)
    · exact absurd q (by omega)
    · refine V_iload (v := Int32.ofInt ((i : Int))) zqmi_320_18 (by simp [stL, lv_args, Value.category]) ?_
      refine zqV_zne zqmi_320_20 ⟨by omega, by omega⟩ (fun q2 => ?_) (fun q2 => ?_)
      · refine V_ipush zqmi_320_32 ?_
        refine V_istore zqmi_320_33 ?_
        refine V_iload (v := Int32.ofInt ((i : Int))) zqmi_320_35 (by simp [stL, lv_args, Value.category]) ?_
        refine zqV_zle zqmi_320_37 ⟨by omega, by omega⟩ (fun q3 => ?_) (fun q3 => ?_)
        · exact absurd q3 (by omega)
        · refine V_iload (v := Int32.ofInt (0)) zqmi_320_40 (by simp [stL, lv_args, Value.category]) ?_
          refine V_aload (v := ad 90) zqmi_320_42 (by simp [stL, lv_args, Value.category]) ?_
          refine zqV_getI zqmi_320_43 hG (zqrref zqgr31 (by omega) hG) ?_
          refine V_ipush zqmi_320_46 ?_
          refine V_iload (v := Int32.ofInt ((i : Int))) zqmi_320_48 (by simp [stL, lv_args, Value.category]) ?_
          refine V_ipush zqmi_320_50 ?_
          refine V_ibin zqmi_320_51 (by omega) ?_
          rw [zqib1]
          refine V_ibin zqmi_320_52 (by omega) ?_
          rw [zqib2]
          refine V_iload (v := Int32.ofInt ((k : Int))) zqmi_320_53 (by simp [stL, lv_args, Value.category]) ?_
          refine V_ibin zqmi_320_55 (by omega) ?_
          rw [zqib0]
          have hu : rd ws 106 (7 * (i - 1) + k) = some (.int (Int32.ofInt (zqlvP n i k))) := by
            obtain ⟨j, rfl⟩ : ∃ j, i = j + 1 := ⟨i - 1, by omega⟩
            exact hR j k (by omega) (Or.inl (by omega))
          refine zqV_aldX (j := 7 * (i - 1) + k) zqmi_320_56 (by rw [show ((7) * (((i : Int)) - (1))) + ((k : Int)) = ((7 * (i - 1) + k : Nat) : Int) by omega]) hG e106 (by omega) (by omega) (hu) ?_
          refine V_ibin zqmi_320_57 (by omega) ?_
          rw [zqib0]
          refine V_istore zqmi_320_58 ?_
          refine V_iload (v := Int32.ofInt ((k : Int))) zqmi_320_60 (by simp [stL, lv_args, Value.category]) ?_
          refine zqV_zle zqmi_320_62 ⟨by omega, by omega⟩ (fun q4 => ?_) (fun q4 => ?_)
          · rw [show (0) + (zqlvP n i k) = zqlvS n i k from by unfold zqlvS; rw [if_pos (by omega), if_neg (by omega), show k = 0 by omega]; omega]
            refine V_sub (lv' := [(0, .ref (ad 90)), (1, .int (Int32.ofInt ((a : Int)))), (2, .int (Int32.ofInt ((b : Int)))), (3, .int (Int32.ofInt (n))), (4, .int (Int32.ofInt ((i : Int)))), (5, .int (Int32.ofInt ((k : Int)))), (6, .int (Int32.ofInt (zqlvS n i k)))]) (fun q hq => ?_) ?_
            · simp only [List.mem_cons, List.not_mem_nil, or_false] at hq
              rcases hq with rfl | rfl | rfl | rfl | rfl | rfl | rfl <;> simp [stL, lv_args, Value.category]
            exact zqtlm_85 ha hb n0 n6 hi (by omega) hG hO hR (fun w g o r => zqtlm_12 ha hb n0 n6 hi m (k + 1) w (by omega) g o r kk)
          · refine V_iload (v := Int32.ofInt ((0) + (zqlvP n i k))) zqmi_320_65 (by simp [stL, lv_args, Value.category]) ?_
            refine V_aload (v := ad 90) zqmi_320_67 (by simp [stL, lv_args, Value.category]) ?_
            refine zqV_getI zqmi_320_68 hG (zqrref zqgr31 (by omega) hG) ?_
            refine V_ipush zqmi_320_71 ?_
            refine V_iload (v := Int32.ofInt ((i : Int))) zqmi_320_73 (by simp [stL, lv_args, Value.category]) ?_
            refine V_ibin zqmi_320_75 (by omega) ?_
            rw [zqib2]
            refine V_iload (v := Int32.ofInt ((k : Int))) zqmi_320_76 (by simp [stL, lv_args, Value.category]) ?_
            refine V_ibin zqmi_320_78 (by omega) ?_
            rw [zqib0]
            refine V_ipush zqmi_320_79 ?_
            refine V_ibin zqmi_320_80 (by omega) ?_
            rw [zqib1]
            have hl := hR i (k - 1) (by omega) (Or.inr ⟨rfl, by omega⟩)
            refine zqV_aldX (j := 7 * i + (k - 1)) zqmi_320_81 (by rw [show (((7) * ((i : Int))) + ((k : Int))) - (1) = ((7 * i + (k - 1) : Nat) : Int) by omega]) hG e106 (by omega) (by omega) (hl) ?_
            refine V_ibin zqmi_320_82 (by omega) ?_
            rw [zqib0]
            refine V_istore zqmi_320_83 ?_
            rw [show ((0) + (zqlvP n i k)) + (zqlvF n i (k - 1)) = zqlvS n i k from by unfold zqlvS; rw [if_neg (by omega)]; omega]
            refine V_sub (lv' := [(0, .ref (ad 90)), (1, .int (Int32.ofInt ((a : Int)))), (2, .int (Int32.ofInt ((b : Int)))), (3, .int (Int32.ofInt (n))), (4, .int (Int32.ofInt ((i : Int)))), (5, .int (Int32.ofInt ((k : Int)))), (6, .int (Int32.ofInt (zqlvS n i k)))]) (fun q hq => ?_) ?_
            · simp only [List.mem_cons, List.not_mem_nil, or_false] at hq
              rcases hq with rfl | rfl | rfl | rfl | rfl | rfl | rfl <;> simp [stL, lv_args, Value.category]
            exact zqtlm_85 ha hb n0 n6 hi (by omega) hG hO hR (fun w g o r => zqtlm_12 ha hb n0 n6 hi m (k + 1) w (by omega) g o r kk)
      · refine V_iload (v := Int32.ofInt ((k : Int))) zqmi_320_23 (by simp [stL, lv_args, Value.category]) ?_
        refine zqV_zne zqmi_320_25 ⟨by omega, by omega⟩ (fun q5 => ?_) (fun q5 => ?_)
        · refine V_ipush zqmi_320_32 ?_
          refine V_istore zqmi_320_33 ?_
          refine V_iload (v := Int32.ofInt ((i : Int))) zqmi_320_35 (by simp [stL, lv_args, Value.category]) ?_
          refine zqV_zle zqmi_320_37 ⟨by omega, by omega⟩ (fun q3 => ?_) (fun q3 => ?_)
          · refine V_iload (v := Int32.ofInt ((k : Int))) zqmi_320_60 (by simp [stL, lv_args, Value.category]) ?_
            refine zqV_zle zqmi_320_62 ⟨by omega, by omega⟩ (fun q4 => ?_) (fun q4 => ?_)
            · exact absurd q4 (by omega)
            · refine V_iload (v := Int32.ofInt (0)) zqmi_320_65 (by simp [stL, lv_args, Value.category]) ?_
              refine V_aload (v := ad 90) zqmi_320_67 (by simp [stL, lv_args, Value.category]) ?_
              refine zqV_getI zqmi_320_68 hG (zqrref zqgr31 (by omega) hG) ?_
              refine V_ipush zqmi_320_71 ?_
              refine V_iload (v := Int32.ofInt ((i : Int))) zqmi_320_73 (by simp [stL, lv_args, Value.category]) ?_
              refine V_ibin zqmi_320_75 (by omega) ?_
              rw [zqib2]
              refine V_iload (v := Int32.ofInt ((k : Int))) zqmi_320_76 (by simp [stL, lv_args, Value.category]) ?_
              refine V_ibin zqmi_320_78 (by omega) ?_
              rw [zqib0]
              refine V_ipush zqmi_320_79 ?_
              refine V_ibin zqmi_320_80 (by omega) ?_
              rw [zqib1]
              have hl := hR i (k - 1) (by omega) (Or.inr ⟨rfl, by omega⟩)
              refine zqV_aldX (j := 7 * i + (k - 1)) zqmi_320_81 (by rw [show (((7) * ((i : Int))) + ((k : Int))) - (1) = ((7 * i + (k - 1) : Nat) : Int) by omega]) hG e106 (by omega) (by omega) (hl) ?_
              refine V_ibin zqmi_320_82 (by omega) ?_
              rw [zqib0]
              refine V_istore zqmi_320_83 ?_
              rw [show (0) + (zqlvF n i (k - 1)) = zqlvS n i k from by unfold zqlvS; rw [if_neg (by omega), show zqlvP n i k = 0 by rw [show i = 0 by omega]; rfl]]
              refine V_sub (lv' := [(0, .ref (ad 90)), (1, .int (Int32.ofInt ((a : Int)))), (2, .int (Int32.ofInt ((b : Int)))), (3, .int (Int32.ofInt (n))), (4, .int (Int32.ofInt ((i : Int)))), (5, .int (Int32.ofInt ((k : Int)))), (6, .int (Int32.ofInt (zqlvS n i k)))]) (fun q hq => ?_) ?_
              · simp only [List.mem_cons, List.not_mem_nil, or_false] at hq
                rcases hq with rfl | rfl | rfl | rfl | rfl | rfl | rfl <;> simp [stL, lv_args, Value.category]
              exact zqtlm_85 ha hb n0 n6 hi (by omega) hG hO hR (fun w g o r => zqtlm_12 ha hb n0 n6 hi m (k + 1) w (by omega) g o r kk)
          · exact absurd q3 (by omega)
        · refine V_ipush zqmi_320_28 ?_
          refine V_goto zqmi_320_29 ?_
          refine V_istore zqmi_320_33 ?_
          refine V_iload (v := Int32.ofInt ((i : Int))) zqmi_320_35 (by simp [stL, lv_args, Value.category]) ?_
          refine zqV_zle zqmi_320_37 ⟨by omega, by omega⟩ (fun q3 => ?_) (fun q3 => ?_)
          · refine V_iload (v := Int32.ofInt ((k : Int))) zqmi_320_60 (by simp [stL, lv_args, Value.category]) ?_
            refine zqV_zle zqmi_320_62 ⟨by omega, by omega⟩ (fun q4 => ?_) (fun q4 => ?_)
            · rw [show 1 = zqlvS n i k from by unfold zqlvS; rw [if_pos (by omega), if_pos (by omega)]]
              refine V_sub (lv' := [(0, .ref (ad 90)), (1, .int (Int32.ofInt ((a : Int)))), (2, .int (Int32.ofInt ((b : Int)))), (3, .int (Int32.ofInt (n))), (4, .int (Int32.ofInt ((i : Int)))), (5, .int (Int32.ofInt ((k : Int)))), (6, .int (Int32.ofInt (zqlvS n i k)))]) (fun q hq => ?_) ?_
              · simp only [List.mem_cons, List.not_mem_nil, or_false] at hq
                rcases hq with rfl | rfl | rfl | rfl | rfl | rfl | rfl <;> simp [stL, lv_args, Value.category]
              exact zqtlm_85 ha hb n0 n6 hi (by omega) hG hO hR (fun w g o r => zqtlm_12 ha hb n0 n6 hi m (k + 1) w (by omega) g o r kk)
            · exact absurd q4 (by omega)
          · exact absurd q3 (by omega)
theorem zqtlm_3 {a b : Nat} {n : Int} (ha : a ≤ 6) (hb : b ≤ 6) (n0 : 0 ≤ n) (n6 : n ≤ 6) {w0 : va_W} {post : Option Value → va_W → Prop} : ∀ (m i : Nat) (ws : va_W), i + m = a + 1 → GOK ad tys GG ws → zqO106 w0 ws → zqLMW n b i 0 ws → (∀ w : va_W, GOK ad tys GG w → zqO106 w0 w → post (some (.int (Int32.ofInt (zqlvF n a b)))) w) → V l D tys A 320 1 0 0 post 0 0 3 [(0, .ref (ad 90)), (1, .int (Int32.ofInt ((a : Int)))), (2, .int (Int32.ofInt ((b : Int)))), (3, .int (Int32.ofInt (n))), (4, .int (Int32.ofInt ((i : Int))))] [] ws
  | 0, i, ws, hm, hG, hO, hR, kk => by
    obtain ⟨s106, e106, f106⟩ := zqa106
    refine V_iload (v := Int32.ofInt ((i : Int))) zqmi_320_3 (by simp [stL, lv_args, Value.category]) ?_
    refine V_iload (v := Int32.ofInt ((a : Int))) zqmi_320_5 (by simp [stL, lv_args, Value.category]) ?_
    refine zqV_cgt zqmi_320_6 ⟨by omega, by omega⟩ ⟨by omega, by omega⟩ (fun q => ?_) (fun q => ?_)
    · have g := hR a b (Nat.le_refl b) (Or.inl (by omega))
      refine V_aload (v := ad 90) zqmi_320_128 (by simp [stL, lv_args, Value.category]) ?_
      refine zqV_getI zqmi_320_129 hG (zqrref zqgr31 (by omega) hG) ?_
      refine V_ipush zqmi_320_132 ?_
      refine V_iload (v := Int32.ofInt ((a : Int))) zqmi_320_134 (by simp [stL, lv_args, Value.category]) ?_
      refine V_ibin zqmi_320_135 (by omega) ?_
      rw [zqib2]
      refine V_iload (v := Int32.ofInt ((b : Int))) zqmi_320_136 (by simp [stL, lv_args, Value.category]) ?_
      refine V_ibin zqmi_320_137 (by omega) ?_
      rw [zqib0]
      refine zqV_aldX (j := 7 * a + b) zqmi_320_138 (by rw [show ((7) * ((a : Int))) + ((b : Int)) = ((7 * a + b : Nat) : Int) by omega]) hG e106 (by omega) (by omega) (g) ?_
      exact V_retI zqmi_320_139 (fun h => absurd h (by decide +kernel)) (kk _ hG hO)
    · exact absurd q (by omega)
  | m + 1, i, ws, hm, hG, hO, hR, kk => by
    refine V_iload (v := Int32.ofInt ((i : Int))) zqmi_320_3 (by simp [stL, lv_args, Value.category]) ?_
    refine V_iload (v := Int32.ofInt ((a : Int))) zqmi_320_5 (by simp [stL, lv_args, Value.category]) ?_
    refine zqV_cgt zqmi_320_6 ⟨by omega, by omega⟩ ⟨by omega, by omega⟩ (fun q => ?_) (fun q => ?_)
    · exact absurd q (by omega)
    · refine V_ipush zqmi_320_9 ?_
      refine V_istore zqmi_320_10 ?_
      refine V_sub (lv' := [(0, .ref (ad 90)), (1, .int (Int32.ofInt ((a : Int)))), (2, .int (Int32.ofInt ((b : Int)))), (3, .int (Int32.ofInt (n))), (4, .int (Int32.ofInt ((i : Int)))), (5, .int (Int32.ofInt (((0 : Nat) : Int))))]) (fun q hq => ?_) ?_
      · simp only [List.mem_cons, List.not_mem_nil, or_false] at hq
        rcases hq with rfl | rfl | rfl | rfl | rfl | rfl <;> simp [stL, lv_args, Value.category]
      exact zqtlm_12 ha hb n0 n6 (by omega) (b + 1) 0 ws (by omega) hG hO hR (fun w g o r => zqtlm_3 ha hb n0 n6 m (i + 1) w (by omega) g o r kk)
theorem zqtlm_ct {a b : Nat} {n : Int} (ha : a ≤ 6) (hb : b ≤ 6) (n0 : 0 ≤ n) (n6 : n ≤ 6) (hG : GOK ad tys GG ws) : CT l D tys A 320 1 0 0 [.ref (ad 90), .int (Int32.ofInt ((a : Int))), .int (Int32.ofInt ((b : Int))), .int (Int32.ofInt (n))] ws (fun r w => (GOK ad tys GG w ∧ zqO106 ws w) ∧ r = some (.int (Int32.ofInt (zqlvF n a b)))) := by
  refine CT_of_V (by omega) (show (4 : Nat) ≤ mML 320 by decide +kernel) ?_
  refine V_ipush zqmi_320_0 ?_
  refine V_istore zqmi_320_1 ?_
  refine V_sub (lv' := [(0, .ref (ad 90)), (1, .int (Int32.ofInt ((a : Int)))), (2, .int (Int32.ofInt ((b : Int)))), (3, .int (Int32.ofInt (n))), (4, .int (Int32.ofInt (((0 : Nat) : Int))))]) (fun q hq => ?_) ?_
  · simp only [List.mem_cons, List.not_mem_nil, or_false] at hq
    rcases hq with rfl | rfl | rfl | rfl | rfl <;> simp [stL, lv_args, Value.category]
  exact zqtlm_3 ha hb n0 n6 (a + 1) 0 ws (by omega) hG (fun _ _ _ => rfl) (fun p q _ h => absurd h (by omega)) (fun w g o => ⟨⟨g, o⟩, rfl⟩)
theorem zqfour {s1 s2 s3 s4 : SP3} : ∀ {vs : List Value}, okvs ad [s1, s2, s3, s4] vs → ∃ a b c e, vs = [a, b, c, e] ∧ okv ad s1 a ∧ okv ad s2 b ∧ okv ad s3 c ∧ okv ad s4 e
  | [], h => h.elim
  | [a], h => h.2.elim
  | [a, b], h => h.2.2.elim
  | [a, b, c], h => h.2.2.2.elim
  | [a, b, c, e], h => ⟨a, b, c, e, rfl, h.1, h.2.1, h.2.2.1, h.2.2.2.1⟩
  | a :: b :: c :: e :: g :: t, h => h.2.2.2.2.elim
theorem zqlv {b : Nat} {C : Int} (hb : b ≤ 6) (hv : (List.range 7).all (fun a => decide (1 ≤ zqlvF 6 a b) && decide (zqlvF 6 a b ≤ C)) = true) : CRok l D tys A ad GG 2 (320, [(2, 90, 90), (0, 0, 6), (0, (b : Int), (b : Int)), (0, 6, 6)], [], some (0, 1, C), [], [106]) := by
  intro vs ws hvs hG hp
  obtain ⟨v0, v1, v2, v3, rfl, h0, ⟨z1, rfl, p1, p2⟩, ⟨z2, rfl, q1, q2⟩, ⟨z3, rfl, s1, s2⟩⟩ := zqfour hvs
  have h0 : v0 = .ref (ad 90) := h0
  subst h0
  have p1 : 0 ≤ z1 := p1
  have p2 : z1 ≤ 6 := p2
  have q1 : (b : Int) ≤ z2 := q1
  have q2 : z2 ≤ (b : Int) := q2
  have s1 : 6 ≤ z3 := s1
  have s2 : z3 ≤ 6 := s2
  have hv1 : (decide (1 ≤ zqlvF 6 z1.toNat b) && decide (zqlvF 6 z1.toNat b ≤ C)) = true := List.all_eq_true.mp hv z1.toNat (List.mem_range.mpr (by omega))
  rw [Bool.and_eq_true, decide_eq_true_eq, decide_eq_true_eq] at hv1
  have K := zqtlm_ct (l := l) (D := D) (A := A) (a := z1.toNat) (b := b) (n := 6) (by omega) hb (by omega) (by omega) hG
  rw [Int.toNat_of_nonneg p1] at K
  rw [show z2 = (b : Int) by omega, show z3 = 6 by omega]
  refine ⟨1, Nat.lt_succ_self 1, CT_post K (fun r w k => ?_)⟩
  obtain ⟨⟨g, o⟩, e⟩ := k
  have o8 : rd w 90 8 = rd ws 90 8 := o 90 8 (by omega)
  refine ⟨g, ⟨fun c hc j => o c j (fun e => hc (by rw [e]; exact List.mem_singleton.mpr rfl)), fun x y hx hy => ?_, fun v hv => ⟨v, o8.trans hv, fun h => h⟩, fun j _ => o 90 j (by omega)⟩, ?_, fun q hq => by cases hq⟩
  · have hx : rd ws 90 8 = some (.int x) := hx
    have hy : rd w 90 8 = some (.int y) := hy
    rw [o8, hx] at hy
    cases hy
    exact Int.le_refl _
  · rw [e]
    exact (show ∃ z : Int, Value.int (Int32.ofInt (zqlvF 6 z1.toNat b)) = .int (Int32.ofInt z) ∧ 1 ≤ z ∧ z ≤ C from ⟨_, rfl, hv1.1, hv1.2⟩)
end ZQB
