def WSG : List (Int × Int) := [(0, 0), (1, 1), (2, 2), (3, 3), (4, 4), (5, 5), (6, 6), (7, 12), (13, 13), (14, 19), (20, 20), (21, 26), (27, 27), (28, 33), (34, 34), (35, 40), (41, 41), (42, 47), (48, 53), (54, 59), (60, 65), (66, 101), (102, 245), (246, 248), (249, 249), (250, 252), (253, 253), (254, 256), (257, 257), (258, 260), (261, 261), (262, 264), (265, 265), (266, 268), (269, 269), (270, 272), (273, 273), (274, 276), (277, 277), (278, 280), (281, 281), (282, 284), (285, 285), (286, 288), (289, 289), (290, 292), (293, 293), (294, 294)]
def cutW (pc : Nat) (k : Nat) (ov : OV) : List (Nat × CUT) := WSG.map (fun s => bif eqI s.1 s.2 then (pc, [], [(0, rA 90), (1, iA ((k : Int), [])), (2, iA (s.1, []))], [], ov, (294 - s.1, [])) else (pc, [s], [(0, rA 90), (1, iA ((k : Int), [])), (2, iA (0, [(1, 0)]))], [], ov, (294, [((-1), 0)])))
def cIX (k q : Nat) (ms : List Nat) : CR := (67, [(2, 0, 0), (0, (k : Int), (k : Int))], [((0, 12), (0, (q : Int), (q : Int)))], some (0, 0, 0), [((0, 12), (0, ((q ||| 2 ^ k : Nat) : Int), ((q ||| 2 ^ k : Nat) : Int)))], 0 :: ms)
def bkV (q k : Nat) : Int := bif q.testBit k then 0 else -6
def cBX (k q : Nat) (ms : List Nat) : CR := (68, [(2, 0, 0), (0, (k : Int), (k : Int))], [((0, 12), (0, (q : Int), (q : Int)))], some (0, bkV q k, bkV q k), [], ms)
def bI' (b : Bool) : Int := bif b then 1 else 0
def cBM (k : Nat) (b : Bool) : CR := (197, [(2, 90, 90), (0, (k : Int), (k : Int))], [((93, k), (0, bI' b, bI' b))], some (0, (bif b then 0 else -6), (bif b then 0 else -6)), [], [91])
def mBK : List Nat := [4, 5, 6, 7, 8, 9, 10, 11, 12, 13, 14, 15, 29, 30, 31, 32, 33, 34, 35]
def mI0 : List Nat := [54, 55, 56, 57, 58, 59, 60, 61, 62, 63, 64, 65]
theorem vIX0 : (List.range 8).all (fun q => vrf GG [(1, g571), (1, g572), (1, g573), (1, g574), (1, g575), (1, g576), (1, g577), (1, g578), (1, g579), (1, g580), (1, g581)] [] 300 2 (cIX 0 q mI0) []) = true := by decide +kernel
theorem rIX0 {l : Launch} {D : va_G} {tys : List (ClassId × FieldType)} {A : Nat → Prop} {ad : Nat → Nat} (hAD : ∀ i : Nat, ad (1000 + i) = D.2 1000 i) {q : Nat} (hq : q < 8) : CRok l D tys A ad GG 3 (cIX 0 q mI0) := CR_of_vrf (dep := 2) hAD (List.forall_mem_cons.mpr ⟨r571 hAD, List.forall_mem_cons.mpr ⟨r572 hAD, List.forall_mem_cons.mpr ⟨r573 hAD, List.forall_mem_cons.mpr ⟨r574 hAD, List.forall_mem_cons.mpr ⟨r575 hAD, List.forall_mem_cons.mpr ⟨r576 hAD, List.forall_mem_cons.mpr ⟨r577 hAD, List.forall_mem_cons.mpr ⟨r578 hAD, List.forall_mem_cons.mpr ⟨r579 hAD, List.forall_mem_cons.mpr ⟨r580 hAD, List.forall_mem_cons.mpr ⟨r581 hAD, fun c hc => by cases hc⟩⟩⟩⟩⟩⟩⟩⟩⟩⟩⟩) T2OK_nil (List.all_eq_true.mp vIX0 q (List.mem_range.mpr hq))
theorem vBX0 : (List.range 8).all (fun q => vrf GG [(4, g78), (1, g614), (1, g615), (1, g616), (1, g617), (1, g618), (1, g619), (1, g620), (1, g621), (1, g622), (1, g623), (1, g624), (5, g76)] [] 400 6 (cBX 0 q mBK) []) = true := by decide +kernel
theorem rBX0 {l : Launch} {D : va_G} {tys : List (ClassId × FieldType)} {A : Nat → Prop} {ad : Nat → Nat} (hAD : ∀ i : Nat, ad (1000 + i) = D.2 1000 i) {q : Nat} (hq : q < 8) : CRok l D tys A ad GG 7 (cBX 0 q mBK) := CR_of_vrf (dep := 6) hAD (List.forall_mem_cons.mpr ⟨r78 hAD, List.forall_mem_cons.mpr ⟨r614 hAD, List.forall_mem_cons.mpr ⟨r615 hAD, List.forall_mem_cons.mpr ⟨r616 hAD, List.forall_mem_cons.mpr ⟨r617 hAD, List.forall_mem_cons.mpr ⟨r618 hAD, List.forall_mem_cons.mpr ⟨r619 hAD, List.forall_mem_cons.mpr ⟨r620 hAD, List.forall_mem_cons.mpr ⟨r621 hAD, List.forall_mem_cons.mpr ⟨r622 hAD, List.forall_mem_cons.mpr ⟨r623 hAD, List.forall_mem_cons.mpr ⟨r624 hAD, List.forall_mem_cons.mpr ⟨r76 hAD, fun c hc => by cases hc⟩⟩⟩⟩⟩⟩⟩⟩⟩⟩⟩⟩⟩) T2OK_nil (List.all_eq_true.mp vBX0 q (List.mem_range.mpr hq))
theorem vBM0t : vrf GG [] [] 1200 1 (cBM 0 true) (cutW 29 0 []) = true := by decide +kernel
theorem vBM0f : vrf GG [] [] 1200 1 (cBM 0 false) [] = true := by decide +kernel
theorem rBM0 {l : Launch} {D : va_G} {tys : List (ClassId × FieldType)} {A : Nat → Prop} {ad : Nat → Nat} (hAD : ∀ i : Nat, ad (1000 + i) = D.2 1000 i) : ∀ b : Bool, CRok l D tys A ad GG 2 (cBM 0 b)
  | true => CR_of_vrf (dep := 1) hAD (fun c hc => by cases hc) T2OK_nil vBM0t
  | false => CR_of_vrf (dep := 1) hAD (fun c hc => by cases hc) T2OK_nil vBM0f
def mI1 : List Nat := [66, 67, 68, 69, 70, 71, 72, 73, 74, 75, 76, 77]
theorem vIX1 : (List.range 8).all (fun q => vrf GG [(1, g583), (1, g584), (1, g585), (1, g586), (1, g587), (1, g588), (1, g589), (1, g590), (1, g591), (1, g592), (1, g593)] [] 300 2 (cIX 1 q mI1) []) = true := by decide +kernel
theorem rIX1 {l : Launch} {D : va_G} {tys : List (ClassId × FieldType)} {A : Nat → Prop} {ad : Nat → Nat} (hAD : ∀ i : Nat, ad (1000 + i) = D.2 1000 i) {q : Nat} (hq : q < 8) : CRok l D tys A ad GG 3 (cIX 1 q mI1) := CR_of_vrf (dep := 2) hAD (List.forall_mem_cons.mpr ⟨r583 hAD, List.forall_mem_cons.mpr ⟨r584 hAD, List.forall_mem_cons.mpr ⟨r585 hAD, List.forall_mem_cons.mpr ⟨r586 hAD, List.forall_mem_cons.mpr ⟨r587 hAD, List.forall_mem_cons.mpr ⟨r588 hAD, List.forall_mem_cons.mpr ⟨r589 hAD, List.forall_mem_cons.mpr ⟨r590 hAD, List.forall_mem_cons.mpr ⟨r591 hAD, List.forall_mem_cons.mpr ⟨r592 hAD, List.forall_mem_cons.mpr ⟨r593 hAD, fun c hc => by cases hc⟩⟩⟩⟩⟩⟩⟩⟩⟩⟩⟩) T2OK_nil (List.all_eq_true.mp vIX1 q (List.mem_range.mpr hq))
theorem vBX1 : (List.range 8).all (fun q => vrf GG [(4, g78), (1, g626), (1, g627), (1, g628), (1, g629), (1, g630), (1, g631), (1, g632), (1, g633), (1, g634), (1, g635), (1, g636), (5, g76)] [] 400 6 (cBX 1 q mBK) []) = true := by decide +kernel
theorem rBX1 {l : Launch} {D : va_G} {tys : List (ClassId × FieldType)} {A : Nat → Prop} {ad : Nat → Nat} (hAD : ∀ i : Nat, ad (1000 + i) = D.2 1000 i) {q : Nat} (hq : q < 8) : CRok l D tys A ad GG 7 (cBX 1 q mBK) := CR_of_vrf (dep := 6) hAD (List.forall_mem_cons.mpr ⟨r78 hAD, List.forall_mem_cons.mpr ⟨r626 hAD, List.forall_mem_cons.mpr ⟨r627 hAD, List.forall_mem_cons.mpr ⟨r628 hAD, List.forall_mem_cons.mpr ⟨r629 hAD, List.forall_mem_cons.mpr ⟨r630 hAD, List.forall_mem_cons.mpr ⟨r631 hAD, List.forall_mem_cons.mpr ⟨r632 hAD, List.forall_mem_cons.mpr ⟨r633 hAD, List.forall_mem_cons.mpr ⟨r634 hAD, List.forall_mem_cons.mpr ⟨r635 hAD, List.forall_mem_cons.mpr ⟨r636 hAD, List.forall_mem_cons.mpr ⟨r76 hAD, fun c hc => by cases hc⟩⟩⟩⟩⟩⟩⟩⟩⟩⟩⟩⟩⟩) T2OK_nil (List.all_eq_true.mp vBX1 q (List.mem_range.mpr hq))
theorem vBM1t : vrf GG [] [] 1200 1 (cBM 1 true) (cutW 29 1 []) = true := by decide +kernel
theorem vBM1f : vrf GG [] [] 1200 1 (cBM 1 false) [] = true := by decide +kernel
theorem rBM1 {l : Launch} {D : va_G} {tys : List (ClassId × FieldType)} {A : Nat → Prop} {ad : Nat → Nat} (hAD : ∀ i : Nat, ad (1000 + i) = D.2 1000 i) : ∀ b : Bool, CRok l D tys A ad GG 2 (cBM 1 b)
  | true => CR_of_vrf (dep := 1) hAD (fun c hc => by cases hc) T2OK_nil vBM1t
  | false => CR_of_vrf (dep := 1) hAD (fun c hc => by cases hc) T2OK_nil vBM1f
def mI2 : List Nat := [78, 79, 80, 81, 82, 83, 84, 85, 86, 87, 88, 89]
theorem vIX2 : (List.range 8).all (fun q => vrf GG [(1, g595), (1, g596), (1, g597), (1, g598), (1, g599), (1, g600), (1, g601), (1, g602), (1, g603), (1, g604), (1, g605)] [] 300 2 (cIX 2 q mI2) []) = true := by decide +kernel
theorem rIX2 {l : Launch} {D : va_G} {tys : List (ClassId × FieldType)} {A : Nat → Prop} {ad : Nat → Nat} (hAD : ∀ i : Nat, ad (1000 + i) = D.2 1000 i) {q : Nat} (hq : q < 8) : CRok l D tys A ad GG 3 (cIX 2 q mI2) := CR_of_vrf (dep := 2) hAD (List.forall_mem_cons.mpr ⟨r595 hAD, List.forall_mem_cons.mpr ⟨r596 hAD, List.forall_mem_cons.mpr ⟨r597 hAD, List.forall_mem_cons.mpr ⟨r598 hAD, List.forall_mem_cons.mpr ⟨r599 hAD, List.forall_mem_cons.mpr ⟨r600 hAD, List.forall_mem_cons.mpr ⟨r601 hAD, List.forall_mem_cons.mpr ⟨r602 hAD, List.forall_mem_cons.mpr ⟨r603 hAD, List.forall_mem_cons.mpr ⟨r604 hAD, List.forall_mem_cons.mpr ⟨r605 hAD, fun c hc => by cases hc⟩⟩⟩⟩⟩⟩⟩⟩⟩⟩⟩) T2OK_nil (List.all_eq_true.mp vIX2 q (List.mem_range.mpr hq))
theorem vBX2 : (List.range 8).all (fun q => vrf GG [(4, g78), (1, g638), (1, g639), (1, g640), (1, g641), (1, g642), (1, g643), (1, g644), (1, g645), (1, g646), (1, g647), (1, g648), (5, g76)] [] 400 6 (cBX 2 q mBK) []) = true := by decide +kernel
theorem rBX2 {l : Launch} {D : va_G} {tys : List (ClassId × FieldType)} {A : Nat → Prop} {ad : Nat → Nat} (hAD : ∀ i : Nat, ad (1000 + i) = D.2 1000 i) {q : Nat} (hq : q < 8) : CRok l D tys A ad GG 7 (cBX 2 q mBK) := CR_of_vrf (dep := 6) hAD (List.forall_mem_cons.mpr ⟨r78 hAD, List.forall_mem_cons.mpr ⟨r638 hAD, List.forall_mem_cons.mpr ⟨r639 hAD, List.forall_mem_cons.mpr ⟨r640 hAD, List.forall_mem_cons.mpr ⟨r641 hAD, List.forall_mem_cons.mpr ⟨r642 hAD, List.forall_mem_cons.mpr ⟨r643 hAD, List.forall_mem_cons.mpr ⟨r644 hAD, List.forall_mem_cons.mpr ⟨r645 hAD, List.forall_mem_cons.mpr ⟨r646 hAD, List.forall_mem_cons.mpr ⟨r647 hAD, List.forall_mem_cons.mpr ⟨r648 hAD, List.forall_mem_cons.mpr ⟨r76 hAD, fun c hc => by cases hc⟩⟩⟩⟩⟩⟩⟩⟩⟩⟩⟩⟩⟩) T2OK_nil (List.all_eq_true.mp vBX2 q (List.mem_range.mpr hq))
theorem vBM2t : vrf GG [] [] 1200 1 (cBM 2 true) (cutW 29 2 []) = true := by decide +kernel
theorem vBM2f : vrf GG [] [] 1200 1 (cBM 2 false) [] = true := by decide +kernel
theorem rBM2 {l : Launch} {D : va_G} {tys : List (ClassId × FieldType)} {A : Nat → Prop} {ad : Nat → Nat} (hAD : ∀ i : Nat, ad (1000 + i) = D.2 1000 i) : ∀ b : Bool, CRok l D tys A ad GG 2 (cBM 2 b)
  | true => CR_of_vrf (dep := 1) hAD (fun c hc => by cases hc) T2OK_nil vBM2t
  | false => CR_of_vrf (dep := 1) hAD (fun c hc => by cases hc) T2OK_nil vBM2f
def cutW2 (k : Nat) : List (Nat × CUT) := WSG.map (fun s => bif eqI s.1 s.2 then (17, [], [(0, rA 90), (1, iA ((k : Int), [])), (2, iA (s.1, []))], [], [], (295 - s.1, [])) else (17, [s], [(0, rA 90), (1, iA ((k : Int), [])), (2, iA (0, [(1, 0)]))], [], [], (295, [((-1), 0)])))
def kIM (k : Nat) : List (Nat × CUT) := [(48, [], [(0, rA 90), (1, iA ((k : Int), []))], [], [], (0, []))]
def cIM : CR := (196, [], [], none, [((90, 8), (0, 5, 4))], [92])
theorem vIM0a : vr1 GG [] [] 1200 1 cIM (cutW2 0 ++ kIM 0) none (0, [], [(0, rA 90), (1, iA ((0 : Nat), []))], [], []) = true := by decide +kernel
theorem vIM0b : (cutW2 0).all (fun p => wfT p.2.1.length p.2.2.2.2.2.2 && vr1 GG [] [] 1200 1 cIM (cutW2 0 ++ kIM 0) (some p.2.2.2.2.2) (p.1, p.2.1, p.2.2.1, p.2.2.2.1, p.2.2.2.2.1)) = true := by decide +kernel
theorem vIM1a : vr1 GG [] [] 1200 1 cIM (cutW2 1 ++ kIM 1) none (0, [], [(0, rA 90), (1, iA ((1 : Nat), []))], [], []) = true := by decide +kernel
theorem vIM1b : (cutW2 1).all (fun p => wfT p.2.1.length p.2.2.2.2.2.2 && vr1 GG [] [] 1200 1 cIM (cutW2 1 ++ kIM 1) (some p.2.2.2.2.2) (p.1, p.2.1, p.2.2.1, p.2.2.2.1, p.2.2.2.2.1)) = true := by decide +kernel
theorem vIM2a : vr1 GG [] [] 1200 1 cIM (cutW2 2 ++ kIM 2) none (0, [], [(0, rA 90), (1, iA ((2 : Nat), []))], [], []) = true := by decide +kernel
theorem vIM2b : (cutW2 2).all (fun p => wfT p.2.1.length p.2.2.2.2.2.2 && vr1 GG [] [] 1200 1 cIM (cutW2 2 ++ kIM 2) (some p.2.2.2.2.2) (p.1, p.2.1, p.2.2.1, p.2.2.2.1, p.2.2.2.2.1)) = true := by decide +kernel
section IMM
variable {l : Launch} {D : va_G} {tys : List (ClassId × FieldType)} {A : Nat → Prop} {ad : Nat → Nat} {ws : va_W} {k d : Nat} {post : Option Value → va_W → Prop} {pc : Nat} {lv : List (Nat × Value)} {st : List Value} {a : Int} {x y z : Nat}
theorem V_zstI {c n j : Nat} {segs : List SG} {ix : Int32} (hi : mI k pc = (20, a, 1, y, z)) (hix : ix = Int32.ofInt (j : Int)) (hG : GOK ad tys GG ws) (hg : GG[c]? = some ((1, 2, n), segs)) (hj : j < n) (hn : n ≤ 100000) (hs : segAt segs j = some (0, 0, 1)) (kk : ∀ w : va_W, GOK ad tys GG w → Upd1 ws w c j (.int (Int32.ofInt 1)) → V l D tys A k d 0 0 post 0 0 (pc + 1) lv st w) : V l D tys A k d 0 0 post 0 0 pc lv (.int (Int32.ofInt 1) :: .int ix :: .ref (ad c) :: st) ws := by
  subst hix
  obtain ⟨e, b1, b2, b3⟩ := hG c _ hg
  obtain ⟨cA, f, rfl, c1, c2⟩ := b2
  refine V_zast hi b1 c1 (ix_in hj hn).1 ?_
  rw [(ix_in hj hn).2, show vp_nar .boolean (Int32.ofInt 1) = Int32.ofInt 1 by decide]
  have hu := GOK_upd (j := j) (v := .int (Int32.ofInt 1)) (e' := .inl (cA, n, .inl (upd f j (Int32.ofInt 1)))) hG hg b1 ⟨cA, _, rfl, c1, c2⟩ (fun j' => by
    show (if j' < n then some (Value.int (upd f j (Int32.ofInt 1) j')) else none) = if j' = j then some (Value.int (Int32.ofInt 1)) else if j' < n then some (Value.int (f j')) else none
    unfold upd
    by_cases h : j' = j
    · subst h; simp [hj]
    · simp [h]) hs ⟨1, rfl, by show (0 : Int) ≤ 1; omega, by show (1 : Int) ≤ 1; omega⟩
  exact kk _ hu.1 hu.2
theorem gr3_ : ∃ g, GG[90]? = some ((0, 11, 36), g) ∧ segAt g 3 = some (2, ((93 : Nat) : Int), ((93 : Nat) : Int)) := ⟨_, rfl, by decide +kernel⟩
theorem gb93 : ∃ s, GG[93]? = some ((1, 2, 3), s) ∧ ∀ j, j < 3 → segAt s j = some (0, 0, 1) := by
  refine ⟨_, rfl, fun j hj => ?_⟩
  show (bif Nat.blt j 3 then some _ else _) = _
  rw [show Nat.blt j 3 = true from Nat.blt_eq.mpr hj]
  rfl
theorem imm_ct (hAD : ∀ i : Nat, ad (1000 + i) = D.2 1000 i) (hG : GOK ad tys GG ws) {q : Nat} (hq : q < 3) (h1 : vr1 GG [] [] 1200 1 cIM (cutW2 q ++ kIM q) none (0, [], [(0, rA 90), (1, iA ((q : Nat), []))], [], []) = true) (h2 : (cutW2 q).all (fun p => wfT p.2.1.length p.2.2.2.2.2.2 && vr1 GG [] [] 1200 1 cIM (cutW2 q ++ kIM q) (some p.2.2.2.2.2) (p.1, p.2.1, p.2.2.1, p.2.2.2.1, p.2.2.2.2.1)) = true) : CT l D tys A 196 1 0 0 [.ref (ad 90), .int (Int32.ofInt (q : Int))] ws (fun r w => r = some (.int (Int32.ofInt 0)) ∧ GOK ad tys GG w ∧ (∀ c, c ≠ 92 → c ≠ 93 → ∀ j, rd w c j = rd ws c j) ∧ SET 93 q (Int32.ofInt 1) ws w) := by
  refine CT_of_V (by omega) (show (2 : Nat) ≤ mML 196 by decide +kernel) ?_
  refine V_mach (post := fun r w => r = some (.int (Int32.ofInt 0)) ∧ GOK ad tys GG w ∧ (∀ c, c ≠ 92 → c ≠ 93 → ∀ j, rd w c j = rd ws c j) ∧ SET 93 q (Int32.ofInt 1) ws w) (w0 := ws) (ws := ws) (σ := fun _ => 0) (s := (0, [], [(0, rA 90), (1, iA ((q : Nat), []))], [], [])) hAD (fun q hq => by cases hq) h1 h2 (fun s q hq => by simp at hq) ⟨hG, (fun q hq => by cases hq), FRm_rf⟩ ?_ ?_
  · intro pc C hC τ w hτ hH
    unfold kIM at hC
    have e := List.mem_singleton.mp hC
    cases e
    have G := hH.1
    obtain ⟨s93, e93, f93⟩ := gb93
    have m1 : (1, Value.int (Int32.ofInt (q : Int))) ∈ ([(0, rA 90), (1, iA ((q : Nat), []))] : AL).map (cvp ad τ) := by
      refine List.Mem.tail _ ?_
      have : cvp ad τ (1, iA ((q : Int), [])) = (1, Value.int (Int32.ofInt (q : Int))) := by
        show (1, Value.int (Int32.ofInt (ev τ ((q : Int), [])))) = _
        rw [show ev τ ((q : Int), []) = (q : Int) by show (q : Int) + 0 = _; omega]
      rw [List.map_cons, this]
      exact List.Mem.head _
    refine V_aload (v := ad 90) mi_196_48 (List.Mem.head _) ?_
    refine V_getR mi_196_49 gr3_ (by omega) G ?_
    refine V_iload (v := Int32.ofInt (q : Int)) mi_196_52 m1 ?_
    refine V_ipush mi_196_53 ?_
    refine V_zstI (j := q) mi_196_54 rfl G e93 hq (by omega) (f93 _ hq) (fun w1 G1 U1 => ?_)
    refine V_ipush mi_196_55 ?_
    refine V_retI mi_196_56 (fun h => absurd h (by decide +kernel)) ⟨rfl, G1, fun c c1 c2 j => (upd_ne U1 (fun q => c2 q.1)).trans (hH.2.2.1 c (by simp [cIM, c1]) j), SET_aft (SET_upd U1) (fun j => hH.2.2.1 93 (by simp [cIM]) j)⟩
  · rintro r w ⟨-, -, -, g4⟩
    obtain ⟨v, -, zz, -, q1, q2⟩ := g4 ((90, 8), (0, 5, 4)) (List.Mem.head _)
    have q1 : (5 : Int) ≤ zz := q1
    have q2 : zz ≤ (4 : Int) := q2
    omega
end IMM
section KPT
variable {l : Launch} {D : va_G} {tys : List (ClassId × FieldType)} {A : Nat → Prop} {ad : Nat → Nat} {ws : va_W}
/-- the relation between the two sides: which images are kept -/
def RELK (w : va_W) : Prop := ∃ q : Nat, q < 8 ∧ rd w 0 12 = some (.int (Int32.ofInt (q : Int))) ∧ ∀ k, k < 3 → rd w 93 k = some (.int (Int32.ofInt (bI' (q.testBit k))))
theorem relk_keep {w0 w : va_W} (h : RELK w0) (k : ∀ c, c = 0 ∨ c = 93 → ∀ j, rd w c j = rd w0 c j) : RELK w := by
  obtain ⟨q, h1, h2, h3⟩ := h
  exact ⟨q, h1, (k 0 (Or.inl rfl) 12).trans h2, fun j hj => (k 93 (Or.inr rfl) j).trans (h3 j hj)⟩
theorem or_all : (List.range 8).all (fun q => (List.range 3).all (fun k => decide ((q ||| 2 ^ k : Nat) < 8) && (List.range 3).all (fun j => decide ((q ||| 2 ^ k : Nat).testBit j = (decide (j = k) || q.testBit j))))) = true := by decide +kernel
theorem or_lt {q k : Nat} (hq : q < 8) (hk : k < 3) : (q ||| 2 ^ k : Nat) < 8 ∧ ∀ j, j < 3 → (q ||| 2 ^ k : Nat).testBit j = (decide (j = k) || q.testBit j) := by
  have h := List.all_eq_true.mp (List.all_eq_true.mp or_all q (List.mem_range.mpr hq)) k (List.mem_range.mpr hk)
  rw [Bool.and_eq_true] at h
  exact ⟨of_decide_eq_true h.1, fun j hj => of_decide_eq_true (List.all_eq_true.mp h.2 j (List.mem_range.mpr hj))⟩
theorem pre_get {F : List ((Nat × Nat) × SP3)} {c j : Nat} {v : Int} (h : preOK ad F ws) (hm : ((c, j), (0, v, v)) ∈ F) : rd ws c j = some (.int (Int32.ofInt v)) := by
  obtain ⟨u, h1, z, rfl, z1, z2⟩ := h _ hm
  have z1 : v ≤ z := z1
  have z2 : z ≤ v := z2
  rw [h1, show z = v by omega]
theorem pre_one1 {c j : Nat} {v : Int} (h : rd ws c j = some (.int (Int32.ofInt v))) : preOK ad [((c, j), (0, v, v))] ws := by
  intro q hq
  rw [List.mem_singleton.mp hq]
  exact ⟨_, h, v, rfl, Int.le_refl _, Int.le_refl _⟩
theorem pre_two {c j c2 j2 : Nat} {v v2 : Int} (h : rd ws c j = some (.int (Int32.ofInt v))) (h2 : rd ws c2 j2 = some (.int (Int32.ofInt v2))) : preOK ad [((c, j), (0, v, v)), ((c2, j2), (0, v2, v2))] ws := by
  intro q hq
  rcases List.mem_cons.mp hq with rfl | hq
  · exact ⟨_, h, v, rfl, Int.le_refl _, Int.le_refl _⟩
  · rw [List.mem_singleton.mp hq]
    exact ⟨_, h2, v2, rfl, Int.le_refl _, Int.le_refl _⟩
theorem rt_eq {r : Option Value} {v : Int} (h : rtOK ad (some (0, v, v)) r) : r = some (.int (Int32.ofInt v)) := by
  cases r with
  | none => exact h.elim
  | some u =>
    obtain ⟨z, rfl, z1, z2⟩ := h
    have z1 : v ≤ z := z1
    have z2 : z ≤ v := z2
    rw [show z = v by omega]
def MIDI (q q2 : Nat) (w0 w : va_W) : Prop := rd w 0 12 = some (.int (Int32.ofInt (q2 : Int))) ∧ ∀ j, rd w 93 j = rd w0 93 j
theorem pair_image (hAD : ∀ i : Nat, ad (1000 + i) = D.2 1000 i) (hG : GOK ad tys GG ws) (hR : RELK ws) (a1 : Int32) : ∃ v : Int, ∃ MID : va_W → Prop, (∃ d', d' < 11 ∧ CT l D tys A 67 d' 0 0 [.ref (ad 0), .int a1] ws (fun r w => r = some (.int (Int32.ofInt v)) ∧ GOK ad tys GG w ∧ MID w)) ∧ ∀ w : va_W, GOK ad tys GG w → MID w → ∃ d', d' < 11 ∧ CT l D tys A 196 d' 0 0 [.ref (ad 90), .int a1] w (fun r w2 => r = some (.int (Int32.ofInt v)) ∧ GOK ad tys GG w2 ∧ RELK w2) := by
  have l1 := Int32.le_toInt a1
  have u1 := Int32.toInt_lt a1
  obtain ⟨q, hq, h12, h93⟩ := hR
  have out : ∀ {cx cm : CR} {dx dm : Nat}, CRok l D tys A ad GG dx cx → CRok l D tys A ad GG dm cm → dx ≤ 11 → dm ≤ 11 → cx.1 = 67 → cm.1 = 196 → okvs ad cx.2.1 [.ref (ad 0), .int a1] → okvs ad cm.2.1 [.ref (ad 90), .int a1] → cx.2.2.1 = [] → cm.2.2.1 = [] → cx.2.2.2.1 = some (0, -2, -2) → cm.2.2.2.1 = some (0, -2, -2) → cx.2.2.2.2.2 = [] → cm.2.2.2.2.2 = [] → ∃ v : Int, ∃ MID : va_W → Prop, (∃ d', d' < 11 ∧ CT l D tys A 67 d' 0 0 [.ref (ad 0), .int a1] ws (fun r w => r = some (.int (Int32.ofInt v)) ∧ GOK ad tys GG w ∧ MID w)) ∧ ∀ w : va_W, GOK ad tys GG w → MID w → ∃ d', d' < 11 ∧ CT l D tys A 196 d' 0 0 [.ref (ad 90), .int a1] w (fun r w2 => r = some (.int (Int32.ofInt v)) ∧ GOK ad tys GG w2 ∧ RELK w2) := by
    intro cx cm dx dm hx hm e1 e2 e3 e4 e5 e6 e7 e8 e9 e10 e11 e12
    refine ⟨-2, RELK, ?_, fun w hw K => ?_⟩
    · obtain ⟨d', k1, k2⟩ := hx _ ws e5 hG (by rw [e7]; intro q hq; cases hq)
      rw [e3] at k2
      refine ⟨d', by omega, CT_post k2 (fun r w h => ?_)⟩
      obtain ⟨q1, q2, q3, -⟩ := h
      rw [e9] at q3
      rw [e11] at q2
      exact ⟨rt_eq q3, q1, relk_keep ⟨q, hq, h12, h93⟩ (fun c _ j => q2.1 c (by simp) j)⟩
    · obtain ⟨d', k1, k2⟩ := hm _ w e6 hw (by rw [e8]; intro q hq; cases hq)
      rw [e4] at k2
      refine ⟨d', by omega, CT_post k2 (fun r w2 h => ?_)⟩
      obtain ⟨q1, q2, q3, -⟩ := h
      rw [e10] at q3
      rw [e12] at q2
      exact ⟨rt_eq q3, q1, relk_keep K (fun c _ j => q2.1 c (by simp) j)⟩
  rcases (show a1.toInt ≤ -1 ∨ 3 ≤ a1.toInt ∨ a1.toInt = 0 ∨ a1.toInt = 1 ∨ a1.toInt = 2 by omega) with h | h | h | h | h
  · exact out (r569 hAD) (r607 hAD) (by omega) (by omega) rfl rfl ⟨rfl, okI (by omega) (by omega), trivial⟩ ⟨rfl, okI (by omega) (by omega), trivial⟩ rfl rfl rfl rfl rfl rfl
  · exact out (r570 hAD) (r608 hAD) (by omega) (by omega) rfl rfl ⟨rfl, okI (by omega) (by omega), trivial⟩ ⟨rfl, okI (by omega) (by omega), trivial⟩ rfl rfl rfl rfl rfl rfl
  · obtain ⟨o1, o2⟩ := or_lt hq (show 0 < 3 by omega)
    refine ⟨0, fun w => rd w 0 12 = some (.int (Int32.ofInt ((q ||| 2 ^ 0 : Nat) : Int))) ∧ ∀ j, rd w 93 j = rd ws 93 j, ?_, fun w hw K => ?_⟩
    · obtain ⟨d', k1, k2⟩ := rIX0 hAD hq (l := l) (tys := tys) (A := A) [.ref (ad 0), .int a1] ws ⟨rfl, okI (by show ((0 : Nat) : Int) ≤ _; omega) (by show _ ≤ ((0 : Nat) : Int); omega), trivial⟩ hG (pre_one1 h12)
      refine ⟨d', by omega, CT_post k2 (fun r w hh => ?_)⟩
      obtain ⟨q1, q2, q3, q4⟩ := hh
      exact ⟨rt_eq q3, q1, pre_get q4 (List.Mem.head _), fun j => q2.1 93 (by simp [cIX, mI0]) j⟩
    · have ea : a1 = Int32.ofInt ((0 : Nat) : Int) := by rw [← Int32.ofInt_toInt a1, h]; rfl
      rw [ea]
      refine ⟨1, by omega, CT_post (imm_ct hAD hw (q := 0) (by omega) vIM0a vIM0b) (fun r w2 hh => ⟨hh.1, hh.2.1, (q ||| 2 ^ 0 : Nat), o1, (hh.2.2.1 0 (by omega) (by omega) 12).trans K.1, fun j hj => ?_⟩)⟩
      rw [hh.2.2.2 j, o2 j hj]
      by_cases hjk : j = 0
      · rw [if_pos hjk, decide_eq_true hjk]; rfl
      · rw [if_neg hjk, decide_eq_false hjk]; exact (K.2 j).trans (h93 j hj)
  · obtain ⟨o1, o2⟩ := or_lt hq (show 1 < 3 by omega)
    refine ⟨0, fun w => rd w 0 12 = some (.int (Int32.ofInt ((q ||| 2 ^ 1 : Nat) : Int))) ∧ ∀ j, rd w 93 j = rd ws 93 j, ?_, fun w hw K => ?_⟩
    · obtain ⟨d', k1, k2⟩ := rIX1 hAD hq (l := l) (tys := tys) (A := A) [.ref (ad 0), .int a1] ws ⟨rfl, okI (by show ((1 : Nat) : Int) ≤ _; omega) (by show _ ≤ ((1 : Nat) : Int); omega), trivial⟩ hG (pre_one1 h12)
      refine ⟨d', by omega, CT_post k2 (fun r w hh => ?_)⟩
      obtain ⟨q1, q2, q3, q4⟩ := hh
      exact ⟨rt_eq q3, q1, pre_get q4 (List.Mem.head _), fun j => q2.1 93 (by simp [cIX, mI1]) j⟩
    · have ea : a1 = Int32.ofInt ((1 : Nat) : Int) := by rw [← Int32.ofInt_toInt a1, h]; rfl
      rw [ea]
      refine ⟨1, by omega, CT_post (imm_ct hAD hw (q := 1) (by omega) vIM1a vIM1b) (fun r w2 hh => ⟨hh.1, hh.2.1, (q ||| 2 ^ 1 : Nat), o1, (hh.2.2.1 0 (by omega) (by omega) 12).trans K.1, fun j hj => ?_⟩)⟩
      rw [hh.2.2.2 j, o2 j hj]
      by_cases hjk : j = 1
      · rw [if_pos hjk, decide_eq_true hjk]; rfl
      · rw [if_neg hjk, decide_eq_false hjk]; exact (K.2 j).trans (h93 j hj)
  · obtain ⟨o1, o2⟩ := or_lt hq (show 2 < 3 by omega)
    refine ⟨0, fun w => rd w 0 12 = some (.int (Int32.ofInt ((q ||| 2 ^ 2 : Nat) : Int))) ∧ ∀ j, rd w 93 j = rd ws 93 j, ?_, fun w hw K => ?_⟩
    · obtain ⟨d', k1, k2⟩ := rIX2 hAD hq (l := l) (tys := tys) (A := A) [.ref (ad 0), .int a1] ws ⟨rfl, okI (by show ((2 : Nat) : Int) ≤ _; omega) (by show _ ≤ ((2 : Nat) : Int); omega), trivial⟩ hG (pre_one1 h12)
      refine ⟨d', by omega, CT_post k2 (fun r w hh => ?_)⟩
      obtain ⟨q1, q2, q3, q4⟩ := hh
      exact ⟨rt_eq q3, q1, pre_get q4 (List.Mem.head _), fun j => q2.1 93 (by simp [cIX, mI2]) j⟩
    · have ea : a1 = Int32.ofInt ((2 : Nat) : Int) := by rw [← Int32.ofInt_toInt a1, h]; rfl
      rw [ea]
      refine ⟨1, by omega, CT_post (imm_ct hAD hw (q := 2) (by omega) vIM2a vIM2b) (fun r w2 hh => ⟨hh.1, hh.2.1, (q ||| 2 ^ 2 : Nat), o1, (hh.2.2.1 0 (by omega) (by omega) 12).trans K.1, fun j hj => ?_⟩)⟩
      rw [hh.2.2.2 j, o2 j hj]
      by_cases hjk : j = 2
      · rw [if_pos hjk, decide_eq_true hjk]; rfl
      · rw [if_neg hjk, decide_eq_false hjk]; exact (K.2 j).trans (h93 j hj)
theorem pair_back (hAD : ∀ i : Nat, ad (1000 + i) = D.2 1000 i) (hG : GOK ad tys GG ws) (hR : RELK ws) (a1 : Int32) : ∃ v : Int, ∃ MID : va_W → Prop, (∃ d', d' < 11 ∧ CT l D tys A 68 d' 0 0 [.ref (ad 0), .int a1] ws (fun r w => r = some (.int (Int32.ofInt v)) ∧ GOK ad tys GG w ∧ MID w)) ∧ ∀ w : va_W, GOK ad tys GG w → MID w → ∃ d', d' < 11 ∧ CT l D tys A 197 d' 0 0 [.ref (ad 90), .int a1] w (fun r w2 => r = some (.int (Int32.ofInt v)) ∧ GOK ad tys GG w2 ∧ RELK w2) := by
  have l1 := Int32.le_toInt a1
  have u1 := Int32.toInt_lt a1
  have hR0 := hR
  obtain ⟨q, hq, h12, h93⟩ := hR
  have go : ∀ {cx cm : CR} {dx dm : Nat} {v : Int}, CRok l D tys A ad GG dx cx → CRok l D tys A ad GG dm cm → dx ≤ 11 → dm ≤ 11 → cx.1 = 68 → cm.1 = 197 → okvs ad cx.2.1 [.ref (ad 0), .int a1] → okvs ad cm.2.1 [.ref (ad 90), .int a1] → preOK ad cx.2.2.1 ws → (∀ w : va_W, (∀ j, rd w 93 j = rd ws 93 j) → preOK ad cm.2.2.1 w) → cx.2.2.2.1 = some (0, v, v) → cm.2.2.2.1 = some (0, v, v) → (0 ∉ cx.2.2.2.2.2 ∧ 93 ∉ cx.2.2.2.2.2) → (0 ∉ cm.2.2.2.2.2 ∧ 93 ∉ cm.2.2.2.2.2) → ∃ v : Int, ∃ MID : va_W → Prop, (∃ d', d' < 11 ∧ CT l D tys A 68 d' 0 0 [.ref (ad 0), .int a1] ws (fun r w => r = some (.int (Int32.ofInt v)) ∧ GOK ad tys GG w ∧ MID w)) ∧ ∀ w : va_W, GOK ad tys GG w → MID w → ∃ d', d' < 11 ∧ CT l D tys A 197 d' 0 0 [.ref (ad 90), .int a1] w (fun r w2 => r = some (.int (Int32.ofInt v)) ∧ GOK ad tys GG w2 ∧ RELK w2) := by
    intro cx cm dx dm v hx hm e1 e2 e3 e4 e5 e6 e7 e8 e9 e10 e11 e12
    refine ⟨v, fun w => RELK w ∧ ∀ j, rd w 93 j = rd ws 93 j, ?_, fun w hw K => ?_⟩
    · obtain ⟨d', k1, k2⟩ := hx _ ws e5 hG e7
      rw [e3] at k2
      refine ⟨d', by omega, CT_post k2 (fun r w h => ?_)⟩
      obtain ⟨q1, q2, q3, -⟩ := h
      rw [e9] at q3
      exact ⟨rt_eq q3, q1, relk_keep hR0 (fun c hc j => q2.1 c (by rcases hc with rfl | rfl; exact e11.1; exact e11.2) j), fun j => q2.1 93 e11.2 j⟩
    · obtain ⟨d', k1, k2⟩ := hm _ w e6 hw (e8 w K.2)
      rw [e4] at k2
      refine ⟨d', by omega, CT_post k2 (fun r w2 h => ?_)⟩
      obtain ⟨q1, q2, q3, -⟩ := h
      rw [e10] at q3
      exact ⟨rt_eq q3, q1, relk_keep K.1 (fun c hc j => q2.1 c (by rcases hc with rfl | rfl; exact e12.1; exact e12.2) j)⟩
  rcases (show a1.toInt ≤ -1 ∨ 3 ≤ a1.toInt ∨ a1.toInt = 0 ∨ a1.toInt = 1 ∨ a1.toInt = 2 by omega) with h | h | h | h | h
  · exact go (v := -2) (r612 hAD) (r650 hAD) (by omega) (by omega) rfl rfl ⟨rfl, okI (by omega) (by omega), trivial⟩ ⟨rfl, okI (by omega) (by omega), trivial⟩ (fun q hq => by cases hq) (fun w _ q hq => by cases hq) rfl rfl (by decide) (by decide)
  · exact go (v := -2) (r613 hAD) (r651 hAD) (by omega) (by omega) rfl rfl ⟨rfl, okI (by omega) (by omega), trivial⟩ ⟨rfl, okI (by omega) (by omega), trivial⟩ (fun q hq => by cases hq) (fun w _ q hq => by cases hq) rfl rfl (by decide) (by decide)
  · exact go (v := bkV q 0) (rBX0 hAD hq) (rBM0 hAD (q.testBit 0)) (by omega) (by omega) rfl rfl ⟨rfl, okI (by show ((0 : Nat) : Int) ≤ _; omega) (by show _ ≤ ((0 : Nat) : Int); omega), trivial⟩ ⟨rfl, okI (by show ((0 : Nat) : Int) ≤ _; omega) (by show _ ≤ ((0 : Nat) : Int); omega), trivial⟩ (pre_one1 h12) (fun w e => pre_one1 ((e 0).trans (h93 0 (by omega)))) rfl rfl (by simp [cBX, mBK]) (by simp [cBM])
  · exact go (v := bkV q 1) (rBX1 hAD hq) (rBM1 hAD (q.testBit 1)) (by omega) (by omega) rfl rfl ⟨rfl, okI (by show ((1 : Nat) : Int) ≤ _; omega) (by show _ ≤ ((1 : Nat) : Int); omega), trivial⟩ ⟨rfl, okI (by show ((1 : Nat) : Int) ≤ _; omega) (by show _ ≤ ((1 : Nat) : Int); omega), trivial⟩ (pre_one1 h12) (fun w e => pre_one1 ((e 1).trans (h93 1 (by omega)))) rfl rfl (by simp [cBX, mBK]) (by simp [cBM])
  · exact go (v := bkV q 2) (rBX2 hAD hq) (rBM2 hAD (q.testBit 2)) (by omega) (by omega) rfl rfl ⟨rfl, okI (by show ((2 : Nat) : Int) ≤ _; omega) (by show _ ≤ ((2 : Nat) : Int); omega), trivial⟩ ⟨rfl, okI (by show ((2 : Nat) : Int) ≤ _; omega) (by show _ ≤ ((2 : Nat) : Int); omega), trivial⟩ (pre_one1 h12) (fun w e => pre_one1 ((e 2).trans (h93 2 (by omega)))) rfl rfl (by simp [cBX, mBK]) (by simp [cBM])
end KPT
