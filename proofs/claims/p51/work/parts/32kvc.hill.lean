section XVI
variable {l : Launch} {D : va_G} {tys : List (ClassId × FieldType)} {A : Nat → Prop} {ad : Nat → Nat} {ws : va_W}
theorem and1_all : (List.range 61).all (fun p => decide (ibF 5 (Int32.ofInt ((p : Nat) : Int)) (Int32.ofInt 1) = Int32.ofInt ((p % 2 : Nat) : Int)) && decide (ibF 4 (Int32.ofInt ((p : Nat) : Int)) (Int32.ofInt 2) = Int32.ofInt ((p % 2 : Nat) : Int))) = true := by decide +kernel
theorem and1 {p : Nat} (h : p ≤ 60) : ibF 5 (Int32.ofInt (p : Int)) (Int32.ofInt 1) = Int32.ofInt ((p % 2 : Nat) : Int) ∧ ibF 4 (Int32.ofInt (p : Int)) (Int32.ofInt 2) = Int32.ofInt ((p % 2 : Nat) : Int) := by
  have q := List.all_eq_true.mp and1_all p (List.mem_range.mpr (by omega))
  rw [Bool.and_eq_true] at q
  exact ⟨of_decide_eq_true q.1, of_decide_eq_true q.2⟩
theorem allO_all : (List.range 7).all (fun n => decide (allV ((n : Nat) : Int) = orI (fun _ => true) n)) = true := by decide +kernel
theorem allO {x : Int} (h : 0 ≤ x ∧ x ≤ 6) : allV x = orI (fun _ => true) x.toNat := by
  have q := of_decide_eq_true (List.all_eq_true.mp allO_all x.toNat (List.mem_range.mpr (by omega)))
  rw [Int.toNat_of_nonneg h.1] at q
  exact q
noncomputable def cluP (G : Nat → Int) (nm : Nat → Int64) (j p : Nat) : Bool := decide (0 ≤ nv nm j p ∧ nv nm j p ≤ (if p % 2 = 0 then 5 else G 0 - 1))
theorem cluP_e {G : Nat → Int} {nm : Nat → Int64} {j p : Nat} (e : p % 2 = 0) : cluP G nm j p = decide (0 ≤ nv nm j p ∧ nv nm j p ≤ 5) := by
  unfold cluP
  rw [if_pos e]
theorem cluP_o {G : Nat → Int} {nm : Nat → Int64} {j p : Nat} (e : ¬ p % 2 = 0) : cluP G nm j p = decide (0 ≤ nv nm j p ∧ nv nm j p ≤ G 0 - 1) := by
  unfold cluP
  rw [if_neg e]
noncomputable def cluB (G : Nat → Int) (nm : Nat → Int64) (j n : Nat) : Bool := alB (cluP G nm j) n && decide (n % 2 = 0)
theorem alB_p {P : Nat → Bool} {p : Nat} : ∀ n : Nat, alB P n = true → p < n → P p = true
  | 0, _, hp => absurd hp (by omega)
  | n + 1, h, hp => by
    unfold alB at h
    rw [Bool.and_eq_true] at h
    by_cases e : p = n
    · rw [e]
      exact h.2
    · exact alB_p n h.1 (by omega)
/-- what is asked of clues -/
noncomputable def wcrV (G sz : Nat → Int) (nm : Nat → Int64) (s : Int) : Int := if (0 ≤ s ∧ s < 4) ∧ 0 < G 5 then (if sz s.toNat < 0 then -6 else if cluB G nm s.toNat (sz s.toNat).toNat = true then 0 else -2) else -2
theorem wcrV_c (G sz : Nat → Int) (nm : Nat → Int64) (s : Int) : wcrV G sz nm s = -2 ∨ wcrV G sz nm s = -6 ∨ (wcrV G sz nm s = 0 ∧ (0 ≤ s ∧ s < 4) ∧ 0 ≤ sz s.toNat ∧ cluB G nm s.toNat (sz s.toNat).toNat = true) := by
  unfold wcrV
  split
  · next h =>
    split
    · exact Or.inr (Or.inl rfl)
    · next h2 =>
      split
      · next h3 => exact Or.inr (Or.inr ⟨rfl, h.1, by omega, h3⟩)
      · exact Or.inl rfl
  · exact Or.inl rfl
/-- syllable a of folk f, or none -/
noncomputable def syO (G : Nat → Int) (f a : Nat) : Int := if (a : Int) < G (6 + 7 * f) then G (7 + 7 * f + a) else -1
/-- folk f keeps clue k -/
noncomputable def gsP (G : Nat → Int) (nm : Nat → Int64) (j f k : Nat) : Bool := decide (syO G f (nv nm j (2 * k)).toNat = nv nm j (2 * k + 1))
noncomputable def gsA (G : Nat → Int) (nm : Nat → Int64) (j m : Nat) (f : Nat) : Bool := alB (gsP G nm j f) m
theorem acx_10 {G : Nat → Int} {sz wds : Nat → Int} {nm : Nat → Int64} (hG : GOK ad tys GG ws) (hX : HX 4 G ws) (hg : HB G) (h : SLX sz wds nm ws) (hB : SLB sz wds nm) {j n : Nat} (hj : j < 4) (hn : sz j = (n : Int)) {post : Option Value → va_W → Prop} : ∀ (m p : Nat), p + m = n → (∀ x, x < p → cluP G nm j x = true) → post (some (.int (bI (cluB G nm j n)))) ws → V l D tys A 120 3 0 0 post 0 0 10 [(0, .ref (ad 47)), (1, .ref (ad 4)), (2, .ref (ad 39)), (3, .int (Int32.ofInt ((j : Int)))), (4, .int (Int32.ofInt ((n : Int)))), (5, .int (Int32.ofInt ((p : Int))))] [] ws
  | 0, p, hm, ht, kk => by
    have b := hB j hj
    refine V_iload (v := Int32.ofInt ((p : Int))) mi_120_10 (by simp [stL, stL2, lv_args, Value.category]) ?_
    refine V_iload (v := Int32.ofInt ((n : Int))) mi_120_12 (by simp [stL, stL2, lv_args, Value.category]) ?_
    refine V_cge mi_120_14 ⟨by omega, by omega⟩ ⟨by omega, by omega⟩ (fun q => ?_) (fun q => ?_)
    · have e : p = n := by omega
      refine V_iload (v := Int32.ofInt ((n : Int))) mi_120_72 (by simp [stL, stL2, lv_args, Value.category]) ?_
      refine V_ipush mi_120_74 ?_
      refine V_ibin mi_120_75 (by omega) ?_
      rw [(and1 (p := n) (by omega)).1]
      have al : alB (cluP G nm j) n = true := alB_t n (fun x hx => ht x (by omega))
      refine V_zne mi_120_76 ⟨by omega, by omega⟩ (fun q2 => ?_) (fun q2 => ?_)
      · refine V_ipush mi_120_83 ?_
        exact V_retI mi_120_84 (fun _ => by decide) (by rw [show cluB G nm j n = false from by unfold cluB; rw [al, decide_eq_false (by omega)]; rfl] at kk; exact kk)
      · refine V_ipush mi_120_79 ?_
        refine V_goto mi_120_80 ?_
        exact V_retI mi_120_84 (fun _ => by decide) (by rw [show cluB G nm j n = true from by unfold cluB; rw [al, decide_eq_true (by omega)]; rfl] at kk; exact kk)
    · exact absurd q (by omega)
  | m + 1, p, hm, ht, kk => by
    have g := h j hj
    have b := hB j hj
    have nb := nv_bd nm j p
    have g0 := hg.b0
    refine V_iload (v := Int32.ofInt ((p : Int))) mi_120_10 (by simp [stL, stL2, lv_args, Value.category]) ?_
    refine V_iload (v := Int32.ofInt ((n : Int))) mi_120_12 (by simp [stL, stL2, lv_args, Value.category]) ?_
    refine V_cge mi_120_14 ⟨by omega, by omega⟩ ⟨by omega, by omega⟩ (fun q => ?_) (fun q => ?_)
    · exact absurd q (by omega)
    · refine V_iload (v := Int32.ofInt ((p : Int))) mi_120_17 (by simp [stL, stL2, lv_args, Value.category]) ?_
      refine V_ipush mi_120_19 ?_
      refine V_ibin mi_120_20 (by omega) ?_
      rw [(and1 (p := p) (by omega)).1]
      refine V_zne mi_120_21 ⟨by omega, by omega⟩ (fun q2 => ?_) (fun q2 => ?_)
      · have e2 : ¬ p % 2 = 0 := by omega
        refine V_aload (v := ad 4) mi_120_30 (by simp [stL, stL2, lv_args, Value.category]) ?_
        refine V_gO mi_120_31 g4o hG (show rd _ 4 1 = some (.int (Int32.ofInt (G 0))) from hx0 hX (i := 1) (by omega)) ?_
        refine V_ipush mi_120_34 ?_
        refine V_ibin mi_120_35 (by omega) ?_
        rw [ib1]
        refine V_i2l mi_120_36 ?_
        rw [i2lx ⟨by omega, by omega⟩]
        refine V_lstore mi_120_37 ?_
        refine V_aload (v := ad 39) mi_120_39 (by simp [stL, stL2, lv_args, Value.category]) ?_
        refine V_iload (v := Int32.ofInt ((j : Int))) mi_120_40 (by simp [stL, stL2, lv_args, Value.category]) ?_
        refine V_iload (v := Int32.ofInt ((p : Int))) mi_120_41 (by simp [stL, stL2, lv_args, Value.category]) ?_
        refine V_cO (As := [.int (Int32.ofInt ((j : Int))), .int (Int32.ofInt ((p : Int)))]) (st := []) mi_120_43 (by omega) (by decide +kernel) (by decide +kernel) (by omega) g39o hG (nvX_ct (i := p) hG h hB hj (by omega)) (by omega) (show 2 = mN 164 by decide +kernel) (by simp [Value.category]) ?_
        rintro r w1 ⟨e1, rfl⟩
        rw [e1]
        refine V_lpush mi_120_46 ?_
        refine V_lcmp mi_120_47 ?_
        have clq3 := cdL_iff (x := 2) (a := nv nm j p) (b := 0) (by omega) (by omega) (by omega) (by omega)
        refine V_if mi_120_48 (fun q3 => ?_) (fun q3 => ?_)
        · have kq3 : (nv nm j p) - (0) < 0 := clq3.mp q3
          refine V_ipush mi_120_64 ?_
          exact V_retI mi_120_65 (fun _ => by decide) (by rw [show cluB G nm j n = false from by unfold cluB; rw [alB_f (p := p) (by omega) (by rw [cluP_o e2]; exact decide_eq_false (by omega)), Bool.false_and]] at kk; exact kk)
        · have kq3 : ¬ ((nv nm j p) - (0) < 0) := fun z => q3 (clq3.mpr z)
          refine V_aload (v := ad 39) mi_120_51 (by simp [stL, stL2, lv_args, Value.category]) ?_
          refine V_iload (v := Int32.ofInt ((j : Int))) mi_120_52 (by simp [stL, stL2, lv_args, Value.category]) ?_
          refine V_iload (v := Int32.ofInt ((p : Int))) mi_120_53 (by simp [stL, stL2, lv_args, Value.category]) ?_
          refine V_cO (As := [.int (Int32.ofInt ((j : Int))), .int (Int32.ofInt ((p : Int)))]) (st := []) mi_120_55 (by omega) (by decide +kernel) (by decide +kernel) (by omega) g39o hG (nvX_ct (i := p) hG h hB hj (by omega)) (by omega) (show 2 = mN 164 by decide +kernel) (by simp [Value.category]) ?_
          rintro r w2 ⟨e3, rfl⟩
          rw [e3]
          refine V_lload (v := Int64.ofInt ((G 0) - (1))) mi_120_58 (by simp [stL, stL2, lv_args, Value.category]) ?_
          refine V_lcmp mi_120_60 ?_
          have clq4 := cdL_iff (x := 5) (a := nv nm j p) (b := G 0 - 1) (by omega) (by omega) (by omega) (by omega)
          refine V_if mi_120_61 (fun q4 => ?_) (fun q4 => ?_)
          · have kq4 : (nv nm j p) - (G 0 - 1) ≤ 0 := clq4.mp q4
            refine V_iinc (v := Int32.ofInt ((p : Int))) mi_120_66 (by simp [stL, stL2, lv_args, Value.category]) ?_
            rw [ia2]
            refine V_goto mi_120_69 ?_
            refine V_sub (lv' := [(0, .ref (ad 47)), (1, .ref (ad 4)), (2, .ref (ad 39)), (3, .int (Int32.ofInt ((j : Int)))), (4, .int (Int32.ofInt ((n : Int)))), (5, .int (Int32.ofInt (((p + 1 : Nat) : Int))))]) (fun q hq => ?_) ?_
            · simp only [List.mem_cons, List.not_mem_nil, or_false] at hq
              rcases hq with rfl | rfl | rfl | rfl | rfl | rfl <;> simp [stL, stL2, lv_args, Value.category]
            exact acx_10 hG hX hg h hB hj hn m (p + 1) (by omega) (fun x hx => by
              by_cases e : x = p
              · rw [e, cluP_o e2]
                exact decide_eq_true ⟨by omega, by omega⟩
              · exact ht x (by omega)) kk
          · have kq4 : ¬ ((nv nm j p) - (G 0 - 1) ≤ 0) := fun z => q4 (clq4.mpr z)
            refine V_ipush mi_120_64 ?_
            exact V_retI mi_120_65 (fun _ => by decide) (by rw [show cluB G nm j n = false from by unfold cluB; rw [alB_f (p := p) (by omega) (by rw [cluP_o e2]; exact decide_eq_false (by omega)), Bool.false_and]] at kk; exact kk)
      · have e2 : p % 2 = 0 := by omega
        refine V_lpush mi_120_24 ?_
        refine V_goto mi_120_27 ?_
        refine V_lstore mi_120_37 ?_
        refine V_aload (v := ad 39) mi_120_39 (by simp [stL, stL2, lv_args, Value.category]) ?_
        refine V_iload (v := Int32.ofInt ((j : Int))) mi_120_40 (by simp [stL, stL2, lv_args, Value.category]) ?_
        refine V_iload (v := Int32.ofInt ((p : Int))) mi_120_41 (by simp [stL, stL2, lv_args, Value.category]) ?_
        refine V_cO (As := [.int (Int32.ofInt ((j : Int))), .int (Int32.ofInt ((p : Int)))]) (st := []) mi_120_43 (by omega) (by decide +kernel) (by decide +kernel) (by omega) g39o hG (nvX_ct (i := p) hG h hB hj (by omega)) (by omega) (show 2 = mN 164 by decide +kernel) (by simp [Value.category]) ?_
        rintro r w1 ⟨e1, rfl⟩
        rw [e1]
        refine V_lpush mi_120_46 ?_
        refine V_lcmp mi_120_47 ?_
        have clq3 := cdL_iff (x := 2) (a := nv nm j p) (b := 0) (by omega) (by omega) (by omega) (by omega)
        refine V_if mi_120_48 (fun q3 => ?_) (fun q3 => ?_)
        · have kq3 : (nv nm j p) - (0) < 0 := clq3.mp q3
          refine V_ipush mi_120_64 ?_
          exact V_retI mi_120_65 (fun _ => by decide) (by rw [show cluB G nm j n = false from by unfold cluB; rw [alB_f (p := p) (by omega) (by rw [cluP_e e2]; exact decide_eq_false (by omega)), Bool.false_and]] at kk; exact kk)
        · have kq3 : ¬ ((nv nm j p) - (0) < 0) := fun z => q3 (clq3.mpr z)
          refine V_aload (v := ad 39) mi_120_51 (by simp [stL, stL2, lv_args, Value.category]) ?_
          refine V_iload (v := Int32.ofInt ((j : Int))) mi_120_52 (by simp [stL, stL2, lv_args, Value.category]) ?_
          refine V_iload (v := Int32.ofInt ((p : Int))) mi_120_53 (by simp [stL, stL2, lv_args, Value.category]) ?_
          refine V_cO (As := [.int (Int32.ofInt ((j : Int))), .int (Int32.ofInt ((p : Int)))]) (st := []) mi_120_55 (by omega) (by decide +kernel) (by decide +kernel) (by omega) g39o hG (nvX_ct (i := p) hG h hB hj (by omega)) (by omega) (show 2 = mN 164 by decide +kernel) (by simp [Value.category]) ?_
          rintro r w2 ⟨e3, rfl⟩
          rw [e3]
          refine V_lload (v := Int64.ofInt (5)) mi_120_58 (by simp [stL, stL2, lv_args, Value.category]) ?_
          refine V_lcmp mi_120_60 ?_
          have clq4 := cdL_iff (x := 5) (a := nv nm j p) (b := 5) (by omega) (by omega) (by omega) (by omega)
          refine V_if mi_120_61 (fun q4 => ?_) (fun q4 => ?_)
          · have kq4 : (nv nm j p) - (5) ≤ 0 := clq4.mp q4
            refine V_iinc (v := Int32.ofInt ((p : Int))) mi_120_66 (by simp [stL, stL2, lv_args, Value.category]) ?_
            rw [ia2]
            refine V_goto mi_120_69 ?_
            refine V_sub (lv' := [(0, .ref (ad 47)), (1, .ref (ad 4)), (2, .ref (ad 39)), (3, .int (Int32.ofInt ((j : Int)))), (4, .int (Int32.ofInt ((n : Int)))), (5, .int (Int32.ofInt (((p + 1 : Nat) : Int))))]) (fun q hq => ?_) ?_
            · simp only [List.mem_cons, List.not_mem_nil, or_false] at hq
              rcases hq with rfl | rfl | rfl | rfl | rfl | rfl <;> simp [stL, stL2, lv_args, Value.category]
            exact acx_10 hG hX hg h hB hj hn m (p + 1) (by omega) (fun x hx => by
              by_cases e : x = p
              · rw [e, cluP_e e2]
                exact decide_eq_true ⟨by omega, by omega⟩
              · exact ht x (by omega)) kk
          · have kq4 : ¬ ((nv nm j p) - (5) ≤ 0) := fun z => q4 (clq4.mpr z)
            refine V_ipush mi_120_64 ?_
            exact V_retI mi_120_65 (fun _ => by decide) (by rw [show cluB G nm j n = false from by unfold cluB; rw [alB_f (p := p) (by omega) (by rw [cluP_e e2]; exact decide_eq_false (by omega)), Bool.false_and]] at kk; exact kk)
theorem acX_ct {G : Nat → Int} {sz wds : Nat → Int} {nm : Nat → Int64} (hG : GOK ad tys GG ws) (hX : HX 4 G ws) (hg : HB G) (h : SLX sz wds nm ws) (hB : SLB sz wds nm) {j n : Nat} (hj : j < 4) (hn : sz j = (n : Int)) : CT l D tys A 120 3 0 0 [.ref (ad 47), .ref (ad 4), .ref (ad 39), .int (Int32.ofInt ((j : Int)))] ws (fun r w => w = ws ∧ r = some (.int (bI (cluB G nm j n)))) := by
  refine CT_of_V (by omega) (show (4 : Nat) ≤ mML 120 by decide +kernel) ?_
  have g := h j hj
  refine V_aload (v := ad 39) mi_120_0 (by simp [stL, stL2, lv_args, Value.category]) ?_
  refine V_iload (v := Int32.ofInt ((j : Int))) mi_120_1 (by simp [stL, stL2, lv_args, Value.category]) ?_
  refine V_cO (As := [.int (Int32.ofInt ((j : Int)))]) (st := []) mi_120_2 (by omega) (by decide +kernel) (by decide +kernel) (by omega) g39o hG (szX_ct hG hj g.1) (by omega) (show 1 = mN 162 by decide +kernel) (by simp [Value.category]) ?_
  rintro r w0 ⟨rfl, rfl⟩
  rw [hn]
  refine V_istore mi_120_5 ?_
  refine V_ipush mi_120_7 ?_
  refine V_istore mi_120_8 ?_
  refine V_sub (lv' := [(0, .ref (ad 47)), (1, .ref (ad 4)), (2, .ref (ad 39)), (3, .int (Int32.ofInt ((j : Int)))), (4, .int (Int32.ofInt ((n : Int)))), (5, .int (Int32.ofInt (((0 : Nat) : Int))))]) (fun q hq => ?_) ?_
  · simp only [List.mem_cons, List.not_mem_nil, or_false] at hq
    rcases hq with rfl | rfl | rfl | rfl | rfl | rfl <;> simp [stL, stL2, lv_args, Value.category]
  exact acx_10 hG hX hg h hB hj hn n 0 (by omega) (fun x hx => absurd hx (by omega)) ⟨rfl, rfl⟩
theorem wcX_ct {G : Nat → Int} {sz wds : Nat → Int} {nm : Nat → Int64} (hG : GOK ad tys GG ws) (hX : HX 4 G ws) (hg : HB G) (h : SLX sz wds nm ws) (hB : SLB sz wds nm) {s : Int} (sI : I32 s) : CT l D tys A 57 4 0 0 [.ref (ad 0), .int (Int32.ofInt (s))] ws (fun r w => w = ws ∧ r = some (.int (Int32.ofInt (wcrV G sz nm s)))) := by
  refine CT_of_V (by omega) (show (2 : Nat) ≤ mML 57 by decide +kernel) ?_
  refine V_aload (v := ad 0) mi_57_0 (by simp [stL, stL2, lv_args, Value.category]) ?_
  refine V_gR mi_57_1 g0r7 (by omega) hG ?_
  refine V_iload (v := Int32.ofInt (s)) mi_57_4 (by simp [stL, stL2, lv_args, Value.category]) ?_
  refine V_cO (As := [.int (Int32.ofInt (s))]) (st := []) mi_57_5 (by omega) (by decide +kernel) (by decide +kernel) (by omega) g39o hG (hsX_ct sI) (by omega) (show 1 = mN 160 by decide +kernel) (by simp [Value.category]) ?_
  rintro r w1 ⟨rfl, rfl⟩
  refine V_beq mi_57_8  (fun c1 => ?_) (fun c1 => ?_)
  · refine V_ipush mi_57_21 ?_
    exact V_retI mi_57_23 (fun h => absurd h (by decide +kernel)) ⟨rfl, by unfold wcrV; rw [if_neg (fun k => of_decide_eq_false c1 k.1)]⟩
  · refine V_aload (v := ad 0) mi_57_11 (by simp [stL, stL2, lv_args, Value.category]) ?_
    refine V_gR mi_57_12 g0r2 (by omega) hG ?_
    refine V_cO (As := []) (st := []) mi_57_15 (by omega) (by decide +kernel) (by decide +kernel) (by omega) g4o hG (hth_ct hG hX hg) (by omega) (show 0 = mN 101 by decide +kernel) (by simp [Value.category]) ?_
    rintro r w2 ⟨rfl, rfl⟩
    refine V_bne mi_57_18  (fun c2 => ?_) (fun c2 => ?_)
    · have k1 := of_decide_eq_true c1
      have k2 := of_decide_eq_true c2
      obtain ⟨j, rfl⟩ := Int.eq_ofNat_of_zero_le k1.1
      have kj : j < 4 := by omega
      have g := h j kj
      have b := hB j kj
      refine V_aload (v := ad 0) mi_57_24 (by simp [stL, stL2, lv_args, Value.category]) ?_
      refine V_gR mi_57_25 g0r7 (by omega) hG ?_
      refine V_iload (v := Int32.ofInt ((j : Int))) mi_57_28 (by simp [stL, stL2, lv_args, Value.category]) ?_
      refine V_cO (As := [.int (Int32.ofInt ((j : Int)))]) (st := []) mi_57_29 (by omega) (by decide +kernel) (by decide +kernel) (by omega) g39o hG (baX_ct hG kj ⟨by omega, by omega⟩ g.1) (by omega) (show 1 = mN 161 by decide +kernel) (by simp [Value.category]) ?_
      rintro r w3 ⟨rfl, rfl⟩
      refine V_beq mi_57_32  (fun c3 => ?_) (fun c3 => ?_)
      · have k3 := of_decide_eq_false c3
        have hn : sz j = ((sz j).toNat : Int) := by omega
        refine V_aload (v := ad 0) mi_57_38 (by simp [stL, stL2, lv_args, Value.category]) ?_
        refine V_gR mi_57_39 g0r9 (by omega) hG ?_
        refine V_aload (v := ad 0) mi_57_42 (by simp [stL, stL2, lv_args, Value.category]) ?_
        refine V_gR mi_57_43 g0r2 (by omega) hG ?_
        refine V_aload (v := ad 0) mi_57_46 (by simp [stL, stL2, lv_args, Value.category]) ?_
        refine V_gR mi_57_47 g0r7 (by omega) hG ?_
        refine V_iload (v := Int32.ofInt ((j : Int))) mi_57_50 (by simp [stL, stL2, lv_args, Value.category]) ?_
        refine V_cO (As := [.ref (ad 4), .ref (ad 39), .int (Int32.ofInt ((j : Int)))]) (st := []) mi_57_51 (by omega) (by decide +kernel) (by decide +kernel) (by omega) g47o hG (acX_ct (n := (sz j).toNat) hG hX hg h hB kj hn) (by omega) (show 3 = mN 120 by decide +kernel) (by simp [Value.category]) ?_
        rintro r w4 ⟨rfl, rfl⟩
        refine V_beq mi_57_54  (fun c4 => ?_) (fun c4 => ?_)
        · refine V_ipush mi_57_61 ?_
          exact V_retI mi_57_63 (fun h => absurd h (by decide +kernel)) ⟨rfl, by unfold wcrV; rw [if_pos ⟨k1, k2⟩, if_neg (show ¬ sz ((j : Int)).toNat < 0 from k3), if_neg (fun k => by rw [show cluB G nm ((j : Int)).toNat (sz ((j : Int)).toNat).toNat = false from c4] at k; exact Bool.false_ne_true k)]⟩
        · refine V_ipush mi_57_57 ?_
          refine V_goto mi_57_58 ?_
          exact V_retI mi_57_63 (fun h => absurd h (by decide +kernel)) ⟨rfl, by unfold wcrV; rw [if_pos ⟨k1, k2⟩, if_neg (show ¬ sz ((j : Int)).toNat < 0 from k3), if_pos (show cluB G nm ((j : Int)).toNat (sz ((j : Int)).toNat).toNat = true from c4)]⟩
      · have k3 := of_decide_eq_true c3
        refine V_ipush mi_57_35 ?_
        exact V_retI mi_57_37 (fun h => absurd h (by decide +kernel)) ⟨rfl, by unfold wcrV; rw [if_pos ⟨k1, k2⟩, if_pos (show sz ((j : Int)).toNat < 0 from k3)]⟩
    · refine V_ipush mi_57_21 ?_
      exact V_retI mi_57_23 (fun h => absurd h (by decide +kernel)) ⟨rfl, by unfold wcrV; rw [if_neg (fun k => of_decide_eq_false c2 k.2)]⟩
theorem syx_ct {G : Nat → Int} (hG : GOK ad tys GG ws) (hX : HX 4 G ws) (hg : HB G) {f a : Nat} (hf : f < 6) (ha : a ≤ 100) : CT l D tys A 107 1 0 0 [.ref (ad 4), .int (Int32.ofInt ((f : Int))), .int (Int32.ofInt ((a : Int)))] ws (fun r w => w = ws ∧ r = some (.int (Int32.ofInt (syO G f a)))) := by
  by_cases c : (a : Int) < G (6 + 7 * f)
  · unfold syO
    rw [if_pos c]
    exact hsl_ct hG hX hg hf c
  · refine CT_of_V (by omega) (show (3 : Nat) ≤ mML 107 by decide +kernel) ?_
    refine V_iload (v := Int32.ofInt ((a : Int))) mi_107_0 (by simp [stL, stL2, lv_args, Value.category]) ?_
    have gl := hg.bl f hf
    refine V_zlt mi_107_1 ⟨by omega, by omega⟩ (fun q => ?_) (fun q => ?_)
    · exact absurd q (by omega)
    · refine V_iload (v := Int32.ofInt ((a : Int))) mi_107_4 (by simp [stL, stL2, lv_args, Value.category]) ?_
      refine V_aload (v := ad 4) mi_107_5 (by simp [stL, stL2, lv_args, Value.category]) ?_
      refine V_iload (v := Int32.ofInt ((f : Int))) mi_107_6 (by simp [stL, stL2, lv_args, Value.category]) ?_
      refine V_cO (As := [.int (Int32.ofInt ((f : Int)))]) (st := [.int (Int32.ofInt ((a : Int)))]) mi_107_7 (by omega) (by decide +kernel) (by decide +kernel) (by omega) g4o hG (hle_ct (f := f) hG hX hg hf) (by omega) (show 1 = mN 106 by decide +kernel) (by simp [Value.category]) ?_
      rintro r w1 ⟨rfl, rfl⟩
      refine V_cge mi_107_10 ⟨by omega, by omega⟩ ⟨by omega, by omega⟩ (fun q2 => ?_) (fun q2 => ?_)
      · refine V_ipush mi_107_29 ?_
        exact V_retI mi_107_30 (fun h => absurd h (by decide +kernel)) ⟨rfl, by unfold syO; rw [if_neg c]⟩
      · exact absurd q2 (by omega)
theorem ffx_34 {G : Nat → Int} {sz wds : Nat → Int} {nm : Nat → Int64} (hG : GOK ad tys GG ws) (hX : HX 4 G ws) (hg : HB G) (h : SLX sz wds nm ws) (hB : SLB sz wds nm) {j n k : Nat} (hj : j < 4) (hn : sz j = (n : Int)) (hk : 2 * k + 1 < n) (n0 : 0 ≤ nv nm j (2 * k) ∧ nv nm j (2 * k) ≤ 5) (n1 : 0 ≤ nv nm j (2 * k + 1)) {post : Option Value → va_W → Prop} : ∀ (m p : Nat), ((p + m : Nat) : Int) = G 3 → V l D tys A 121 3 0 0 post 0 0 9 [(0, .ref (ad 47)), (1, .ref (ad 4)), (2, .ref (ad 39)), (3, .int (Int32.ofInt ((j : Int)))), (4, .int (Int32.ofInt (orI (gsA G nm j (k + 1)) (G 3).toNat))), (5, .int (Int32.ofInt (((2 * (k + 1) : Nat) : Int))))] [] ws → V l D tys A 121 3 0 0 post 0 0 34 [(0, .ref (ad 47)), (1, .ref (ad 4)), (2, .ref (ad 39)), (3, .int (Int32.ofInt ((j : Int)))), (4, .int (Int32.ofInt (orI (fun f => gsA G nm j k f && (decide (p ≤ f) || gsP G nm j f k)) (G 3).toNat))), (5, .int (Int32.ofInt (((2 * k : Nat) : Int)))), (6, .int (Int32.ofInt (nv nm j (2 * k)))), (7, .int (Int32.ofInt ((p : Int))))] [] ws
  | 0, p, hm, kk => by
    have b3 := hg.b3
    refine V_iload (v := Int32.ofInt ((p : Int))) mi_121_34 (by simp [stL, stL2, lv_args, Value.category]) ?_
    refine V_aload (v := ad 4) mi_121_36 (by simp [stL, stL2, lv_args, Value.category]) ?_
    refine V_gO mi_121_37 g4o hG (show rd _ 4 4 = some (.int (Int32.ofInt (G 3))) from hx0 hX (i := 4) (by omega)) ?_
    refine V_cge mi_121_40 ⟨by omega, by omega⟩ ⟨by omega, by omega⟩ (fun q => ?_) (fun q => ?_)
    · have e : p = (G 3).toNat := by omega
      rw [show orI (fun f => gsA G nm j k f && (decide (p ≤ f) || gsP G nm j f k)) (G 3).toNat = orI (gsA G nm j (k + 1)) (G 3).toNat from orI_cg _ (fun f hf => by
        rw [decide_eq_false (by omega), Bool.false_or]
        rfl)]
      refine V_iinc (v := Int32.ofInt (((2 * k : Nat) : Int))) mi_121_82 (by simp [stL, stL2, lv_args, Value.category]) ?_
      rw [ia2]
      rw [show ((2 * k : Nat) : Int) + 2 = ((2 * (k + 1) : Nat) : Int) by omega]
      refine V_goto mi_121_85 ?_
      refine V_sub (lv' := [(0, .ref (ad 47)), (1, .ref (ad 4)), (2, .ref (ad 39)), (3, .int (Int32.ofInt ((j : Int)))), (4, .int (Int32.ofInt (orI (gsA G nm j (k + 1)) (G 3).toNat))), (5, .int (Int32.ofInt (((2 * (k + 1) : Nat) : Int))))]) (fun q hq => ?_) ?_
      · simp only [List.mem_cons, List.not_mem_nil, or_false] at hq
        rcases hq with rfl | rfl | rfl | rfl | rfl | rfl <;> simp [stL, stL2, lv_args, Value.category]
      exact kk
    · exact absurd q (by omega)
  | m + 1, p, hm, kk => by
    have b3 := hg.b3
    refine V_iload (v := Int32.ofInt ((p : Int))) mi_121_34 (by simp [stL, stL2, lv_args, Value.category]) ?_
    refine V_aload (v := ad 4) mi_121_36 (by simp [stL, stL2, lv_args, Value.category]) ?_
    refine V_gO mi_121_37 g4o hG (show rd _ 4 4 = some (.int (Int32.ofInt (G 3))) from hx0 hX (i := 4) (by omega)) ?_
    refine V_cge mi_121_40 ⟨by omega, by omega⟩ ⟨by omega, by omega⟩ (fun q => ?_) (fun q => ?_)
    · exact absurd q (by omega)
    · have b := hB j hj
      have nb := nv_bd nm j (2 * k + 1)
      obtain ⟨a, ea⟩ := Int.eq_ofNat_of_zero_le n0.1
      have sb : -2147483648 ≤ syO G p a ∧ syO G p a ≤ 2147483647 := by
        unfold syO
        split
        · have := hg.bn p (by omega) a (by omega)
          omega
        · omega
      refine V_aload (v := ad 4) mi_121_43 (by simp [stL, stL2, lv_args, Value.category]) ?_
      refine V_iload (v := Int32.ofInt ((p : Int))) mi_121_44 (by simp [stL, stL2, lv_args, Value.category]) ?_
      refine V_iload (v := Int32.ofInt (nv nm j (2 * k))) mi_121_46 (by simp [stL, stL2, lv_args, Value.category]) ?_
      rw [ea]
      refine V_cO (As := [.int (Int32.ofInt ((p : Int))), .int (Int32.ofInt ((a : Int)))]) (st := []) mi_121_48 (by omega) (by decide +kernel) (by decide +kernel) (by omega) g4o hG (syx_ct (f := p) (a := a) hG hX hg (by omega) (by omega)) (by omega) (show 2 = mN 107 by decide +kernel) (by simp [Value.category]) ?_
      rintro r w1 ⟨e1, rfl⟩
      rw [e1]
      refine V_i2l mi_121_51 ?_
      rw [i2lx ⟨by omega, by omega⟩]
      refine V_aload (v := ad 39) mi_121_52 (by simp [stL, stL2, lv_args, Value.category]) ?_
      refine V_iload (v := Int32.ofInt ((j : Int))) mi_121_53 (by simp [stL, stL2, lv_args, Value.category]) ?_
      refine V_iload (v := Int32.ofInt (((2 * k : Nat) : Int))) mi_121_54 (by simp [stL, stL2, lv_args, Value.category]) ?_
      refine V_ipush mi_121_56 ?_
      refine V_ibin mi_121_57 (by omega) ?_
      rw [ib0]
      rw [show ((2 * k : Nat) : Int) + 1 = ((2 * k + 1 : Nat) : Int) by omega]
      refine V_cO (As := [.int (Int32.ofInt ((j : Int))), .int (Int32.ofInt (((2 * k + 1 : Nat) : Int)))]) (st := [.long (Int64.ofInt (syO G p a))]) mi_121_58 (by omega) (by decide +kernel) (by decide +kernel) (by omega) g39o hG (nvX_ct (i := 2 * k + 1) hG h hB hj (by omega)) (by omega) (show 2 = mN 164 by decide +kernel) (by simp [Value.category]) ?_
      rintro r w2 ⟨e2, rfl⟩
      rw [e2]
      refine V_lcmp mi_121_61 ?_
      have clq2 := cdL_iff (x := 0) (a := syO G p a) (b := nv nm j (2 * k + 1)) (by omega) (by omega) (by omega) (by omega)
      refine V_if mi_121_62 (fun q2 => ?_) (fun q2 => ?_)
      · have kq2 : (syO G p a) - (nv nm j (2 * k + 1)) = 0 := clq2.mp q2
        have ep : gsP G nm j p k = true := by unfold gsP; rw [ea, Int.toNat_natCast]; exact decide_eq_true (by omega)
        rw [show orI (fun f => gsA G nm j k f && (decide (p ≤ f) || gsP G nm j f k)) (G 3).toNat = orI (fun f => gsA G nm j k f && (decide (p + 1 ≤ f) || gsP G nm j f k)) (G 3).toNat from orI_cg _ (fun f hf => by
          by_cases c : f = p
          · rw [c, ep, Bool.or_true, Bool.or_true]
          · rw [show decide (p ≤ f) = decide (p + 1 ≤ f) from decide_eq_decide.mpr (by omega)])]
        refine V_iinc (v := Int32.ofInt ((p : Int))) mi_121_76 (by simp [stL, stL2, lv_args, Value.category]) ?_
        rw [ia2]
        refine V_goto mi_121_79 ?_
        rw [← ea]
        refine V_sub (lv' := [(0, .ref (ad 47)), (1, .ref (ad 4)), (2, .ref (ad 39)), (3, .int (Int32.ofInt ((j : Int)))), (4, .int (Int32.ofInt (orI (fun f => gsA G nm j k f && (decide (p + 1 ≤ f) || gsP G nm j f k)) (G 3).toNat))), (5, .int (Int32.ofInt (((2 * k : Nat) : Int)))), (6, .int (Int32.ofInt (nv nm j (2 * k)))), (7, .int (Int32.ofInt (((p + 1 : Nat) : Int))))]) (fun q hq => ?_) ?_
        · simp only [List.mem_cons, List.not_mem_nil, or_false] at hq
          rcases hq with rfl | rfl | rfl | rfl | rfl | rfl | rfl | rfl <;> simp [stL, stL2, lv_args, Value.category]
        exact ffx_34 hG hX hg h hB hj hn hk n0 n1 m (p + 1) (by omega) kk
      · have kq2 : ¬ ((syO G p a) - (nv nm j (2 * k + 1)) = 0) := fun z => q2 (clq2.mpr z)
        have ep : gsP G nm j p k = false := by unfold gsP; rw [ea, Int.toNat_natCast]; exact decide_eq_false (by omega)
        refine V_iload (v := Int32.ofInt (orI (fun f => gsA G nm j k f && (decide (p ≤ f) || gsP G nm j f k)) (G 3).toNat)) mi_121_65 (by simp [stL, stL2, lv_args, Value.category]) ?_
        refine V_ipush mi_121_67 ?_
        refine V_iload (v := Int32.ofInt ((p : Int))) mi_121_68 (by simp [stL, stL2, lv_args, Value.category]) ?_
        refine V_ibin mi_121_70 (by omega) ?_
        refine V_ipush mi_121_71 ?_
        refine V_ibin mi_121_72 (by omega) ?_
        refine V_ibin mi_121_73 (by omega) ?_
        rw [clB_i, orI_cl (Q := (fun f => gsA G nm j k f && (decide (p + 1 ≤ f) || gsP G nm j f k))) (by omega) (by omega) (fun f hf => ?hq)]
        case hq =>
          by_cases c : f = p
          · rw [c, Nat.beq_refl, ep, decide_eq_false (by omega), Bool.or_false, Bool.and_false, Bool.not_true, Bool.and_false]
          · rw [show Nat.beq f p = false from Bool.eq_false_iff.mpr (fun e => c (Nat.eq_of_beq_eq_true e)), Bool.not_false, Bool.and_true, show decide (p ≤ f) = decide (p + 1 ≤ f) from decide_eq_decide.mpr (by omega)]
        refine V_istore mi_121_74 ?_
        refine V_iinc (v := Int32.ofInt ((p : Int))) mi_121_76 (by simp [stL, stL2, lv_args, Value.category]) ?_
        rw [ia2]
        refine V_goto mi_121_79 ?_
        rw [← ea]
        refine V_sub (lv' := [(0, .ref (ad 47)), (1, .ref (ad 4)), (2, .ref (ad 39)), (3, .int (Int32.ofInt ((j : Int)))), (4, .int (Int32.ofInt (orI (fun f => gsA G nm j k f && (decide (p + 1 ≤ f) || gsP G nm j f k)) (G 3).toNat))), (5, .int (Int32.ofInt (((2 * k : Nat) : Int)))), (6, .int (Int32.ofInt (nv nm j (2 * k)))), (7, .int (Int32.ofInt (((p + 1 : Nat) : Int))))]) (fun q hq => ?_) ?_
        · simp only [List.mem_cons, List.not_mem_nil, or_false] at hq
          rcases hq with rfl | rfl | rfl | rfl | rfl | rfl | rfl | rfl <;> simp [stL, stL2, lv_args, Value.category]
        exact ffx_34 hG hX hg h hB hj hn hk n0 n1 m (p + 1) (by omega) kk
theorem ffx_9 {G : Nat → Int} {sz wds : Nat → Int} {nm : Nat → Int64} (hG : GOK ad tys GG ws) (hX : HX 4 G ws) (hg : HB G) (h : SLX sz wds nm ws) (hB : SLB sz wds nm) {j n : Nat} (hj : j < 4) (hn : sz j = (n : Int)) (ev : n % 2 = 0) (hc : alB (cluP G nm j) n = true) {post : Option Value → va_W → Prop} : ∀ (m k : Nat), k + m = n / 2 → post (some (.int (Int32.ofInt (orI (gsA G nm j (n / 2)) (G 3).toNat)))) ws → V l D tys A 121 3 0 0 post 0 0 9 [(0, .ref (ad 47)), (1, .ref (ad 4)), (2, .ref (ad 39)), (3, .int (Int32.ofInt ((j : Int)))), (4, .int (Int32.ofInt (orI (gsA G nm j k) (G 3).toNat))), (5, .int (Int32.ofInt (((2 * k : Nat) : Int))))] [] ws
  | 0, k, hm, kk => by
    have g := h j hj
    have b := hB j hj
    have b3 := hg.b3
    have g0 := hg.b0
    refine V_iload (v := Int32.ofInt (((2 * k : Nat) : Int))) mi_121_9 (by simp [stL, stL2, lv_args, Value.category]) ?_
    refine V_ipush mi_121_11 ?_
    refine V_ibin mi_121_12 (by omega) ?_
    rw [ib0]
    refine V_aload (v := ad 39) mi_121_13 (by simp [stL, stL2, lv_args, Value.category]) ?_
    refine V_iload (v := Int32.ofInt ((j : Int))) mi_121_14 (by simp [stL, stL2, lv_args, Value.category]) ?_
    refine V_cO (As := [.int (Int32.ofInt ((j : Int)))]) (st := [.int (Int32.ofInt ((((2 * k : Nat) : Int)) + (1)))]) mi_121_15 (by omega) (by decide +kernel) (by decide +kernel) (by omega) g39o hG (szX_ct hG hj g.1) (by omega) (show 1 = mN 162 by decide +kernel) (by simp [Value.category]) ?_
    rintro r w0 ⟨e0, rfl⟩
    rw [e0, hn]
    refine V_cge mi_121_18 ⟨by omega, by omega⟩ ⟨by omega, by omega⟩ (fun q => ?_) (fun q => ?_)
    · refine V_iload (v := Int32.ofInt (orI (gsA G nm j k) (G 3).toNat)) mi_121_88 (by simp [stL, stL2, lv_args, Value.category]) ?_
      have e : k = n / 2 := by omega
      rw [e]
      exact V_retI mi_121_90 (fun h => absurd h (by decide +kernel)) kk
    · exact absurd q (by omega)
  | m + 1, k, hm, kk => by
    have g := h j hj
    have b := hB j hj
    have b3 := hg.b3
    have g0 := hg.b0
    refine V_iload (v := Int32.ofInt (((2 * k : Nat) : Int))) mi_121_9 (by simp [stL, stL2, lv_args, Value.category]) ?_
    refine V_ipush mi_121_11 ?_
    refine V_ibin mi_121_12 (by omega) ?_
    rw [ib0]
    refine V_aload (v := ad 39) mi_121_13 (by simp [stL, stL2, lv_args, Value.category]) ?_
    refine V_iload (v := Int32.ofInt ((j : Int))) mi_121_14 (by simp [stL, stL2, lv_args, Value.category]) ?_
    refine V_cO (As := [.int (Int32.ofInt ((j : Int)))]) (st := [.int (Int32.ofInt ((((2 * k : Nat) : Int)) + (1)))]) mi_121_15 (by omega) (by decide +kernel) (by decide +kernel) (by omega) g39o hG (szX_ct hG hj g.1) (by omega) (show 1 = mN 162 by decide +kernel) (by simp [Value.category]) ?_
    rintro r w0 ⟨e0, rfl⟩
    rw [e0, hn]
    refine V_cge mi_121_18 ⟨by omega, by omega⟩ ⟨by omega, by omega⟩ (fun q => ?_) (fun q => ?_)
    · exact absurd q (by omega)
    · have n0 := of_decide_eq_true ((cluP_e (G := G) (nm := nm) (j := j) (p := 2 * k) (by omega)).symm.trans (alB_p n hc (by omega)))
      have n1 := of_decide_eq_true ((cluP_o (G := G) (nm := nm) (j := j) (p := 2 * k + 1) (by omega)).symm.trans (alB_p n hc (by omega)))
      refine V_aload (v := ad 39) mi_121_21 (by simp [stL, stL2, lv_args, Value.category]) ?_
      refine V_iload (v := Int32.ofInt ((j : Int))) mi_121_22 (by simp [stL, stL2, lv_args, Value.category]) ?_
      refine V_iload (v := Int32.ofInt (((2 * k : Nat) : Int))) mi_121_23 (by simp [stL, stL2, lv_args, Value.category]) ?_
      refine V_cO (As := [.int (Int32.ofInt ((j : Int))), .int (Int32.ofInt (((2 * k : Nat) : Int)))]) (st := []) mi_121_25 (by omega) (by decide +kernel) (by decide +kernel) (by omega) g39o hG (nvX_ct (i := 2 * k) hG h hB hj (by omega)) (by omega) (show 2 = mN 164 by decide +kernel) (by simp [Value.category]) ?_
      rintro r w1 ⟨e1, rfl⟩
      rw [e1]
      refine V_l2i mi_121_28 ?_
      rw [Int64.toInt32_ofInt]
      refine V_istore mi_121_29 ?_
      refine V_ipush mi_121_31 ?_
      refine V_istore mi_121_32 ?_
      rw [show orI (gsA G nm j k) (G 3).toNat = orI (fun f => gsA G nm j k f && (decide (0 ≤ f) || gsP G nm j f k)) (G 3).toNat from orI_cg _ (fun f hf => by rw [decide_eq_true (Nat.zero_le f), Bool.true_or, Bool.and_true])]
      refine V_sub (lv' := [(0, .ref (ad 47)), (1, .ref (ad 4)), (2, .ref (ad 39)), (3, .int (Int32.ofInt ((j : Int)))), (4, .int (Int32.ofInt (orI (fun f => gsA G nm j k f && (decide (0 ≤ f) || gsP G nm j f k)) (G 3).toNat))), (5, .int (Int32.ofInt (((2 * k : Nat) : Int)))), (6, .int (Int32.ofInt (nv nm j (2 * k)))), (7, .int (Int32.ofInt (((0 : Nat) : Int))))]) (fun q hq => ?_) ?_
      · simp only [List.mem_cons, List.not_mem_nil, or_false] at hq
        rcases hq with rfl | rfl | rfl | rfl | rfl | rfl | rfl | rfl <;> simp [stL, stL2, lv_args, Value.category]
      exact ffx_34 hG hX hg h hB hj hn (by omega) ⟨n0.1, n0.2⟩ n1.1 (G 3).toNat 0 (by omega) (ffx_9 hG hX hg h hB hj hn ev hc m (k + 1) (by omega) kk)
theorem ffX_ct {G : Nat → Int} {sz wds : Nat → Int} {nm : Nat → Int64} (hG : GOK ad tys GG ws) (hX : HX 4 G ws) (hg : HB G) (h : SLX sz wds nm ws) (hB : SLB sz wds nm) {j n : Nat} (hj : j < 4) (hn : sz j = (n : Int)) (ev : n % 2 = 0) (hc : alB (cluP G nm j) n = true) : CT l D tys A 121 3 0 0 [.ref (ad 47), .ref (ad 4), .ref (ad 39), .int (Int32.ofInt ((j : Int)))] ws (fun r w => w = ws ∧ r = some (.int (Int32.ofInt (orI (gsA G nm j (n / 2)) (G 3).toNat)))) := by
  refine CT_of_V (by omega) (show (4 : Nat) ≤ mML 121 by decide +kernel) ?_
  have b3 := hg.b3
  refine V_aload (v := ad 4) mi_121_0 (by simp [stL, stL2, lv_args, Value.category]) ?_
  refine V_cO (As := []) (st := []) mi_121_1 (by omega) (by decide +kernel) (by decide +kernel) (by omega) g4o hG (evy_ct hG hX hg) (by omega) (show 0 = mN 109 by decide +kernel) (by simp [Value.category]) ?_
  rintro r w0 ⟨rfl, rfl⟩
  rw [allO b3]
  refine V_istore mi_121_4 ?_
  refine V_ipush mi_121_6 ?_
  refine V_istore mi_121_7 ?_
  rw [show orI (fun _ => true) (G 3).toNat = orI (gsA G nm j 0) (G 3).toNat from rfl]
  refine V_sub (lv' := [(0, .ref (ad 47)), (1, .ref (ad 4)), (2, .ref (ad 39)), (3, .int (Int32.ofInt ((j : Int)))), (4, .int (Int32.ofInt (orI (gsA G nm j 0) (G 3).toNat))), (5, .int (Int32.ofInt (((2 * 0 : Nat) : Int))))]) (fun q hq => ?_) ?_
  · simp only [List.mem_cons, List.not_mem_nil, or_false] at hq
    rcases hq with rfl | rfl | rfl | rfl | rfl | rfl <;> simp [stL, stL2, lv_args, Value.category]
  exact ffx_9 hG hX hg h hB hj hn ev hc (n / 2) 0 (by omega) ⟨rfl, rfl⟩
theorem agm_46 {G : Nat → Int} {sz wds : Nat → Int} {nm : Nat → Int64} (hG : GOK ad tys GG ws) (hW : W91 G ws) (hg : HB G) (h : SLM sz wds nm ws) (hB : SLB sz wds nm) {j n : Nat} (hj : j < 4) (hn : sz j = (n : Int)) (ev : n % 2 = 0) {post : Option Value → va_W → Prop} : ∀ (m k : Nat), k + m = n / 2 → (∀ x, x < 2 * k → cluP G nm j x = true) → (alB (cluP G nm j) n = true → post (some (.int (Int32.ofInt 0))) ws) → (alB (cluP G nm j) n = false → post (some (.int (Int32.ofInt (-2)))) ws) → V l D tys A 312 2 0 0 post 0 0 46 [(0, .ref (ad 90)), (1, .int (Int32.ofInt ((j : Int)))), (2, .int (Int32.ofInt (((2 * k : Nat) : Int))))] [] ws
  | 0, k, hm, ht, kt, kf => by
    obtain ⟨s107, e107, f107⟩ := a107
    have g := h j hj
    have b := hB j hj
    have nb := nv_bd nm j (2 * k)
    have nb1 := nv_bd nm j (2 * k + 1)
    have g0 := hg.b0
    refine V_iload (v := Int32.ofInt (((2 * k : Nat) : Int))) mi_312_46 (by simp [stL, stL2, lv_args, Value.category]) ?_
    refine V_aload (v := ad 90) mi_312_47 (by simp [stL, stL2, lv_args, Value.category]) ?_
    refine V_getI mi_312_48 hG (rref gr32 (by omega) hG) ?_
    refine V_iload (v := Int32.ofInt ((j : Int))) mi_312_51 (by simp [stL, stL2, lv_args, Value.category]) ?_
    refine V_aldX (j := j) mi_312_52 rfl hG e107 (by omega) (by omega) (g.1) ?_
    rw [hn]
    refine V_cge mi_312_53 ⟨by omega, by omega⟩ ⟨by omega, by omega⟩ (fun q => ?_) (fun q => ?_)
    · refine V_ipush mi_312_96 ?_
      exact V_retI mi_312_97 (fun h => absurd h (by decide +kernel)) (kt (alB_t _ (fun x hx => ht x (by omega))))
    · exact absurd q (by omega)
  | m + 1, k, hm, ht, kt, kf => by
    obtain ⟨s107, e107, f107⟩ := a107
    have g := h j hj
    have b := hB j hj
    have nb := nv_bd nm j (2 * k)
    have nb1 := nv_bd nm j (2 * k + 1)
    have g0 := hg.b0
    refine V_iload (v := Int32.ofInt (((2 * k : Nat) : Int))) mi_312_46 (by simp [stL, stL2, lv_args, Value.category]) ?_
    refine V_aload (v := ad 90) mi_312_47 (by simp [stL, stL2, lv_args, Value.category]) ?_
    refine V_getI mi_312_48 hG (rref gr32 (by omega) hG) ?_
    refine V_iload (v := Int32.ofInt ((j : Int))) mi_312_51 (by simp [stL, stL2, lv_args, Value.category]) ?_
    refine V_aldX (j := j) mi_312_52 rfl hG e107 (by omega) (by omega) (g.1) ?_
    rw [hn]
    refine V_cge mi_312_53 ⟨by omega, by omega⟩ ⟨by omega, by omega⟩ (fun q => ?_) (fun q => ?_)
    · exact absurd q (by omega)
    · refine V_aload (v := ad 90) mi_312_56 (by simp [stL, stL2, lv_args, Value.category]) ?_
      refine V_iload (v := Int32.ofInt ((j : Int))) mi_312_57 (by simp [stL, stL2, lv_args, Value.category]) ?_
      refine V_iload (v := Int32.ofInt (((2 * k : Nat) : Int))) mi_312_58 (by simp [stL, stL2, lv_args, Value.category]) ?_
      refine V_callM (As := [.int (Int32.ofInt ((j : Int))), .int (Int32.ofInt (((2 * k : Nat) : Int)))]) (st := []) mi_312_59 (by omega) (by decide +kernel) (by decide +kernel) hG (nvM_ct (i := 2 * k) hG h hB hj (by omega)) (by omega) (show 2 = mN 300 by decide +kernel) (by simp [Value.category]) ?_
      rintro r w1 ⟨e1, rfl⟩
      rw [e1]
      refine V_lpush mi_312_62 ?_
      refine V_lpush mi_312_63 ?_
      refine V_stat (As := [.long (Int64.ofInt (nv nm j (2 * k))), .long (Int64.ofInt (0)), .long (Int64.ofInt (5))]) (st := []) mi_312_66 (by omega) (in3_ct (v := nv nm j (2 * k)) (lo := 0) (hi := 5) nb.1 nb.2 (by omega) (by omega) (by omega) (by omega)) (by omega) (show 3 = mN 193 by decide +kernel) (by simp [Value.category]) ⟨Nat.le_refl _, Nat.le_refl _⟩ ?_
      rintro r w2 ⟨e2, rfl⟩
      rw [e2]
      refine V_beq mi_312_69  (fun q2 => ?_) (fun q2 => ?_)
      · refine V_ipush mi_312_87 ?_
        exact V_retI mi_312_89 (fun h => absurd h (by decide +kernel)) (kf (alB_f (p := 2 * k) (by omega) (by rw [cluP_e (by omega)]; exact q2)))
      · refine V_aload (v := ad 90) mi_312_72 (by simp [stL, stL2, lv_args, Value.category]) ?_
        refine V_aload (v := ad 90) mi_312_73 (by simp [stL, stL2, lv_args, Value.category]) ?_
        refine V_iload (v := Int32.ofInt ((j : Int))) mi_312_74 (by simp [stL, stL2, lv_args, Value.category]) ?_
        refine V_iload (v := Int32.ofInt (((2 * k : Nat) : Int))) mi_312_75 (by simp [stL, stL2, lv_args, Value.category]) ?_
        refine V_ipush mi_312_76 ?_
        refine V_ibin mi_312_77 (by omega) ?_
        rw [ib0]
        rw [show ((2 * k : Nat) : Int) + 1 = ((2 * k + 1 : Nat) : Int) by omega]
        refine V_callM (As := [.int (Int32.ofInt ((j : Int))), .int (Int32.ofInt (((2 * k + 1 : Nat) : Int)))]) (st := [.ref (ad 90)]) mi_312_78 (by omega) (by decide +kernel) (by decide +kernel) hG (nvM_ct (i := 2 * k + 1) hG h hB hj (by omega)) (by omega) (show 2 = mN 300 by decide +kernel) (by simp [Value.category]) ?_
        rintro r w3 ⟨e3, rfl⟩
        rw [e3]
        refine V_callM (As := [.long (Int64.ofInt (nv nm j (2 * k + 1)))]) (st := []) mi_312_81 (by omega) (by decide +kernel) (by decide +kernel) hG (isy_ct (z := nv nm j (2 * k + 1)) hG hW hg nb1.1 nb1.2) (by omega) (show 1 = mN 203 by decide +kernel) (by simp [Value.category]) ?_
        rintro r w4 ⟨e4, rfl⟩
        rw [e4]
        refine V_bne mi_312_84  (fun q3 => ?_) (fun q3 => ?_)
        · refine V_iinc (v := Int32.ofInt (((2 * k : Nat) : Int))) mi_312_90 (by simp [stL, stL2, lv_args, Value.category]) ?_
          rw [ia2]
          rw [show ((2 * k : Nat) : Int) + 2 = ((2 * (k + 1) : Nat) : Int) by omega]
          refine V_goto mi_312_93 ?_
          refine V_sub (lv' := [(0, .ref (ad 90)), (1, .int (Int32.ofInt ((j : Int)))), (2, .int (Int32.ofInt (((2 * (k + 1) : Nat) : Int))))]) (fun q hq => ?_) ?_
          · simp only [List.mem_cons, List.not_mem_nil, or_false] at hq
            rcases hq with rfl | rfl | rfl <;> simp [stL, stL2, lv_args, Value.category]
          exact agm_46 hG hW hg h hB hj hn ev m (k + 1) (by omega) (fun x hx => by
            by_cases e : x = 2 * k
            · rw [e, cluP_e (by omega)]
              exact q2
            · by_cases e : x = 2 * k + 1
              · rw [e, cluP_o (by omega)]
                exact q3
              · exact ht x (by omega)) kt kf
        · refine V_ipush mi_312_87 ?_
          exact V_retI mi_312_89 (fun h => absurd h (by decide +kernel)) (kf (alB_f (p := 2 * k + 1) (by omega) (by rw [cluP_o (by omega)]; exact q3)))
theorem wcM_ct {G : Nat → Int} {sz wds : Nat → Int} {nm : Nat → Int64} (hG : GOK ad tys GG ws) (hW : W91 G ws) (hg : HB G) (h : SLM sz wds nm ws) (hB : SLB sz wds nm) {s : Int} (sI : I32 s) : CT l D tys A 312 2 0 0 [.ref (ad 90), .int (Int32.ofInt (s))] ws (fun r w => w = ws ∧ r = some (.int (Int32.ofInt (wcrV G sz nm s)))) := by
  refine CT_of_V (by omega) (show (2 : Nat) ≤ mML 312 by decide +kernel) ?_
  obtain ⟨s107, e107, f107⟩ := a107
  refine V_iload (v := Int32.ofInt (s)) mi_312_0 (by simp [stL, stL2, lv_args, Value.category]) ?_
  refine V_stat (As := [.int (Int32.ofInt (s))]) (st := []) mi_312_1 (by omega) (isl_ct sI) (by omega) (show 1 = mN 336 by decide +kernel) (by simp [Value.category]) ⟨Nat.le_refl _, Nat.le_refl _⟩ ?_
  rintro r w1 ⟨rfl, rfl⟩
  refine V_beq mi_312_4  (fun c1 => ?_) (fun c1 => ?_)
  · refine V_ipush mi_312_14 ?_
    exact V_retI mi_312_16 (fun h => absurd h (by decide +kernel)) ⟨rfl, by unfold wcrV; rw [if_neg (fun k => of_decide_eq_false c1 k.1)]⟩
  · refine V_aload (v := ad 90) mi_312_7 (by simp [stL, stL2, lv_args, Value.category]) ?_
    refine V_callM (As := []) (st := []) mi_312_8 (by omega) (by decide +kernel) (by decide +kernel) hG (mth_ct hG hW hg) (by omega) (show 0 = mN 198 by decide +kernel) (by simp [Value.category]) ?_
    rintro r w2 ⟨rfl, rfl⟩
    refine V_bne mi_312_11  (fun c2 => ?_) (fun c2 => ?_)
    · have k1 := of_decide_eq_true c1
      have k2 := of_decide_eq_true c2
      obtain ⟨j, rfl⟩ := Int.eq_ofNat_of_zero_le k1.1
      have kj : j < 4 := by omega
      have g := h j kj
      have b := hB j kj
      refine V_aload (v := ad 90) mi_312_17 (by simp [stL, stL2, lv_args, Value.category]) ?_
      refine V_getI mi_312_18 hG (rref gr32 (by omega) hG) ?_
      refine V_iload (v := Int32.ofInt ((j : Int))) mi_312_21 (by simp [stL, stL2, lv_args, Value.category]) ?_
      refine V_aldX (j := j) mi_312_22 rfl hG e107 (by omega) (by omega) (g.1) ?_
      refine V_ipush mi_312_23 ?_
      refine V_cne mi_312_24 ⟨by omega, by omega⟩ ⟨by omega, by omega⟩ (fun q4 => ?_) (fun q4 => ?_)
      · have k3 : ¬ sz j < 0 := by omega
        obtain ⟨n, hn⟩ := Int.eq_ofNat_of_zero_le (show 0 ≤ sz j by omega)
        refine V_aload (v := ad 90) mi_312_30 (by simp [stL, stL2, lv_args, Value.category]) ?_
        refine V_getI mi_312_31 hG (rref gr32 (by omega) hG) ?_
        refine V_iload (v := Int32.ofInt ((j : Int))) mi_312_34 (by simp [stL, stL2, lv_args, Value.category]) ?_
        refine V_aldX (j := j) mi_312_35 rfl hG e107 (by omega) (by omega) (g.1) ?_
        rw [hn]
        refine V_ipush mi_312_36 ?_
        refine V_ibin mi_312_37 (fun _ => by decide) ?_
        rw [(and1 (p := n) (by omega)).2]
        refine V_zeq mi_312_38 ⟨by omega, by omega⟩ (fun q5 => ?_) (fun q5 => ?_)
        · have ev : n % 2 = 0 := by omega
          refine V_ipush mi_312_44 ?_
          refine V_istore mi_312_45 ?_
          refine V_sub (lv' := [(0, .ref (ad 90)), (1, .int (Int32.ofInt ((j : Int)))), (2, .int (Int32.ofInt (((2 * 0 : Nat) : Int))))]) (fun q hq => ?_) ?_
          · simp only [List.mem_cons, List.not_mem_nil, or_false] at hq
            rcases hq with rfl | rfl | rfl <;> simp [stL, stL2, lv_args, Value.category]
          exact agm_46 hG hW hg h hB kj hn ev (n / 2) 0 (by omega) (fun x hx => absurd hx (by omega)) (fun k => ⟨rfl, by unfold wcrV; rw [if_pos ⟨k1, k2⟩, if_neg (show ¬ sz ((j : Int)).toNat < 0 from k3), if_pos (show cluB G nm ((j : Int)).toNat (sz ((j : Int)).toNat).toNat = true from by rw [Int.toNat_natCast, hn, Int.toNat_natCast]; unfold cluB; rw [k, decide_eq_true ev]; rfl)]⟩) (fun k => ⟨rfl, by unfold wcrV; rw [if_pos ⟨k1, k2⟩, if_neg (show ¬ sz ((j : Int)).toNat < 0 from k3), if_neg (fun z => by rw [show cluB G nm ((j : Int)).toNat (sz ((j : Int)).toNat).toNat = false from by rw [Int.toNat_natCast, hn, Int.toNat_natCast]; unfold cluB; rw [k, Bool.false_and]] at z; exact Bool.false_ne_true z)]⟩)
        · refine V_ipush mi_312_41 ?_
          exact V_retI mi_312_43 (fun h => absurd h (by decide +kernel)) ⟨rfl, by unfold wcrV; rw [if_pos ⟨k1, k2⟩, if_neg (show ¬ sz ((j : Int)).toNat < 0 from k3), if_neg (fun z => by rw [show cluB G nm ((j : Int)).toNat (sz ((j : Int)).toNat).toNat = false from by rw [Int.toNat_natCast, hn, Int.toNat_natCast]; unfold cluB; rw [decide_eq_false (show ¬ n % 2 = 0 by omega), Bool.and_false]] at z; exact Bool.false_ne_true z)]⟩
      · refine V_ipush mi_312_27 ?_
        exact V_retI mi_312_29 (fun h => absurd h (by decide +kernel)) ⟨rfl, by unfold wcrV; rw [if_pos ⟨k1, k2⟩, if_pos (show sz ((j : Int)).toNat < 0 from by rw [Int.toNat_natCast]; omega)]⟩
    · refine V_ipush mi_312_14 ?_
      exact V_retI mi_312_16 (fun h => absurd h (by decide +kernel)) ⟨rfl, by unfold wcrV; rw [if_neg (fun k => of_decide_eq_false c2 k.2)]⟩
theorem igm_2 {G : Nat → Int} {sz wds : Nat → Int} {nm : Nat → Int64} (hG : GOK ad tys GG ws) (hW : W91 G ws) (hg : HB G) (h : SLM sz wds nm ws) (hB : SLB sz wds nm) {j n : Nat} (hj : j < 4) (hn : sz j = (n : Int)) (ev : n % 2 = 0) (hc : alB (cluP G nm j) n = true) {f : Nat} (hf : f < 6) {post : Option Value → va_W → Prop} : ∀ (m k : Nat), k + m = n / 2 → (∀ x, x < k → gsP G nm j f x = true) → post (some (.int (bI (gsA G nm j (n / 2) f)))) ws → V l D tys A 313 1 0 0 post 0 0 2 [(0, .ref (ad 90)), (1, .int (Int32.ofInt ((j : Int)))), (2, .int (Int32.ofInt ((f : Int)))), (3, .int (Int32.ofInt (((2 * k : Nat) : Int))))] [] ws
  | 0, k, hm, ht, kk => by
    obtain ⟨s107, e107, f107⟩ := a107
    have g := h j hj
    have b := hB j hj
    have nb1 := nv_bd nm j (2 * k + 1)
    have gl := hg.bl f hf
    refine V_iload (v := Int32.ofInt (((2 * k : Nat) : Int))) mi_313_2 (by simp [stL, stL2, lv_args, Value.category]) ?_
    refine V_aload (v := ad 90) mi_313_3 (by simp [stL, stL2, lv_args, Value.category]) ?_
    refine V_getI mi_313_4 hG (rref gr32 (by omega) hG) ?_
    refine V_iload (v := Int32.ofInt ((j : Int))) mi_313_7 (by simp [stL, stL2, lv_args, Value.category]) ?_
    refine V_aldX (j := j) mi_313_8 rfl hG e107 (by omega) (by omega) (g.1) ?_
    rw [hn]
    refine V_cge mi_313_9 ⟨by omega, by omega⟩ ⟨by omega, by omega⟩ (fun q => ?_) (fun q => ?_)
    · refine V_ipush mi_313_59 ?_
      exact V_retI mi_313_60 (fun _ => by decide) (by rw [show gsA G nm j (n / 2) f = true from alB_t _ (fun x hx => ht x (by omega))] at kk; exact kk)
    · exact absurd q (by omega)
  | m + 1, k, hm, ht, kk => by
    obtain ⟨s107, e107, f107⟩ := a107
    have g := h j hj
    have b := hB j hj
    have nb1 := nv_bd nm j (2 * k + 1)
    have gl := hg.bl f hf
    refine V_iload (v := Int32.ofInt (((2 * k : Nat) : Int))) mi_313_2 (by simp [stL, stL2, lv_args, Value.category]) ?_
    refine V_aload (v := ad 90) mi_313_3 (by simp [stL, stL2, lv_args, Value.category]) ?_
    refine V_getI mi_313_4 hG (rref gr32 (by omega) hG) ?_
    refine V_iload (v := Int32.ofInt ((j : Int))) mi_313_7 (by simp [stL, stL2, lv_args, Value.category]) ?_
    refine V_aldX (j := j) mi_313_8 rfl hG e107 (by omega) (by omega) (g.1) ?_
    rw [hn]
    refine V_cge mi_313_9 ⟨by omega, by omega⟩ ⟨by omega, by omega⟩ (fun q => ?_) (fun q => ?_)
    · exact absurd q (by omega)
    · have n0 := of_decide_eq_true ((cluP_e (G := G) (nm := nm) (j := j) (p := 2 * k) (by omega)).symm.trans (alB_p n hc (by omega)))
      have n1 := of_decide_eq_true ((cluP_o (G := G) (nm := nm) (j := j) (p := 2 * k + 1) (by omega)).symm.trans (alB_p n hc (by omega)))
      obtain ⟨a, ea⟩ := Int.eq_ofNat_of_zero_le n0.1
      have n2 := n0.2
      refine V_aload (v := ad 90) mi_313_12 (by simp [stL, stL2, lv_args, Value.category]) ?_
      refine V_iload (v := Int32.ofInt ((j : Int))) mi_313_13 (by simp [stL, stL2, lv_args, Value.category]) ?_
      refine V_iload (v := Int32.ofInt (((2 * k : Nat) : Int))) mi_313_14 (by simp [stL, stL2, lv_args, Value.category]) ?_
      refine V_callM (As := [.int (Int32.ofInt ((j : Int))), .int (Int32.ofInt (((2 * k : Nat) : Int)))]) (st := []) mi_313_15 (by omega) (by decide +kernel) (by decide +kernel) hG (nvM_ct (i := 2 * k) hG h hB hj (by omega)) (by omega) (show 2 = mN 300 by decide +kernel) (by simp [Value.category]) ?_
      rintro r w1 ⟨e1, rfl⟩
      rw [e1]
      rw [ea]
      refine V_l2i mi_313_18 ?_
      rw [Int64.toInt32_ofInt]
      refine V_istore mi_313_19 ?_
      refine V_iload (v := Int32.ofInt ((a : Int))) mi_313_21 (by simp [stL, stL2, lv_args, Value.category]) ?_
      refine V_aload (v := ad 90) mi_313_23 (by simp [stL, stL2, lv_args, Value.category]) ?_
      refine V_iload (v := Int32.ofInt ((f : Int))) mi_313_24 (by simp [stL, stL2, lv_args, Value.category]) ?_
      refine V_callM (As := [.int (Int32.ofInt ((f : Int)))]) (st := [.int (Int32.ofInt ((a : Int)))]) mi_313_25 (by omega) (by decide +kernel) (by decide +kernel) hG (mle_ct (f := f) hG hW hg hf) (by omega) (show 1 = mN 204 by decide +kernel) (by simp [Value.category]) ?_
      rintro r w2 ⟨e2, rfl⟩
      rw [e2]
      refine V_cge mi_313_28 ⟨by omega, by omega⟩ ⟨by omega, by omega⟩ (fun q2 => ?_) (fun q2 => ?_)
      · refine V_ipush mi_313_51 ?_
        exact V_retI mi_313_52 (fun _ => by decide) (by rw [show gsA G nm j (n / 2) f = false from alB_f (p := k) (by omega) (by unfold gsP; rw [ea, Int.toNat_natCast]; unfold syO; rw [if_neg (show ¬ (a : Int) < G (6 + 7 * f) by omega)]; exact decide_eq_false (by omega))] at kk; exact kk)
      · have gn := hg.bn f hf a (by omega)
        refine V_aload (v := ad 90) mi_313_31 (by simp [stL, stL2, lv_args, Value.category]) ?_
        refine V_iload (v := Int32.ofInt ((f : Int))) mi_313_32 (by simp [stL, stL2, lv_args, Value.category]) ?_
        refine V_iload (v := Int32.ofInt ((a : Int))) mi_313_33 (by simp [stL, stL2, lv_args, Value.category]) ?_
        refine V_callM (As := [.int (Int32.ofInt ((f : Int))), .int (Int32.ofInt ((a : Int)))]) (st := []) mi_313_35 (by omega) (by decide +kernel) (by decide +kernel) hG (msl_ct (o := f) (i := a) hG hW hg hf (by omega)) (by omega) (show 2 = mN 205 by decide +kernel) (by simp [Value.category]) ?_
        rintro r w3 ⟨e3, rfl⟩
        rw [e3]
        refine V_i2l mi_313_38 ?_
        rw [i2lx ⟨by omega, by omega⟩]
        refine V_aload (v := ad 90) mi_313_39 (by simp [stL, stL2, lv_args, Value.category]) ?_
        refine V_iload (v := Int32.ofInt ((j : Int))) mi_313_40 (by simp [stL, stL2, lv_args, Value.category]) ?_
        refine V_iload (v := Int32.ofInt (((2 * k : Nat) : Int))) mi_313_41 (by simp [stL, stL2, lv_args, Value.category]) ?_
        refine V_ipush mi_313_42 ?_
        refine V_ibin mi_313_43 (by omega) ?_
        rw [ib0]
        rw [show ((2 * k : Nat) : Int) + 1 = ((2 * k + 1 : Nat) : Int) by omega]
        refine V_callM (As := [.int (Int32.ofInt ((j : Int))), .int (Int32.ofInt (((2 * k + 1 : Nat) : Int)))]) (st := [.long (Int64.ofInt (G (7 + 7 * f + a)))]) mi_313_44 (by omega) (by decide +kernel) (by decide +kernel) hG (nvM_ct (i := 2 * k + 1) hG h hB hj (by omega)) (by omega) (show 2 = mN 300 by decide +kernel) (by simp [Value.category]) ?_
        rintro r w4 ⟨e4, rfl⟩
        rw [e4]
        refine V_lcmp mi_313_47 ?_
        have clq3 := cdL_iff (x := 0) (a := G (7 + 7 * f + a)) (b := nv nm j (2 * k + 1)) (by omega) (by omega) (by omega) (by omega)
        refine V_if mi_313_48 (fun q3 => ?_) (fun q3 => ?_)
        · have kq3 : (G (7 + 7 * f + a)) - (nv nm j (2 * k + 1)) = 0 := clq3.mp q3
          refine V_iinc (v := Int32.ofInt (((2 * k : Nat) : Int))) mi_313_53 (by simp [stL, stL2, lv_args, Value.category]) ?_
          rw [ia2]
          rw [show ((2 * k : Nat) : Int) + 2 = ((2 * (k + 1) : Nat) : Int) by omega]
          refine V_goto mi_313_56 ?_
          refine V_sub (lv' := [(0, .ref (ad 90)), (1, .int (Int32.ofInt ((j : Int)))), (2, .int (Int32.ofInt ((f : Int)))), (3, .int (Int32.ofInt (((2 * (k + 1) : Nat) : Int))))]) (fun q hq => ?_) ?_
          · simp only [List.mem_cons, List.not_mem_nil, or_false] at hq
            rcases hq with rfl | rfl | rfl | rfl <;> simp [stL, stL2, lv_args, Value.category]
          exact igm_2 hG hW hg h hB hj hn ev hc hf m (k + 1) (by omega) (fun x hx => by
            by_cases e : x = k
            · rw [e]
              unfold gsP
              rw [ea, Int.toNat_natCast]
              unfold syO
              rw [if_pos (show (a : Int) < G (6 + 7 * f) by omega)]
              exact decide_eq_true (by omega)
            · exact ht x (by omega)) kk
        · have kq3 : ¬ ((G (7 + 7 * f + a)) - (nv nm j (2 * k + 1)) = 0) := fun z => q3 (clq3.mpr z)
          refine V_ipush mi_313_51 ?_
          exact V_retI mi_313_52 (fun _ => by decide) (by rw [show gsA G nm j (n / 2) f = false from alB_f (p := k) (by omega) (by unfold gsP; rw [ea, Int.toNat_natCast]; unfold syO; rw [if_pos (show (a : Int) < G (6 + 7 * f) by omega)]; exact decide_eq_false (by omega))] at kk; exact kk)
theorem igM_ct {G : Nat → Int} {sz wds : Nat → Int} {nm : Nat → Int64} (hG : GOK ad tys GG ws) (hW : W91 G ws) (hg : HB G) (h : SLM sz wds nm ws) (hB : SLB sz wds nm) {j n : Nat} (hj : j < 4) (hn : sz j = (n : Int)) (ev : n % 2 = 0) (hc : alB (cluP G nm j) n = true) {f : Nat} (hf : f < 6) : CT l D tys A 313 1 0 0 [.ref (ad 90), .int (Int32.ofInt ((j : Int))), .int (Int32.ofInt ((f : Int)))] ws (fun r w => w = ws ∧ r = some (.int (bI (gsA G nm j (n / 2) f)))) := by
  refine CT_of_V (by omega) (show (3 : Nat) ≤ mML 313 by decide +kernel) ?_
  refine V_ipush mi_313_0 ?_
  refine V_istore mi_313_1 ?_
  refine V_sub (lv' := [(0, .ref (ad 90)), (1, .int (Int32.ofInt ((j : Int)))), (2, .int (Int32.ofInt ((f : Int)))), (3, .int (Int32.ofInt (((2 * 0 : Nat) : Int))))]) (fun q hq => ?_) ?_
  · simp only [List.mem_cons, List.not_mem_nil, or_false] at hq
    rcases hq with rfl | rfl | rfl | rfl <;> simp [stL, stL2, lv_args, Value.category]
  exact igm_2 hG hW hg h hB hj hn ev hc hf (n / 2) 0 (by omega) (fun x hx => absurd hx (by omega)) ⟨rfl, rfl⟩
theorem gbm_4 {G : Nat → Int} {sz wds : Nat → Int} {nm : Nat → Int64} (hG : GOK ad tys GG ws) (hW : W91 G ws) (hg : HB G) (h : SLM sz wds nm ws) (hB : SLB sz wds nm) {j n : Nat} (hj : j < 4) (hn : sz j = (n : Int)) (ev : n % 2 = 0) (hc : alB (cluP G nm j) n = true) {post : Option Value → va_W → Prop} : ∀ (m f : Nat), ((f + m : Nat) : Int) = G 3 → post (some (.int (Int32.ofInt (orI (gsA G nm j (n / 2)) (G 3).toNat)))) ws → V l D tys A 314 2 0 0 post 0 0 4 [(0, .ref (ad 90)), (1, .int (Int32.ofInt ((j : Int)))), (2, .int (Int32.ofInt (orI (gsA G nm j (n / 2)) f))), (3, .int (Int32.ofInt ((f : Int))))] [] ws
  | 0, f, hm, kk => by
    obtain ⟨s91, e91, -⟩ := g91s
    have b3 := hg.b3
    refine V_iload (v := Int32.ofInt ((f : Int))) mi_314_4 (by simp [stL, stL2, lv_args, Value.category]) ?_
    refine V_aload (v := ad 90) mi_314_5 (by simp [stL, stL2, lv_args, Value.category]) ?_
    refine V_getI mi_314_6 hG (rref gr1m (by omega) hG) ?_
    refine V_ipush mi_314_9 ?_
    refine V_aldX (j := 3) mi_314_10 rfl hG e91 (by omega) (by omega) (hW _ (by omega)) ?_
    refine V_cge mi_314_11 ⟨by omega, by omega⟩ ⟨by omega, by omega⟩ (fun q => ?_) (fun q => ?_)
    · refine V_iload (v := Int32.ofInt (orI (gsA G nm j (n / 2)) f)) mi_314_39 (by simp [stL, stL2, lv_args, Value.category]) ?_
      have e : f = (G 3).toNat := by omega
      rw [e]
      exact V_retI mi_314_40 (fun h => absurd h (by decide +kernel)) kk
    · exact absurd q (by omega)
  | m + 1, f, hm, kk => by
    obtain ⟨s91, e91, -⟩ := g91s
    have b3 := hg.b3
    refine V_iload (v := Int32.ofInt ((f : Int))) mi_314_4 (by simp [stL, stL2, lv_args, Value.category]) ?_
    refine V_aload (v := ad 90) mi_314_5 (by simp [stL, stL2, lv_args, Value.category]) ?_
    refine V_getI mi_314_6 hG (rref gr1m (by omega) hG) ?_
    refine V_ipush mi_314_9 ?_
    refine V_aldX (j := 3) mi_314_10 rfl hG e91 (by omega) (by omega) (hW _ (by omega)) ?_
    refine V_cge mi_314_11 ⟨by omega, by omega⟩ ⟨by omega, by omega⟩ (fun q => ?_) (fun q => ?_)
    · exact absurd q (by omega)
    · refine V_iload (v := Int32.ofInt (orI (gsA G nm j (n / 2)) f)) mi_314_14 (by simp [stL, stL2, lv_args, Value.category]) ?_
      refine V_aload (v := ad 90) mi_314_15 (by simp [stL, stL2, lv_args, Value.category]) ?_
      refine V_iload (v := Int32.ofInt ((j : Int))) mi_314_16 (by simp [stL, stL2, lv_args, Value.category]) ?_
      refine V_iload (v := Int32.ofInt ((f : Int))) mi_314_17 (by simp [stL, stL2, lv_args, Value.category]) ?_
      refine V_callM (As := [.int (Int32.ofInt ((j : Int))), .int (Int32.ofInt ((f : Int)))]) (st := [.int (Int32.ofInt (orI (gsA G nm j (n / 2)) f))]) mi_314_18 (by omega) (by decide +kernel) (by decide +kernel) hG (igM_ct (f := f) hG hW hg h hB hj hn ev hc (by omega)) (by omega) (show 2 = mN 313 by decide +kernel) (by simp [Value.category]) ?_
      rintro r w1 ⟨e1, rfl⟩
      rw [e1]
      refine V_beq mi_314_21  (fun q2 => ?_) (fun q2 => ?_)
      · refine V_ipush mi_314_30 ?_
        refine V_ibin mi_314_31 (by omega) ?_
        rw [or0v, ← orI_s0 (P := gsA G nm j (n / 2)) q2]
        refine V_istore mi_314_32 ?_
        refine V_iinc (v := Int32.ofInt ((f : Int))) mi_314_33 (by simp [stL, stL2, lv_args, Value.category]) ?_
        rw [ia2]
        refine V_goto mi_314_36 ?_
        refine V_sub (lv' := [(0, .ref (ad 90)), (1, .int (Int32.ofInt ((j : Int)))), (2, .int (Int32.ofInt (orI (gsA G nm j (n / 2)) (f + 1)))), (3, .int (Int32.ofInt (((f + 1 : Nat) : Int))))]) (fun q hq => ?_) ?_
        · simp only [List.mem_cons, List.not_mem_nil, or_false] at hq
          rcases hq with rfl | rfl | rfl | rfl <;> simp [stL, stL2, lv_args, Value.category]
        exact gbm_4 hG hW hg h hB hj hn ev hc m (f + 1) (by omega) kk
      · refine V_ipush mi_314_24 ?_
        refine V_iload (v := Int32.ofInt ((f : Int))) mi_314_25 (by simp [stL, stL2, lv_args, Value.category]) ?_
        refine V_ibin mi_314_26 (by omega) ?_
        refine V_goto mi_314_27 ?_
        refine V_ibin mi_314_31 (by omega) ?_
        rw [bitO_i, ← orI_s1 (P := gsA G nm j (n / 2)) q2]
        refine V_istore mi_314_32 ?_
        refine V_iinc (v := Int32.ofInt ((f : Int))) mi_314_33 (by simp [stL, stL2, lv_args, Value.category]) ?_
        rw [ia2]
        refine V_goto mi_314_36 ?_
        refine V_sub (lv' := [(0, .ref (ad 90)), (1, .int (Int32.ofInt ((j : Int)))), (2, .int (Int32.ofInt (orI (gsA G nm j (n / 2)) (f + 1)))), (3, .int (Int32.ofInt (((f + 1 : Nat) : Int))))]) (fun q hq => ?_) ?_
        · simp only [List.mem_cons, List.not_mem_nil, or_false] at hq
          rcases hq with rfl | rfl | rfl | rfl <;> simp [stL, stL2, lv_args, Value.category]
        exact gbm_4 hG hW hg h hB hj hn ev hc m (f + 1) (by omega) kk
theorem gbM_ct {G : Nat → Int} {sz wds : Nat → Int} {nm : Nat → Int64} (hG : GOK ad tys GG ws) (hW : W91 G ws) (hg : HB G) (h : SLM sz wds nm ws) (hB : SLB sz wds nm) {j n : Nat} (hj : j < 4) (hn : sz j = (n : Int)) (ev : n % 2 = 0) (hc : alB (cluP G nm j) n = true) : CT l D tys A 314 2 0 0 [.ref (ad 90), .int (Int32.ofInt ((j : Int)))] ws (fun r w => w = ws ∧ r = some (.int (Int32.ofInt (orI (gsA G nm j (n / 2)) (G 3).toNat)))) := by
  refine CT_of_V (by omega) (show (2 : Nat) ≤ mML 314 by decide +kernel) ?_
  have b3 := hg.b3
  refine V_ipush mi_314_0 ?_
  refine V_istore mi_314_1 ?_
  refine V_ipush mi_314_2 ?_
  refine V_istore mi_314_3 ?_
  refine V_sub (lv' := [(0, .ref (ad 90)), (1, .int (Int32.ofInt ((j : Int)))), (2, .int (Int32.ofInt (0))), (3, .int (Int32.ofInt (((0 : Nat) : Int))))]) (fun q hq => ?_) ?_
  · simp only [List.mem_cons, List.not_mem_nil, or_false] at hq
    rcases hq with rfl | rfl | rfl | rfl <;> simp [stL, stL2, lv_args, Value.category]
  exact gbm_4 hG hW hg h hB hj hn ev hc (G 3).toNat 0 (by omega) ⟨rfl, rfl⟩
end XVI
