section XVG
variable {l : Launch} {D : va_G} {tys : List (ClassId × FieldType)} {A : Nat → Prop} {ad : Nat → Nat} {ws : va_W}
theorem g0r9 : gOr 0 10 13 9 47 := ⟨_, rfl, by decide +kernel⟩
theorem g47o : gO 47 3 2 := ⟨_, rfl⟩
theorem gr29 : ∃ g, GG[90]? = some ((0, 11, 36), g) ∧ segAt g 29 = some (2, ((105 : Nat) : Int), ((105 : Nat) : Int)) := ⟨_, rfl, by decide +kernel⟩
theorem f30m : gF 30 0 6 := ⟨_, rfl, by decide +kernel⟩
theorem a105 : gA 105 6 (-2147483648) 2147483647 := gA_of rfl
theorem or0v (a : Int) : ibF 6 (Int32.ofInt a) (Int32.ofInt 0) = Int32.ofInt a := by
  show Int32.ofInt a ||| 0 = _
  exact Int32.or_zero
/-- all of the first n, one of them -/
noncomputable def alB (P : Nat → Bool) : Nat → Bool
  | 0 => true
  | n + 1 => alB P n && P n
noncomputable def exsB (P : Nat → Bool) : Nat → Bool
  | 0 => false
  | n + 1 => exsB P n || P n
theorem alB_t {P : Nat → Bool} : ∀ n : Nat, (∀ p, p < n → P p = true) → alB P n = true
  | 0, _ => rfl
  | n + 1, h => by
    unfold alB
    rw [alB_t n (fun p hp => h p (by omega)), h n (by omega)]
    rfl
theorem alB_m {P : Nat → Bool} {p : Nat} (h : alB P p = false) : ∀ n : Nat, p ≤ n → alB P n = false
  | 0, hp => by
    rw [show p = 0 by omega] at h
    exact h
  | n + 1, hp => by
    by_cases e : p = n + 1
    · rw [e] at h
      exact h
    · unfold alB
      rw [alB_m h n (by omega)]
      rfl
theorem alB_f {P : Nat → Bool} {p n : Nat} (hp : p < n) (h : P p = false) : alB P n = false := alB_m (p := p + 1) (by unfold alB; rw [h, Bool.and_false]) n (by omega)
theorem exsB_t {P : Nat → Bool} {p : Nat} (h : P p = true) : ∀ n : Nat, p < n → exsB P n = true
  | 0, hp => absurd hp (by omega)
  | n + 1, hp => by
    unfold exsB
    by_cases e : p = n
    · rw [← e, h, Bool.or_true]
    · rw [exsB_t h n (by omega)]
      rfl
/-- number p of slot j -/
noncomputable def nv (nm : Nat → Int64) (j p : Nat) : Int := (nm (60 * j + p)).toInt
theorem nv_bd (nm : Nat → Int64) (j p : Nat) : -9223372036854775808 ≤ nv nm j p ∧ nv nm j p ≤ 9223372036854775807 := by
  have h1 := (nm (60 * j + p)).le_toInt
  have h2 := (nm (60 * j + p)).toInt_lt
  unfold nv
  exact ⟨by omega, by omega⟩
theorem nvX_ct {sz wds : Nat → Int} {nm : Nat → Int64} {j i : Nat} (hG : GOK ad tys GG ws) (h : SLX sz wds nm ws) (hB : SLB sz wds nm) (hj : j < 4) (hi : (i : Int) < sz j) : CT l D tys A 164 2 0 0 [.ref (ad 39), .int (Int32.ofInt ((j : Int))), .int (Int32.ofInt ((i : Int)))] ws (fun r w => w = ws ∧ r = some (.long (Int64.ofInt (nv nm j i)))) := by
  unfold nv
  rw [Int64.ofInt_toInt]
  exact nmX_ct2 hG hj (h j hj).1 (hB j hj).1.2 hi ((h j hj).2.2 i hi)
theorem nvM_ct {sz wds : Nat → Int} {nm : Nat → Int64} {j i : Nat} (hG : GOK ad tys GG ws) (h : SLM sz wds nm ws) (hB : SLB sz wds nm) (hj : j < 4) (hi : (i : Int) < sz j) : CT l D tys A 300 0 0 0 [.ref (ad 90), .int (Int32.ofInt ((j : Int))), .int (Int32.ofInt ((i : Int)))] ws (fun r w => w = ws ∧ r = some (.long (Int64.ofInt (nv nm j i)))) := by
  have b := hB j hj
  unfold nv
  rw [Int64.ofInt_toInt]
  exact nmM_ct2 hG hj (by omega) ((h j hj).2.2 i hi)
theorem in3_ct {v lo hi : Int} (v1 : -9223372036854775808 ≤ v) (v2 : v ≤ 9223372036854775807) (a1 : -9223372036854775808 ≤ lo) (a2 : lo ≤ 9223372036854775807) (b1 : -9223372036854775808 ≤ hi) (b2 : hi ≤ 9223372036854775807) : CT l D tys A 193 0 0 0 [.long (Int64.ofInt v), .long (Int64.ofInt lo), .long (Int64.ofInt hi)] ws (fun r w => w = ws ∧ r = some (.int (bI (decide (lo ≤ v ∧ v ≤ hi))))) := by
  refine CT_post (in2_ct v1 v2 a1 a2 b1 b2) (fun r w h => ⟨h.1, ?_⟩)
  rcases h.2 with ⟨e, k1, k2⟩ | ⟨e, k⟩
  · rw [e, decide_eq_true (show lo ≤ v ∧ v ≤ hi from ⟨k1, k2⟩)]
    rfl
  · rw [e, decide_eq_false k]
    rfl
noncomputable def inP (nm : Nat → Int64) (j : Nat) (lo hi : Int) (p : Nat) : Bool := decide (lo ≤ nv nm j p ∧ nv nm j p ≤ hi)
/-- what is asked of a fragment -/
noncomputable def wfrV (G sz : Nat → Int) (nm : Nat → Int64) (s : Int) : Int := if (0 ≤ s ∧ s < 4) ∧ 0 < G 5 then (if sz s.toNat < 0 then -6 else if alB (inP nm s.toNat 0 (G 0 - 1)) (sz s.toNat).toNat = true then 0 else -2) else -2
theorem wfrV_c (G sz : Nat → Int) (nm : Nat → Int64) (s : Int) : wfrV G sz nm s = -2 ∨ wfrV G sz nm s = -6 ∨ (wfrV G sz nm s = 0 ∧ (0 ≤ s ∧ s < 4) ∧ 0 ≤ sz s.toNat) := by
  unfold wfrV
  split
  · next h =>
    split
    · exact Or.inr (Or.inl rfl)
    · next h2 =>
      split
      · exact Or.inr (Or.inr ⟨rfl, h.1, by omega⟩)
      · exact Or.inl rfl
  · exact Or.inl rfl
/-- folk f's name, from t on, is the fragment's -/
noncomputable def fitP (G : Nat → Int) (nm : Nat → Int64) (j f t p : Nat) : Bool := decide (G (7 + 7 * f + (t + p)) = nv nm j p)
noncomputable def stP (G : Nat → Int) (nm : Nat → Int64) (j n f t : Nat) : Bool := alB (fitP G nm j f t) n
noncomputable def stB (G : Nat → Int) (nm : Nat → Int64) (j n f : Nat) : Bool := exsB (stP G nm j n f) ((G (6 + 7 * f)).toNat + 1 - n)
noncomputable def ovV (G sz : Nat → Int) (nm : Nat → Int64) (s : Int) : Int := if wfrV G sz nm s = 0 then orI (stB G nm s.toNat (sz s.toNat).toNat) (G 3).toNat else wfrV G sz nm s
theorem awx_3 {sz wds : Nat → Int} {nm : Nat → Int64} (hG : GOK ad tys GG ws) (h : SLX sz wds nm ws) (hB : SLB sz wds nm) {j : Nat} {lo hi : Int} (hj : j < 4) (loI : I32 lo) (hiI : I32 hi) {post : Option Value → va_W → Prop} : ∀ (m p : Nat), ((p + m : Nat) : Int) = sz j → (∀ x, x < p → inP nm j lo hi x = true) → post (some (.int (bI (alB (inP nm j lo hi) (sz j).toNat)))) ws → V l D tys A 170 3 0 0 post 0 0 3 [(0, .ref (ad 39)), (1, .int (Int32.ofInt ((j : Int)))), (2, .int (Int32.ofInt (lo))), (3, .int (Int32.ofInt (hi))), (4, .int (Int32.ofInt ((p : Int))))] [] ws
  | 0, p, hm, ht, kk => by
    have g := h j hj
    have b := hB j hj
    have nb := nv_bd nm j p
    have l1 : -2147483648 ≤ lo ∧ lo ≤ 2147483647 := loI
    have h1 : -2147483648 ≤ hi ∧ hi ≤ 2147483647 := hiI
    refine V_iload (v := Int32.ofInt ((p : Int))) mi_170_3 (by simp [stL, stL2, lv_args, Value.category]) ?_
    refine V_aload (v := ad 39) mi_170_5 (by simp [stL, stL2, lv_args, Value.category]) ?_
    refine V_iload (v := Int32.ofInt ((j : Int))) mi_170_6 (by simp [stL, stL2, lv_args, Value.category]) ?_
    refine V_cO (As := [.int (Int32.ofInt ((j : Int)))]) (st := [.int (Int32.ofInt ((p : Int)))]) mi_170_7 (by omega) (by decide +kernel) (by decide +kernel) (by omega) g39o hG (szX_ct hG hj g.1) (by omega) (show 1 = mN 162 by decide +kernel) (by simp [Value.category]) ?_
    rintro r w0 ⟨e0, rfl⟩
    rw [e0]
    refine V_cge mi_170_10 ⟨by omega, by omega⟩ ⟨by omega, by omega⟩ (fun q => ?_) (fun q => ?_)
    · refine V_ipush mi_170_47 ?_
      exact V_retI mi_170_48 (fun _ => by decide) (by rw [alB_t (sz j).toNat (fun x hx => ht x (by omega))] at kk; exact kk)
    · exact absurd q (by omega)
  | m + 1, p, hm, ht, kk => by
    have g := h j hj
    have b := hB j hj
    have nb := nv_bd nm j p
    have l1 : -2147483648 ≤ lo ∧ lo ≤ 2147483647 := loI
    have h1 : -2147483648 ≤ hi ∧ hi ≤ 2147483647 := hiI
    refine V_iload (v := Int32.ofInt ((p : Int))) mi_170_3 (by simp [stL, stL2, lv_args, Value.category]) ?_
    refine V_aload (v := ad 39) mi_170_5 (by simp [stL, stL2, lv_args, Value.category]) ?_
    refine V_iload (v := Int32.ofInt ((j : Int))) mi_170_6 (by simp [stL, stL2, lv_args, Value.category]) ?_
    refine V_cO (As := [.int (Int32.ofInt ((j : Int)))]) (st := [.int (Int32.ofInt ((p : Int)))]) mi_170_7 (by omega) (by decide +kernel) (by decide +kernel) (by omega) g39o hG (szX_ct hG hj g.1) (by omega) (show 1 = mN 162 by decide +kernel) (by simp [Value.category]) ?_
    rintro r w0 ⟨e0, rfl⟩
    rw [e0]
    refine V_cge mi_170_10 ⟨by omega, by omega⟩ ⟨by omega, by omega⟩ (fun q => ?_) (fun q => ?_)
    · exact absurd q (by omega)
    · refine V_aload (v := ad 39) mi_170_13 (by simp [stL, stL2, lv_args, Value.category]) ?_
      refine V_iload (v := Int32.ofInt ((j : Int))) mi_170_14 (by simp [stL, stL2, lv_args, Value.category]) ?_
      refine V_iload (v := Int32.ofInt ((p : Int))) mi_170_15 (by simp [stL, stL2, lv_args, Value.category]) ?_
      refine V_cO (As := [.int (Int32.ofInt ((j : Int))), .int (Int32.ofInt ((p : Int)))]) (st := []) mi_170_17 (by omega) (by decide +kernel) (by decide +kernel) (by omega) g39o hG (nvX_ct (i := p) hG h hB hj (by omega)) (by omega) (show 2 = mN 164 by decide +kernel) (by simp [Value.category]) ?_
      rintro r w1 ⟨e1, rfl⟩
      rw [e1]
      refine V_iload (v := Int32.ofInt (lo)) mi_170_20 (by simp [stL, stL2, lv_args, Value.category]) ?_
      refine V_i2l mi_170_21 ?_
      rw [i2lx ⟨by omega, by omega⟩]
      refine V_lcmp mi_170_22 ?_
      have clq2 := cdL_iff (x := 2) (a := nv nm j p) (b := lo) (by omega) (by omega) (by omega) (by omega)
      refine V_if mi_170_23 (fun q2 => ?_) (fun q2 => ?_)
      · have kq2 : (nv nm j p) - (lo) < 0 := clq2.mp q2
        refine V_ipush mi_170_39 ?_
        exact V_retI mi_170_40 (fun _ => by decide) (by rw [alB_f (p := p) (by omega) (show inP nm j lo hi p = false from decide_eq_false (by omega))] at kk; exact kk)
      · have kq2 : ¬ ((nv nm j p) - (lo) < 0) := fun z => q2 (clq2.mpr z)
        refine V_aload (v := ad 39) mi_170_26 (by simp [stL, stL2, lv_args, Value.category]) ?_
        refine V_iload (v := Int32.ofInt ((j : Int))) mi_170_27 (by simp [stL, stL2, lv_args, Value.category]) ?_
        refine V_iload (v := Int32.ofInt ((p : Int))) mi_170_28 (by simp [stL, stL2, lv_args, Value.category]) ?_
        refine V_cO (As := [.int (Int32.ofInt ((j : Int))), .int (Int32.ofInt ((p : Int)))]) (st := []) mi_170_30 (by omega) (by decide +kernel) (by decide +kernel) (by omega) g39o hG (nvX_ct (i := p) hG h hB hj (by omega)) (by omega) (show 2 = mN 164 by decide +kernel) (by simp [Value.category]) ?_
        rintro r w2 ⟨e2, rfl⟩
        rw [e2]
        refine V_iload (v := Int32.ofInt (hi)) mi_170_33 (by simp [stL, stL2, lv_args, Value.category]) ?_
        refine V_i2l mi_170_34 ?_
        rw [i2lx ⟨by omega, by omega⟩]
        refine V_lcmp mi_170_35 ?_
        have clq3 := cdL_iff (x := 5) (a := nv nm j p) (b := hi) (by omega) (by omega) (by omega) (by omega)
        refine V_if mi_170_36 (fun q3 => ?_) (fun q3 => ?_)
        · have kq3 : (nv nm j p) - (hi) ≤ 0 := clq3.mp q3
          refine V_iinc (v := Int32.ofInt ((p : Int))) mi_170_41 (by simp [stL, stL2, lv_args, Value.category]) ?_
          rw [ia2]
          refine V_goto mi_170_44 ?_
          refine V_sub (lv' := [(0, .ref (ad 39)), (1, .int (Int32.ofInt ((j : Int)))), (2, .int (Int32.ofInt (lo))), (3, .int (Int32.ofInt (hi))), (4, .int (Int32.ofInt (((p + 1 : Nat) : Int))))]) (fun q hq => ?_) ?_
          · simp only [List.mem_cons, List.not_mem_nil, or_false] at hq
            rcases hq with rfl | rfl | rfl | rfl | rfl <;> simp [stL, stL2, lv_args, Value.category]
          exact awx_3 hG h hB hj loI hiI m (p + 1) (by omega) (fun x hx => by
            by_cases e : x = p
            · rw [e]
              exact decide_eq_true ⟨by omega, by omega⟩
            · exact ht x (by omega)) kk
        · have kq3 : ¬ ((nv nm j p) - (hi) ≤ 0) := fun z => q3 (clq3.mpr z)
          refine V_ipush mi_170_39 ?_
          exact V_retI mi_170_40 (fun _ => by decide) (by rw [alB_f (p := p) (by omega) (show inP nm j lo hi p = false from decide_eq_false (by omega))] at kk; exact kk)
theorem aw_ct {sz wds : Nat → Int} {nm : Nat → Int64} (hG : GOK ad tys GG ws) (h : SLX sz wds nm ws) (hB : SLB sz wds nm) {j : Nat} {lo hi : Int} (hj : j < 4) (h0 : 0 ≤ sz j) (loI : I32 lo) (hiI : I32 hi) : CT l D tys A 170 3 0 0 [.ref (ad 39), .int (Int32.ofInt ((j : Int))), .int (Int32.ofInt (lo)), .int (Int32.ofInt (hi))] ws (fun r w => w = ws ∧ r = some (.int (bI (alB (inP nm j lo hi) (sz j).toNat)))) := by
  refine CT_of_V (by omega) (show (4 : Nat) ≤ mML 170 by decide +kernel) ?_
  refine V_ipush mi_170_0 ?_
  refine V_istore mi_170_1 ?_
  refine V_sub (lv' := [(0, .ref (ad 39)), (1, .int (Int32.ofInt ((j : Int)))), (2, .int (Int32.ofInt (lo))), (3, .int (Int32.ofInt (hi))), (4, .int (Int32.ofInt (((0 : Nat) : Int))))]) (fun q hq => ?_) ?_
  · simp only [List.mem_cons, List.not_mem_nil, or_false] at hq
    rcases hq with rfl | rfl | rfl | rfl | rfl <;> simp [stL, stL2, lv_args, Value.category]
  exact awx_3 hG h hB hj loI hiI (sz j).toNat 0 (by omega) (fun x hx => absurd hx (by omega)) ⟨rfl, rfl⟩
theorem wfX_ct {G : Nat → Int} {sz wds : Nat → Int} {nm : Nat → Int64} (hG : GOK ad tys GG ws) (hX : HX 4 G ws) (hg : HB G) (h : SLX sz wds nm ws) (hB : SLB sz wds nm) {s : Int} (sI : I32 s) : CT l D tys A 53 4 0 0 [.ref (ad 0), .int (Int32.ofInt (s))] ws (fun r w => w = ws ∧ r = some (.int (Int32.ofInt (wfrV G sz nm s)))) := by
  refine CT_of_V (by omega) (show (2 : Nat) ≤ mML 53 by decide +kernel) ?_
  refine V_aload (v := ad 0) mi_53_0 (by simp [stL, stL2, lv_args, Value.category]) ?_
  refine V_gR mi_53_1 g0r7 (by omega) hG ?_
  refine V_iload (v := Int32.ofInt (s)) mi_53_4 (by simp [stL, stL2, lv_args, Value.category]) ?_
  refine V_cO (As := [.int (Int32.ofInt (s))]) (st := []) mi_53_5 (by omega) (by decide +kernel) (by decide +kernel) (by omega) g39o hG (hsX_ct sI) (by omega) (show 1 = mN 160 by decide +kernel) (by simp [Value.category]) ?_
  rintro r w1 ⟨rfl, rfl⟩
  refine V_beq mi_53_8  (fun c1 => ?_) (fun c1 => ?_)
  · refine V_ipush mi_53_21 ?_
    exact V_retI mi_53_23 (fun h => absurd h (by decide +kernel)) ⟨rfl, by unfold wfrV; rw [if_neg (fun k => of_decide_eq_false c1 k.1)]⟩
  · refine V_aload (v := ad 0) mi_53_11 (by simp [stL, stL2, lv_args, Value.category]) ?_
    refine V_gR mi_53_12 g0r2 (by omega) hG ?_
    refine V_cO (As := []) (st := []) mi_53_15 (by omega) (by decide +kernel) (by decide +kernel) (by omega) g4o hG (hth_ct hG hX hg) (by omega) (show 0 = mN 101 by decide +kernel) (by simp [Value.category]) ?_
    rintro r w2 ⟨rfl, rfl⟩
    refine V_bne mi_53_18  (fun c2 => ?_) (fun c2 => ?_)
    · have k1 := of_decide_eq_true c1
      have k2 := of_decide_eq_true c2
      obtain ⟨j, rfl⟩ := Int.eq_ofNat_of_zero_le k1.1
      have kj : j < 4 := by omega
      have g := h j kj
      have b := hB j kj
      have g0 := hg.b0
      refine V_aload (v := ad 0) mi_53_24 (by simp [stL, stL2, lv_args, Value.category]) ?_
      refine V_gR mi_53_25 g0r7 (by omega) hG ?_
      refine V_iload (v := Int32.ofInt ((j : Int))) mi_53_28 (by simp [stL, stL2, lv_args, Value.category]) ?_
      refine V_cO (As := [.int (Int32.ofInt ((j : Int)))]) (st := []) mi_53_29 (by omega) (by decide +kernel) (by decide +kernel) (by omega) g39o hG (baX_ct hG kj ⟨by omega, by omega⟩ g.1) (by omega) (show 1 = mN 161 by decide +kernel) (by simp [Value.category]) ?_
      rintro r w3 ⟨rfl, rfl⟩
      refine V_beq mi_53_32  (fun c3 => ?_) (fun c3 => ?_)
      · have k3 := of_decide_eq_false c3
        refine V_aload (v := ad 0) mi_53_38 (by simp [stL, stL2, lv_args, Value.category]) ?_
        refine V_gR mi_53_39 g0r7 (by omega) hG ?_
        refine V_iload (v := Int32.ofInt ((j : Int))) mi_53_42 (by simp [stL, stL2, lv_args, Value.category]) ?_
        refine V_ipush mi_53_43 ?_
        refine V_aload (v := ad 0) mi_53_44 (by simp [stL, stL2, lv_args, Value.category]) ?_
        refine V_gR mi_53_45 g0r2 (by omega) hG ?_
        refine V_gO mi_53_48 g4o hG (show rd _ 4 1 = some (.int (Int32.ofInt (G 0))) from hx0 hX (i := 1) (by omega)) ?_
        refine V_ipush mi_53_51 ?_
        refine V_ibin mi_53_52 (by omega) ?_
        rw [ib1]
        refine V_cO (As := [.int (Int32.ofInt ((j : Int))), .int (Int32.ofInt (0)), .int (Int32.ofInt ((G 0) - (1)))]) (st := []) mi_53_53 (by omega) (by decide +kernel) (by decide +kernel) (by omega) g39o hG (aw_ct (lo := 0) (hi := G 0 - 1) hG h hB kj (by omega) ⟨by omega, by omega⟩ ⟨by omega, by omega⟩) (by omega) (show 3 = mN 170 by decide +kernel) (by simp [Value.category]) ?_
        rintro r w4 ⟨rfl, rfl⟩
        refine V_beq mi_53_56  (fun c4 => ?_) (fun c4 => ?_)
        · refine V_ipush mi_53_63 ?_
          exact V_retI mi_53_65 (fun h => absurd h (by decide +kernel)) ⟨rfl, by unfold wfrV; rw [if_pos ⟨k1, k2⟩, if_neg (show ¬ sz ((j : Int)).toNat < 0 from k3), if_neg (fun k => by rw [show alB (inP nm ((j : Int)).toNat 0 (G 0 - 1)) (sz ((j : Int)).toNat).toNat = false from c4] at k; exact Bool.false_ne_true k)]⟩
        · refine V_ipush mi_53_59 ?_
          refine V_goto mi_53_60 ?_
          exact V_retI mi_53_65 (fun h => absurd h (by decide +kernel)) ⟨rfl, by unfold wfrV; rw [if_pos ⟨k1, k2⟩, if_neg (show ¬ sz ((j : Int)).toNat < 0 from k3), if_pos (show alB (inP nm ((j : Int)).toNat 0 (G 0 - 1)) (sz ((j : Int)).toNat).toNat = true from c4)]⟩
      · have k3 := of_decide_eq_true c3
        refine V_ipush mi_53_35 ?_
        exact V_retI mi_53_37 (fun h => absurd h (by decide +kernel)) ⟨rfl, by unfold wfrV; rw [if_pos ⟨k1, k2⟩, if_pos (show sz ((j : Int)).toNat < 0 from k3)]⟩
    · refine V_ipush mi_53_21 ?_
      exact V_retI mi_53_23 (fun h => absurd h (by decide +kernel)) ⟨rfl, by unfold wfrV; rw [if_neg (fun k => of_decide_eq_false c2 k.2)]⟩
theorem stx_26 {G : Nat → Int} {sz wds : Nat → Int} {nm : Nat → Int64} (hG : GOK ad tys GG ws) (hX : HX 4 G ws) (hg : HB G) (h : SLX sz wds nm ws) (hB : SLB sz wds nm) {j f t : Nat} (hj : j < 4) (hf : f < 6) (ht : (t : Int) + sz j ≤ G (6 + 7 * f)) {post : Option Value → va_W → Prop} : ∀ (m p : Nat), ((p + m : Nat) : Int) = sz j → (∀ x, x < p → fitP G nm j f t x = true) → (stP G nm j (sz j).toNat f t = true → V l D tys A 117 3 0 0 post 0 0 61 [(0, .ref (ad 4)), (1, .int (Int32.ofInt ((f : Int)))), (2, .ref (ad 39)), (3, .int (Int32.ofInt ((j : Int)))), (4, .int (Int32.ofInt (sz j))), (5, .int (Int32.ofInt ((t : Int)))), (6, .int (Int32.ofInt (sz j)))] [] ws) → (stP G nm j (sz j).toNat f t = false → ∀ p : Nat, (p : Int) < sz j → V l D tys A 117 3 0 0 post 0 0 61 [(0, .ref (ad 4)), (1, .int (Int32.ofInt ((f : Int)))), (2, .ref (ad 39)), (3, .int (Int32.ofInt ((j : Int)))), (4, .int (Int32.ofInt (sz j))), (5, .int (Int32.ofInt ((t : Int)))), (6, .int (Int32.ofInt ((p : Int))))] [] ws) → V l D tys A 117 3 0 0 post 0 0 26 [(0, .ref (ad 4)), (1, .int (Int32.ofInt ((f : Int)))), (2, .ref (ad 39)), (3, .int (Int32.ofInt ((j : Int)))), (4, .int (Int32.ofInt (sz j))), (5, .int (Int32.ofInt ((t : Int)))), (6, .int (Int32.ofInt ((p : Int))))] [] ws
  | 0, p, hm, hp, kt, kf => by
    have g := h j hj
    have b := hB j hj
    have gl := hg.bl f hf
    refine V_iload (v := Int32.ofInt ((p : Int))) mi_117_26 (by simp [stL, stL2, lv_args, Value.category]) ?_
    refine V_iload (v := Int32.ofInt (sz j)) mi_117_28 (by simp [stL, stL2, lv_args, Value.category]) ?_
    refine V_cge mi_117_30 ⟨by omega, by omega⟩ ⟨by omega, by omega⟩ (fun q => ?_) (fun q => ?_)
    · have e : (p : Int) = sz j := by omega
      rw [e]
      exact kt (alB_t _ (fun x hx => hp x (by omega)))
    · exact absurd q (by omega)
  | m + 1, p, hm, hp, kt, kf => by
    have g := h j hj
    have b := hB j hj
    have gl := hg.bl f hf
    have nb := nv_bd nm j p
    have gn := hg.bn f hf (t + p) (by omega)
    refine V_iload (v := Int32.ofInt ((p : Int))) mi_117_26 (by simp [stL, stL2, lv_args, Value.category]) ?_
    refine V_iload (v := Int32.ofInt (sz j)) mi_117_28 (by simp [stL, stL2, lv_args, Value.category]) ?_
    refine V_cge mi_117_30 ⟨by omega, by omega⟩ ⟨by omega, by omega⟩ (fun q => ?_) (fun q => ?_)
    · exact absurd q (by omega)
    · refine V_aload (v := ad 4) mi_117_33 (by simp [stL, stL2, lv_args, Value.category]) ?_
      refine V_iload (v := Int32.ofInt ((f : Int))) mi_117_34 (by simp [stL, stL2, lv_args, Value.category]) ?_
      refine V_iload (v := Int32.ofInt ((t : Int))) mi_117_35 (by simp [stL, stL2, lv_args, Value.category]) ?_
      refine V_iload (v := Int32.ofInt ((p : Int))) mi_117_37 (by simp [stL, stL2, lv_args, Value.category]) ?_
      refine V_ibin mi_117_39 (by omega) ?_
      rw [ib0]
      rw [show (t : Int) + (p : Int) = ((t + p : Nat) : Int) by omega]
      refine V_cO (As := [.int (Int32.ofInt ((f : Int))), .int (Int32.ofInt (((t + p : Nat) : Int)))]) (st := []) mi_117_40 (by omega) (by decide +kernel) (by decide +kernel) (by omega) g4o hG (hsl_ct (o := f) (i := t + p) hG hX hg hf (by omega)) (by omega) (show 2 = mN 107 by decide +kernel) (by simp [Value.category]) ?_
      rintro r w1 ⟨e1, rfl⟩
      rw [e1]
      refine V_i2l mi_117_43 ?_
      rw [i2lx ⟨by omega, by omega⟩]
      refine V_aload (v := ad 39) mi_117_44 (by simp [stL, stL2, lv_args, Value.category]) ?_
      refine V_iload (v := Int32.ofInt ((j : Int))) mi_117_45 (by simp [stL, stL2, lv_args, Value.category]) ?_
      refine V_iload (v := Int32.ofInt ((p : Int))) mi_117_46 (by simp [stL, stL2, lv_args, Value.category]) ?_
      refine V_cO (As := [.int (Int32.ofInt ((j : Int))), .int (Int32.ofInt ((p : Int)))]) (st := [.long (Int64.ofInt (G (7 + 7 * f + (t + p))))]) mi_117_48 (by omega) (by decide +kernel) (by decide +kernel) (by omega) g39o hG (nvX_ct (i := p) hG h hB hj (by omega)) (by omega) (show 2 = mN 164 by decide +kernel) (by simp [Value.category]) ?_
      rintro r w2 ⟨e2, rfl⟩
      rw [e2]
      refine V_lcmp mi_117_51 ?_
      have clq2 := cdL_iff (x := 1) (a := G (7 + 7 * f + (t + p))) (b := nv nm j p) (by omega) (by omega) (by omega) (by omega)
      refine V_if mi_117_52 (fun q2 => ?_) (fun q2 => ?_)
      · have kq2 : ¬ ((G (7 + 7 * f + (t + p))) - (nv nm j p) = 0) := clq2.mp q2
        exact kf (alB_f (p := p) (by omega) (decide_eq_false (by omega))) p (by omega)
      · have kq2 : ¬ (¬ ((G (7 + 7 * f + (t + p))) - (nv nm j p) = 0)) := fun z => q2 (clq2.mpr z)
        refine V_iinc (v := Int32.ofInt ((p : Int))) mi_117_55 (by simp [stL, stL2, lv_args, Value.category]) ?_
        rw [ia2]
        refine V_goto mi_117_58 ?_
        refine V_sub (lv' := [(0, .ref (ad 4)), (1, .int (Int32.ofInt ((f : Int)))), (2, .ref (ad 39)), (3, .int (Int32.ofInt ((j : Int)))), (4, .int (Int32.ofInt (sz j))), (5, .int (Int32.ofInt ((t : Int)))), (6, .int (Int32.ofInt (((p + 1 : Nat) : Int))))]) (fun q hq => ?_) ?_
        · simp only [List.mem_cons, List.not_mem_nil, or_false] at hq
          rcases hq with rfl | rfl | rfl | rfl | rfl | rfl | rfl <;> simp [stL, stL2, lv_args, Value.category]
        exact stx_26 hG hX hg h hB hj hf ht m (p + 1) (by omega) (fun x hx => by
          by_cases e : x = p
          · rw [e]
            exact decide_eq_true (by omega)
          · exact hp x (by omega)) kt kf
theorem stx_10 {G : Nat → Int} {sz wds : Nat → Int} {nm : Nat → Int64} (hG : GOK ad tys GG ws) (hX : HX 4 G ws) (hg : HB G) (h : SLX sz wds nm ws) (hB : SLB sz wds nm) {j f : Nat} (hj : j < 4) (hf : f < 6) (h0 : 0 ≤ sz j) {post : Option Value → va_W → Prop} : ∀ (m t : Nat), t + m = (G (6 + 7 * f)).toNat + 1 - (sz j).toNat → exsB (stP G nm j (sz j).toNat f) t = false → post (some (.int (bI (stB G nm j (sz j).toNat f)))) ws → V l D tys A 117 3 0 0 post 0 0 10 [(0, .ref (ad 4)), (1, .int (Int32.ofInt ((f : Int)))), (2, .ref (ad 39)), (3, .int (Int32.ofInt ((j : Int)))), (4, .int (Int32.ofInt (sz j))), (5, .int (Int32.ofInt ((t : Int))))] [] ws
  | 0, t, hm, hn, kk => by
    have g := h j hj
    have b := hB j hj
    have gl := hg.bl f hf
    refine V_iload (v := Int32.ofInt ((t : Int))) mi_117_10 (by simp [stL, stL2, lv_args, Value.category]) ?_
    refine V_iload (v := Int32.ofInt (sz j)) mi_117_12 (by simp [stL, stL2, lv_args, Value.category]) ?_
    refine V_ibin mi_117_14 (by omega) ?_
    rw [ib0]
    refine V_aload (v := ad 4) mi_117_15 (by simp [stL, stL2, lv_args, Value.category]) ?_
    refine V_iload (v := Int32.ofInt ((f : Int))) mi_117_16 (by simp [stL, stL2, lv_args, Value.category]) ?_
    refine V_cO (As := [.int (Int32.ofInt ((f : Int)))]) (st := [.int (Int32.ofInt (((t : Int)) + (sz j)))]) mi_117_17 (by omega) (by decide +kernel) (by decide +kernel) (by omega) g4o hG (hle_ct (f := f) hG hX hg hf) (by omega) (show 1 = mN 106 by decide +kernel) (by simp [Value.category]) ?_
    rintro r w0 ⟨e0, rfl⟩
    rw [e0]
    refine V_cgt mi_117_20 ⟨by omega, by omega⟩ ⟨by omega, by omega⟩ (fun q => ?_) (fun q => ?_)
    · refine V_ipush mi_117_76 ?_
      exact V_retI mi_117_77 (fun _ => by decide) (by rw [show stB G nm j (sz j).toNat f = false from by unfold stB; rw [show (G (6 + 7 * f)).toNat + 1 - (sz j).toNat = t by omega]; exact hn] at kk; exact kk)
    · exact absurd q (by omega)
  | m + 1, t, hm, hn, kk => by
    have g := h j hj
    have b := hB j hj
    have gl := hg.bl f hf
    refine V_iload (v := Int32.ofInt ((t : Int))) mi_117_10 (by simp [stL, stL2, lv_args, Value.category]) ?_
    refine V_iload (v := Int32.ofInt (sz j)) mi_117_12 (by simp [stL, stL2, lv_args, Value.category]) ?_
    refine V_ibin mi_117_14 (by omega) ?_
    rw [ib0]
    refine V_aload (v := ad 4) mi_117_15 (by simp [stL, stL2, lv_args, Value.category]) ?_
    refine V_iload (v := Int32.ofInt ((f : Int))) mi_117_16 (by simp [stL, stL2, lv_args, Value.category]) ?_
    refine V_cO (As := [.int (Int32.ofInt ((f : Int)))]) (st := [.int (Int32.ofInt (((t : Int)) + (sz j)))]) mi_117_17 (by omega) (by decide +kernel) (by decide +kernel) (by omega) g4o hG (hle_ct (f := f) hG hX hg hf) (by omega) (show 1 = mN 106 by decide +kernel) (by simp [Value.category]) ?_
    rintro r w0 ⟨e0, rfl⟩
    rw [e0]
    refine V_cgt mi_117_20 ⟨by omega, by omega⟩ ⟨by omega, by omega⟩ (fun q => ?_) (fun q => ?_)
    · exact absurd q (by omega)
    · refine V_ipush mi_117_23 ?_
      refine V_istore mi_117_24 ?_
      refine V_sub (lv' := [(0, .ref (ad 4)), (1, .int (Int32.ofInt ((f : Int)))), (2, .ref (ad 39)), (3, .int (Int32.ofInt ((j : Int)))), (4, .int (Int32.ofInt (sz j))), (5, .int (Int32.ofInt ((t : Int)))), (6, .int (Int32.ofInt (((0 : Nat) : Int))))]) (fun q hq => ?_) ?_
      · simp only [List.mem_cons, List.not_mem_nil, or_false] at hq
        rcases hq with rfl | rfl | rfl | rfl | rfl | rfl | rfl <;> simp [stL, stL2, lv_args, Value.category]
      refine stx_26 hG hX hg h hB hj hf (by omega) (sz j).toNat 0 (by omega) (fun x hx => absurd hx (by omega)) (fun es => ?_) (fun es p hp => ?_)
      · refine V_iload (v := Int32.ofInt (sz j)) mi_117_61 (by simp [stL, stL2, lv_args, Value.category]) ?_
        refine V_iload (v := Int32.ofInt (sz j)) mi_117_63 (by simp [stL, stL2, lv_args, Value.category]) ?_
        refine V_cne mi_117_65 ⟨by omega, by omega⟩ ⟨by omega, by omega⟩ (fun q3 => ?_) (fun q3 => ?_)
        · exact absurd rfl q3
        · refine V_ipush mi_117_68 ?_
          exact V_retI mi_117_69 (fun _ => by decide) (by rw [show stB G nm j (sz j).toNat f = true from exsB_t es _ (by omega)] at kk; exact kk)
      · refine V_iload (v := Int32.ofInt ((p : Int))) mi_117_61 (by simp [stL, stL2, lv_args, Value.category]) ?_
        refine V_iload (v := Int32.ofInt (sz j)) mi_117_63 (by simp [stL, stL2, lv_args, Value.category]) ?_
        refine V_cne mi_117_65 ⟨by omega, by omega⟩ ⟨by omega, by omega⟩ (fun q3 => ?_) (fun q3 => ?_)
        · refine V_iinc (v := Int32.ofInt ((t : Int))) mi_117_70 (by simp [stL, stL2, lv_args, Value.category]) ?_
          rw [ia2]
          refine V_goto mi_117_73 ?_
          refine V_sub (lv' := [(0, .ref (ad 4)), (1, .int (Int32.ofInt ((f : Int)))), (2, .ref (ad 39)), (3, .int (Int32.ofInt ((j : Int)))), (4, .int (Int32.ofInt (sz j))), (5, .int (Int32.ofInt (((t + 1 : Nat) : Int))))]) (fun q hq => ?_) ?_
          · simp only [List.mem_cons, List.not_mem_nil, or_false] at hq
            rcases hq with rfl | rfl | rfl | rfl | rfl | rfl <;> simp [stL, stL2, lv_args, Value.category]
          exact stx_10 hG hX hg h hB hj hf h0 m (t + 1) (by omega) (by
            unfold exsB
            rw [hn, es]
            rfl) kk
        · exact absurd q3 (by omega)
theorem stX_ct {G : Nat → Int} {sz wds : Nat → Int} {nm : Nat → Int64} (hG : GOK ad tys GG ws) (hX : HX 4 G ws) (hg : HB G) (h : SLX sz wds nm ws) (hB : SLB sz wds nm) {j f : Nat} (hj : j < 4) (hf : f < 6) (h0 : 0 ≤ sz j) : CT l D tys A 117 3 0 0 [.ref (ad 4), .int (Int32.ofInt ((f : Int))), .ref (ad 39), .int (Int32.ofInt ((j : Int)))] ws (fun r w => w = ws ∧ r = some (.int (bI (stB G nm j (sz j).toNat f)))) := by
  refine CT_of_V (by omega) (show (4 : Nat) ≤ mML 117 by decide +kernel) ?_
  have g := h j hj
  refine V_aload (v := ad 39) mi_117_0 (by simp [stL, stL2, lv_args, Value.category]) ?_
  refine V_iload (v := Int32.ofInt ((j : Int))) mi_117_1 (by simp [stL, stL2, lv_args, Value.category]) ?_
  refine V_cO (As := [.int (Int32.ofInt ((j : Int)))]) (st := []) mi_117_2 (by omega) (by decide +kernel) (by decide +kernel) (by omega) g39o hG (szX_ct hG hj g.1) (by omega) (show 1 = mN 162 by decide +kernel) (by simp [Value.category]) ?_
  rintro r w0 ⟨rfl, rfl⟩
  refine V_istore mi_117_5 ?_
  refine V_ipush mi_117_7 ?_
  refine V_istore mi_117_8 ?_
  refine V_sub (lv' := [(0, .ref (ad 4)), (1, .int (Int32.ofInt ((f : Int)))), (2, .ref (ad 39)), (3, .int (Int32.ofInt ((j : Int)))), (4, .int (Int32.ofInt (sz j))), (5, .int (Int32.ofInt (((0 : Nat) : Int))))]) (fun q hq => ?_) ?_
  · simp only [List.mem_cons, List.not_mem_nil, or_false] at hq
    rcases hq with rfl | rfl | rfl | rfl | rfl | rfl <;> simp [stL, stL2, lv_args, Value.category]
  exact stx_10 hG hX hg h hB hj hf h0 ((G (6 + 7 * f)).toNat + 1 - (sz j).toNat) 0 (by omega) rfl ⟨rfl, rfl⟩
theorem fwx_6 {G : Nat → Int} {sz wds : Nat → Int} {nm : Nat → Int64} (hG : GOK ad tys GG ws) (hX : HX 4 G ws) (hg : HB G) (h : SLX sz wds nm ws) (hB : SLB sz wds nm) {j : Nat} (hj : j < 4) (h0 : 0 ≤ sz j) {post : Option Value → va_W → Prop} : ∀ (m f : Nat), ((f + m : Nat) : Int) = G 3 → post (some (.int (Int32.ofInt (orI (stB G nm j (sz j).toNat) (G 3).toNat)))) ws → V l D tys A 116 4 0 0 post 0 0 6 [(0, .ref (ad 47)), (1, .ref (ad 4)), (2, .ref (ad 39)), (3, .int (Int32.ofInt ((j : Int)))), (4, .int (Int32.ofInt (orI (stB G nm j (sz j).toNat) f))), (5, .int (Int32.ofInt ((f : Int))))] [] ws
  | 0, f, hm, kk => by
    have b3 := hg.b3
    refine V_iload (v := Int32.ofInt ((f : Int))) mi_116_6 (by simp [stL, stL2, lv_args, Value.category]) ?_
    refine V_aload (v := ad 4) mi_116_8 (by simp [stL, stL2, lv_args, Value.category]) ?_
    refine V_gO mi_116_9 g4o hG (show rd _ 4 4 = some (.int (Int32.ofInt (G 3))) from hx0 hX (i := 4) (by omega)) ?_
    refine V_cge mi_116_12 ⟨by omega, by omega⟩ ⟨by omega, by omega⟩ (fun q => ?_) (fun q => ?_)
    · refine V_iload (v := Int32.ofInt (orI (stB G nm j (sz j).toNat) f)) mi_116_41 (by simp [stL, stL2, lv_args, Value.category]) ?_
      have e : f = (G 3).toNat := by omega
      rw [e]
      exact V_retI mi_116_43 (fun h => absurd h (by decide +kernel)) kk
    · exact absurd q (by omega)
  | m + 1, f, hm, kk => by
    have b3 := hg.b3
    refine V_iload (v := Int32.ofInt ((f : Int))) mi_116_6 (by simp [stL, stL2, lv_args, Value.category]) ?_
    refine V_aload (v := ad 4) mi_116_8 (by simp [stL, stL2, lv_args, Value.category]) ?_
    refine V_gO mi_116_9 g4o hG (show rd _ 4 4 = some (.int (Int32.ofInt (G 3))) from hx0 hX (i := 4) (by omega)) ?_
    refine V_cge mi_116_12 ⟨by omega, by omega⟩ ⟨by omega, by omega⟩ (fun q => ?_) (fun q => ?_)
    · exact absurd q (by omega)
    · refine V_aload (v := ad 4) mi_116_15 (by simp [stL, stL2, lv_args, Value.category]) ?_
      refine V_iload (v := Int32.ofInt ((f : Int))) mi_116_16 (by simp [stL, stL2, lv_args, Value.category]) ?_
      refine V_aload (v := ad 39) mi_116_18 (by simp [stL, stL2, lv_args, Value.category]) ?_
      refine V_iload (v := Int32.ofInt ((j : Int))) mi_116_19 (by simp [stL, stL2, lv_args, Value.category]) ?_
      refine V_stat (As := [.ref (ad 4), .int (Int32.ofInt ((f : Int))), .ref (ad 39), .int (Int32.ofInt ((j : Int)))]) (st := []) mi_116_20 (by omega) (stX_ct (f := f) hG hX hg h hB hj (by omega) h0) (by omega) (show 4 = mN 117 by decide +kernel) (by simp [Value.category]) ⟨Nat.le_refl _, Nat.le_refl _⟩ ?_
      rintro r w1 ⟨e1, rfl⟩
      rw [e1]
      refine V_beq mi_116_23  (fun q2 => ?_) (fun q2 => ?_)
      · rw [← orI_s0 (P := stB G nm j (sz j).toNat) q2]
        refine V_iinc (v := Int32.ofInt ((f : Int))) mi_116_35 (by simp [stL, stL2, lv_args, Value.category]) ?_
        rw [ia2]
        refine V_goto mi_116_38 ?_
        refine V_sub (lv' := [(0, .ref (ad 47)), (1, .ref (ad 4)), (2, .ref (ad 39)), (3, .int (Int32.ofInt ((j : Int)))), (4, .int (Int32.ofInt (orI (stB G nm j (sz j).toNat) (f + 1)))), (5, .int (Int32.ofInt (((f + 1 : Nat) : Int))))]) (fun q hq => ?_) ?_
        · simp only [List.mem_cons, List.not_mem_nil, or_false] at hq
          rcases hq with rfl | rfl | rfl | rfl | rfl | rfl <;> simp [stL, stL2, lv_args, Value.category]
        exact fwx_6 hG hX hg h hB hj h0 m (f + 1) (by omega) kk
      · refine V_iload (v := Int32.ofInt (orI (stB G nm j (sz j).toNat) f)) mi_116_26 (by simp [stL, stL2, lv_args, Value.category]) ?_
        refine V_ipush mi_116_28 ?_
        refine V_iload (v := Int32.ofInt ((f : Int))) mi_116_29 (by simp [stL, stL2, lv_args, Value.category]) ?_
        refine V_ibin mi_116_31 (by omega) ?_
        refine V_ibin mi_116_32 (by omega) ?_
        rw [bitO_i, ← orI_s1 (P := stB G nm j (sz j).toNat) q2]
        refine V_istore mi_116_33 ?_
        refine V_iinc (v := Int32.ofInt ((f : Int))) mi_116_35 (by simp [stL, stL2, lv_args, Value.category]) ?_
        rw [ia2]
        refine V_goto mi_116_38 ?_
        refine V_sub (lv' := [(0, .ref (ad 47)), (1, .ref (ad 4)), (2, .ref (ad 39)), (3, .int (Int32.ofInt ((j : Int)))), (4, .int (Int32.ofInt (orI (stB G nm j (sz j).toNat) (f + 1)))), (5, .int (Int32.ofInt (((f + 1 : Nat) : Int))))]) (fun q hq => ?_) ?_
        · simp only [List.mem_cons, List.not_mem_nil, or_false] at hq
          rcases hq with rfl | rfl | rfl | rfl | rfl | rfl <;> simp [stL, stL2, lv_args, Value.category]
        exact fwx_6 hG hX hg h hB hj h0 m (f + 1) (by omega) kk
theorem fwX_ct {G : Nat → Int} {sz wds : Nat → Int} {nm : Nat → Int64} (hG : GOK ad tys GG ws) (hX : HX 4 G ws) (hg : HB G) (h : SLX sz wds nm ws) (hB : SLB sz wds nm) {j : Nat} (hj : j < 4) (h0 : 0 ≤ sz j) : CT l D tys A 116 4 0 0 [.ref (ad 47), .ref (ad 4), .ref (ad 39), .int (Int32.ofInt ((j : Int)))] ws (fun r w => w = ws ∧ r = some (.int (Int32.ofInt (orI (stB G nm j (sz j).toNat) (G 3).toNat)))) := by
  refine CT_of_V (by omega) (show (4 : Nat) ≤ mML 116 by decide +kernel) ?_
  have b3 := hg.b3
  refine V_ipush mi_116_0 ?_
  refine V_istore mi_116_1 ?_
  refine V_ipush mi_116_3 ?_
  refine V_istore mi_116_4 ?_
  refine V_sub (lv' := [(0, .ref (ad 47)), (1, .ref (ad 4)), (2, .ref (ad 39)), (3, .int (Int32.ofInt ((j : Int)))), (4, .int (Int32.ofInt (0))), (5, .int (Int32.ofInt (((0 : Nat) : Int))))]) (fun q hq => ?_) ?_
  · simp only [List.mem_cons, List.not_mem_nil, or_false] at hq
    rcases hq with rfl | rfl | rfl | rfl | rfl | rfl <;> simp [stL, stL2, lv_args, Value.category]
  exact fwx_6 hG hX hg h hB hj h0 (G 3).toNat 0 (by omega) ⟨rfl, rfl⟩
theorem ovX_ct {G : Nat → Int} {sz wds : Nat → Int} {nm : Nat → Int64} (hG : GOK ad tys GG ws) (hX : HX 4 G ws) (hg : HB G) (h : SLX sz wds nm ws) (hB : SLB sz wds nm) {s : Int} (sI : I32 s) : CT l D tys A 51 5 0 0 [.ref (ad 0), .int (Int32.ofInt (s))] ws (fun r w => w = ws ∧ r = some (.int (Int32.ofInt (ovV G sz nm s)))) := by
  refine CT_of_V (by omega) (show (2 : Nat) ≤ mML 51 by decide +kernel) ?_
  refine V_aload (v := ad 0) mi_51_0 (by simp [stL, stL2, lv_args, Value.category]) ?_
  refine V_iload (v := Int32.ofInt (s)) mi_51_1 (by simp [stL, stL2, lv_args, Value.category]) ?_
  refine V_cO (As := [.int (Int32.ofInt (s))]) (st := []) mi_51_2 (by omega) (by decide +kernel) (by decide +kernel) (by omega) g0o hG (wfX_ct hG hX hg h hB sI) (by omega) (show 1 = mN 53 by decide +kernel) (by simp [Value.category]) ?_
  rintro r w1 ⟨rfl, rfl⟩
  have wc := wfrV_c G sz nm s
  refine V_istore mi_51_5 ?_
  refine V_iload (v := Int32.ofInt (wfrV G sz nm s)) mi_51_6 (by simp [stL, stL2, lv_args, Value.category]) ?_
  refine V_zeq mi_51_7 ⟨by omega, by omega⟩ (fun q2 => ?_) (fun q2 => ?_)
  · have b3 := hg.b3
    have k0 : (0 ≤ s ∧ s < 4) ∧ 0 ≤ sz s.toNat := by rcases wc with e | e | e <;> omega
    obtain ⟨j, rfl⟩ := Int.eq_ofNat_of_zero_le k0.1.1
    have k2 : 0 ≤ sz j := k0.2
    refine V_aload (v := ad 0) mi_51_14 (by simp [stL, stL2, lv_args, Value.category]) ?_
    refine V_gR mi_51_15 g0r9 (by omega) hG ?_
    refine V_aload (v := ad 0) mi_51_18 (by simp [stL, stL2, lv_args, Value.category]) ?_
    refine V_gR mi_51_19 g0r2 (by omega) hG ?_
    refine V_aload (v := ad 0) mi_51_22 (by simp [stL, stL2, lv_args, Value.category]) ?_
    refine V_gR mi_51_23 g0r7 (by omega) hG ?_
    refine V_iload (v := Int32.ofInt ((j : Int))) mi_51_26 (by simp [stL, stL2, lv_args, Value.category]) ?_
    refine V_cO (As := [.ref (ad 4), .ref (ad 39), .int (Int32.ofInt ((j : Int)))]) (st := []) mi_51_27 (by omega) (by decide +kernel) (by decide +kernel) (by omega) g47o hG (fwX_ct (j := j) hG hX hg h hB (by omega) k2) (by omega) (show 3 = mN 116 by decide +kernel) (by simp [Value.category]) ?_
    rintro r w2 ⟨rfl, rfl⟩
    exact V_retI mi_51_30 (fun h => absurd h (by decide +kernel)) ⟨rfl, by unfold ovV; rw [if_pos q2]; rfl⟩
  · refine V_iload (v := Int32.ofInt (wfrV G sz nm s)) mi_51_10 (by simp [stL, stL2, lv_args, Value.category]) ?_
    refine V_goto mi_51_11 ?_
    exact V_retI mi_51_30 (fun h => absurd h (by decide +kernel)) ⟨rfl, by unfold ovV; rw [if_neg q2]⟩
theorem isy_ct {G : Nat → Int} {z : Int} (hG : GOK ad tys GG ws) (hW : W91 G ws) (hg : HB G) (z1 : -9223372036854775808 ≤ z) (z2 : z ≤ 9223372036854775807) : CT l D tys A 203 1 0 0 [.ref (ad 90), .long (Int64.ofInt (z))] ws (fun r w => w = ws ∧ r = some (.int (bI (decide (0 ≤ z ∧ z ≤ G 0 - 1))))) := by
  refine CT_of_V (by omega) (show (3 : Nat) ≤ mML 203 by decide +kernel) ?_
  obtain ⟨s91, e91, -⟩ := g91s
  have g0 := hg.b0
  refine V_lload (v := Int64.ofInt (z)) mi_203_0 (by simp [stL, stL2, lv_args, Value.category]) ?_
  refine V_lpush mi_203_1 ?_
  refine V_aload (v := ad 90) mi_203_2 (by simp [stL, stL2, lv_args, Value.category]) ?_
  refine V_getI mi_203_3 hG (rref gr1m (by omega) hG) ?_
  refine V_ipush mi_203_6 ?_
  refine V_aldX (j := 0) mi_203_7 rfl hG e91 (by omega) (by omega) (hW _ (by omega)) ?_
  refine V_ipush mi_203_8 ?_
  refine V_ibin mi_203_9 (by omega) ?_
  rw [ib1]
  refine V_i2l mi_203_10 ?_
  rw [i2lx ⟨by omega, by omega⟩]
  refine V_stat (As := [.long (Int64.ofInt (z)), .long (Int64.ofInt (0)), .long (Int64.ofInt ((G 0) - (1)))]) (st := []) mi_203_11 (by omega) (in3_ct (v := z) (lo := 0) (hi := G 0 - 1) z1 z2 (by omega) (by omega) (by omega) (by omega)) (by omega) (show 3 = mN 193 by decide +kernel) (by simp [Value.category]) ⟨Nat.le_refl _, Nat.le_refl _⟩ ?_
  rintro r w1 ⟨rfl, rfl⟩
  exact V_retI mi_203_14 (fun _ => bI_k _) ⟨rfl, rfl⟩
theorem ahm_36 {G : Nat → Int} {sz wds : Nat → Int} {nm : Nat → Int64} (hG : GOK ad tys GG ws) (hW : W91 G ws) (hg : HB G) (h : SLM sz wds nm ws) (hB : SLB sz wds nm) {j : Nat} (hj : j < 4) {post : Option Value → va_W → Prop} : ∀ (m p : Nat), ((p + m : Nat) : Int) = sz j → (∀ x, x < p → inP nm j 0 (G 0 - 1) x = true) → (alB (inP nm j 0 (G 0 - 1)) (sz j).toNat = true → post (some (.int (Int32.ofInt 0))) ws) → (alB (inP nm j 0 (G 0 - 1)) (sz j).toNat = false → post (some (.int (Int32.ofInt (-2)))) ws) → V l D tys A 305 2 0 0 post 0 0 36 [(0, .ref (ad 90)), (1, .int (Int32.ofInt ((j : Int)))), (2, .int (Int32.ofInt (1))), (3, .int (Int32.ofInt ((p : Int))))] [] ws
  | 0, p, hm, ht, kt, kf => by
    obtain ⟨s107, e107, f107⟩ := a107
    have g := h j hj
    have b := hB j hj
    have nb := nv_bd nm j p
    refine V_iload (v := Int32.ofInt ((p : Int))) mi_305_36 (by simp [stL, stL2, lv_args, Value.category]) ?_
    refine V_aload (v := ad 90) mi_305_37 (by simp [stL, stL2, lv_args, Value.category]) ?_
    refine V_getI mi_305_38 hG (rref gr32 (by omega) hG) ?_
    refine V_iload (v := Int32.ofInt ((j : Int))) mi_305_41 (by simp [stL, stL2, lv_args, Value.category]) ?_
    refine V_aldX (j := j) mi_305_42 rfl hG e107 (by omega) (by omega) (g.1) ?_
    refine V_cge mi_305_43 ⟨by omega, by omega⟩ ⟨by omega, by omega⟩ (fun q => ?_) (fun q => ?_)
    · refine V_ipush mi_305_68 ?_
      exact V_retI mi_305_69 (fun h => absurd h (by decide +kernel)) (kt (alB_t _ (fun x hx => ht x (by omega))))
    · exact absurd q (by omega)
  | m + 1, p, hm, ht, kt, kf => by
    obtain ⟨s107, e107, f107⟩ := a107
    have g := h j hj
    have b := hB j hj
    have nb := nv_bd nm j p
    refine V_iload (v := Int32.ofInt ((p : Int))) mi_305_36 (by simp [stL, stL2, lv_args, Value.category]) ?_
    refine V_aload (v := ad 90) mi_305_37 (by simp [stL, stL2, lv_args, Value.category]) ?_
    refine V_getI mi_305_38 hG (rref gr32 (by omega) hG) ?_
    refine V_iload (v := Int32.ofInt ((j : Int))) mi_305_41 (by simp [stL, stL2, lv_args, Value.category]) ?_
    refine V_aldX (j := j) mi_305_42 rfl hG e107 (by omega) (by omega) (g.1) ?_
    refine V_cge mi_305_43 ⟨by omega, by omega⟩ ⟨by omega, by omega⟩ (fun q => ?_) (fun q => ?_)
    · exact absurd q (by omega)
    · refine V_aload (v := ad 90) mi_305_46 (by simp [stL, stL2, lv_args, Value.category]) ?_
      refine V_aload (v := ad 90) mi_305_47 (by simp [stL, stL2, lv_args, Value.category]) ?_
      refine V_iload (v := Int32.ofInt ((j : Int))) mi_305_48 (by simp [stL, stL2, lv_args, Value.category]) ?_
      refine V_iload (v := Int32.ofInt ((p : Int))) mi_305_49 (by simp [stL, stL2, lv_args, Value.category]) ?_
      refine V_callM (As := [.int (Int32.ofInt ((j : Int))), .int (Int32.ofInt ((p : Int)))]) (st := [.ref (ad 90)]) mi_305_50 (by omega) (by decide +kernel) (by decide +kernel) hG (nvM_ct (i := p) hG h hB hj (by omega)) (by omega) (show 2 = mN 300 by decide +kernel) (by simp [Value.category]) ?_
      rintro r w1 ⟨e1, rfl⟩
      rw [e1]
      refine V_callM (As := [.long (Int64.ofInt (nv nm j p))]) (st := []) mi_305_53 (by omega) (by decide +kernel) (by decide +kernel) hG (isy_ct (z := nv nm j p) hG hW hg nb.1 nb.2) (by omega) (show 1 = mN 203 by decide +kernel) (by simp [Value.category]) ?_
      rintro r w2 ⟨e2, rfl⟩
      rw [e2]
      refine V_bne mi_305_56  (fun q2 => ?_) (fun q2 => ?_)
      · refine V_iinc (v := Int32.ofInt ((p : Int))) mi_305_62 (by simp [stL, stL2, lv_args, Value.category]) ?_
        rw [ia2]
        refine V_goto mi_305_65 ?_
        refine V_sub (lv' := [(0, .ref (ad 90)), (1, .int (Int32.ofInt ((j : Int)))), (2, .int (Int32.ofInt (1))), (3, .int (Int32.ofInt (((p + 1 : Nat) : Int))))]) (fun q hq => ?_) ?_
        · simp only [List.mem_cons, List.not_mem_nil, or_false] at hq
          rcases hq with rfl | rfl | rfl | rfl <;> simp [stL, stL2, lv_args, Value.category]
        exact ahm_36 hG hW hg h hB hj m (p + 1) (by omega) (fun x hx => by
          by_cases e : x = p
          · rw [e]
            exact q2
          · exact ht x (by omega)) kt kf
      · refine V_ipush mi_305_59 ?_
        exact V_retI mi_305_61 (fun h => absurd h (by decide +kernel)) (kf (alB_f (p := p) (by omega) q2))
theorem wfM_ct {G : Nat → Int} {sz wds : Nat → Int} {nm : Nat → Int64} (hG : GOK ad tys GG ws) (hW : W91 G ws) (hg : HB G) (h : SLM sz wds nm ws) (hB : SLB sz wds nm) {s : Int} (sI : I32 s) : CT l D tys A 305 2 0 0 [.ref (ad 90), .int (Int32.ofInt (s)), .int (Int32.ofInt (1))] ws (fun r w => w = ws ∧ r = some (.int (Int32.ofInt (wfrV G sz nm s)))) := by
  refine CT_of_V (by omega) (show (3 : Nat) ≤ mML 305 by decide +kernel) ?_
  obtain ⟨s107, e107, f107⟩ := a107
  refine V_iload (v := Int32.ofInt (s)) mi_305_0 (by simp [stL, stL2, lv_args, Value.category]) ?_
  refine V_stat (As := [.int (Int32.ofInt (s))]) (st := []) mi_305_1 (by omega) (isl_ct sI) (by omega) (show 1 = mN 336 by decide +kernel) (by simp [Value.category]) ⟨Nat.le_refl _, Nat.le_refl _⟩ ?_
  rintro r w1 ⟨rfl, rfl⟩
  refine V_beq mi_305_4  (fun c1 => ?_) (fun c1 => ?_)
  · refine V_ipush mi_305_18 ?_
    exact V_retI mi_305_20 (fun h => absurd h (by decide +kernel)) ⟨rfl, by unfold wfrV; rw [if_neg (fun k => of_decide_eq_false c1 k.1)]⟩
  · refine V_aload (v := ad 90) mi_305_7 (by simp [stL, stL2, lv_args, Value.category]) ?_
    refine V_callM (As := []) (st := []) mi_305_8 (by omega) (by decide +kernel) (by decide +kernel) hG (mth_ct hG hW hg) (by omega) (show 0 = mN 198 by decide +kernel) (by simp [Value.category]) ?_
    rintro r w2 ⟨rfl, rfl⟩
    refine V_beq mi_305_11  (fun c2 => ?_) (fun c2 => ?_)
    · refine V_ipush mi_305_18 ?_
      exact V_retI mi_305_20 (fun h => absurd h (by decide +kernel)) ⟨rfl, by unfold wfrV; rw [if_neg (fun k => of_decide_eq_false c2 k.2)]⟩
    · refine V_iload (v := Int32.ofInt (1)) mi_305_14 (by simp [stL, stL2, lv_args, Value.category]) ?_
      refine V_zne mi_305_15 ⟨by omega, by omega⟩ (fun q3 => ?_) (fun q3 => ?_)
      · have k1 := of_decide_eq_true c1
        have k2 := of_decide_eq_true c2
        obtain ⟨j, rfl⟩ := Int.eq_ofNat_of_zero_le k1.1
        have kj : j < 4 := by omega
        have g := h j kj
        have b := hB j kj
        have g0 := hg.b0
        refine V_aload (v := ad 90) mi_305_21 (by simp [stL, stL2, lv_args, Value.category]) ?_
        refine V_getI mi_305_22 hG (rref gr32 (by omega) hG) ?_
        refine V_iload (v := Int32.ofInt ((j : Int))) mi_305_25 (by simp [stL, stL2, lv_args, Value.category]) ?_
        refine V_aldX (j := j) mi_305_26 rfl hG e107 (by omega) (by omega) (g.1) ?_
        refine V_ipush mi_305_27 ?_
        refine V_cne mi_305_28 ⟨by omega, by omega⟩ ⟨by omega, by omega⟩ (fun q4 => ?_) (fun q4 => ?_)
        · refine V_ipush mi_305_34 ?_
          refine V_istore mi_305_35 ?_
          refine V_sub (lv' := [(0, .ref (ad 90)), (1, .int (Int32.ofInt ((j : Int)))), (2, .int (Int32.ofInt (1))), (3, .int (Int32.ofInt (((0 : Nat) : Int))))]) (fun q hq => ?_) ?_
          · simp only [List.mem_cons, List.not_mem_nil, or_false] at hq
            rcases hq with rfl | rfl | rfl | rfl <;> simp [stL, stL2, lv_args, Value.category]
          exact ahm_36 hG hW hg h hB kj (sz j).toNat 0 (by omega) (fun x hx => absurd hx (by omega)) (fun k => ⟨rfl, by unfold wfrV; rw [if_pos ⟨k1, k2⟩, if_neg (show ¬ sz ((j : Int)).toNat < 0 from by rw [Int.toNat_natCast]; omega), if_pos (show alB (inP nm ((j : Int)).toNat 0 (G 0 - 1)) (sz ((j : Int)).toNat).toNat = true from k)]⟩) (fun k => ⟨rfl, by unfold wfrV; rw [if_pos ⟨k1, k2⟩, if_neg (show ¬ sz ((j : Int)).toNat < 0 from by rw [Int.toNat_natCast]; omega), if_neg (fun z => by rw [show alB (inP nm ((j : Int)).toNat 0 (G 0 - 1)) (sz ((j : Int)).toNat).toNat = false from k] at z; exact Bool.false_ne_true z)]⟩)
        · refine V_ipush mi_305_31 ?_
          exact V_retI mi_305_33 (fun h => absurd h (by decide +kernel)) ⟨rfl, by unfold wfrV; rw [if_pos ⟨k1, k2⟩, if_pos (show sz ((j : Int)).toNat < 0 from by rw [Int.toNat_natCast]; omega)]⟩
      · exact absurd q3 (by omega)
noncomputable def O105 (w0 w : va_W) : Prop := ∀ c p, c ≠ 105 → ¬ (c = 90 ∧ p = 30) → rd w c p = rd w0 c p
noncomputable def SPL (G : Nat → Int) (f : Nat) (w : va_W) : Prop := rd w 90 30 = some (.int (Int32.ofInt (G (6 + 7 * f)))) ∧ ∀ i : Nat, (i : Int) < G (6 + 7 * f) → rd w 105 i = some (.int (Int32.ofInt (G (7 + 7 * f + i))))
theorem spl_11 {G : Nat → Int} {w0 : va_W} {f : Nat} (hg : HB G) (hf : f < 6) (hW0 : W91 G w0) {post : Option Value → va_W → Prop} : ∀ (m i : Nat) (ws : va_W), ((i + m : Nat) : Int) = G (6 + 7 * f) → GOK ad tys GG ws → O105 w0 ws → rd ws 90 30 = some (.int (Int32.ofInt (G (6 + 7 * f)))) → (∀ x : Nat, x < i → rd ws 105 x = some (.int (Int32.ofInt (G (7 + 7 * f + x))))) → (∀ w : va_W, GOK ad tys GG w → O105 w0 w → SPL G f w → post none w) → V l D tys A 306 1 0 0 post 0 0 11 [(0, .ref (ad 90)), (1, .int (Int32.ofInt ((f : Int)))), (2, .int (Int32.ofInt ((i : Int))))] [] ws
  | 0, i, ws, hm, hG, hO, h30, hs, kk => by
    obtain ⟨s105, e105, f105⟩ := a105
    have gl := hg.bl f hf
    have hW : W91 G ws := fun j hj => (hO 91 j (by omega) (by omega)).trans (hW0 j hj)
    refine V_iload (v := Int32.ofInt ((i : Int))) mi_306_11 (by simp [stL, stL2, lv_args, Value.category]) ?_
    refine V_aload (v := ad 90) mi_306_12 (by simp [stL, stL2, lv_args, Value.category]) ?_
    refine V_getI mi_306_13 hG (h30) ?_
    refine V_cge mi_306_16 ⟨by omega, by omega⟩ ⟨by omega, by omega⟩ (fun q => ?_) (fun q => ?_)
    · exact V_retV mi_306_37 (kk ws hG hO ⟨h30, fun i hi => hs i (by omega)⟩)
    · exact absurd q (by omega)
  | m + 1, i, ws, hm, hG, hO, h30, hs, kk => by
    obtain ⟨s105, e105, f105⟩ := a105
    have gl := hg.bl f hf
    have hW : W91 G ws := fun j hj => (hO 91 j (by omega) (by omega)).trans (hW0 j hj)
    refine V_iload (v := Int32.ofInt ((i : Int))) mi_306_11 (by simp [stL, stL2, lv_args, Value.category]) ?_
    refine V_aload (v := ad 90) mi_306_12 (by simp [stL, stL2, lv_args, Value.category]) ?_
    refine V_getI mi_306_13 hG (h30) ?_
    refine V_cge mi_306_16 ⟨by omega, by omega⟩ ⟨by omega, by omega⟩ (fun q => ?_) (fun q => ?_)
    · exact absurd q (by omega)
    · have gn := hg.bn f hf i (by omega)
      refine V_aload (v := ad 90) mi_306_19 (by simp [stL, stL2, lv_args, Value.category]) ?_
      refine V_getI mi_306_20 hG (rref gr29 (by omega) hG) ?_
      refine V_iload (v := Int32.ofInt ((i : Int))) mi_306_23 (by simp [stL, stL2, lv_args, Value.category]) ?_
      refine V_aload (v := ad 90) mi_306_24 (by simp [stL, stL2, lv_args, Value.category]) ?_
      refine V_iload (v := Int32.ofInt ((f : Int))) mi_306_25 (by simp [stL, stL2, lv_args, Value.category]) ?_
      refine V_iload (v := Int32.ofInt ((i : Int))) mi_306_26 (by simp [stL, stL2, lv_args, Value.category]) ?_
      refine V_callM (As := [.int (Int32.ofInt ((f : Int))), .int (Int32.ofInt ((i : Int)))]) (st := [.int (Int32.ofInt ((i : Int))), .ref (ad 105)]) mi_306_27 (by omega) (by decide +kernel) (by decide +kernel) hG (msl_ct (o := f) (i := i) hG hW hg hf (by omega)) (by omega) (show 2 = mN 205 by decide +kernel) (by simp [Value.category]) ?_
      rintro r w1 ⟨e1, rfl⟩
      rw [e1]
      refine V_astX (j := i) mi_306_30 rfl hG e105 (by omega) (by omega) (f105 _ (by omega)) (i32b _).1 (i32b _).2 (fun w2 G2 U2 => ?_)
      refine V_iinc (v := Int32.ofInt ((i : Int))) mi_306_31 (by simp [stL, stL2, lv_args, Value.category]) ?_
      rw [ia2]
      refine V_goto mi_306_34 ?_
      refine V_sub (lv' := [(0, .ref (ad 90)), (1, .int (Int32.ofInt ((f : Int)))), (2, .int (Int32.ofInt (((i + 1 : Nat) : Int))))]) (fun q hq => ?_) ?_
      · simp only [List.mem_cons, List.not_mem_nil, or_false] at hq
        rcases hq with rfl | rfl | rfl <;> simp [stL, stL2, lv_args, Value.category]
      exact spl_11 hg hf hW0 m (i + 1) w2 (by omega) G2 (fun c p h1 h2 => (upd_ne U2 (by omega)).trans (hO c p h1 h2)) ((upd_ne U2 (by omega)).trans h30) (fun x hx => by
        by_cases e : x = i
        · rw [e]
          exact upd_eq U2
        · exact (upd_ne U2 (by omega)).trans (hs x (by omega))) kk
theorem spl_ct {G : Nat → Int} {f : Nat} (hG : GOK ad tys GG ws) (hW : W91 G ws) (hg : HB G) (hf : f < 6) : CT l D tys A 306 1 0 0 [.ref (ad 90), .int (Int32.ofInt ((f : Int)))] ws (fun r w => r = none ∧ GOK ad tys GG w ∧ O105 ws w ∧ SPL G f w) := by
  refine CT_of_V (by omega) (show (2 : Nat) ≤ mML 306 by decide +kernel) ?_
  have gl := hg.bl f hf
  refine V_aload (v := ad 90) mi_306_0 (by simp [stL, stL2, lv_args, Value.category]) ?_
  refine V_aload (v := ad 90) mi_306_1 (by simp [stL, stL2, lv_args, Value.category]) ?_
  refine V_iload (v := Int32.ofInt ((f : Int))) mi_306_2 (by simp [stL, stL2, lv_args, Value.category]) ?_
  refine V_callM (As := [.int (Int32.ofInt ((f : Int)))]) (st := [.ref (ad 90)]) mi_306_3 (by omega) (by decide +kernel) (by decide +kernel) hG (mle_ct (f := f) hG hW hg hf) (by omega) (show 1 = mN 204 by decide +kernel) (by simp [Value.category]) ?_
  rintro r w1 ⟨rfl, rfl⟩
  refine V_putI mi_306_6 hG f30m (by omega) rfl (by decide +kernel) (by rw [Int32.toInt_ofInt_of_le (by omega) (by omega)]; omega) (by rw [Int32.toInt_ofInt_of_le (by omega) (by omega)]; omega) (fun w2 G2 U2 => ?_)
  refine V_ipush mi_306_9 ?_
  refine V_istore mi_306_10 ?_
  refine V_sub (lv' := [(0, .ref (ad 90)), (1, .int (Int32.ofInt ((f : Int)))), (2, .int (Int32.ofInt (((0 : Nat) : Int))))]) (fun q hq => ?_) ?_
  · simp only [List.mem_cons, List.not_mem_nil, or_false] at hq
    rcases hq with rfl | rfl | rfl <;> simp [stL, stL2, lv_args, Value.category]
  exact spl_11 hg hf hW (G (6 + 7 * f)).toNat 0 w2 (by omega) G2 (fun c p h1 h2 => upd_ne U2 (by omega)) (upd_eq U2) (fun x hx => absurd hx (by omega)) (fun w g o s => ⟨rfl, g, o, s⟩)
theorem stm_22 {G : Nat → Int} {sz wds : Nat → Int} {nm : Nat → Int64} (hG : GOK ad tys GG ws) (hg : HB G) (h : SLM sz wds nm ws) (hB : SLB sz wds nm) {j f : Nat} (hj : j < 4) (hf : f < 6) (hs : SPL G f ws) {t : Nat} (ht : (t : Int) + sz j ≤ G (6 + 7 * f)) {post : Option Value → va_W → Prop} : ∀ (m p : Nat), ((p + m : Nat) : Int) = sz j → (∀ q : Int, V l D tys A 307 1 0 0 post 0 0 70 [(0, .ref (ad 90)), (1, .int (Int32.ofInt ((j : Int)))), (2, .int (Int32.ofInt ((t : Int)))), (3, .int (bI (stP G nm j (sz j).toNat f t))), (4, .int (Int32.ofInt (q)))] [] ws) → V l D tys A 307 1 0 0 post 0 0 22 [(0, .ref (ad 90)), (1, .int (Int32.ofInt ((j : Int)))), (2, .int (Int32.ofInt ((t : Int)))), (3, .int (bI (alB (fitP G nm j f t) p))), (4, .int (Int32.ofInt ((p : Int))))] [] ws
  | 0, p, hm, kk => by
    have g := h j hj
    have b := hB j hj
    have gl := hg.bl f hf
    obtain ⟨s107, e107, f107⟩ := a107
    obtain ⟨s105, e105, f105⟩ := a105
    refine V_iload (v := Int32.ofInt ((p : Int))) mi_307_22 (by simp [stL, stL2, lv_args, Value.category]) ?_
    refine V_aload (v := ad 90) mi_307_24 (by simp [stL, stL2, lv_args, Value.category]) ?_
    refine V_getI mi_307_25 hG (rref gr32 (by omega) hG) ?_
    refine V_iload (v := Int32.ofInt ((j : Int))) mi_307_28 (by simp [stL, stL2, lv_args, Value.category]) ?_
    refine V_aldX (j := j) mi_307_29 rfl hG e107 (by omega) (by omega) (g.1) ?_
    refine V_cge mi_307_30 ⟨by omega, by omega⟩ ⟨by omega, by omega⟩ (fun q => ?_) (fun q => ?_)
    · have e : p = (sz j).toNat := by omega
      subst e
      exact kk _
    · exact absurd q (by omega)
  | m + 1, p, hm, kk => by
    have g := h j hj
    have b := hB j hj
    have gl := hg.bl f hf
    obtain ⟨s107, e107, f107⟩ := a107
    obtain ⟨s105, e105, f105⟩ := a105
    refine V_iload (v := Int32.ofInt ((p : Int))) mi_307_22 (by simp [stL, stL2, lv_args, Value.category]) ?_
    refine V_aload (v := ad 90) mi_307_24 (by simp [stL, stL2, lv_args, Value.category]) ?_
    refine V_getI mi_307_25 hG (rref gr32 (by omega) hG) ?_
    refine V_iload (v := Int32.ofInt ((j : Int))) mi_307_28 (by simp [stL, stL2, lv_args, Value.category]) ?_
    refine V_aldX (j := j) mi_307_29 rfl hG e107 (by omega) (by omega) (g.1) ?_
    refine V_cge mi_307_30 ⟨by omega, by omega⟩ ⟨by omega, by omega⟩ (fun q => ?_) (fun q => ?_)
    · exact absurd q (by omega)
    · have nb := nv_bd nm j p
      have gn := hg.bn f hf (t + p) (by omega)
      refine V_iload (v := bI (alB (fitP G nm j f t) p)) mi_307_33 (by simp [stL, stL2, lv_args, Value.category]) ?_
      refine V_beq mi_307_34  (fun q2 => ?_) (fun q2 => ?_)
      · rw [show alB (fitP G nm j f t) p = stP G nm j (sz j).toNat f t from q2.trans (alB_m q2 _ (by omega)).symm]
        exact kk _
      · refine V_aload (v := ad 90) mi_307_37 (by simp [stL, stL2, lv_args, Value.category]) ?_
        refine V_getI mi_307_38 hG (rref gr29 (by omega) hG) ?_
        refine V_iload (v := Int32.ofInt ((t : Int))) mi_307_41 (by simp [stL, stL2, lv_args, Value.category]) ?_
        refine V_iload (v := Int32.ofInt ((p : Int))) mi_307_42 (by simp [stL, stL2, lv_args, Value.category]) ?_
        refine V_ibin mi_307_44 (by omega) ?_
        rw [ib0]
        rw [show (t : Int) + (p : Int) = ((t + p : Nat) : Int) by omega]
        refine V_aldX (j := t + p) mi_307_45 rfl hG e105 (by omega) (by omega) (hs.2 (t + p) (by omega)) ?_
        refine V_i2l mi_307_46 ?_
        rw [i2lx ⟨by omega, by omega⟩]
        refine V_aload (v := ad 90) mi_307_47 (by simp [stL, stL2, lv_args, Value.category]) ?_
        refine V_iload (v := Int32.ofInt ((j : Int))) mi_307_48 (by simp [stL, stL2, lv_args, Value.category]) ?_
        refine V_iload (v := Int32.ofInt ((p : Int))) mi_307_49 (by simp [stL, stL2, lv_args, Value.category]) ?_
        refine V_callM (As := [.int (Int32.ofInt ((j : Int))), .int (Int32.ofInt ((p : Int)))]) (st := [.long (Int64.ofInt (G (7 + 7 * f + (t + p))))]) mi_307_51 (by omega) (by decide +kernel) (by decide +kernel) hG (nvM_ct (i := p) hG h hB hj (by omega)) (by omega) (show 2 = mN 300 by decide +kernel) (by simp [Value.category]) ?_
        rintro r w1 ⟨e1, rfl⟩
        rw [e1]
        refine V_lcmp mi_307_54 ?_
        have clq3 := cdL_iff (x := 1) (a := G (7 + 7 * f + (t + p))) (b := nv nm j p) (by omega) (by omega) (by omega) (by omega)
        refine V_if mi_307_55 (fun q3 => ?_) (fun q3 => ?_)
        · have kq3 : ¬ ((G (7 + 7 * f + (t + p))) - (nv nm j p) = 0) := clq3.mp q3
          refine V_ipush mi_307_62 ?_
          rw [show Int32.ofInt 0 = bI (alB (fitP G nm j f t) (p + 1)) from by unfold alB; rw [q2, show fitP G nm j f t p = false from decide_eq_false (by omega)]; rfl]
          refine V_istore mi_307_63 ?_
          refine V_iinc (v := Int32.ofInt ((p : Int))) mi_307_64 (by simp [stL, stL2, lv_args, Value.category]) ?_
          rw [ia2]
          refine V_goto mi_307_67 ?_
          refine V_sub (lv' := [(0, .ref (ad 90)), (1, .int (Int32.ofInt ((j : Int)))), (2, .int (Int32.ofInt ((t : Int)))), (3, .int (bI (alB (fitP G nm j f t) (p + 1)))), (4, .int (Int32.ofInt (((p + 1 : Nat) : Int))))]) (fun q hq => ?_) ?_
          · simp only [List.mem_cons, List.not_mem_nil, or_false] at hq
            rcases hq with rfl | rfl | rfl | rfl | rfl <;> simp [stL, stL2, lv_args, Value.category]
          exact stm_22 hG hg h hB hj hf hs ht m (p + 1) (by omega) kk
        · have kq3 : ¬ (¬ ((G (7 + 7 * f + (t + p))) - (nv nm j p) = 0)) := fun z => q3 (clq3.mpr z)
          refine V_ipush mi_307_58 ?_
          refine V_goto mi_307_59 ?_
          rw [show Int32.ofInt 1 = bI (alB (fitP G nm j f t) (p + 1)) from by unfold alB; rw [q2, show fitP G nm j f t p = true from decide_eq_true (by omega)]; rfl]
          refine V_istore mi_307_63 ?_
          refine V_iinc (v := Int32.ofInt ((p : Int))) mi_307_64 (by simp [stL, stL2, lv_args, Value.category]) ?_
          rw [ia2]
          refine V_goto mi_307_67 ?_
          refine V_sub (lv' := [(0, .ref (ad 90)), (1, .int (Int32.ofInt ((j : Int)))), (2, .int (Int32.ofInt ((t : Int)))), (3, .int (bI (alB (fitP G nm j f t) (p + 1)))), (4, .int (Int32.ofInt (((p + 1 : Nat) : Int))))]) (fun q hq => ?_) ?_
          · simp only [List.mem_cons, List.not_mem_nil, or_false] at hq
            rcases hq with rfl | rfl | rfl | rfl | rfl <;> simp [stL, stL2, lv_args, Value.category]
          exact stm_22 hG hg h hB hj hf hs ht m (p + 1) (by omega) kk
theorem stm_2 {G : Nat → Int} {sz wds : Nat → Int} {nm : Nat → Int64} (hG : GOK ad tys GG ws) (hg : HB G) (h : SLM sz wds nm ws) (hB : SLB sz wds nm) {j f : Nat} (hj : j < 4) (hf : f < 6) (hs : SPL G f ws) (h0 : 0 ≤ sz j) {post : Option Value → va_W → Prop} : ∀ (m t : Nat), t + m = (G (6 + 7 * f)).toNat + 1 - (sz j).toNat → exsB (stP G nm j (sz j).toNat f) t = false → post (some (.int (bI (stB G nm j (sz j).toNat f)))) ws → V l D tys A 307 1 0 0 post 0 0 2 [(0, .ref (ad 90)), (1, .int (Int32.ofInt ((j : Int)))), (2, .int (Int32.ofInt ((t : Int))))] [] ws
  | 0, t, hm, hn, kk => by
    have g := h j hj
    have b := hB j hj
    have gl := hg.bl f hf
    obtain ⟨s107, e107, f107⟩ := a107
    obtain ⟨s105, e105, f105⟩ := a105
    refine V_iload (v := Int32.ofInt ((t : Int))) mi_307_2 (by simp [stL, stL2, lv_args, Value.category]) ?_
    refine V_aload (v := ad 90) mi_307_3 (by simp [stL, stL2, lv_args, Value.category]) ?_
    refine V_getI mi_307_4 hG (rref gr32 (by omega) hG) ?_
    refine V_iload (v := Int32.ofInt ((j : Int))) mi_307_7 (by simp [stL, stL2, lv_args, Value.category]) ?_
    refine V_aldX (j := j) mi_307_8 rfl hG e107 (by omega) (by omega) (g.1) ?_
    refine V_ibin mi_307_9 (by omega) ?_
    rw [ib0]
    refine V_aload (v := ad 90) mi_307_10 (by simp [stL, stL2, lv_args, Value.category]) ?_
    refine V_getI mi_307_11 hG (hs.1) ?_
    refine V_cgt mi_307_14 ⟨by omega, by omega⟩ ⟨by omega, by omega⟩ (fun q => ?_) (fun q => ?_)
    · refine V_ipush mi_307_82 ?_
      exact V_retI mi_307_83 (fun _ => by decide) (by rw [show stB G nm j (sz j).toNat f = false from by unfold stB; rw [show (G (6 + 7 * f)).toNat + 1 - (sz j).toNat = t by omega]; exact hn] at kk; exact kk)
    · exact absurd q (by omega)
  | m + 1, t, hm, hn, kk => by
    have g := h j hj
    have b := hB j hj
    have gl := hg.bl f hf
    obtain ⟨s107, e107, f107⟩ := a107
    obtain ⟨s105, e105, f105⟩ := a105
    refine V_iload (v := Int32.ofInt ((t : Int))) mi_307_2 (by simp [stL, stL2, lv_args, Value.category]) ?_
    refine V_aload (v := ad 90) mi_307_3 (by simp [stL, stL2, lv_args, Value.category]) ?_
    refine V_getI mi_307_4 hG (rref gr32 (by omega) hG) ?_
    refine V_iload (v := Int32.ofInt ((j : Int))) mi_307_7 (by simp [stL, stL2, lv_args, Value.category]) ?_
    refine V_aldX (j := j) mi_307_8 rfl hG e107 (by omega) (by omega) (g.1) ?_
    refine V_ibin mi_307_9 (by omega) ?_
    rw [ib0]
    refine V_aload (v := ad 90) mi_307_10 (by simp [stL, stL2, lv_args, Value.category]) ?_
    refine V_getI mi_307_11 hG (hs.1) ?_
    refine V_cgt mi_307_14 ⟨by omega, by omega⟩ ⟨by omega, by omega⟩ (fun q => ?_) (fun q => ?_)
    · exact absurd q (by omega)
    · refine V_ipush mi_307_17 ?_
      refine V_istore mi_307_18 ?_
      refine V_ipush mi_307_19 ?_
      refine V_istore mi_307_20 ?_
      refine V_sub (lv' := [(0, .ref (ad 90)), (1, .int (Int32.ofInt ((j : Int)))), (2, .int (Int32.ofInt ((t : Int)))), (3, .int (Int32.ofInt (1))), (4, .int (Int32.ofInt (((0 : Nat) : Int))))]) (fun q hq => ?_) ?_
      · simp only [List.mem_cons, List.not_mem_nil, or_false] at hq
        rcases hq with rfl | rfl | rfl | rfl | rfl <;> simp [stL, stL2, lv_args, Value.category]
      refine stm_22 hG hg h hB hj hf hs (t := t) (by omega) (sz j).toNat 0 (by omega) (fun q => ?_)
      refine V_iload (v := bI (stP G nm j (sz j).toNat f t)) mi_307_70 (by simp [stL, stL2, lv_args, Value.category]) ?_
      refine V_beq mi_307_71  (fun q3 => ?_) (fun q3 => ?_)
      · refine V_iinc (v := Int32.ofInt ((t : Int))) mi_307_76 (by simp [stL, stL2, lv_args, Value.category]) ?_
        rw [ia2]
        refine V_goto mi_307_79 ?_
        refine V_sub (lv' := [(0, .ref (ad 90)), (1, .int (Int32.ofInt ((j : Int)))), (2, .int (Int32.ofInt (((t + 1 : Nat) : Int))))]) (fun q hq => ?_) ?_
        · simp only [List.mem_cons, List.not_mem_nil, or_false] at hq
          rcases hq with rfl | rfl | rfl <;> simp [stL, stL2, lv_args, Value.category]
        exact stm_2 hG hg h hB hj hf hs h0 m (t + 1) (by omega) (by
          unfold exsB
          rw [hn, q3]
          rfl) kk
      · refine V_ipush mi_307_74 ?_
        exact V_retI mi_307_75 (fun _ => by decide) (by rw [show stB G nm j (sz j).toNat f = true from exsB_t q3 _ (by omega)] at kk; exact kk)
theorem stM_ct {G : Nat → Int} {sz wds : Nat → Int} {nm : Nat → Int64} (hG : GOK ad tys GG ws) (hg : HB G) (h : SLM sz wds nm ws) (hB : SLB sz wds nm) {j f : Nat} (hj : j < 4) (hf : f < 6) (hs : SPL G f ws) (h0 : 0 ≤ sz j) : CT l D tys A 307 1 0 0 [.ref (ad 90), .int (Int32.ofInt ((j : Int)))] ws (fun r w => w = ws ∧ r = some (.int (bI (stB G nm j (sz j).toNat f)))) := by
  refine CT_of_V (by omega) (show (2 : Nat) ≤ mML 307 by decide +kernel) ?_
  refine V_ipush mi_307_0 ?_
  refine V_istore mi_307_1 ?_
  refine V_sub (lv' := [(0, .ref (ad 90)), (1, .int (Int32.ofInt ((j : Int)))), (2, .int (Int32.ofInt (((0 : Nat) : Int))))]) (fun q hq => ?_) ?_
  · simp only [List.mem_cons, List.not_mem_nil, or_false] at hq
    rcases hq with rfl | rfl | rfl <;> simp [stL, stL2, lv_args, Value.category]
  exact stm_2 hG hg h hB hj hf hs h0 ((G (6 + 7 * f)).toNat + 1 - (sz j).toNat) 0 (by omega) rfl ⟨rfl, rfl⟩
theorem ovm_18 {G : Nat → Int} {sz wds : Nat → Int} {nm : Nat → Int64} {w0 : va_W} {j : Nat} (hW0 : W91 G w0) (hg : HB G) (h : SLM sz wds nm w0) (hB : SLB sz wds nm) (hj : j < 4) (h0 : 0 ≤ sz j) {post : Option Value → va_W → Prop} : ∀ (m f : Nat) (ws : va_W), ((f + m : Nat) : Int) = G 3 → GOK ad tys GG ws → O105 w0 ws → (∀ w : va_W, GOK ad tys GG w → O105 w0 w → post (some (.int (Int32.ofInt (orI (stB G nm j (sz j).toNat) (G 3).toNat)))) w) → V l D tys A 308 3 0 0 post 0 0 18 [(0, .ref (ad 90)), (1, .int (Int32.ofInt ((j : Int)))), (2, .int (Int32.ofInt (0))), (3, .int (Int32.ofInt (orI (stB G nm j (sz j).toNat) f))), (4, .int (Int32.ofInt ((f : Int))))] [] ws
  | 0, f, ws, hm, hG, hO, kk => by
    obtain ⟨s91, e91, -⟩ := g91s
    have b3 := hg.b3
    have hW : W91 G ws := fun j hj => (hO 91 j (by omega) (by omega)).trans (hW0 j hj)
    have hS : SLM sz wds nm ws := fun k hk => ⟨(hO _ _ (by omega) (by omega)).trans (h k hk).1, (hO _ _ (by omega) (by omega)).trans (h k hk).2.1, fun i hi => (hO _ _ (by omega) (by omega)).trans ((h k hk).2.2 i hi)⟩
    refine V_iload (v := Int32.ofInt ((f : Int))) mi_308_18 (by simp [stL, stL2, lv_args, Value.category]) ?_
    refine V_aload (v := ad 90) mi_308_20 (by simp [stL, stL2, lv_args, Value.category]) ?_
    refine V_getI mi_308_21 hG (rref gr1m (by omega) hG) ?_
    refine V_ipush mi_308_24 ?_
    refine V_aldX (j := 3) mi_308_25 rfl hG e91 (by omega) (by omega) (hW _ (by omega)) ?_
    refine V_cge mi_308_26 ⟨by omega, by omega⟩ ⟨by omega, by omega⟩ (fun q => ?_) (fun q => ?_)
    · refine V_iload (v := Int32.ofInt (orI (stB G nm j (sz j).toNat) f)) mi_308_60 (by simp [stL, stL2, lv_args, Value.category]) ?_
      have e : f = (G 3).toNat := by omega
      rw [e]
      exact V_retI mi_308_61 (fun h => absurd h (by decide +kernel)) (kk ws hG hO)
    · exact absurd q (by omega)
  | m + 1, f, ws, hm, hG, hO, kk => by
    obtain ⟨s91, e91, -⟩ := g91s
    have b3 := hg.b3
    have hW : W91 G ws := fun j hj => (hO 91 j (by omega) (by omega)).trans (hW0 j hj)
    have hS : SLM sz wds nm ws := fun k hk => ⟨(hO _ _ (by omega) (by omega)).trans (h k hk).1, (hO _ _ (by omega) (by omega)).trans (h k hk).2.1, fun i hi => (hO _ _ (by omega) (by omega)).trans ((h k hk).2.2 i hi)⟩
    refine V_iload (v := Int32.ofInt ((f : Int))) mi_308_18 (by simp [stL, stL2, lv_args, Value.category]) ?_
    refine V_aload (v := ad 90) mi_308_20 (by simp [stL, stL2, lv_args, Value.category]) ?_
    refine V_getI mi_308_21 hG (rref gr1m (by omega) hG) ?_
    refine V_ipush mi_308_24 ?_
    refine V_aldX (j := 3) mi_308_25 rfl hG e91 (by omega) (by omega) (hW _ (by omega)) ?_
    refine V_cge mi_308_26 ⟨by omega, by omega⟩ ⟨by omega, by omega⟩ (fun q => ?_) (fun q => ?_)
    · exact absurd q (by omega)
    · refine V_aload (v := ad 90) mi_308_29 (by simp [stL, stL2, lv_args, Value.category]) ?_
      refine V_iload (v := Int32.ofInt ((f : Int))) mi_308_30 (by simp [stL, stL2, lv_args, Value.category]) ?_
      refine V_callM (As := [.int (Int32.ofInt ((f : Int)))]) (st := []) mi_308_32 (by omega) (by decide +kernel) (by decide +kernel) hG (spl_ct (f := f) hG hW hg (by omega)) (by omega) (show 1 = mN 306 by decide +kernel) (by simp [Value.category]) ?_
      rintro r w1 ⟨rfl, G1, O1, S1⟩
      have hS1 : SLM sz wds nm w1 := fun k hk => ⟨(O1 _ _ (by omega) (by omega)).trans (hS k hk).1, (O1 _ _ (by omega) (by omega)).trans (hS k hk).2.1, fun i hi => (O1 _ _ (by omega) (by omega)).trans ((hS k hk).2.2 i hi)⟩
      have hO1 : O105 w0 w1 := fun c p a1 a2 => (O1 c p a1 a2).trans (hO c p a1 a2)
      refine V_iload (v := Int32.ofInt (orI (stB G nm j (sz j).toNat) f)) mi_308_35 (by simp [stL, stL2, lv_args, Value.category]) ?_
      refine V_aload (v := ad 90) mi_308_36 (by simp [stL, stL2, lv_args, Value.category]) ?_
      refine V_iload (v := Int32.ofInt ((j : Int))) mi_308_37 (by simp [stL, stL2, lv_args, Value.category]) ?_
      refine V_callM (As := [.int (Int32.ofInt ((j : Int)))]) (st := [.int (Int32.ofInt (orI (stB G nm j (sz j).toNat) f))]) mi_308_38 (by omega) (by decide +kernel) (by decide +kernel) G1 (stM_ct (f := f) G1 hg hS1 hB hj (by omega) S1 h0) (by omega) (show 1 = mN 307 by decide +kernel) (by simp [Value.category]) ?_
      rintro r w2 ⟨e2, rfl⟩
      rw [e2]
      refine V_beq mi_308_41  (fun q2 => ?_) (fun q2 => ?_)
      · refine V_ipush mi_308_51 ?_
        refine V_ibin mi_308_52 (by omega) ?_
        rw [or0v, ← orI_s0 (P := stB G nm j (sz j).toNat) q2]
        refine V_istore mi_308_53 ?_
        refine V_iinc (v := Int32.ofInt ((f : Int))) mi_308_54 (by simp [stL, stL2, lv_args, Value.category]) ?_
        rw [ia2]
        refine V_goto mi_308_57 ?_
        refine V_sub (lv' := [(0, .ref (ad 90)), (1, .int (Int32.ofInt ((j : Int)))), (2, .int (Int32.ofInt (0))), (3, .int (Int32.ofInt (orI (stB G nm j (sz j).toNat) (f + 1)))), (4, .int (Int32.ofInt (((f + 1 : Nat) : Int))))]) (fun q hq => ?_) ?_
        · simp only [List.mem_cons, List.not_mem_nil, or_false] at hq
          rcases hq with rfl | rfl | rfl | rfl | rfl <;> simp [stL, stL2, lv_args, Value.category]
        exact ovm_18 hW0 hg h hB hj h0 m (f + 1) w1 (by omega) G1 hO1 kk
      · refine V_ipush mi_308_44 ?_
        refine V_iload (v := Int32.ofInt ((f : Int))) mi_308_45 (by simp [stL, stL2, lv_args, Value.category]) ?_
        refine V_ibin mi_308_47 (by omega) ?_
        refine V_goto mi_308_48 ?_
        refine V_ibin mi_308_52 (by omega) ?_
        rw [bitO_i, ← orI_s1 (P := stB G nm j (sz j).toNat) q2]
        refine V_istore mi_308_53 ?_
        refine V_iinc (v := Int32.ofInt ((f : Int))) mi_308_54 (by simp [stL, stL2, lv_args, Value.category]) ?_
        rw [ia2]
        refine V_goto mi_308_57 ?_
        refine V_sub (lv' := [(0, .ref (ad 90)), (1, .int (Int32.ofInt ((j : Int)))), (2, .int (Int32.ofInt (0))), (3, .int (Int32.ofInt (orI (stB G nm j (sz j).toNat) (f + 1)))), (4, .int (Int32.ofInt (((f + 1 : Nat) : Int))))]) (fun q hq => ?_) ?_
        · simp only [List.mem_cons, List.not_mem_nil, or_false] at hq
          rcases hq with rfl | rfl | rfl | rfl | rfl <;> simp [stL, stL2, lv_args, Value.category]
        exact ovm_18 hW0 hg h hB hj h0 m (f + 1) w1 (by omega) G1 hO1 kk
theorem ovM_ct {G : Nat → Int} {sz wds : Nat → Int} {nm : Nat → Int64} (hG : GOK ad tys GG ws) (hW : W91 G ws) (hg : HB G) (h : SLM sz wds nm ws) (hB : SLB sz wds nm) {s : Int} (sI : I32 s) : CT l D tys A 308 3 0 0 [.ref (ad 90), .int (Int32.ofInt (s))] ws (fun r w => (GOK ad tys GG w ∧ O105 ws w) ∧ r = some (.int (Int32.ofInt (ovV G sz nm s)))) := by
  refine CT_of_V (by omega) (show (2 : Nat) ≤ mML 308 by decide +kernel) ?_
  refine V_aload (v := ad 90) mi_308_0 (by simp [stL, stL2, lv_args, Value.category]) ?_
  refine V_iload (v := Int32.ofInt (s)) mi_308_1 (by simp [stL, stL2, lv_args, Value.category]) ?_
  refine V_ipush mi_308_2 ?_
  refine V_callM (As := [.int (Int32.ofInt (s)), .int (Int32.ofInt (1))]) (st := []) mi_308_3 (by omega) (by decide +kernel) (by decide +kernel) hG (wfM_ct hG hW hg h hB sI) (by omega) (show 2 = mN 305 by decide +kernel) (by simp [Value.category]) ?_
  rintro r w1 ⟨rfl, rfl⟩
  have wc := wfrV_c G sz nm s
  refine V_istore mi_308_6 ?_
  refine V_iload (v := Int32.ofInt (wfrV G sz nm s)) mi_308_7 (by simp [stL, stL2, lv_args, Value.category]) ?_
  refine V_zge mi_308_8 ⟨by omega, by omega⟩ (fun q2 => ?_) (fun q2 => ?_)
  · have b3 := hg.b3
    have k0 : wfrV G sz nm s = 0 ∧ (0 ≤ s ∧ s < 4) ∧ 0 ≤ sz s.toNat := by
      rcases wc with e | e | e
      · exact absurd q2 (by omega)
      · exact absurd q2 (by omega)
      · exact e
    obtain ⟨j, rfl⟩ := Int.eq_ofNat_of_zero_le k0.2.1.1
    have k2 : 0 ≤ sz j := k0.2.2
    rw [k0.1]
    refine V_ipush mi_308_13 ?_
    refine V_istore mi_308_14 ?_
    refine V_ipush mi_308_15 ?_
    refine V_istore mi_308_16 ?_
    refine V_sub (lv' := [(0, .ref (ad 90)), (1, .int (Int32.ofInt ((j : Int)))), (2, .int (Int32.ofInt (0))), (3, .int (Int32.ofInt (0))), (4, .int (Int32.ofInt (((0 : Nat) : Int))))]) (fun q hq => ?_) ?_
    · simp only [List.mem_cons, List.not_mem_nil, or_false] at hq
      rcases hq with rfl | rfl | rfl | rfl | rfl <;> simp [stL, stL2, lv_args, Value.category]
    exact ovm_18 hW hg h hB (by omega) k2 (G 3).toNat 0 _ (by omega) hG (fun _ _ _ _ => rfl) (fun w g o => ⟨⟨g, o⟩, by unfold ovV; rw [if_pos k0.1]; rfl⟩)
  · refine V_iload (v := Int32.ofInt (wfrV G sz nm s)) mi_308_11 (by simp [stL, stL2, lv_args, Value.category]) ?_
    exact V_retI mi_308_12 (fun h => absurd h (by decide +kernel)) ⟨⟨hG, fun _ _ _ _ => rfl⟩, by unfold ovV; rw [if_neg (by omega)]⟩
theorem pairV_overheard (hAD : ∀ i : Nat, ad (1000 + i) = D.2 1000 i) (hG : GOK ad tys GG ws) (hR : RELV ws) (a1 : Int32) : PAIRV l D tys A ad 51 308 [.ref (ad 0), .int a1] [.ref (ad 90), .int a1] ws := by
  obtain ⟨G, o, x, y⟩ := hR.1.2.1
  have hg := hb_of hG y o
  obtain ⟨sz, wds, nm, hX, hM, hB⟩ := hR.2
  have c1 := ovX_ct (l := l) (D := D) (A := A) hG x hg hX hB (i32b a1)
  have c2 := ovM_ct (l := l) (D := D) (A := A) hG y hg hM hB (i32b a1)
  rw [oi] at c1 c2
  refine ⟨Int32.ofInt (ovV G sz nm a1.toInt), fun w => w = ws, ⟨5, by omega, CT_post c1 (fun r w k => ?_)⟩, fun w hw K => ⟨3, by omega, ?_⟩⟩
  · obtain ⟨rfl, e⟩ := k
    exact ⟨e, hG, rfl⟩
  · subst K
    refine CT_post c2 (fun r w2 k => ?_)
    obtain ⟨⟨g, o⟩, e⟩ := k
    exact ⟨e, g, relv_keep hR (fun c hc j => o c j (by omega) (by omega)) (fun j hj => o 90 j (by omega) (fun q => by
      obtain ⟨-, q⟩ := q
      subst q
      exact absurd hj (by unfold spK; decide)))⟩
end XVG
