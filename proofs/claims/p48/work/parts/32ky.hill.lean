section XYC
variable {l : Launch} {D : va_G} {tys : List (ClassId × FieldType)} {A : Nat → Prop} {ad : Nat → Nat} {ws : va_W}
theorem g47r0 : gOr 47 3 2 0 48 := ⟨_, rfl, by decide +kernel⟩
theorem g47r1 : gOr 47 3 2 1 49 := ⟨_, rfl, by decide +kernel⟩
theorem a48 : gA 48 7 (-2147483648) 2147483647 := gA_of rfl
theorem a49 : gA 49 7 (-2147483648) 2147483647 := gA_of rfl
theorem and_b0 (b : Bool) : ibF 5 (bI b) (Int32.ofInt 0) = bI false := by cases b <;> decide
theorem and_b1 (b : Bool) : ibF 5 (bI b) (Int32.ofInt 1) = bI b := by cases b <;> decide
noncomputable def OWY (w0 w : va_W) : Prop := ∀ c j, c ≠ 48 → c ≠ 49 → rd w c j = rd w0 c j
theorem OWY_X {G : Nat → Int} {w0 w : va_W} (o : OWY w0 w) (h : HX 4 G w0) : HX 4 G w := HX_keep h (fun c i h1 h2 => o c i (by omega) (by omega))
theorem OWY_S {sz wds : Nat → Int} {nm : Nat → Int64} {w0 w : va_W} (o : OWY w0 w) (h : SLX sz wds nm w0) : SLX sz wds nm w := fun k hk => ⟨(o _ _ (by omega) (by omega)).trans (h k hk).1, (o _ _ (by omega) (by omega)).trans (h k hk).2.1, fun i hi => (o _ _ (by omega) (by omega)).trans ((h k hk).2.2 i hi)⟩
/-- the two rows of ways -/
noncomputable def WYR (z : Nat) (A : Nat → Int) (c : Nat) (w : va_W) : Prop := ∀ h, h ≤ z → rd w c h = some (.int (Int32.ofInt (A h)))
/-- what spellings answers -/
noncomputable def spV (G sz : Nat → Int) (nm : Nat → Int64) (s n : Int) (S : Nat) : Int := if 1 ≤ n ∧ n ≤ 6 then (if wfrV G sz nm s = 0 then (if n < sz s.toNat then 0 else wyN (nv nm s.toNat) S (sz s.toNat).toNat n.toNat (sz s.toNat).toNat) else wfrV G sz nm s) else -2
theorem ewx_35 {sz wds : Nat → Int} {nm : Nat → Int64} (hG : GOK ad tys GG ws) (h : SLX sz wds nm ws) (hB : SLB sz wds nm) {j had d r : Nat} (hj : j < 4) (hr : r ≤ had) (hz : (had : Int) < sz j) {post : Option Value → va_W → Prop} : ∀ (k i : Nat), i + k = r → V l D tys A 119 3 0 0 post 0 0 85 [(0, .ref (ad 39)), (1, .int (Int32.ofInt ((j : Int)))), (2, .int (Int32.ofInt ((had : Int)))), (3, .int (Int32.ofInt ((d : Int)))), (4, .int (Int32.ofInt (((r + 1 : Nat) : Int)))), (5, .int (bI (fiB (nv nm j) had (d : Int) r r)))] [] ws → V l D tys A 119 3 0 0 post 0 0 35 [(0, .ref (ad 39)), (1, .int (Int32.ofInt ((j : Int)))), (2, .int (Int32.ofInt ((had : Int)))), (3, .int (Int32.ofInt ((d : Int)))), (4, .int (Int32.ofInt (((r + 1 : Nat) : Int)))), (5, .int (bI (fiB (nv nm j) had (d : Int) r i))), (6, .int (Int32.ofInt ((i : Int))))] [] ws
  | 0, i, hi, kk => by
    have b60 := (hB j hj).1.2
    refine V_iload (v := Int32.ofInt ((i : Int))) mi_119_35 (by simp [stL, stL2, lv_args, Value.category]) ?_
    refine V_iload (v := Int32.ofInt (((r + 1 : Nat) : Int))) mi_119_37 (by simp [stL, stL2, lv_args, Value.category]) ?_
    refine V_ipush mi_119_39 ?_
    refine V_ibin mi_119_40 (by omega) ?_
    rw [ib1]
    refine V_cge mi_119_41 ⟨by omega, by omega⟩ ⟨by omega, by omega⟩ (fun q => ?_) (fun q => ?_)
    · rw [show i = r by omega]
      refine V_sub (lv' := [(0, .ref (ad 39)), (1, .int (Int32.ofInt ((j : Int)))), (2, .int (Int32.ofInt ((had : Int)))), (3, .int (Int32.ofInt ((d : Int)))), (4, .int (Int32.ofInt (((r + 1 : Nat) : Int)))), (5, .int (bI (fiB (nv nm j) had (d : Int) r r)))]) (fun q hq => ?_) ?_
      · simp only [List.mem_cons, List.not_mem_nil, or_false] at hq
        rcases hq with rfl | rfl | rfl | rfl | rfl | rfl <;> simp [stL, stL2, lv_args, Value.category]
      exact kk
    · exact absurd q (by omega)
  | k + 1, i, hi, kk => by
    have b60 := (hB j hj).1.2
    refine V_iload (v := Int32.ofInt ((i : Int))) mi_119_35 (by simp [stL, stL2, lv_args, Value.category]) ?_
    refine V_iload (v := Int32.ofInt (((r + 1 : Nat) : Int))) mi_119_37 (by simp [stL, stL2, lv_args, Value.category]) ?_
    refine V_ipush mi_119_39 ?_
    refine V_ibin mi_119_40 (by omega) ?_
    rw [ib1]
    refine V_cge mi_119_41 ⟨by omega, by omega⟩ ⟨by omega, by omega⟩ (fun q => ?_) (fun q => ?_)
    · exact absurd q (by omega)
    · have n1 := nv_bd nm j i
      have n2 := nv_bd nm j (had - r + i)
      refine V_iload (v := bI (fiB (nv nm j) had (d : Int) r i)) mi_119_44 (by simp [stL, stL2, lv_args, Value.category]) ?_
      refine V_aload (v := ad 39) mi_119_46 (by simp [stL, stL2, lv_args, Value.category]) ?_
      refine V_iload (v := Int32.ofInt ((j : Int))) mi_119_47 (by simp [stL, stL2, lv_args, Value.category]) ?_
      refine V_iload (v := Int32.ofInt ((i : Int))) mi_119_48 (by simp [stL, stL2, lv_args, Value.category]) ?_
      refine V_cO (As := [.int (Int32.ofInt ((j : Int))), .int (Int32.ofInt ((i : Int)))]) (st := [.int (bI (fiB (nv nm j) had (d : Int) r i))]) mi_119_50 (by omega) (by decide +kernel) (by decide +kernel) (by omega) g39o hG (nvX_ct (i := i) hG h hB hj (by omega)) (by omega) (show 2 = mN 164 by decide +kernel) (by simp [Value.category]) ?_
      rintro r w1 ⟨e1, rfl⟩
      rw [e1]
      refine V_aload (v := ad 39) mi_119_53 (by simp [stL, stL2, lv_args, Value.category]) ?_
      refine V_iload (v := Int32.ofInt ((j : Int))) mi_119_54 (by simp [stL, stL2, lv_args, Value.category]) ?_
      refine V_iload (v := Int32.ofInt ((had : Int))) mi_119_55 (by simp [stL, stL2, lv_args, Value.category]) ?_
      refine V_iload (v := Int32.ofInt (((r + 1 : Nat) : Int))) mi_119_56 (by simp [stL, stL2, lv_args, Value.category]) ?_
      refine V_ipush mi_119_58 ?_
      refine V_ibin mi_119_59 (by omega) ?_
      rw [ib1]
      refine V_ibin mi_119_60 (by omega) ?_
      rw [ib1]
      refine V_iload (v := Int32.ofInt ((i : Int))) mi_119_61 (by simp [stL, stL2, lv_args, Value.category]) ?_
      refine V_ibin mi_119_63 (by omega) ?_
      rw [ib0]
      rw [show (((had : Int)) - ((((r + 1 : Nat) : Int)) - (1))) + ((i : Int)) = ((had - r + i : Nat) : Int) by omega]
      refine V_cO (As := [.int (Int32.ofInt ((j : Int))), .int (Int32.ofInt (((had - r + i : Nat) : Int)))]) (st := [.long (Int64.ofInt (nv nm j i)), .int (bI (fiB (nv nm j) had (d : Int) r i))]) mi_119_64 (by omega) (by decide +kernel) (by decide +kernel) (by omega) g39o hG (nvX_ct (i := had - r + i) hG h hB hj (by omega)) (by omega) (show 2 = mN 164 by decide +kernel) (by simp [Value.category]) ?_
      rintro r w2 ⟨e2, rfl⟩
      rw [e2]
      refine V_lcmp mi_119_67 ?_
      have cl := cdL_iff (x := 1) (a := nv nm j i) (b := nv nm j (had - r + i)) (by omega) (by omega) (by omega) (by omega)
      refine V_if mi_119_68 (fun q3 => ?_) (fun q3 => ?_)
      · have k3 : ¬ (nv nm j i - nv nm j (had - r + i) = 0) := cl.mp q3
        refine V_ipush mi_119_75 ?_
        refine V_ibin mi_119_76 (by omega) ?_
        rw [show ibF 5 (bI (fiB (nv nm j) had (d : Int) r i)) (Int32.ofInt 0) = bI (fiB (nv nm j) had (d : Int) r (i + 1)) from (and_b0 _).trans (by show _ = bI (fiB (nv nm j) had (d : Int) r i && decide (nv nm j i = nv nm j (had - r + i))); rw [decide_eq_false (by omega), Bool.and_false])]
        refine V_istore mi_119_77 ?_
        refine V_iinc (v := Int32.ofInt ((i : Int))) mi_119_79 (by simp [stL, stL2, lv_args, Value.category]) ?_
        rw [ia2]
        refine V_goto mi_119_82 ?_
        refine V_sub (lv' := [(0, .ref (ad 39)), (1, .int (Int32.ofInt ((j : Int)))), (2, .int (Int32.ofInt ((had : Int)))), (3, .int (Int32.ofInt ((d : Int)))), (4, .int (Int32.ofInt (((r + 1 : Nat) : Int)))), (5, .int (bI (fiB (nv nm j) had (d : Int) r (i + 1)))), (6, .int (Int32.ofInt (((i + 1 : Nat) : Int))))]) (fun q hq => ?_) ?_
        · simp only [List.mem_cons, List.not_mem_nil, or_false] at hq
          rcases hq with rfl | rfl | rfl | rfl | rfl | rfl | rfl <;> simp [stL, stL2, lv_args, Value.category]
        exact ewx_35 hG h hB hj hr hz k (i + 1) (by omega) kk
      · have k3 : nv nm j i - nv nm j (had - r + i) = 0 := Classical.byContradiction (fun z2 => q3 (cl.mpr z2))
        refine V_ipush mi_119_71 ?_
        refine V_goto mi_119_72 ?_
        refine V_ibin mi_119_76 (by omega) ?_
        rw [show ibF 5 (bI (fiB (nv nm j) had (d : Int) r i)) (Int32.ofInt 1) = bI (fiB (nv nm j) had (d : Int) r (i + 1)) from (and_b1 _).trans (by show _ = bI (fiB (nv nm j) had (d : Int) r i && decide (nv nm j i = nv nm j (had - r + i))); rw [decide_eq_true (by omega), Bool.and_true])]
        refine V_istore mi_119_77 ?_
        refine V_iinc (v := Int32.ofInt ((i : Int))) mi_119_79 (by simp [stL, stL2, lv_args, Value.category]) ?_
        rw [ia2]
        refine V_goto mi_119_82 ?_
        refine V_sub (lv' := [(0, .ref (ad 39)), (1, .int (Int32.ofInt ((j : Int)))), (2, .int (Int32.ofInt ((had : Int)))), (3, .int (Int32.ofInt ((d : Int)))), (4, .int (Int32.ofInt (((r + 1 : Nat) : Int)))), (5, .int (bI (fiB (nv nm j) had (d : Int) r (i + 1)))), (6, .int (Int32.ofInt (((i + 1 : Nat) : Int))))]) (fun q hq => ?_) ?_
        · simp only [List.mem_cons, List.not_mem_nil, or_false] at hq
          rcases hq with rfl | rfl | rfl | rfl | rfl | rfl | rfl <;> simp [stL, stL2, lv_args, Value.category]
        exact ewx_35 hG h hB hj hr hz k (i + 1) (by omega) kk
theorem ews_5 {sz wds : Nat → Int} {nm : Nat → Int64} (hG : GOK ad tys GG ws) (h : SLX sz wds nm ws) (hB : SLB sz wds nm) {j had d : Nat} (hj : j < 4) (hz : (had : Int) < sz j) (d9 : d ≤ 100) {post : Option Value → va_W → Prop} : ∀ (s : Nat), s ≤ had + 1 → post (some (.int (Int32.ofInt (edS (nv nm j) had (d : Int) s : Int)))) ws → V l D tys A 119 3 0 0 post 0 0 5 [(0, .ref (ad 39)), (1, .int (Int32.ofInt ((j : Int)))), (2, .int (Int32.ofInt ((had : Int)))), (3, .int (Int32.ofInt ((d : Int)))), (4, .int (Int32.ofInt ((s : Int))))] [] ws
  | 0, hs, kk => by
    have b60 := (hB j hj).1.2
    refine V_iload (v := Int32.ofInt (((0 : Nat) : Int))) mi_119_5 (by simp [stL, stL2, lv_args, Value.category]) ?_
    refine V_zle mi_119_7 ⟨by omega, by omega⟩ (fun q => ?_) (fun q => ?_)
    · refine V_ipush mi_119_99 ?_
      exact V_retI mi_119_100 (fun h => absurd h (by decide +kernel)) kk
    · exact absurd q (by omega)
  | r + 1, hs, kk => by
    have b60 := (hB j hj).1.2
    refine V_iload (v := Int32.ofInt (((r + 1 : Nat) : Int))) mi_119_5 (by simp [stL, stL2, lv_args, Value.category]) ?_
    refine V_zle mi_119_7 ⟨by omega, by omega⟩ (fun q => ?_) (fun q => ?_)
    · exact absurd q (by omega)
    · have n1 := nv_bd nm j r
      refine V_aload (v := ad 39) mi_119_10 (by simp [stL, stL2, lv_args, Value.category]) ?_
      refine V_iload (v := Int32.ofInt ((j : Int))) mi_119_11 (by simp [stL, stL2, lv_args, Value.category]) ?_
      refine V_iload (v := Int32.ofInt (((r + 1 : Nat) : Int))) mi_119_12 (by simp [stL, stL2, lv_args, Value.category]) ?_
      refine V_ipush mi_119_14 ?_
      refine V_ibin mi_119_15 (by omega) ?_
      rw [ib1]
      rw [show ((r + 1 : Nat) : Int) - 1 = (r : Int) by omega]
      refine V_cO (As := [.int (Int32.ofInt ((j : Int))), .int (Int32.ofInt ((r : Int)))]) (st := []) mi_119_16 (by omega) (by decide +kernel) (by decide +kernel) (by omega) g39o hG (nvX_ct (i := r) hG h hB hj (by omega)) (by omega) (show 2 = mN 164 by decide +kernel) (by simp [Value.category]) ?_
      rintro r w1 ⟨e1, rfl⟩
      rw [e1]
      refine V_iload (v := Int32.ofInt ((d : Int))) mi_119_19 (by simp [stL, stL2, lv_args, Value.category]) ?_
      refine V_i2l mi_119_20 ?_
      rw [i2lx ⟨by omega, by omega⟩]
      refine V_lcmp mi_119_21 ?_
      have cl := cdL_iff (x := 1) (a := nv nm j r) (b := (d : Int)) (by omega) (by omega) (by omega) (by omega)
      refine V_if mi_119_22 (fun q3 => ?_) (fun q3 => ?_)
      · have k3 : ¬ (nv nm j r - (d : Int) = 0) := cl.mp q3
        refine V_ipush mi_119_29 ?_
        rw [show Int32.ofInt 0 = bI (fiB (nv nm j) had (d : Int) r 0) from by show _ = bI (decide (nv nm j r = (d : Int))); rw [decide_eq_false (by omega)]; rfl]
        refine V_istore mi_119_30 ?_
        refine V_ipush mi_119_32 ?_
        refine V_istore mi_119_33 ?_
        refine V_sub (lv' := [(0, .ref (ad 39)), (1, .int (Int32.ofInt ((j : Int)))), (2, .int (Int32.ofInt ((had : Int)))), (3, .int (Int32.ofInt ((d : Int)))), (4, .int (Int32.ofInt (((r + 1 : Nat) : Int)))), (5, .int (bI (fiB (nv nm j) had (d : Int) r 0))), (6, .int (Int32.ofInt (((0 : Nat) : Int))))]) (fun q hq => ?_) ?_
        · simp only [List.mem_cons, List.not_mem_nil, or_false] at hq
          rcases hq with rfl | rfl | rfl | rfl | rfl | rfl | rfl <;> simp [stL, stL2, lv_args, Value.category]
        refine ewx_35 hG h hB hj (by omega) hz r 0 (by omega) ?_
        refine V_iload (v := bI (fiB (nv nm j) had (d : Int) r r)) mi_119_85 (by simp [stL, stL2, lv_args, Value.category]) ?_
        refine V_beq mi_119_87  (fun q5 => ?_) (fun q5 => ?_)
        · refine V_iinc (v := Int32.ofInt (((r + 1 : Nat) : Int))) mi_119_93 (by simp [stL, stL2, lv_args, Value.category]) ?_
          rw [ia2]
          rw [show ((r + 1 : Nat) : Int) + (-1) = (r : Int) by omega]
          refine V_goto mi_119_96 ?_
          refine V_sub (lv' := [(0, .ref (ad 39)), (1, .int (Int32.ofInt ((j : Int)))), (2, .int (Int32.ofInt ((had : Int)))), (3, .int (Int32.ofInt ((d : Int)))), (4, .int (Int32.ofInt ((r : Int))))]) (fun q hq => ?_) ?_
          · simp only [List.mem_cons, List.not_mem_nil, or_false] at hq
            rcases hq with rfl | rfl | rfl | rfl | rfl <;> simp [stL, stL2, lv_args, Value.category]
          rw [edS_n q5] at kk
          exact ews_5 hG h hB hj hz d9 r (by omega) kk
        · refine V_iload (v := Int32.ofInt (((r + 1 : Nat) : Int))) mi_119_90 (by simp [stL, stL2, lv_args, Value.category]) ?_
          exact V_retI mi_119_92 (fun h => absurd h (by decide +kernel)) (by rw [edS_y q5] at kk; exact kk)
      · have k3 : nv nm j r - (d : Int) = 0 := Classical.byContradiction (fun z2 => q3 (cl.mpr z2))
        refine V_ipush mi_119_25 ?_
        refine V_goto mi_119_26 ?_
        rw [show Int32.ofInt 1 = bI (fiB (nv nm j) had (d : Int) r 0) from by show _ = bI (decide (nv nm j r = (d : Int))); rw [decide_eq_true (by omega)]; rfl]
        refine V_istore mi_119_30 ?_
        refine V_ipush mi_119_32 ?_
        refine V_istore mi_119_33 ?_
        refine V_sub (lv' := [(0, .ref (ad 39)), (1, .int (Int32.ofInt ((j : Int)))), (2, .int (Int32.ofInt ((had : Int)))), (3, .int (Int32.ofInt ((d : Int)))), (4, .int (Int32.ofInt (((r + 1 : Nat) : Int)))), (5, .int (bI (fiB (nv nm j) had (d : Int) r 0))), (6, .int (Int32.ofInt (((0 : Nat) : Int))))]) (fun q hq => ?_) ?_
        · simp only [List.mem_cons, List.not_mem_nil, or_false] at hq
          rcases hq with rfl | rfl | rfl | rfl | rfl | rfl | rfl <;> simp [stL, stL2, lv_args, Value.category]
        refine ewx_35 hG h hB hj (by omega) hz r 0 (by omega) ?_
        refine V_iload (v := bI (fiB (nv nm j) had (d : Int) r r)) mi_119_85 (by simp [stL, stL2, lv_args, Value.category]) ?_
        refine V_beq mi_119_87  (fun q5 => ?_) (fun q5 => ?_)
        · refine V_iinc (v := Int32.ofInt (((r + 1 : Nat) : Int))) mi_119_93 (by simp [stL, stL2, lv_args, Value.category]) ?_
          rw [ia2]
          rw [show ((r + 1 : Nat) : Int) + (-1) = (r : Int) by omega]
          refine V_goto mi_119_96 ?_
          refine V_sub (lv' := [(0, .ref (ad 39)), (1, .int (Int32.ofInt ((j : Int)))), (2, .int (Int32.ofInt ((had : Int)))), (3, .int (Int32.ofInt ((d : Int)))), (4, .int (Int32.ofInt ((r : Int))))]) (fun q hq => ?_) ?_
          · simp only [List.mem_cons, List.not_mem_nil, or_false] at hq
            rcases hq with rfl | rfl | rfl | rfl | rfl <;> simp [stL, stL2, lv_args, Value.category]
          rw [edS_n q5] at kk
          exact ews_5 hG h hB hj hz d9 r (by omega) kk
        · refine V_iload (v := Int32.ofInt (((r + 1 : Nat) : Int))) mi_119_90 (by simp [stL, stL2, lv_args, Value.category]) ?_
          exact V_retI mi_119_92 (fun h => absurd h (by decide +kernel)) (by rw [edS_y q5] at kk; exact kk)
theorem edx_ct {sz wds : Nat → Int} {nm : Nat → Int64} (hG : GOK ad tys GG ws) (h : SLX sz wds nm ws) (hB : SLB sz wds nm) {j had d : Nat} (hj : j < 4) (hz : (had : Int) < sz j) (d9 : d ≤ 100) : CT l D tys A 119 3 0 0 [.ref (ad 39), .int (Int32.ofInt ((j : Int))), .int (Int32.ofInt ((had : Int))), .int (Int32.ofInt ((d : Int)))] ws (fun r w => w = ws ∧ r = some (.int (Int32.ofInt (edS (nv nm j) had (d : Int) (had + 1) : Int)))) := by
  refine CT_of_V (by omega) (show (4 : Nat) ≤ mML 119 by decide +kernel) ?_
  refine V_iload (v := Int32.ofInt ((had : Int))) mi_119_0 (by simp [stL, stL2, lv_args, Value.category]) ?_
  refine V_ipush mi_119_1 ?_
  refine V_ibin mi_119_2 (by omega) ?_
  rw [ib0]
  rw [show (had : Int) + 1 = ((had + 1 : Nat) : Int) by omega]
  refine V_istore mi_119_3 ?_
  refine V_sub (lv' := [(0, .ref (ad 39)), (1, .int (Int32.ofInt ((j : Int)))), (2, .int (Int32.ofInt ((had : Int)))), (3, .int (Int32.ofInt ((d : Int)))), (4, .int (Int32.ofInt (((had + 1 : Nat) : Int))))]) (fun q hq => ?_) ?_
  · simp only [List.mem_cons, List.not_mem_nil, or_false] at hq
    rcases hq with rfl | rfl | rfl | rfl | rfl <;> simp [stL, stL2, lv_args, Value.category]
  exact ews_5 hG h hB hj hz d9 (had + 1) (Nat.le_refl _) ⟨rfl, rfl⟩
theorem nws_64 {G : Nat → Int} {sz wds : Nat → Int} {nm : Nat → Int64} {w0 : va_W} (hX0 : HX 4 G w0) (hg : HB G) (h0 : SLX sz wds nm w0) (hB : SLB sz wds nm) {S j z n : Nat} (eS : G 0 = (S : Int)) (hj : j < 4) (ez : sz j = (z : Int)) (zn : z ≤ n) (n6 : n ≤ 6) {i had : Nat} {W : Nat → Int} (hh : had ≤ z) {post : Option Value → va_W → Prop} : ∀ (k d : Nat) (ws : va_W), d + k = S → GOK ad tys GG ws → OWY w0 ws → WYR z W 48 ws → WYR z (woN (nv nm j) S z W had d) 49 ws → (∀ w : va_W, GOK ad tys GG w → OWY w0 w → WYR z W 48 w → WYR z (woN (nv nm j) S z W (had + 1) 0) 49 w → V l D tys A 118 4 0 0 post 0 0 54 [(0, .ref (ad 47)), (1, .ref (ad 4)), (2, .ref (ad 39)), (3, .int (Int32.ofInt ((j : Int)))), (4, .int (Int32.ofInt ((n : Int)))), (5, .int (Int32.ofInt ((z : Int)))), (6, .int (Int32.ofInt ((i : Int)))), (7, .int (Int32.ofInt (((had + 1 : Nat) : Int))))] [] w) → V l D tys A 118 4 0 0 post 0 0 64 [(0, .ref (ad 47)), (1, .ref (ad 4)), (2, .ref (ad 39)), (3, .int (Int32.ofInt ((j : Int)))), (4, .int (Int32.ofInt ((n : Int)))), (5, .int (Int32.ofInt ((z : Int)))), (6, .int (Int32.ofInt ((i : Int)))), (7, .int (Int32.ofInt ((had : Int)))), (8, .int (Int32.ofInt ((d : Int))))] [] ws
  | 0, d, ws, hd, hG, hO, hW_, hO_, kk => by
    have b0 := hg.b0
    have hX : HX 4 G ws := OWY_X hO hX0
    have h : SLX sz wds nm ws := OWY_S hO h0
    refine V_iload (v := Int32.ofInt ((d : Int))) mi_118_64 (by simp [stL, stL2, lv_args, Value.category]) ?_
    refine V_aload (v := ad 4) mi_118_66 (by simp [stL, stL2, lv_args, Value.category]) ?_
    refine V_gO mi_118_67 g4o hG (show rd _ 4 1 = some (.int (Int32.ofInt (G 0))) from hx0 hX (i := 1) (by omega)) ?_
    rw [eS]
    refine V_cge mi_118_70 ⟨by omega, by omega⟩ ⟨by omega, by omega⟩ (fun q => ?_) (fun q => ?_)
    · have e : d = S := by omega
      rw [e] at hO_
      refine V_iinc (v := Int32.ofInt ((had : Int))) mi_118_130 (by simp [stL, stL2, lv_args, Value.category]) ?_
      rw [ia2]
      refine V_goto mi_118_133 ?_
      refine V_sub (lv' := [(0, .ref (ad 47)), (1, .ref (ad 4)), (2, .ref (ad 39)), (3, .int (Int32.ofInt ((j : Int)))), (4, .int (Int32.ofInt ((n : Int)))), (5, .int (Int32.ofInt ((z : Int)))), (6, .int (Int32.ofInt ((i : Int)))), (7, .int (Int32.ofInt (((had + 1 : Nat) : Int))))]) (fun q hq => ?_) ?_
      · simp only [List.mem_cons, List.not_mem_nil, or_false] at hq
        rcases hq with rfl | rfl | rfl | rfl | rfl | rfl | rfl | rfl <;> simp [stL, stL2, lv_args, Value.category]
      exact kk ws hG hO hW_ (fun h hh => by rw [← woN_h]; exact hO_ h hh)
    · exact absurd q (by omega)
  | k + 1, d, ws, hd, hG, hO, hW_, hO_, kk => by
    have b0 := hg.b0
    have hX : HX 4 G ws := OWY_X hO hX0
    have h : SLX sz wds nm ws := OWY_S hO h0
    refine V_iload (v := Int32.ofInt ((d : Int))) mi_118_64 (by simp [stL, stL2, lv_args, Value.category]) ?_
    refine V_aload (v := ad 4) mi_118_66 (by simp [stL, stL2, lv_args, Value.category]) ?_
    refine V_gO mi_118_67 g4o hG (show rd _ 4 1 = some (.int (Int32.ofInt (G 0))) from hx0 hX (i := 1) (by omega)) ?_
    rw [eS]
    refine V_cge mi_118_70 ⟨by omega, by omega⟩ ⟨by omega, by omega⟩ (fun q => ?_) (fun q => ?_)
    · exact absurd q (by omega)
    · refine V_iload (v := Int32.ofInt ((had : Int))) mi_118_73 (by simp [stL, stL2, lv_args, Value.category]) ?_
      refine V_iload (v := Int32.ofInt ((z : Int))) mi_118_75 (by simp [stL, stL2, lv_args, Value.category]) ?_
      refine V_cne mi_118_77 ⟨by omega, by omega⟩ ⟨by omega, by omega⟩ (fun q2 => ?_) (fun q2 => ?_)
      · refine V_aload (v := ad 39) mi_118_85 (by simp [stL, stL2, lv_args, Value.category]) ?_
        refine V_iload (v := Int32.ofInt ((j : Int))) mi_118_86 (by simp [stL, stL2, lv_args, Value.category]) ?_
        refine V_iload (v := Int32.ofInt ((had : Int))) mi_118_87 (by simp [stL, stL2, lv_args, Value.category]) ?_
        refine V_iload (v := Int32.ofInt ((d : Int))) mi_118_89 (by simp [stL, stL2, lv_args, Value.category]) ?_
        refine V_stat (As := [.ref (ad 39), .int (Int32.ofInt ((j : Int))), .int (Int32.ofInt ((had : Int))), .int (Int32.ofInt ((d : Int)))]) (st := []) mi_118_91 (by omega) (edx_ct (had := had) (d := d) hG h hB hj (by omega) (by omega)) (by omega) (show 4 = mN 119 by decide +kernel) (by simp [Value.category]) ⟨Nat.le_refl _, Nat.le_refl _⟩ ?_
        rintro r w1 ⟨e1, rfl⟩
        rw [e1, ← (show dlt (nv nm j) z had d = edS (nv nm j) had (d : Int) (had + 1) from dlt_n (by omega))]
        have dl : dlt (nv nm j) z had d ≤ z := dlt_le hh
        refine V_istore mi_118_94 ?_
        refine V_aload (v := ad 47) mi_118_96 (by simp [stL, stL2, lv_args, Value.category]) ?_
        refine V_gR mi_118_97 g47r1 (by omega) hG ?_
        refine V_iload (v := Int32.ofInt ((dlt (nv nm j) z had d : Int))) mi_118_100 (by simp [stL, stL2, lv_args, Value.category]) ?_
        refine V_aload (v := ad 47) mi_118_102 (by simp [stL, stL2, lv_args, Value.category]) ?_
        refine V_gR mi_118_103 g47r1 (by omega) hG ?_
        refine V_iload (v := Int32.ofInt ((dlt (nv nm j) z had d : Int))) mi_118_106 (by simp [stL, stL2, lv_args, Value.category]) ?_
        refine V_stat (As := [.ref (ad 49), .int (Int32.ofInt ((dlt (nv nm j) z had d : Int)))]) (st := [.int (Int32.ofInt ((dlt (nv nm j) z had d : Int))), .ref (ad 49)]) mi_118_108 (by omega) (atk_ct (j := dlt (nv nm j) z had d) a49 hG (by omega) (by omega) (hO_ _ dl)) (by omega) (show 2 = mN 147 by decide +kernel) (by simp [Value.category]) ⟨Nat.le_refl _, Nat.le_refl _⟩ ?_
        rintro r w2 ⟨e2, rfl⟩
        rw [e2]
        refine V_aload (v := ad 47) mi_118_111 (by simp [stL, stL2, lv_args, Value.category]) ?_
        refine V_gR mi_118_112 g47r0 (by omega) hG ?_
        refine V_iload (v := Int32.ofInt ((had : Int))) mi_118_115 (by simp [stL, stL2, lv_args, Value.category]) ?_
        refine V_stat (As := [.ref (ad 48), .int (Int32.ofInt ((had : Int)))]) (st := [.int (Int32.ofInt (woN (nv nm j) S z W had d (dlt (nv nm j) z had d))), .int (Int32.ofInt ((dlt (nv nm j) z had d : Int))), .ref (ad 49)]) mi_118_117 (by omega) (atk_ct (j := had) a48 hG (by omega) (by omega) (hW_ _ hh)) (by omega) (show 2 = mN 147 by decide +kernel) (by simp [Value.category]) ⟨Nat.le_refl _, Nat.le_refl _⟩ ?_
        rintro r w3 ⟨e3, rfl⟩
        rw [e3]
        refine V_ibin mi_118_120 (by omega) ?_
        rw [ib0]
        rw [show woN (nv nm j) S z W had d (dlt (nv nm j) z had d) + W had = woN (nv nm j) S z W had (d + 1) (dlt (nv nm j) z had d) from (by rw [woN_d, if_pos rfl])]
        refine V_stat (As := [.ref (ad 49), .int (Int32.ofInt ((dlt (nv nm j) z had d : Int))), .int (Int32.ofInt (woN (nv nm j) S z W had (d + 1) (dlt (nv nm j) z had d)))]) (st := []) mi_118_121 (by omega) (putk_ct (j := dlt (nv nm j) z had d) a49 hG (by omega) (by omega)) (by omega) (show 3 = mN 148 by decide +kernel) (by simp [Value.category]) ⟨Nat.le_refl _, Nat.le_refl _⟩ ?_
        rintro r w4 ⟨rfl, G4, U4⟩
        refine V_iinc (v := Int32.ofInt ((d : Int))) mi_118_124 (by simp [stL, stL2, lv_args, Value.category]) ?_
        rw [ia2]
        refine V_goto mi_118_127 ?_
        refine V_sub (lv' := [(0, .ref (ad 47)), (1, .ref (ad 4)), (2, .ref (ad 39)), (3, .int (Int32.ofInt ((j : Int)))), (4, .int (Int32.ofInt ((n : Int)))), (5, .int (Int32.ofInt ((z : Int)))), (6, .int (Int32.ofInt ((i : Int)))), (7, .int (Int32.ofInt ((had : Int)))), (8, .int (Int32.ofInt (((d + 1 : Nat) : Int))))]) (fun q hq => ?_) ?_
        · simp only [List.mem_cons, List.not_mem_nil, or_false] at hq
          rcases hq with rfl | rfl | rfl | rfl | rfl | rfl | rfl | rfl | rfl <;> simp [stL, stL2, lv_args, Value.category]
        refine nws_64 hX0 hg h0 hB eS hj ez zn n6 hh k (d + 1) w4 (by omega) G4 (fun c q h1 h2 => (upd_ne U4 (by omega)).trans (hO c q h1 h2)) (fun q hq => (upd_ne U4 (by omega)).trans (hW_ q hq)) (fun q hq => ?_) kk
        by_cases e : q = dlt (nv nm j) z had d
        · rw [e]
          exact upd_eq U4
        · rw [woN_d, if_neg (fun z2 => e z2.symm), Int.add_zero]
          exact (upd_ne U4 (by omega)).trans (hO_ q hq)
      · refine V_iload (v := Int32.ofInt ((z : Int))) mi_118_80 (by simp [stL, stL2, lv_args, Value.category]) ?_
        refine V_goto mi_118_82 ?_
        have dz : (z : Int) = (dlt (nv nm j) z had d : Int) := by rw [dlt_y (show had = z by omega)]
        change V _ _ _ _ _ _ _ _ _ _ _ _ _ [.int (Int32.ofInt (z : Int))] _
        have sv : ∀ x y : Int, x = y → [Value.int (Int32.ofInt x)] = [Value.int (Int32.ofInt y)] := fun x y e => by rw [e]
        rw [sv _ _ dz]
        have dl : dlt (nv nm j) z had d ≤ z := dlt_le hh
        refine V_istore mi_118_94 ?_
        refine V_aload (v := ad 47) mi_118_96 (by simp [stL, stL2, lv_args, Value.category]) ?_
        refine V_gR mi_118_97 g47r1 (by omega) hG ?_
        refine V_iload (v := Int32.ofInt ((dlt (nv nm j) z had d : Int))) mi_118_100 (by simp [stL, stL2, lv_args, Value.category]) ?_
        refine V_aload (v := ad 47) mi_118_102 (by simp [stL, stL2, lv_args, Value.category]) ?_
        refine V_gR mi_118_103 g47r1 (by omega) hG ?_
        refine V_iload (v := Int32.ofInt ((dlt (nv nm j) z had d : Int))) mi_118_106 (by simp [stL, stL2, lv_args, Value.category]) ?_
        refine V_stat (As := [.ref (ad 49), .int (Int32.ofInt ((dlt (nv nm j) z had d : Int)))]) (st := [.int (Int32.ofInt ((dlt (nv nm j) z had d : Int))), .ref (ad 49)]) mi_118_108 (by omega) (atk_ct (j := dlt (nv nm j) z had d) a49 hG (by omega) (by omega) (hO_ _ dl)) (by omega) (show 2 = mN 147 by decide +kernel) (by simp [Value.category]) ⟨Nat.le_refl _, Nat.le_refl _⟩ ?_
        rintro r w2 ⟨e2, rfl⟩
        rw [e2]
        refine V_aload (v := ad 47) mi_118_111 (by simp [stL, stL2, lv_args, Value.category]) ?_
        refine V_gR mi_118_112 g47r0 (by omega) hG ?_
        refine V_iload (v := Int32.ofInt ((had : Int))) mi_118_115 (by simp [stL, stL2, lv_args, Value.category]) ?_
        refine V_stat (As := [.ref (ad 48), .int (Int32.ofInt ((had : Int)))]) (st := [.int (Int32.ofInt (woN (nv nm j) S z W had d (dlt (nv nm j) z had d))), .int (Int32.ofInt ((dlt (nv nm j) z had d : Int))), .ref (ad 49)]) mi_118_117 (by omega) (atk_ct (j := had) a48 hG (by omega) (by omega) (hW_ _ hh)) (by omega) (show 2 = mN 147 by decide +kernel) (by simp [Value.category]) ⟨Nat.le_refl _, Nat.le_refl _⟩ ?_
        rintro r w3 ⟨e3, rfl⟩
        rw [e3]
        refine V_ibin mi_118_120 (by omega) ?_
        rw [ib0]
        rw [show woN (nv nm j) S z W had d (dlt (nv nm j) z had d) + W had = woN (nv nm j) S z W had (d + 1) (dlt (nv nm j) z had d) from (by rw [woN_d, if_pos rfl])]
        refine V_stat (As := [.ref (ad 49), .int (Int32.ofInt ((dlt (nv nm j) z had d : Int))), .int (Int32.ofInt (woN (nv nm j) S z W had (d + 1) (dlt (nv nm j) z had d)))]) (st := []) mi_118_121 (by omega) (putk_ct (j := dlt (nv nm j) z had d) a49 hG (by omega) (by omega)) (by omega) (show 3 = mN 148 by decide +kernel) (by simp [Value.category]) ⟨Nat.le_refl _, Nat.le_refl _⟩ ?_
        rintro r w4 ⟨rfl, G4, U4⟩
        refine V_iinc (v := Int32.ofInt ((d : Int))) mi_118_124 (by simp [stL, stL2, lv_args, Value.category]) ?_
        rw [ia2]
        refine V_goto mi_118_127 ?_
        refine V_sub (lv' := [(0, .ref (ad 47)), (1, .ref (ad 4)), (2, .ref (ad 39)), (3, .int (Int32.ofInt ((j : Int)))), (4, .int (Int32.ofInt ((n : Int)))), (5, .int (Int32.ofInt ((z : Int)))), (6, .int (Int32.ofInt ((i : Int)))), (7, .int (Int32.ofInt ((had : Int)))), (8, .int (Int32.ofInt (((d + 1 : Nat) : Int))))]) (fun q hq => ?_) ?_
        · simp only [List.mem_cons, List.not_mem_nil, or_false] at hq
          rcases hq with rfl | rfl | rfl | rfl | rfl | rfl | rfl | rfl | rfl <;> simp [stL, stL2, lv_args, Value.category]
        refine nws_64 hX0 hg h0 hB eS hj ez zn n6 hh k (d + 1) w4 (by omega) G4 (fun c q h1 h2 => (upd_ne U4 (by omega)).trans (hO c q h1 h2)) (fun q hq => (upd_ne U4 (by omega)).trans (hW_ q hq)) (fun q hq => ?_) kk
        by_cases e : q = dlt (nv nm j) z had d
        · rw [e]
          exact upd_eq U4
        · rw [woN_d, if_neg (fun z2 => e z2.symm), Int.add_zero]
          exact (upd_ne U4 (by omega)).trans (hO_ q hq)
theorem nwh_54 {G : Nat → Int} {sz wds : Nat → Int} {nm : Nat → Int64} {w0 : va_W} (hX0 : HX 4 G w0) (hg : HB G) (h0 : SLX sz wds nm w0) (hB : SLB sz wds nm) {S j z n : Nat} (eS : G 0 = (S : Int)) (hj : j < 4) (ez : sz j = (z : Int)) (zn : z ≤ n) (n6 : n ≤ 6) {i : Nat} {W : Nat → Int} {post : Option Value → va_W → Prop} : ∀ (k had : Nat) (ws : va_W), had + k = z + 1 → GOK ad tys GG ws → OWY w0 ws → WYR z W 48 ws → WYR z (woN (nv nm j) S z W had 0) 49 ws → (∀ w : va_W, GOK ad tys GG w → OWY w0 w → WYR z W 48 w → WYR z (woN (nv nm j) S z W (z + 1) 0) 49 w → V l D tys A 118 4 0 0 post 0 0 136 [(0, .ref (ad 47)), (1, .ref (ad 4)), (2, .ref (ad 39)), (3, .int (Int32.ofInt ((j : Int)))), (4, .int (Int32.ofInt ((n : Int)))), (5, .int (Int32.ofInt ((z : Int)))), (6, .int (Int32.ofInt ((i : Int))))] [] w) → V l D tys A 118 4 0 0 post 0 0 54 [(0, .ref (ad 47)), (1, .ref (ad 4)), (2, .ref (ad 39)), (3, .int (Int32.ofInt ((j : Int)))), (4, .int (Int32.ofInt ((n : Int)))), (5, .int (Int32.ofInt ((z : Int)))), (6, .int (Int32.ofInt ((i : Int)))), (7, .int (Int32.ofInt ((had : Int))))] [] ws
  | 0, had, ws, hd, hG, hO, hW_, hO_, kk => by
    refine V_iload (v := Int32.ofInt ((had : Int))) mi_118_54 (by simp [stL, stL2, lv_args, Value.category]) ?_
    refine V_iload (v := Int32.ofInt ((z : Int))) mi_118_56 (by simp [stL, stL2, lv_args, Value.category]) ?_
    refine V_cgt mi_118_58 ⟨by omega, by omega⟩ ⟨by omega, by omega⟩ (fun q => ?_) (fun q => ?_)
    · rw [show had = z + 1 by omega] at hO_
      refine V_sub (lv' := [(0, .ref (ad 47)), (1, .ref (ad 4)), (2, .ref (ad 39)), (3, .int (Int32.ofInt ((j : Int)))), (4, .int (Int32.ofInt ((n : Int)))), (5, .int (Int32.ofInt ((z : Int)))), (6, .int (Int32.ofInt ((i : Int))))]) (fun q hq => ?_) ?_
      · simp only [List.mem_cons, List.not_mem_nil, or_false] at hq
        rcases hq with rfl | rfl | rfl | rfl | rfl | rfl | rfl <;> simp [stL, stL2, lv_args, Value.category]
      exact kk ws hG hO hW_ hO_
    · exact absurd q (by omega)
  | k + 1, had, ws, hd, hG, hO, hW_, hO_, kk => by
    refine V_iload (v := Int32.ofInt ((had : Int))) mi_118_54 (by simp [stL, stL2, lv_args, Value.category]) ?_
    refine V_iload (v := Int32.ofInt ((z : Int))) mi_118_56 (by simp [stL, stL2, lv_args, Value.category]) ?_
    refine V_cgt mi_118_58 ⟨by omega, by omega⟩ ⟨by omega, by omega⟩ (fun q => ?_) (fun q => ?_)
    · exact absurd q (by omega)
    · refine V_ipush mi_118_61 ?_
      refine V_istore mi_118_62 ?_
      refine V_sub (lv' := [(0, .ref (ad 47)), (1, .ref (ad 4)), (2, .ref (ad 39)), (3, .int (Int32.ofInt ((j : Int)))), (4, .int (Int32.ofInt ((n : Int)))), (5, .int (Int32.ofInt ((z : Int)))), (6, .int (Int32.ofInt ((i : Int)))), (7, .int (Int32.ofInt ((had : Int)))), (8, .int (Int32.ofInt (((0 : Nat) : Int))))]) (fun q hq => ?_) ?_
      · simp only [List.mem_cons, List.not_mem_nil, or_false] at hq
        rcases hq with rfl | rfl | rfl | rfl | rfl | rfl | rfl | rfl | rfl <;> simp [stL, stL2, lv_args, Value.category]
      exact nws_64 hX0 hg h0 hB eS hj ez zn n6 (by omega) S 0 ws (by omega) hG hO hW_ hO_ (fun w g o a b => nwh_54 hX0 hg h0 hB eS hj ez zn n6 k (had + 1) w (by omega) g o a b kk)
theorem nwi_36 {G : Nat → Int} {sz wds : Nat → Int} {nm : Nat → Int64} {w0 : va_W} (hX0 : HX 4 G w0) (hg : HB G) (h0 : SLX sz wds nm w0) (hB : SLB sz wds nm) {S j z n : Nat} (eS : G 0 = (S : Int)) (hj : j < 4) (ez : sz j = (z : Int)) (zn : z ≤ n) (n6 : n ≤ 6) {post : Option Value → va_W → Prop} : ∀ (k i : Nat) (ws : va_W), i + k = n → GOK ad tys GG ws → OWY w0 ws → WYR z (wyN (nv nm j) S z i) 48 ws → (∀ w : va_W, GOK ad tys GG w → OWY w0 w → post (some (.int (Int32.ofInt (wyN (nv nm j) S z n z)))) w) → V l D tys A 118 4 0 0 post 0 0 36 [(0, .ref (ad 47)), (1, .ref (ad 4)), (2, .ref (ad 39)), (3, .int (Int32.ofInt ((j : Int)))), (4, .int (Int32.ofInt ((n : Int)))), (5, .int (Int32.ofInt ((z : Int)))), (6, .int (Int32.ofInt ((i : Int))))] [] ws
  | 0, i, ws, hi, hG, hO, hW_, kk => by
    refine V_iload (v := Int32.ofInt ((i : Int))) mi_118_36 (by simp [stL, stL2, lv_args, Value.category]) ?_
    refine V_iload (v := Int32.ofInt ((n : Int))) mi_118_38 (by simp [stL, stL2, lv_args, Value.category]) ?_
    refine V_cge mi_118_40 ⟨by omega, by omega⟩ ⟨by omega, by omega⟩ (fun q => ?_) (fun q => ?_)
    · rw [show i = n by omega] at hW_
      refine V_aload (v := ad 47) mi_118_153 (by simp [stL, stL2, lv_args, Value.category]) ?_
      refine V_gR mi_118_154 g47r0 (by omega) hG ?_
      refine V_iload (v := Int32.ofInt ((z : Int))) mi_118_157 (by simp [stL, stL2, lv_args, Value.category]) ?_
      refine V_stat (As := [.ref (ad 48), .int (Int32.ofInt ((z : Int)))]) (st := []) mi_118_159 (by omega) (atk_ct (j := z) a48 hG (by omega) (by omega) (hW_ z (Nat.le_refl z))) (by omega) (show 2 = mN 147 by decide +kernel) (by simp [Value.category]) ⟨Nat.le_refl _, Nat.le_refl _⟩ ?_
      rintro r w1 ⟨e1, rfl⟩
      rw [e1]
      exact V_retI mi_118_162 (fun h => absurd h (by decide +kernel)) (kk ws hG hO)
    · exact absurd q (by omega)
  | k + 1, i, ws, hi, hG, hO, hW_, kk => by
    refine V_iload (v := Int32.ofInt ((i : Int))) mi_118_36 (by simp [stL, stL2, lv_args, Value.category]) ?_
    refine V_iload (v := Int32.ofInt ((n : Int))) mi_118_38 (by simp [stL, stL2, lv_args, Value.category]) ?_
    refine V_cge mi_118_40 ⟨by omega, by omega⟩ ⟨by omega, by omega⟩ (fun q => ?_) (fun q => ?_)
    · exact absurd q (by omega)
    · refine V_aload (v := ad 47) mi_118_43 (by simp [stL, stL2, lv_args, Value.category]) ?_
      refine V_gR mi_118_44 g47r1 (by omega) hG ?_
      refine V_ipush mi_118_47 ?_
      refine V_stat (As := [.ref (ad 49), .int (Int32.ofInt (0))]) (st := []) mi_118_48 (by omega) (fill_ct (c := 49) (n := 7) (v := 0) a49 hG (by omega) ⟨by omega, by omega⟩ (by omega) (by omega)) (by omega) (show 2 = mN 149 by decide +kernel) (by simp [Value.category]) ⟨Nat.le_refl _, Nat.le_refl _⟩ ?_
      rintro r w1 ⟨rfl, G1, o1, z1⟩
      refine V_ipush mi_118_51 ?_
      refine V_istore mi_118_52 ?_
      refine V_sub (lv' := [(0, .ref (ad 47)), (1, .ref (ad 4)), (2, .ref (ad 39)), (3, .int (Int32.ofInt ((j : Int)))), (4, .int (Int32.ofInt ((n : Int)))), (5, .int (Int32.ofInt ((z : Int)))), (6, .int (Int32.ofInt ((i : Int)))), (7, .int (Int32.ofInt (((0 : Nat) : Int))))]) (fun q hq => ?_) ?_
      · simp only [List.mem_cons, List.not_mem_nil, or_false] at hq
        rcases hq with rfl | rfl | rfl | rfl | rfl | rfl | rfl | rfl <;> simp [stL, stL2, lv_args, Value.category]
      refine nwh_54 (W := wyN (nv nm j) S z i) hX0 hg h0 hB eS hj ez zn n6 (z + 1) 0 w1 (by omega) G1 (fun c q h1 h2 => (o1 c q h2).trans (hO c q h1 h2)) (fun q hq => (o1 48 q (by omega)).trans (hW_ q hq)) (fun q hq => z1 q (by omega)) (fun w2 G2 O2 W2 V2 => ?_)
      refine V_aload (v := ad 47) mi_118_136 (by simp [stL, stL2, lv_args, Value.category]) ?_
      refine V_gR mi_118_137 g47r1 (by omega) G2 ?_
      refine V_aload (v := ad 47) mi_118_140 (by simp [stL, stL2, lv_args, Value.category]) ?_
      refine V_gR mi_118_141 g47r0 (by omega) G2 ?_
      refine V_stat (As := [.ref (ad 49), .ref (ad 48)]) (st := []) mi_118_144 (by omega) (copy_ct (c := 49) (c2 := 48) a49 a48 G2 (by omega) (by omega) ⟨by omega, by omega⟩ ⟨by omega, by omega⟩) (by omega) (show 2 = mN 150 by decide +kernel) (by simp [Value.category]) ⟨Nat.le_refl _, Nat.le_refl _⟩ ?_
      rintro r w3 ⟨rfl, G3, o3, z3⟩
      refine V_iinc (v := Int32.ofInt ((i : Int))) mi_118_147 (by simp [stL, stL2, lv_args, Value.category]) ?_
      rw [ia2]
      refine V_goto mi_118_150 ?_
      refine V_sub (lv' := [(0, .ref (ad 47)), (1, .ref (ad 4)), (2, .ref (ad 39)), (3, .int (Int32.ofInt ((j : Int)))), (4, .int (Int32.ofInt ((n : Int)))), (5, .int (Int32.ofInt ((z : Int)))), (6, .int (Int32.ofInt (((i + 1 : Nat) : Int))))]) (fun q hq => ?_) ?_
      · simp only [List.mem_cons, List.not_mem_nil, or_false] at hq
        rcases hq with rfl | rfl | rfl | rfl | rfl | rfl | rfl <;> simp [stL, stL2, lv_args, Value.category]
      exact nwi_36 hX0 hg h0 hB eS hj ez zn n6 k (i + 1) w3 (by omega) G3 (fun c q h1 h2 => (o3 c q h1).trans (O2 c q h1 h2)) (fun q hq => by rw [← wy_s]; exact (z3 q (by omega)).trans (V2 q hq)) kk
theorem nwx_ct {G : Nat → Int} {sz wds : Nat → Int} {nm : Nat → Int64} (hG : GOK ad tys GG ws) (hX : HX 4 G ws) (hg : HB G) (h : SLX sz wds nm ws) (hB : SLB sz wds nm) {S j z n : Nat} (eS : G 0 = (S : Int)) (hj : j < 4) (ez : sz j = (z : Int)) (n6 : n ≤ 6) : CT l D tys A 118 4 0 0 [.ref (ad 47), .ref (ad 4), .ref (ad 39), .int (Int32.ofInt ((j : Int))), .int (Int32.ofInt ((n : Int)))] ws (fun r w => (GOK ad tys GG w ∧ OWY ws w) ∧ r = some (.int (Int32.ofInt (if (n : Int) < (z : Int) then 0 else wyN (nv nm j) S z n z)))) := by
  refine CT_of_V (by omega) (show (5 : Nat) ≤ mML 118 by decide +kernel) ?_
  have b := hB j hj
  have g := h j hj
  refine V_aload (v := ad 39) mi_118_0 (by simp [stL, stL2, lv_args, Value.category]) ?_
  refine V_iload (v := Int32.ofInt ((j : Int))) mi_118_1 (by simp [stL, stL2, lv_args, Value.category]) ?_
  refine V_cO (As := [.int (Int32.ofInt ((j : Int)))]) (st := []) mi_118_2 (by omega) (by decide +kernel) (by decide +kernel) (by omega) g39o hG (szX_ct hG hj g.1) (by omega) (show 1 = mN 162 by decide +kernel) (by simp [Value.category]) ?_
  rintro r w1 ⟨e1, rfl⟩
  rw [e1, ez]
  refine V_istore mi_118_5 ?_
  refine V_iload (v := Int32.ofInt ((z : Int))) mi_118_7 (by simp [stL, stL2, lv_args, Value.category]) ?_
  refine V_iload (v := Int32.ofInt ((n : Int))) mi_118_9 (by simp [stL, stL2, lv_args, Value.category]) ?_
  refine V_cle mi_118_11 ⟨by omega, by omega⟩ ⟨by omega, by omega⟩ (fun q2 => ?_) (fun q2 => ?_)
  · rw [if_neg (show ¬ (n : Int) < (z : Int) by omega)]
    refine V_aload (v := ad 47) mi_118_16 (by simp [stL, stL2, lv_args, Value.category]) ?_
    refine V_gR mi_118_17 g47r0 (by omega) hG ?_
    refine V_ipush mi_118_20 ?_
    refine V_stat (As := [.ref (ad 48), .int (Int32.ofInt (0))]) (st := []) mi_118_21 (by omega) (fill_ct (c := 48) (n := 7) (v := 0) a48 hG (by omega) ⟨by omega, by omega⟩ (by omega) (by omega)) (by omega) (show 2 = mN 149 by decide +kernel) (by simp [Value.category]) ⟨Nat.le_refl _, Nat.le_refl _⟩ ?_
    rintro r w2 ⟨rfl, G2, o2, z2⟩
    refine V_aload (v := ad 47) mi_118_24 (by simp [stL, stL2, lv_args, Value.category]) ?_
    refine V_gR mi_118_25 g47r0 (by omega) G2 ?_
    refine V_ipush mi_118_28 ?_
    refine V_ipush mi_118_29 ?_
    rw [show (0 : Int) = ((0 : Nat) : Int) from rfl]
    refine V_stat (As := [.ref (ad 48), .int (Int32.ofInt (((0 : Nat) : Int))), .int (Int32.ofInt (1))]) (st := []) mi_118_30 (by omega) (putk_ct (j := 0) a48 G2 (by omega) (by omega)) (by omega) (show 3 = mN 148 by decide +kernel) (by simp [Value.category]) ⟨Nat.le_refl _, Nat.le_refl _⟩ ?_
    rintro r w3 ⟨rfl, G3, U3⟩
    refine V_ipush mi_118_33 ?_
    refine V_istore mi_118_34 ?_
    refine V_sub (lv' := [(0, .ref (ad 47)), (1, .ref (ad 4)), (2, .ref (ad 39)), (3, .int (Int32.ofInt ((j : Int)))), (4, .int (Int32.ofInt ((n : Int)))), (5, .int (Int32.ofInt ((z : Int)))), (6, .int (Int32.ofInt (((0 : Nat) : Int))))]) (fun q hq => ?_) ?_
    · simp only [List.mem_cons, List.not_mem_nil, or_false] at hq
      rcases hq with rfl | rfl | rfl | rfl | rfl | rfl | rfl <;> simp [stL, stL2, lv_args, Value.category]
    refine nwi_36 hX hg h hB eS hj ez (by omega) n6 n 0 w3 (by omega) G3 (fun c q h1 h2 => (upd_ne U3 (by omega)).trans (o2 c q h1)) (fun q hq => ?_) (fun w g o => ⟨⟨g, o⟩, rfl⟩)
    rw [wy_0]
    by_cases e : q = 0
    · rw [e, if_pos rfl]
      exact upd_eq U3
    · rw [if_neg (fun z2 => e z2.symm)]
      exact (upd_ne U3 (by omega)).trans (z2 q (by omega))
  · refine V_ipush mi_118_14 ?_
    exact V_retI mi_118_15 (fun h => absurd h (by decide +kernel)) ⟨⟨hG, fun _ _ _ _ => rfl⟩, by rw [if_pos (by omega)]⟩
theorem spX_ct {G : Nat → Int} {sz wds : Nat → Int} {nm : Nat → Int64} (hG : GOK ad tys GG ws) (hX : HX 4 G ws) (hg : HB G) (h : SLX sz wds nm ws) (hB : SLB sz wds nm) {s n : Int} (sI : I32 s) (nI : I32 n) {S : Nat} (eS : G 0 = (S : Int)) : CT l D tys A 52 5 0 0 [.ref (ad 0), .int (Int32.ofInt (s)), .int (Int32.ofInt (n))] ws (fun r w => (GOK ad tys GG w ∧ OWY ws w) ∧ r = some (.int (Int32.ofInt (spV G sz nm s n S)))) := by
  refine CT_of_V (by omega) (show (3 : Nat) ≤ mML 52 by decide +kernel) ?_
  have n1 := nI.1
  have n2 := nI.2
  have wc := wfrV_c G sz nm s
  refine V_iload (v := Int32.ofInt (n)) mi_52_0 (by simp [stL, stL2, lv_args, Value.category]) ?_
  refine V_ipush mi_52_1 ?_
  refine V_clt mi_52_2 ⟨by omega, by omega⟩ ⟨by omega, by omega⟩ (fun q1 => ?_) (fun q1 => ?_)
  · refine V_ipush mi_52_11 ?_
    exact V_retI mi_52_13 (fun h => absurd h (by decide +kernel)) ⟨⟨hG, fun _ _ _ _ => rfl⟩, by unfold spV; rw [if_neg (by omega)]⟩
  · refine V_iload (v := Int32.ofInt (n)) mi_52_5 (by simp [stL, stL2, lv_args, Value.category]) ?_
    refine V_ipush mi_52_6 ?_
    refine V_cle mi_52_8 ⟨by omega, by omega⟩ ⟨by omega, by omega⟩ (fun q2 => ?_) (fun q2 => ?_)
    · refine V_aload (v := ad 0) mi_52_14 (by simp [stL, stL2, lv_args, Value.category]) ?_
      refine V_iload (v := Int32.ofInt (s)) mi_52_15 (by simp [stL, stL2, lv_args, Value.category]) ?_
      refine V_cO (As := [.int (Int32.ofInt (s))]) (st := []) mi_52_16 (by omega) (by decide +kernel) (by decide +kernel) (by omega) g0o hG (wfX_ct hG hX hg h hB sI) (by omega) (show 1 = mN 53 by decide +kernel) (by simp [Value.category]) ?_
      rintro r w1 ⟨rfl, rfl⟩
      refine V_istore mi_52_19 ?_
      refine V_iload (v := Int32.ofInt (wfrV G sz nm s)) mi_52_20 (by simp [stL, stL2, lv_args, Value.category]) ?_
      refine V_zeq mi_52_21 ⟨by omega, by omega⟩ (fun q3 => ?_) (fun q3 => ?_)
      · have k0 : wfrV G sz nm s = 0 ∧ (0 ≤ s ∧ s < 4) ∧ 0 ≤ sz s.toNat := by
          rcases wc with e | e | e
          · exact absurd q3 (by omega)
          · exact absurd q3 (by omega)
          · exact e
        obtain ⟨j, rfl⟩ := Int.eq_ofNat_of_zero_le k0.2.1.1
        obtain ⟨m, rfl⟩ := Int.eq_ofNat_of_zero_le (show 0 ≤ n by omega)
        have k2 : 0 ≤ sz j := k0.2.2
        obtain ⟨z, ez⟩ := Int.eq_ofNat_of_zero_le k2
        refine V_aload (v := ad 0) mi_52_28 (by simp [stL, stL2, lv_args, Value.category]) ?_
        refine V_gR mi_52_29 g0r9 (by omega) hG ?_
        refine V_aload (v := ad 0) mi_52_32 (by simp [stL, stL2, lv_args, Value.category]) ?_
        refine V_gR mi_52_33 g0r2 (by omega) hG ?_
        refine V_aload (v := ad 0) mi_52_36 (by simp [stL, stL2, lv_args, Value.category]) ?_
        refine V_gR mi_52_37 g0r7 (by omega) hG ?_
        refine V_iload (v := Int32.ofInt ((j : Int))) mi_52_40 (by simp [stL, stL2, lv_args, Value.category]) ?_
        refine V_iload (v := Int32.ofInt ((m : Int))) mi_52_41 (by simp [stL, stL2, lv_args, Value.category]) ?_
        refine V_cO (As := [.ref (ad 4), .ref (ad 39), .int (Int32.ofInt ((j : Int))), .int (Int32.ofInt ((m : Int)))]) (st := []) mi_52_42 (by omega) (by decide +kernel) (by decide +kernel) (by omega) g47o hG (nwx_ct (z := z) (n := m) (j := j) hG hX hg h hB eS (by omega) ez (by omega)) (by omega) (show 4 = mN 118 by decide +kernel) (by simp [Value.category]) ?_
        rintro r w2 ⟨⟨G2, O2⟩, e2⟩
        rw [e2]
        exact V_retI mi_52_45 (fun h => absurd h (by decide +kernel)) ⟨⟨G2, O2⟩, by unfold spV; rw [if_pos (show 1 ≤ (m : Int) ∧ (m : Int) ≤ 6 from ⟨q1, q2⟩), if_pos k0.1, Int.toNat_natCast, Int.toNat_natCast, ez, Int.toNat_natCast]⟩
      · refine V_iload (v := Int32.ofInt (wfrV G sz nm s)) mi_52_24 (by simp [stL, stL2, lv_args, Value.category]) ?_
        refine V_goto mi_52_25 ?_
        exact V_retI mi_52_45 (fun h => absurd h (by decide +kernel)) ⟨⟨hG, fun _ _ _ _ => rfl⟩, by unfold spV; rw [if_pos (by omega), if_neg q3]⟩
    · refine V_ipush mi_52_11 ?_
      exact V_retI mi_52_13 (fun h => absurd h (by decide +kernel)) ⟨⟨hG, fun _ _ _ _ => rfl⟩, by unfold spV; rw [if_neg (by omega)]⟩
theorem wf0_ct {G : Nat → Int} (hG : GOK ad tys GG ws) (hW : W91 G ws) (hg : HB G) {s : Int} (sI : I32 s) : CT l D tys A 305 2 0 0 [.ref (ad 90), .int (Int32.ofInt (s)), .int (Int32.ofInt (0))] ws (fun r w => w = ws ∧ r = some (.int (Int32.ofInt (-2)))) := by
  refine CT_of_V (by omega) (show (3 : Nat) ≤ mML 305 by decide +kernel) ?_
  refine V_iload (v := Int32.ofInt (s)) mi_305_0 (by simp [stL, stL2, lv_args, Value.category]) ?_
  refine V_stat (As := [.int (Int32.ofInt (s))]) (st := []) mi_305_1 (by omega) (isl_ct sI) (by omega) (show 1 = mN 336 by decide +kernel) (by simp [Value.category]) ⟨Nat.le_refl _, Nat.le_refl _⟩ ?_
  rintro r w1 ⟨rfl, rfl⟩
  refine V_beq mi_305_4  (fun c1 => ?_) (fun c1 => ?_)
  · refine V_ipush mi_305_18 ?_
    exact V_retI mi_305_20 (fun h => absurd h (by decide +kernel)) ⟨rfl, rfl⟩
  · refine V_aload (v := ad 90) mi_305_7 (by simp [stL, stL2, lv_args, Value.category]) ?_
    refine V_callM (As := []) (st := []) mi_305_8 (by omega) (by decide +kernel) (by decide +kernel) hG (mth_ct hG hW hg) (by omega) (show 0 = mN 198 by decide +kernel) (by simp [Value.category]) ?_
    rintro r w2 ⟨rfl, rfl⟩
    refine V_beq mi_305_11  (fun c2 => ?_) (fun c2 => ?_)
    · refine V_ipush mi_305_18 ?_
      exact V_retI mi_305_20 (fun h => absurd h (by decide +kernel)) ⟨rfl, rfl⟩
    · refine V_iload (v := Int32.ofInt (0)) mi_305_14 (by simp [stL, stL2, lv_args, Value.category]) ?_
      refine V_zne mi_305_15 ⟨by omega, by omega⟩ (fun q9 => ?_) (fun q9 => ?_)
      · exact absurd rfl q9
      · refine V_ipush mi_305_18 ?_
        exact V_retI mi_305_20 (fun h => absurd h (by decide +kernel)) ⟨rfl, rfl⟩
theorem smB_s {b : Nat → Bool} {n : Nat} : smN (fun c => if b c = true then 1 else 0) (n + 1) = smN (fun c => if b c = true then 1 else 0) n + (if b n = true then 1 else 0) := rfl
theorem sp_eq {G : Nat → Int} {nm : Nat → Int64} {S n j z : Nat} (n6 : n ≤ 6) : smN (fun c => if stB (gcN G S n c) nm j z 0 = true then 1 else 0) (S ^ n) = if (n : Int) < (z : Int) then 0 else wyN (nv nm j) S z n z := by
  by_cases h : (n : Int) < (z : Int)
  · rw [if_pos h, smN_cg (b := fun _ => 0) _ (fun c _ => if_neg (fun k => by
      obtain ⟨t, ht, _⟩ := (st_B n6).mp k
      omega))]
    exact smN_0 _
  · rw [if_neg h]
    refine smN_cg _ (fun c _ => ?_)
    by_cases k : sttC (nv nm j) S z n c = z
    · rw [if_pos k, if_pos ((st_B n6).mpr (st_occ.mp k))]
    · rw [if_neg k, if_neg (fun q => k (st_occ.mpr ((st_B n6).mp q)))]
theorem spc_l {G : Nat → Int} {S n c : Nat} {w : va_W} (h : SPC S n c w) (n6 : n ≤ 6) : SPL (gcN G S n c) 0 w := by
  refine ⟨?_, fun i hi => ?_⟩
  · rw [gc_6]
    exact h.1
  · rw [gc_6] at hi
    rw [gc_7 (by omega)]
    exact h.2 i (by omega)
theorem spm_27 {G : Nat → Int} {sz wds : Nat → Int} {nm : Nat → Int64} {w0 : va_W} (hW0 : W91 G w0) (hg : HB G) (h0 : SLM sz wds nm w0) (hB : SLB sz wds nm) {S n j : Nat} (eS : G 0 = (S : Int)) (hj : j < 4) (z0 : 0 ≤ sz j) (n1 : 1 ≤ n) (n6 : n ≤ 6) {post : Option Value → va_W → Prop} : ∀ (k c : Nat) (ws : va_W), c + k = S ^ n → GOK ad tys GG ws → O5M w0 ws → (∀ w : va_W, GOK ad tys GG w → O5M w0 w → post (some (.int (Int32.ofInt (smN (fun c => if stB (gcN G S n c) nm j (sz j).toNat 0 = true then 1 else 0) (S ^ n))))) w) → V l D tys A 311 3 0 0 post 0 0 27 [(0, .ref (ad 90)), (1, .int (Int32.ofInt ((j : Int)))), (2, .int (Int32.ofInt ((n : Int)))), (4, .int (Int32.ofInt (smN (fun c => if stB (gcN G S n c) nm j (sz j).toNat 0 = true then 1 else 0) c))), (5, .int (Int32.ofInt ((c : Int))))] [] ws
  | 0, c, ws, hc0, hG, hO, kk => by
    have hW : W91 G ws := fun j hj => (hO 91 j (by omega) (by omega)).trans (hW0 j hj)
    have hS_ : SLM sz wds nm ws := fun k hk => ⟨(hO _ _ (by omega) (by omega)).trans (h0 k hk).1, (hO _ _ (by omega) (by omega)).trans (h0 k hk).2.1, fun i hi => (hO _ _ (by omega) (by omega)).trans ((h0 k hk).2.2 i hi)⟩
    have b0 := hg.b0
    have pw := pow_6 (S := S) (n := n) (by omega) n6
    refine V_iload (v := Int32.ofInt ((c : Int))) mi_311_27 (by simp [stL, stL2, lv_args, Value.category]) ?_
    refine V_aload (v := ad 90) mi_311_29 (by simp [stL, stL2, lv_args, Value.category]) ?_
    refine V_iload (v := Int32.ofInt ((n : Int))) mi_311_30 (by simp [stL, stL2, lv_args, Value.category]) ?_
    refine V_callM (As := [.int (Int32.ofInt ((n : Int)))]) (st := [.int (Int32.ofInt ((c : Int)))]) mi_311_31 (by omega) (by decide +kernel) (by decide +kernel) hG (nmm_ct (S := S) (n := n) hG hW hg eS n6) (by omega) (show 1 = mN 309 by decide +kernel) (by simp [Value.category]) ?_
    rintro r w1 ⟨e1, rfl⟩
    rw [e1]
    refine V_cge mi_311_34 ⟨by omega, by omega⟩ ⟨by omega, by omega⟩ (fun q => ?_) (fun q => ?_)
    · refine V_iload (v := Int32.ofInt (smN (fun c => if stB (gcN G S n c) nm j (sz j).toNat 0 = true then 1 else 0) c)) mi_311_68 (by simp [stL, stL2, lv_args, Value.category]) ?_
      exact V_retI mi_311_70 (fun h => absurd h (by decide +kernel)) (by rw [show c = S ^ n by omega]; exact kk ws hG hO)
    · exact absurd q (by omega)
  | k + 1, c, ws, hc0, hG, hO, kk => by
    have hW : W91 G ws := fun j hj => (hO 91 j (by omega) (by omega)).trans (hW0 j hj)
    have hS_ : SLM sz wds nm ws := fun k hk => ⟨(hO _ _ (by omega) (by omega)).trans (h0 k hk).1, (hO _ _ (by omega) (by omega)).trans (h0 k hk).2.1, fun i hi => (hO _ _ (by omega) (by omega)).trans ((h0 k hk).2.2 i hi)⟩
    have b0 := hg.b0
    have pw := pow_6 (S := S) (n := n) (by omega) n6
    refine V_iload (v := Int32.ofInt ((c : Int))) mi_311_27 (by simp [stL, stL2, lv_args, Value.category]) ?_
    refine V_aload (v := ad 90) mi_311_29 (by simp [stL, stL2, lv_args, Value.category]) ?_
    refine V_iload (v := Int32.ofInt ((n : Int))) mi_311_30 (by simp [stL, stL2, lv_args, Value.category]) ?_
    refine V_callM (As := [.int (Int32.ofInt ((n : Int)))]) (st := [.int (Int32.ofInt ((c : Int)))]) mi_311_31 (by omega) (by decide +kernel) (by decide +kernel) hG (nmm_ct (S := S) (n := n) hG hW hg eS n6) (by omega) (show 1 = mN 309 by decide +kernel) (by simp [Value.category]) ?_
    rintro r w1 ⟨e1, rfl⟩
    rw [e1]
    refine V_cge mi_311_34 ⟨by omega, by omega⟩ ⟨by omega, by omega⟩ (fun q => ?_) (fun q => ?_)
    · exact absurd q (by omega)
    · have hS : 0 < S := by
        rcases Nat.eq_zero_or_pos S with e | e
        · rw [e, Nat.zero_pow (n := n) (by omega)] at q
          omega
        · exact e
      have hc : c < S ^ n := by omega
      refine V_aload (v := ad 90) mi_311_37 (by simp [stL, stL2, lv_args, Value.category]) ?_
      refine V_iload (v := Int32.ofInt ((c : Int))) mi_311_38 (by simp [stL, stL2, lv_args, Value.category]) ?_
      refine V_iload (v := Int32.ofInt ((n : Int))) mi_311_40 (by simp [stL, stL2, lv_args, Value.category]) ?_
      refine V_callM (As := [.int (Int32.ofInt ((c : Int))), .int (Int32.ofInt ((n : Int)))]) (st := []) mi_311_41 (by omega) (by decide +kernel) (by decide +kernel) hG (spc_ct (S := S) (n := n) (c := c) hG hW hg eS hS (by omega) n6 (by omega)) (by omega) (show 2 = mN 310 by decide +kernel) (by simp [Value.category]) ?_
      rintro r w2 ⟨rfl, G2, o2, P2⟩
      have O2 : O5M w0 w2 := fun c j h1 h2 => (o2 c j h1 h2).trans (hO c j h1 h2)
      have S2 : SLM sz wds nm w2 := fun k hk => ⟨(O2 _ _ (by omega) (by omega)).trans (h0 k hk).1, (O2 _ _ (by omega) (by omega)).trans (h0 k hk).2.1, fun i hi => (O2 _ _ (by omega) (by omega)).trans ((h0 k hk).2.2 i hi)⟩
      refine V_iload (v := Int32.ofInt (smN (fun c => if stB (gcN G S n c) nm j (sz j).toNat 0 = true then 1 else 0) c)) mi_311_44 (by simp [stL, stL2, lv_args, Value.category]) ?_
      refine V_aload (v := ad 90) mi_311_46 (by simp [stL, stL2, lv_args, Value.category]) ?_
      refine V_iload (v := Int32.ofInt ((j : Int))) mi_311_47 (by simp [stL, stL2, lv_args, Value.category]) ?_
      refine V_callM (As := [.int (Int32.ofInt ((j : Int)))]) (st := [.int (Int32.ofInt (smN (fun c => if stB (gcN G S n c) nm j (sz j).toNat 0 = true then 1 else 0) c))]) mi_311_48 (by omega) (by decide +kernel) (by decide +kernel) G2 (stM_ct (G := gcN G S n c) (f := 0) G2 (gc_hb hg hS (by omega) n6) S2 hB hj (by omega) (spc_l P2 n6) z0) (by omega) (show 1 = mN 307 by decide +kernel) (by simp [Value.category]) ?_
      rintro r w3 ⟨e3, rfl⟩
      rw [e3]
      refine V_beq mi_311_51  (fun c2 => ?_) (fun c2 => ?_)
      · refine V_ipush mi_311_58 ?_
        refine V_ibin mi_311_59 (by omega) ?_
        rw [ib0]
        rw [show smN (fun c => if stB (gcN G S n c) nm j (sz j).toNat 0 = true then 1 else 0) c + 0 = smN (fun c => if stB (gcN G S n c) nm j (sz j).toNat 0 = true then 1 else 0) (c + 1) by rw [smB_s (b := fun c => stB (gcN G S n c) nm j (sz j).toNat 0), if_neg (by rw [ c2]; exact Bool.false_ne_true)]]
        refine V_istore mi_311_60 ?_
        refine V_iinc (v := Int32.ofInt ((c : Int))) mi_311_62 (by simp [stL, stL2, lv_args, Value.category]) ?_
        rw [ia2]
        refine V_goto mi_311_65 ?_
        refine V_sub (lv' := [(0, .ref (ad 90)), (1, .int (Int32.ofInt ((j : Int)))), (2, .int (Int32.ofInt ((n : Int)))), (4, .int (Int32.ofInt (smN (fun c => if stB (gcN G S n c) nm j (sz j).toNat 0 = true then 1 else 0) (c + 1)))), (5, .int (Int32.ofInt (((c + 1 : Nat) : Int))))]) (fun q hq => ?_) ?_
        · simp only [List.mem_cons, List.not_mem_nil, or_false] at hq
          rcases hq with rfl | rfl | rfl | rfl | rfl <;> simp [stL, stL2, lv_args, Value.category]
        exact spm_27 hW0 hg h0 hB eS hj z0 n1 n6 k (c + 1) w2 (by omega) G2 O2 kk
      · refine V_ipush mi_311_54 ?_
        refine V_goto mi_311_55 ?_
        refine V_ibin mi_311_59 (by omega) ?_
        rw [ib0]
        rw [show smN (fun c => if stB (gcN G S n c) nm j (sz j).toNat 0 = true then 1 else 0) c + 1 = smN (fun c => if stB (gcN G S n c) nm j (sz j).toNat 0 = true then 1 else 0) (c + 1) by rw [smB_s (b := fun c => stB (gcN G S n c) nm j (sz j).toNat 0), if_pos c2]]
        refine V_istore mi_311_60 ?_
        refine V_iinc (v := Int32.ofInt ((c : Int))) mi_311_62 (by simp [stL, stL2, lv_args, Value.category]) ?_
        rw [ia2]
        refine V_goto mi_311_65 ?_
        refine V_sub (lv' := [(0, .ref (ad 90)), (1, .int (Int32.ofInt ((j : Int)))), (2, .int (Int32.ofInt ((n : Int)))), (4, .int (Int32.ofInt (smN (fun c => if stB (gcN G S n c) nm j (sz j).toNat 0 = true then 1 else 0) (c + 1)))), (5, .int (Int32.ofInt (((c + 1 : Nat) : Int))))]) (fun q hq => ?_) ?_
        · simp only [List.mem_cons, List.not_mem_nil, or_false] at hq
          rcases hq with rfl | rfl | rfl | rfl | rfl <;> simp [stL, stL2, lv_args, Value.category]
        exact spm_27 hW0 hg h0 hB eS hj z0 n1 n6 k (c + 1) w2 (by omega) G2 O2 kk
theorem spM_ct {G : Nat → Int} {sz wds : Nat → Int} {nm : Nat → Int64} (hG : GOK ad tys GG ws) (hW : W91 G ws) (hg : HB G) (h : SLM sz wds nm ws) (hB : SLB sz wds nm) {s n : Int} (sI : I32 s) (nI : I32 n) {S : Nat} (eS : G 0 = (S : Int)) : CT l D tys A 311 3 0 0 [.ref (ad 90), .int (Int32.ofInt (s)), .int (Int32.ofInt (n))] ws (fun r w => (GOK ad tys GG w ∧ O5M ws w) ∧ r = some (.int (Int32.ofInt (spV G sz nm s n S)))) := by
  refine CT_of_V (by omega) (show (3 : Nat) ≤ mML 311 by decide +kernel) ?_
  have n1 := nI.1
  have n2 := nI.2
  have wc := wfrV_c G sz nm s
  refine V_aload (v := ad 90) mi_311_0 (by simp [stL, stL2, lv_args, Value.category]) ?_
  refine V_iload (v := Int32.ofInt (s)) mi_311_1 (by simp [stL, stL2, lv_args, Value.category]) ?_
  refine V_iload (v := Int32.ofInt (n)) mi_311_2 (by simp [stL, stL2, lv_args, Value.category]) ?_
  refine V_i2l mi_311_3 ?_
  rw [i2lx ⟨by omega, by omega⟩]
  refine V_lpush mi_311_4 ?_
  refine V_lpush mi_311_5 ?_
  refine V_stat (As := [.long (Int64.ofInt (n)), .long (Int64.ofInt (1)), .long (Int64.ofInt (6))]) (st := [.int (Int32.ofInt (s)), .ref (ad 90)]) mi_311_8 (by omega) (inM2 (m := n) (lo := 1) (hi := 6) (by omega) (by omega) (by omega) (by omega) (by omega) (by omega)) (by omega) (show 3 = mN 193 by decide +kernel) (by simp [Value.category]) ⟨Nat.le_refl _, Nat.le_refl _⟩ ?_
  rintro r w1 ⟨rfl, rfl⟩
  by_cases c : 1 ≤ n ∧ n ≤ 6
  · rw [decide_eq_true c]
    change V _ _ _ _ _ _ _ _ _ _ _ _ _ (.int (Int32.ofInt 1) :: _) _
    refine V_callM (As := [.int (Int32.ofInt (s)), .int (Int32.ofInt (1))]) (st := []) mi_311_11 (by omega) (by decide +kernel) (by decide +kernel) hG (wfM_ct hG hW hg h hB sI) (by omega) (show 2 = mN 305 by decide +kernel) (by simp [Value.category]) ?_
    rintro r w2 ⟨rfl, rfl⟩
    refine V_istore mi_311_14 ?_
    refine V_iload (v := Int32.ofInt (wfrV G sz nm s)) mi_311_15 (by simp [stL, stL2, lv_args, Value.category]) ?_
    refine V_zge mi_311_16 ⟨by omega, by omega⟩ (fun q2 => ?_) (fun q2 => ?_)
    · have k0 : wfrV G sz nm s = 0 ∧ (0 ≤ s ∧ s < 4) ∧ 0 ≤ sz s.toNat := by
        rcases wc with e | e | e
        · exact absurd q2 (by omega)
        · exact absurd q2 (by omega)
        · exact e
      obtain ⟨j, rfl⟩ := Int.eq_ofNat_of_zero_le k0.2.1.1
      obtain ⟨m, rfl⟩ := Int.eq_ofNat_of_zero_le (show 0 ≤ n by omega)
      have k2 : 0 ≤ sz j := k0.2.2
      obtain ⟨z, ez⟩ := Int.eq_ofNat_of_zero_le k2
      have zz : (sz j).toNat = z := by omega
      refine V_ipush mi_311_21 ?_
      refine V_istore mi_311_22 ?_
      refine V_ipush mi_311_24 ?_
      refine V_istore mi_311_25 ?_
      refine V_sub (lv' := [(0, .ref (ad 90)), (1, .int (Int32.ofInt ((j : Int)))), (2, .int (Int32.ofInt ((m : Int)))), (4, .int (Int32.ofInt (smN (fun c => if stB (gcN G S m c) nm j (sz j).toNat 0 = true then 1 else 0) 0))), (5, .int (Int32.ofInt (((0 : Nat) : Int))))]) (fun q hq => ?_) ?_
      · simp only [List.mem_cons, List.not_mem_nil, or_false] at hq
        rcases hq with rfl | rfl | rfl | rfl | rfl <;> simp [stL, stL2, lv_args, Value.category, smN]
      exact spm_27 (n := m) hW hg h hB eS (by omega) k2 (by omega) (by omega) (S ^ m) 0 _ (by omega) hG (fun _ _ _ _ => rfl) (fun w g o => ⟨⟨g, o⟩, by unfold spV; rw [if_pos c, if_pos k0.1, Int.toNat_natCast, Int.toNat_natCast, zz, sp_eq (by omega), ez]⟩)
    · refine V_iload (v := Int32.ofInt (wfrV G sz nm s)) mi_311_19 (by simp [stL, stL2, lv_args, Value.category]) ?_
      exact V_retI mi_311_20 (fun h => absurd h (by decide +kernel)) ⟨⟨hG, fun _ _ _ _ => rfl⟩, by unfold spV; rw [if_pos c, if_neg (by omega)]⟩
  · rw [decide_eq_false c]
    change V _ _ _ _ _ _ _ _ _ _ _ _ _ (.int (Int32.ofInt 0) :: _) _
    refine V_callM (As := [.int (Int32.ofInt (s)), .int (Int32.ofInt (0))]) (st := []) mi_311_11 (by omega) (by decide +kernel) (by decide +kernel) hG (wf0_ct hG hW hg sI) (by omega) (show 2 = mN 305 by decide +kernel) (by simp [Value.category]) ?_
    rintro r w2 ⟨rfl, rfl⟩
    refine V_istore mi_311_14 ?_
    refine V_iload (v := Int32.ofInt ((-2))) mi_311_15 (by simp [stL, stL2, lv_args, Value.category]) ?_
    refine V_zge mi_311_16 ⟨by omega, by omega⟩ (fun q2 => ?_) (fun q2 => ?_)
    · exact absurd q2 (by omega)
    · refine V_iload (v := Int32.ofInt ((-2))) mi_311_19 (by simp [stL, stL2, lv_args, Value.category]) ?_
      exact V_retI mi_311_20 (fun h => absurd h (by decide +kernel)) ⟨⟨hG, fun _ _ _ _ => rfl⟩, by unfold spV; rw [if_neg c]⟩
theorem pairV_spellings (hAD : ∀ i : Nat, ad (1000 + i) = D.2 1000 i) (hG : GOK ad tys GG ws) (hR : RELV ws) (a1 a2 : Int32) : PAIRV l D tys A ad 52 311 [.ref (ad 0), .int a1, .int a2] [.ref (ad 90), .int a1, .int a2] ws := by
  obtain ⟨G, o, x, y⟩ := hR.1.2.1
  have hg := hb_of hG y o
  obtain ⟨sz, wds, nm, hX, hM, hB⟩ := hR.2
  obtain ⟨S, eS⟩ := Int.eq_ofNat_of_zero_le hg.b0.1
  have c1 := spX_ct (l := l) (D := D) (A := A) hG x hg hX hB (i32b a1) (i32b a2) eS
  have c2 := fun (w : va_W) (hw : GOK ad tys GG w) (K : OWY ws w) => spM_ct (l := l) (D := D) (A := A) hw (fun j hj => (K 91 j (by omega) (by omega)).trans (y j hj)) hg (fun k hk => ⟨(K _ _ (by omega) (by omega)).trans (hM k hk).1, (K _ _ (by omega) (by omega)).trans (hM k hk).2.1, fun i hi => (K _ _ (by omega) (by omega)).trans ((hM k hk).2.2 i hi)⟩) hB (i32b a1) (i32b a2) eS
  simp only [oi] at c1 c2
  refine ⟨_, fun w => OWY ws w, ⟨5, by omega, CT_post c1 (fun r w h => ⟨h.2, h.1.1, h.1.2⟩)⟩, fun w hw K => ⟨3, by omega, CT_post (c2 w hw K) (fun r w2 h => ?_)⟩⟩
  obtain ⟨⟨g, o⟩, e⟩ := h
  have oo : ∀ c j, c ≠ 48 → c ≠ 49 → c ≠ 105 → ¬ (c = 90 ∧ j = 30) → rd w2 c j = rd ws c j := fun c j h3 h4 h5 h6 => (o c j h5 h6).trans (K c j h3 h4)
  exact ⟨e, g, relv_keep hR (fun c hc j => oo c j (by omega) (by omega) (by omega) (by omega)) (fun j hj => oo 90 j (by omega) (by omega) (by omega) (fun q => by
      obtain ⟨-, q⟩ := q
      subst q
      exact absurd hj (by unfold spK; decide)))⟩
end XYC
