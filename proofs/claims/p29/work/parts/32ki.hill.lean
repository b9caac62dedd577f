section XHL
variable {l : Launch} {D : va_G} {tys : List (ClassId × FieldType)} {A : Nat → Prop} {ad : Nat → Nat} {ws : va_W}
theorem g0o : gO 0 10 13 := ⟨_, rfl⟩
theorem g4o : gO 4 2 17 := ⟨_, rfl⟩
theorem g0r0 : gOr 0 10 13 0 1 := ⟨_, rfl, by decide +kernel⟩
theorem g0r1 : gOr 0 10 13 1 2 := ⟨_, rfl, by decide +kernel⟩
theorem g0r2 : gOr 0 10 13 2 4 := ⟨_, rfl, by decide +kernel⟩
theorem g0r3 : gOr 0 10 13 3 16 := ⟨_, rfl, by decide +kernel⟩
theorem g2f1 : gOf 2 9 6 1 0 1400 := ⟨_, rfl, by decide +kernel⟩
theorem g4r6 : gOr 4 2 17 6 5 := ⟨_, rfl, by decide +kernel⟩
theorem g4r7 : gOr 4 2 17 7 6 := ⟨_, rfl, by decide +kernel⟩
theorem g4r8 : gOr 4 2 17 8 7 := ⟨_, rfl, by decide +kernel⟩
theorem g4r9 : gOr 4 2 17 9 8 := ⟨_, rfl, by decide +kernel⟩
theorem g4r10 : gOr 4 2 17 10 9 := ⟨_, rfl, by decide +kernel⟩
theorem g4r11 : gOr 4 2 17 11 10 := ⟨_, rfl, by decide +kernel⟩
theorem g4r12 : gOr 4 2 17 12 11 := ⟨_, rfl, by decide +kernel⟩
theorem g4r13 : gOr 4 2 17 13 12 := ⟨_, rfl, by decide +kernel⟩
theorem g4r14 : gOr 4 2 17 14 13 := ⟨_, rfl, by decide +kernel⟩
theorem g4r15 : gOr 4 2 17 15 14 := ⟨_, rfl, by decide +kernel⟩
theorem g4r16 : gOr 4 2 17 16 15 := ⟨_, rfl, by decide +kernel⟩
theorem g4f0 : gOf 4 2 17 0 (-2147483648) 2147483647 := ⟨_, rfl, by decide +kernel⟩
theorem g4f1 : gOf 4 2 17 1 (0) 9 := ⟨_, rfl, by decide +kernel⟩
theorem g4f2 : gOf 4 2 17 2 (0) 4 := ⟨_, rfl, by decide +kernel⟩
theorem g4f3 : gOf 4 2 17 3 (0) 24 := ⟨_, rfl, by decide +kernel⟩
theorem g4f4 : gOf 4 2 17 4 (0) 6 := ⟨_, rfl, by decide +kernel⟩
theorem g4f5 : gOf 4 2 17 5 (0) 12 := ⟨_, rfl, by decide +kernel⟩
theorem a5 : gA 5 6 0 7 := gA_of rfl
theorem a6 : gA 6 36 (-2147483648) 2147483647 := gA_of rfl
theorem a7 : gA 7 6 (-2147483648) 2147483647 := gA_of rfl
theorem a8 : gA 8 6 (-2147483648) 2147483647 := gA_of rfl
theorem a9 : gA 9 6 (-2147483648) 2147483647 := gA_of rfl
theorem a10 : gA 10 144 (-2147483648) 2147483647 := gA_of rfl
theorem a11 : gA 11 36 (-2147483648) 2147483647 := gA_of rfl
theorem a12 : gA 12 12 (-2147483648) 2147483647 := gA_of rfl
theorem a13 : gA 13 12 (-2147483648) 2147483647 := gA_of rfl
theorem a14 : gA 14 12 (-2147483648) 2147483647 := gA_of rfl
theorem a15 : gA 15 12 (-2147483648) 2147483647 := gA_of rfl
/-- how many places each cell of a hill has -/
noncomputable def hxN (k : Nat) : Nat := [6, 6, 36, 6, 6, 6, 144, 36, 12, 12, 12, 12].getD k 0
theorem hxN_all : (List.range 12).all (fun k => (List.range (hxN k)).all (fun i => decide (hxC (hxJ k i) = k) && decide (hxI (hxJ k i) = i) && decide (hxJ k i < 294) && (decide (k = 6) == (decide (102 ≤ hxJ k i) && decide (hxJ k i < 246))))) = true := by decide +kernel
theorem hxN_k {k i : Nat} (hk : k < 12) (hi : i < hxN k) : hxC (hxJ k i) = k ∧ hxI (hxJ k i) = i ∧ hxJ k i < 294 ∧ (k = 6 ↔ (102 ≤ hxJ k i ∧ hxJ k i < 246)) := by
  have h := List.all_eq_true.mp (List.all_eq_true.mp hxN_all k (List.mem_range.mpr hk)) i (List.mem_range.mpr hi)
  simp only [Bool.and_eq_true, decide_eq_true_eq, beq_iff_eq] at h
  obtain ⟨⟨⟨h1, h2⟩, h3⟩, h4⟩ := h
  refine ⟨h1, h2, h3, ?_⟩
  rw [← Bool.decide_and, decide_eq_decide] at h4
  exact h4
theorem hxN_j : (List.range 294).all (fun j => decide (hxI j < hxN (hxC j))) = true := by decide +kernel
/-- the first m cells of a hill -/
noncomputable def HY (c m : Nat) (g : Nat → Int) (w : va_W) : Prop := ∀ k, k < m → ∀ i, i < hxN k → rd w (c + k) i = some (.int (Int32.ofInt (g (hxJ k i))))
theorem HX_HY {c : Nat} {g : Nat → Int} {w : va_W} (h : HX c g w) : HY c 12 g w := fun k hk i hi => by
  obtain ⟨e1, e2, e3, -⟩ := hxN_k hk hi
  have q := h _ e3
  rw [e1, e2] at q
  exact q
theorem HY_HX {c : Nat} {g : Nat → Int} {w : va_W} (h : HY c 12 g w) : HX c g w := fun j hj => by
  obtain ⟨e1, e2⟩ := hxJ_j hj
  have q := of_decide_eq_true (List.all_eq_true.mp hxN_j j (List.mem_range.mpr hj))
  have r := h _ e2 _ q
  rw [e1] at r
  exact r
theorem HY_step {c m : Nat} {g : Nat → Int} {w w' : va_W} (h : HY c m g w) (o : ∀ c' i, c' ≠ c + m → rd w' c' i = rd w c' i) (d : ∀ i, i < hxN m → rd w' (c + m) i = some (.int (Int32.ofInt (g (hxJ m i))))) : HY c (m + 1) g w' := fun k hk i hi => by
  by_cases e : k = m
  · subst e
    exact d i hi
  · rw [o _ _ (by omega)]
    exact h k (by omega) i hi
theorem fill_2 {c n : Nat} {lo hi v : Int} {segs : List SG} (e : GG[c]? = some ((1, 0, n), segs)) (hs : ∀ j, j < n → segAt segs j = some (0, lo, hi)) (hn : n ≤ 100000) (vI : I32 v) (b1 : lo ≤ v) (b2 : v ≤ hi) : ∀ (m k : Nat) (w : va_W), k + m = n → GOK ad tys GG w → (∀ c' i, c' ≠ c → rd w c' i = rd ws c' i) → (∀ j, j < k → rd w c j = some (.int (Int32.ofInt v))) → V l D tys A 149 0 0 0 (fun r w => r = none ∧ GOK ad tys GG w ∧ (∀ c' i, c' ≠ c → rd w c' i = rd ws c' i) ∧ (∀ j : Nat, j < n → rd w c j = some (.int (Int32.ofInt v)))) 0 0 2 [(0, .ref (ad c)), (1, .int (Int32.ofInt v)), (2, .int (Int32.ofInt (k : Int)))] [] w
  | 0, k, w, hm, hG, ho, hd => by
    refine V_iload (v := Int32.ofInt ((k : Int))) mi_149_2 (by simp [stL, lv_args, Value.category]) ?_
    refine V_aload (v := ad c) mi_149_3 (by simp [stL, lv_args, Value.category]) ?_
    refine V_lenA mi_149_4 hG e ?_
    refine V_cge mi_149_5 ⟨by omega, by omega⟩ ⟨by omega, by omega⟩ (fun q => ?_) (fun q => ?_)
    · exact V_retV mi_149_18 ⟨rfl, hG, ho, fun j hj => hd j (by omega)⟩
    · exact absurd q (by omega)
  | m + 1, k, w, hm, hG, ho, hd => by
    refine V_iload (v := Int32.ofInt ((k : Int))) mi_149_2 (by simp [stL, lv_args, Value.category]) ?_
    refine V_aload (v := ad c) mi_149_3 (by simp [stL, lv_args, Value.category]) ?_
    refine V_lenA mi_149_4 hG e ?_
    refine V_cge mi_149_5 ⟨by omega, by omega⟩ ⟨by omega, by omega⟩ (fun q => ?_) (fun q => ?_)
    · exact absurd q (by omega)
    · refine V_aload (v := ad c) mi_149_8 (by simp [stL, lv_args, Value.category]) ?_
      refine V_iload (v := Int32.ofInt ((k : Int))) mi_149_9 (by simp [stL, lv_args, Value.category]) ?_
      refine V_iload (v := Int32.ofInt (v)) mi_149_10 (by simp [stL, lv_args, Value.category]) ?_
      refine V_astX (j := k) mi_149_11 rfl hG e (by omega) (by omega) (hs k (by omega)) (by rw [Int32.toInt_ofInt_of_le (by omega) (by omega)]; omega) (by rw [Int32.toInt_ofInt_of_le (by omega) (by omega)]; omega) (fun w2 G2 U => ?_)
      refine V_iinc (v := Int32.ofInt ((k : Int))) mi_149_12 (by simp [stL, lv_args, Value.category]) ?_
      rw [ia2]
      refine V_goto mi_149_15 ?_
      refine V_sub (lv' := [(0, .ref (ad c)), (1, .int (Int32.ofInt v)), (2, .int (Int32.ofInt ((k + 1 : Nat) : Int)))]) (fun q hq => ?_) ?_
      · simp only [List.mem_cons, List.not_mem_nil, or_false] at hq
        rcases hq with rfl | rfl | rfl <;> simp [stL, lv_args, Value.category]
      · refine fill_2 e hs hn vI b1 b2 m (k + 1) w2 (by omega) G2 (fun c' i hc => (upd_ne U (fun e => hc e.1)).trans (ho c' i hc)) (fun j hj => ?_)
        by_cases ej : j = k
        · subst ej
          exact upd_eq U
        · exact (upd_ne U (fun q => ej q.2)).trans (hd j (by omega))
theorem fill_ct {c n : Nat} {lo hi v : Int} (hg : gA c n lo hi) (hG : GOK ad tys GG ws) (hn : n ≤ 100000) (vI : I32 v) (b1 : lo ≤ v) (b2 : v ≤ hi) : CT l D tys A 149 0 0 0 [.ref (ad c), .int (Int32.ofInt v)] ws (fun r w => r = none ∧ GOK ad tys GG w ∧ (∀ c' i, c' ≠ c → rd w c' i = rd ws c' i) ∧ (∀ j : Nat, j < n → rd w c j = some (.int (Int32.ofInt v)))) := by
  obtain ⟨segs, e, hs⟩ := hg
  refine CT_of_V (by omega) (show (2 : Nat) ≤ mML 149 by decide +kernel) ?_
  refine V_ipush mi_149_0 ?_
  refine V_istore mi_149_1 ?_
  refine V_sub (lv' := [(0, .ref (ad c)), (1, .int (Int32.ofInt v)), (2, .int (Int32.ofInt ((0 : Nat) : Int)))]) (fun q hq => ?_) (fill_2 e hs hn vI b1 b2 n 0 ws (by omega) hG (fun _ _ _ => rfl) (fun j hj => by omega))
  simp only [List.mem_cons, List.not_mem_nil, or_false] at hq
  rcases hq with rfl | rfl | rfl <;> simp [stL, lv_args, Value.category]
theorem copy_2 {c c2 n : Nat} {lo hi : Int} {segs segs2 : List SG} (e : GG[c]? = some ((1, 0, n), segs)) (e2 : GG[c2]? = some ((1, 0, n), segs2)) (hs : ∀ j, j < n → segAt segs j = some (0, lo, hi)) (hs2 : ∀ j, j < n → segAt segs2 j = some (0, lo, hi)) (hn : n ≤ 100000) (hc : c ≠ c2) (lI : I32 lo) (hI : I32 hi) : ∀ (m k : Nat) (w : va_W), k + m = n → GOK ad tys GG w → (∀ c' i, c' ≠ c2 → rd w c' i = rd ws c' i) → (∀ j, j < k → rd w c2 j = rd ws c j) → V l D tys A 150 0 0 0 (fun r w => r = none ∧ GOK ad tys GG w ∧ (∀ c' i, c' ≠ c2 → rd w c' i = rd ws c' i) ∧ (∀ j : Nat, j < n → rd w c2 j = rd ws c j)) 0 0 2 [(0, .ref (ad c)), (1, .ref (ad c2)), (2, .int (Int32.ofInt (k : Int)))] [] w
  | 0, k, w, hm, hG, ho, hd => by
    refine V_iload (v := Int32.ofInt ((k : Int))) mi_150_2 (by simp [stL, lv_args, Value.category]) ?_
    refine V_aload (v := ad c) mi_150_3 (by simp [stL, lv_args, Value.category]) ?_
    refine V_lenA mi_150_4 hG e ?_
    refine V_cge mi_150_5 ⟨by omega, by omega⟩ ⟨by omega, by omega⟩ (fun q => ?_) (fun q => ?_)
    · exact V_retV mi_150_26 ⟨rfl, hG, ho, fun j hj => hd j (by omega)⟩
    · exact absurd q (by omega)
  | m + 1, k, w, hm, hG, ho, hd => by
    refine V_iload (v := Int32.ofInt ((k : Int))) mi_150_2 (by simp [stL, lv_args, Value.category]) ?_
    refine V_aload (v := ad c) mi_150_3 (by simp [stL, lv_args, Value.category]) ?_
    refine V_lenA mi_150_4 hG e ?_
    refine V_cge mi_150_5 ⟨by omega, by omega⟩ ⟨by omega, by omega⟩ (fun q => ?_) (fun q => ?_)
    · exact absurd q (by omega)
    · refine V_iload (v := Int32.ofInt ((k : Int))) mi_150_8 (by simp [stL, lv_args, Value.category]) ?_
      refine V_aload (v := ad c2) mi_150_9 (by simp [stL, lv_args, Value.category]) ?_
      refine V_lenA mi_150_10 hG e2 ?_
      refine V_cge mi_150_11 ⟨by omega, by omega⟩ ⟨by omega, by omega⟩ (fun q2 => ?_) (fun q2 => ?_)
      · exact absurd q2 (by omega)
      · refine V_aload (v := ad c2) mi_150_14 (by simp [stL, lv_args, Value.category]) ?_
        refine V_iload (v := Int32.ofInt ((k : Int))) mi_150_15 (by simp [stL, lv_args, Value.category]) ?_
        refine V_aload (v := ad c) mi_150_16 (by simp [stL, lv_args, Value.category]) ?_
        refine V_iload (v := Int32.ofInt ((k : Int))) mi_150_17 (by simp [stL, lv_args, Value.category]) ?_
        obtain ⟨z, hz, z0, z1⟩ := cel hG e (j := k) (by omega) (hs k (by omega))
        refine V_aldX (j := k) mi_150_18 rfl hG e (by omega) (by omega) hz ?_
        refine V_astX (j := k) mi_150_19 rfl hG e2 (by omega) (by omega) (hs2 k (by omega)) (by rw [Int32.toInt_ofInt_of_le (by omega) (by omega)]; omega) (by rw [Int32.toInt_ofInt_of_le (by omega) (by omega)]; omega) (fun w2 G2 U => ?_)
        refine V_iinc (v := Int32.ofInt ((k : Int))) mi_150_20 (by simp [stL, lv_args, Value.category]) ?_
        rw [ia2]
        refine V_goto mi_150_23 ?_
        refine V_sub (lv' := [(0, .ref (ad c)), (1, .ref (ad c2)), (2, .int (Int32.ofInt ((k + 1 : Nat) : Int)))]) (fun q hq => ?_) ?_
        · simp only [List.mem_cons, List.not_mem_nil, or_false] at hq
          rcases hq with rfl | rfl | rfl <;> simp [stL, lv_args, Value.category]
        · refine copy_2 e e2 hs hs2 hn hc lI hI m (k + 1) w2 (by omega) G2 (fun c' i hc => (upd_ne U (fun e => hc e.1)).trans (ho c' i hc)) (fun j hj => ?_)
          by_cases ej : j = k
          · subst ej
            rw [upd_eq U, ← ho c j hc, hz]
          · exact (upd_ne U (fun q => ej q.2)).trans (hd j (by omega))
theorem copy_ct {c c2 n : Nat} {lo hi : Int} (hg : gA c n lo hi) (hg2 : gA c2 n lo hi) (hG : GOK ad tys GG ws) (hn : n ≤ 100000) (hc : c ≠ c2) (lI : I32 lo) (hI : I32 hi) : CT l D tys A 150 0 0 0 [.ref (ad c), .ref (ad c2)] ws (fun r w => r = none ∧ GOK ad tys GG w ∧ (∀ c' i, c' ≠ c2 → rd w c' i = rd ws c' i) ∧ (∀ j : Nat, j < n → rd w c2 j = rd ws c j)) := by
  obtain ⟨segs, e, hs⟩ := hg
  obtain ⟨segs2, e2, hs2⟩ := hg2
  refine CT_of_V (by omega) (show (2 : Nat) ≤ mML 150 by decide +kernel) ?_
  refine V_ipush mi_150_0 ?_
  refine V_istore mi_150_1 ?_
  refine V_sub (lv' := [(0, .ref (ad c)), (1, .ref (ad c2)), (2, .int (Int32.ofInt ((0 : Nat) : Int)))]) (fun q hq => ?_) (copy_2 e e2 hs hs2 hn hc lI hI n 0 ws (by omega) hG (fun _ _ _ => rfl) (fun j hj => by omega))
  simp only [List.mem_cons, List.not_mem_nil, or_false] at hq
  rcases hq with rfl | rfl | rfl <;> simp [stL, lv_args, Value.category]
noncomputable def z0 : Nat → Int := fx (fun _ => 0) (fun _ => -1)
theorem z0_k {k i : Nat} (hk : k < 12) (hi : i < hxN k) : z0 (hxJ k i) = if k = 6 then -1 else 0 := by
  obtain ⟨-, -, -, e⟩ := hxN_k hk hi
  unfold z0 fx
  by_cases q : k = 6
  · rw [if_pos (e.mp q), if_pos q]
  · rw [if_neg (fun h => q (e.mpr h)), if_neg q]
theorem clr_ct (hG : GOK ad tys GG ws) : CT l D tys A 99 1 0 0 [.ref (ad 16)] ws (fun r w => r = none ∧ GOK ad tys GG w ∧ HX 16 z0 w ∧ ∀ c i, ¬ (16 ≤ c ∧ c ≤ 27) → rd w c i = rd ws c i) := by
  refine CT_of_V (by omega) (show (1 : Nat) ≤ mML 99 by decide +kernel) ?_
  refine V_aload (v := ad 16) mi_99_0 (by simp [stL, lv_args, Value.category]) ?_
  refine V_ipush mi_99_1 ?_
  refine V_pO mi_99_2 g16f0 (by omega) (by decide +kernel) (by decide +kernel) hG (by rw [Int32.toInt_ofInt_of_le (by omega) (by omega)]; omega) (by rw [Int32.toInt_ofInt_of_le (by omega) (by omega)]; omega) (fun w0 G0 U0 => ?_)
  refine V_aload (v := ad 16) mi_99_5 (by simp [stL, lv_args, Value.category]) ?_
  refine V_ipush mi_99_6 ?_
  refine V_pO mi_99_7 g16f1 (by omega) (by decide +kernel) (by decide +kernel) G0 (by rw [Int32.toInt_ofInt_of_le (by omega) (by omega)]; omega) (by rw [Int32.toInt_ofInt_of_le (by omega) (by omega)]; omega) (fun w1 G1 U1 => ?_)
  refine V_aload (v := ad 16) mi_99_10 (by simp [stL, lv_args, Value.category]) ?_
  refine V_ipush mi_99_11 ?_
  refine V_pO mi_99_12 g16f2 (by omega) (by decide +kernel) (by decide +kernel) G1 (by rw [Int32.toInt_ofInt_of_le (by omega) (by omega)]; omega) (by rw [Int32.toInt_ofInt_of_le (by omega) (by omega)]; omega) (fun w2 G2 U2 => ?_)
  refine V_aload (v := ad 16) mi_99_15 (by simp [stL, lv_args, Value.category]) ?_
  refine V_ipush mi_99_16 ?_
  refine V_pO mi_99_17 g16f3 (by omega) (by decide +kernel) (by decide +kernel) G2 (by rw [Int32.toInt_ofInt_of_le (by omega) (by omega)]; omega) (by rw [Int32.toInt_ofInt_of_le (by omega) (by omega)]; omega) (fun w3 G3 U3 => ?_)
  refine V_aload (v := ad 16) mi_99_20 (by simp [stL, lv_args, Value.category]) ?_
  refine V_ipush mi_99_21 ?_
  refine V_pO mi_99_22 g16f4 (by omega) (by decide +kernel) (by decide +kernel) G3 (by rw [Int32.toInt_ofInt_of_le (by omega) (by omega)]; omega) (by rw [Int32.toInt_ofInt_of_le (by omega) (by omega)]; omega) (fun w4 G4 U4 => ?_)
  refine V_aload (v := ad 16) mi_99_25 (by simp [stL, lv_args, Value.category]) ?_
  refine V_ipush mi_99_26 ?_
  refine V_pO mi_99_27 g16f5 (by omega) (by decide +kernel) (by decide +kernel) G4 (by rw [Int32.toInt_ofInt_of_le (by omega) (by omega)]; omega) (by rw [Int32.toInt_ofInt_of_le (by omega) (by omega)]; omega) (fun w5 G5 U5 => ?_)
  have ho : ∀ c i, c ≠ 16 → rd w5 c i = rd ws c i := fun c i hc => (upd_ne U5 (by omega)).trans ((upd_ne U4 (by omega)).trans ((upd_ne U3 (by omega)).trans ((upd_ne U2 (by omega)).trans ((upd_ne U1 (by omega)).trans (upd_ne U0 (by omega))))))
  have h : HY 16 1 z0 w5 := fun k hk i hi => by
    have k0 : k = 0 := by omega
    subst k0
    rw [z0_k (by omega) hi, if_neg (by omega)]
    have hi : i < 6 := hi
    have e0 : rd w5 16 0 = some (.int (Int32.ofInt 0)) := (upd_ne U5 (by omega)).trans ((upd_ne U4 (by omega)).trans ((upd_ne U3 (by omega)).trans ((upd_ne U2 (by omega)).trans ((upd_ne U1 (by omega)).trans (upd_eq U0)))))
    have e1 : rd w5 16 1 = some (.int (Int32.ofInt 0)) := (upd_ne U5 (by omega)).trans ((upd_ne U4 (by omega)).trans ((upd_ne U3 (by omega)).trans ((upd_ne U2 (by omega)).trans (upd_eq U1))))
    have e2 : rd w5 16 2 = some (.int (Int32.ofInt 0)) := (upd_ne U5 (by omega)).trans ((upd_ne U4 (by omega)).trans ((upd_ne U3 (by omega)).trans (upd_eq U2)))
    have e3 : rd w5 16 3 = some (.int (Int32.ofInt 0)) := (upd_ne U5 (by omega)).trans ((upd_ne U4 (by omega)).trans (upd_eq U3))
    have e4 : rd w5 16 4 = some (.int (Int32.ofInt 0)) := (upd_ne U5 (by omega)).trans (upd_eq U4)
    have e5 : rd w5 16 5 = some (.int (Int32.ofInt 0)) := upd_eq U5
    rcases i with _ | _ | _ | _ | _ | _ | i
    · exact e0
    · exact e1
    · exact e2
    · exact e3
    · exact e4
    · exact e5
    · omega
  refine V_aload (v := ad 16) mi_99_30 (by simp [stL, lv_args, Value.category]) ?_
  refine V_gR mi_99_31 g16r6 (by omega) G5 ?_
  refine V_ipush mi_99_34 ?_
  refine V_stat (As := [.ref (ad 17), .int (Int32.ofInt (0))]) (st := []) mi_99_35 (by omega) (fill_ct (v := 0) a17 G5 (by omega) ⟨by omega, by omega⟩ (by omega) (by omega)) (by omega) (show 2 = mN 149 by decide +kernel) (by simp [Value.category]) ⟨Nat.le_refl _, Nat.le_refl _⟩ ?_
  rintro r v1 ⟨rfl, H1, o1, d1⟩
  replace h := HY_step h o1 (fun i hi => by rw [z0_k (by omega) hi, if_neg (by omega)]; exact d1 i hi)
  replace ho : ∀ c i, ¬ (16 ≤ c ∧ c ≤ 27) → rd v1 c i = rd ws c i := fun c i hc => (o1 c i (by omega)).trans (ho c i (by omega))
  refine V_aload (v := ad 16) mi_99_38 (by simp [stL, lv_args, Value.category]) ?_
  refine V_gR mi_99_39 g16r7 (by omega) H1 ?_
  refine V_ipush mi_99_42 ?_
  refine V_stat (As := [.ref (ad 18), .int (Int32.ofInt (0))]) (st := []) mi_99_43 (by omega) (fill_ct (v := 0) a18 H1 (by omega) ⟨by omega, by omega⟩ (by omega) (by omega)) (by omega) (show 2 = mN 149 by decide +kernel) (by simp [Value.category]) ⟨Nat.le_refl _, Nat.le_refl _⟩ ?_
  rintro r v2 ⟨rfl, H2, o2, d2⟩
  replace h := HY_step h o2 (fun i hi => by rw [z0_k (by omega) hi, if_neg (by omega)]; exact d2 i hi)
  replace ho : ∀ c i, ¬ (16 ≤ c ∧ c ≤ 27) → rd v2 c i = rd ws c i := fun c i hc => (o2 c i (by omega)).trans (ho c i (by omega))
  refine V_aload (v := ad 16) mi_99_46 (by simp [stL, lv_args, Value.category]) ?_
  refine V_gR mi_99_47 g16r8 (by omega) H2 ?_
  refine V_ipush mi_99_50 ?_
  refine V_stat (As := [.ref (ad 19), .int (Int32.ofInt (0))]) (st := []) mi_99_51 (by omega) (fill_ct (v := 0) a19 H2 (by omega) ⟨by omega, by omega⟩ (by omega) (by omega)) (by omega) (show 2 = mN 149 by decide +kernel) (by simp [Value.category]) ⟨Nat.le_refl _, Nat.le_refl _⟩ ?_
  rintro r v3 ⟨rfl, H3, o3, d3⟩
  replace h := HY_step h o3 (fun i hi => by rw [z0_k (by omega) hi, if_neg (by omega)]; exact d3 i hi)
  replace ho : ∀ c i, ¬ (16 ≤ c ∧ c ≤ 27) → rd v3 c i = rd ws c i := fun c i hc => (o3 c i (by omega)).trans (ho c i (by omega))
  refine V_aload (v := ad 16) mi_99_54 (by simp [stL, lv_args, Value.category]) ?_
  refine V_gR mi_99_55 g16r9 (by omega) H3 ?_
  refine V_ipush mi_99_58 ?_
  refine V_stat (As := [.ref (ad 20), .int (Int32.ofInt (0))]) (st := []) mi_99_59 (by omega) (fill_ct (v := 0) a20 H3 (by omega) ⟨by omega, by omega⟩ (by omega) (by omega)) (by omega) (show 2 = mN 149 by decide +kernel) (by simp [Value.category]) ⟨Nat.le_refl _, Nat.le_refl _⟩ ?_
  rintro r v4 ⟨rfl, H4, o4, d4⟩
  replace h := HY_step h o4 (fun i hi => by rw [z0_k (by omega) hi, if_neg (by omega)]; exact d4 i hi)
  replace ho : ∀ c i, ¬ (16 ≤ c ∧ c ≤ 27) → rd v4 c i = rd ws c i := fun c i hc => (o4 c i (by omega)).trans (ho c i (by omega))
  refine V_aload (v := ad 16) mi_99_62 (by simp [stL, lv_args, Value.category]) ?_
  refine V_gR mi_99_63 g16r10 (by omega) H4 ?_
  refine V_ipush mi_99_66 ?_
  refine V_stat (As := [.ref (ad 21), .int (Int32.ofInt (0))]) (st := []) mi_99_67 (by omega) (fill_ct (v := 0) a21 H4 (by omega) ⟨by omega, by omega⟩ (by omega) (by omega)) (by omega) (show 2 = mN 149 by decide +kernel) (by simp [Value.category]) ⟨Nat.le_refl _, Nat.le_refl _⟩ ?_
  rintro r v5 ⟨rfl, H5, o5, d5⟩
  replace h := HY_step h o5 (fun i hi => by rw [z0_k (by omega) hi, if_neg (by omega)]; exact d5 i hi)
  replace ho : ∀ c i, ¬ (16 ≤ c ∧ c ≤ 27) → rd v5 c i = rd ws c i := fun c i hc => (o5 c i (by omega)).trans (ho c i (by omega))
  refine V_aload (v := ad 16) mi_99_70 (by simp [stL, lv_args, Value.category]) ?_
  refine V_gR mi_99_71 g16r11 (by omega) H5 ?_
  refine V_ipush mi_99_74 ?_
  refine V_stat (As := [.ref (ad 22), .int (Int32.ofInt (-1))]) (st := []) mi_99_75 (by omega) (fill_ct (v := (-1)) a22 H5 (by omega) ⟨by omega, by omega⟩ (by omega) (by omega)) (by omega) (show 2 = mN 149 by decide +kernel) (by simp [Value.category]) ⟨Nat.le_refl _, Nat.le_refl _⟩ ?_
  rintro r v6 ⟨rfl, H6, o6, d6⟩
  replace h := HY_step h o6 (fun i hi => by rw [z0_k (by omega) hi, if_pos rfl]; exact d6 i hi)
  replace ho : ∀ c i, ¬ (16 ≤ c ∧ c ≤ 27) → rd v6 c i = rd ws c i := fun c i hc => (o6 c i (by omega)).trans (ho c i (by omega))
  refine V_aload (v := ad 16) mi_99_78 (by simp [stL, lv_args, Value.category]) ?_
  refine V_gR mi_99_79 g16r12 (by omega) H6 ?_
  refine V_ipush mi_99_82 ?_
  refine V_stat (As := [.ref (ad 23), .int (Int32.ofInt (0))]) (st := []) mi_99_83 (by omega) (fill_ct (v := 0) a23 H6 (by omega) ⟨by omega, by omega⟩ (by omega) (by omega)) (by omega) (show 2 = mN 149 by decide +kernel) (by simp [Value.category]) ⟨Nat.le_refl _, Nat.le_refl _⟩ ?_
  rintro r v7 ⟨rfl, H7, o7, d7⟩
  replace h := HY_step h o7 (fun i hi => by rw [z0_k (by omega) hi, if_neg (by omega)]; exact d7 i hi)
  replace ho : ∀ c i, ¬ (16 ≤ c ∧ c ≤ 27) → rd v7 c i = rd ws c i := fun c i hc => (o7 c i (by omega)).trans (ho c i (by omega))
  refine V_aload (v := ad 16) mi_99_86 (by simp [stL, lv_args, Value.category]) ?_
  refine V_gR mi_99_87 g16r13 (by omega) H7 ?_
  refine V_ipush mi_99_90 ?_
  refine V_stat (As := [.ref (ad 24), .int (Int32.ofInt (0))]) (st := []) mi_99_91 (by omega) (fill_ct (v := 0) a24 H7 (by omega) ⟨by omega, by omega⟩ (by omega) (by omega)) (by omega) (show 2 = mN 149 by decide +kernel) (by simp [Value.category]) ⟨Nat.le_refl _, Nat.le_refl _⟩ ?_
  rintro r v8 ⟨rfl, H8, o8, d8⟩
  replace h := HY_step h o8 (fun i hi => by rw [z0_k (by omega) hi, if_neg (by omega)]; exact d8 i hi)
  replace ho : ∀ c i, ¬ (16 ≤ c ∧ c ≤ 27) → rd v8 c i = rd ws c i := fun c i hc => (o8 c i (by omega)).trans (ho c i (by omega))
  refine V_aload (v := ad 16) mi_99_94 (by simp [stL, lv_args, Value.category]) ?_
  refine V_gR mi_99_95 g16r14 (by omega) H8 ?_
  refine V_ipush mi_99_98 ?_
  refine V_stat (As := [.ref (ad 25), .int (Int32.ofInt (0))]) (st := []) mi_99_99 (by omega) (fill_ct (v := 0) a25 H8 (by omega) ⟨by omega, by omega⟩ (by omega) (by omega)) (by omega) (show 2 = mN 149 by decide +kernel) (by simp [Value.category]) ⟨Nat.le_refl _, Nat.le_refl _⟩ ?_
  rintro r v9 ⟨rfl, H9, o9, d9⟩
  replace h := HY_step h o9 (fun i hi => by rw [z0_k (by omega) hi, if_neg (by omega)]; exact d9 i hi)
  replace ho : ∀ c i, ¬ (16 ≤ c ∧ c ≤ 27) → rd v9 c i = rd ws c i := fun c i hc => (o9 c i (by omega)).trans (ho c i (by omega))
  refine V_aload (v := ad 16) mi_99_102 (by simp [stL, lv_args, Value.category]) ?_
  refine V_gR mi_99_103 g16r15 (by omega) H9 ?_
  refine V_ipush mi_99_106 ?_
  refine V_stat (As := [.ref (ad 26), .int (Int32.ofInt (0))]) (st := []) mi_99_107 (by omega) (fill_ct (v := 0) a26 H9 (by omega) ⟨by omega, by omega⟩ (by omega) (by omega)) (by omega) (show 2 = mN 149 by decide +kernel) (by simp [Value.category]) ⟨Nat.le_refl _, Nat.le_refl _⟩ ?_
  rintro r v10 ⟨rfl, H10, o10, d10⟩
  replace h := HY_step h o10 (fun i hi => by rw [z0_k (by omega) hi, if_neg (by omega)]; exact d10 i hi)
  replace ho : ∀ c i, ¬ (16 ≤ c ∧ c ≤ 27) → rd v10 c i = rd ws c i := fun c i hc => (o10 c i (by omega)).trans (ho c i (by omega))
  refine V_aload (v := ad 16) mi_99_110 (by simp [stL, lv_args, Value.category]) ?_
  refine V_gR mi_99_111 g16r16 (by omega) H10 ?_
  refine V_ipush mi_99_114 ?_
  refine V_stat (As := [.ref (ad 27), .int (Int32.ofInt (0))]) (st := []) mi_99_115 (by omega) (fill_ct (v := 0) a27 H10 (by omega) ⟨by omega, by omega⟩ (by omega) (by omega)) (by omega) (show 2 = mN 149 by decide +kernel) (by simp [Value.category]) ⟨Nat.le_refl _, Nat.le_refl _⟩ ?_
  rintro r v11 ⟨rfl, H11, o11, d11⟩
  replace h := HY_step h o11 (fun i hi => by rw [z0_k (by omega) hi, if_neg (by omega)]; exact d11 i hi)
  replace ho : ∀ c i, ¬ (16 ≤ c ∧ c ≤ 27) → rd v11 c i = rd ws c i := fun c i hc => (o11 c i (by omega)).trans (ho c i (by omega))
  exact V_retV mi_99_118 ⟨rfl, H11, HY_HX h, ho⟩
theorem hx0 {c : Nat} {g : Nat → Int} {w : va_W} (h : HX c g w) {i : Nat} (hi : i < 6) : rd w c i = some (.int (Int32.ofInt (g (hxJ 0 i)))) := HX_HY h 0 (by omega) i hi
theorem cpf_ct {g : Nat → Int} (hG : GOK ad tys GG ws) (hX : HX 16 g ws) : CT l D tys A 100 1 0 0 [.ref (ad 4), .ref (ad 16)] ws (fun r w => r = none ∧ GOK ad tys GG w ∧ HX 4 g w ∧ ∀ c i, ¬ (4 ≤ c ∧ c ≤ 15) → rd w c i = rd ws c i) := by
  refine CT_of_V (by omega) (show (2 : Nat) ≤ mML 100 by decide +kernel) ?_
  refine V_aload (v := ad 4) mi_100_0 (by simp [stL, lv_args, Value.category]) ?_
  refine V_aload (v := ad 16) mi_100_1 (by simp [stL, lv_args, Value.category]) ?_
  obtain ⟨p0, hp0, lo0, hi0⟩ := celO hG g16f0 (by omega)
  refine V_gO mi_100_2 g16o hG (hp0) ?_
  refine V_pO mi_100_5 g4f0 (by omega) (by decide +kernel) (by decide +kernel) hG (by rw [Int32.toInt_ofInt_of_le (by omega) (by omega)]; omega) (by rw [Int32.toInt_ofInt_of_le (by omega) (by omega)]; omega) (fun w0 G0 U0 => ?_)
  refine V_aload (v := ad 4) mi_100_8 (by simp [stL, lv_args, Value.category]) ?_
  refine V_aload (v := ad 16) mi_100_9 (by simp [stL, lv_args, Value.category]) ?_
  obtain ⟨p1, hp1, lo1, hi1⟩ := celO hG g16f1 (by omega)
  refine V_gO mi_100_10 g16o G0 ((upd_ne U0 (by omega)).trans hp1) ?_
  refine V_pO mi_100_13 g4f1 (by omega) (by decide +kernel) (by decide +kernel) G0 (by rw [Int32.toInt_ofInt_of_le (by omega) (by omega)]; omega) (by rw [Int32.toInt_ofInt_of_le (by omega) (by omega)]; omega) (fun w1 G1 U1 => ?_)
  refine V_aload (v := ad 4) mi_100_16 (by simp [stL, lv_args, Value.category]) ?_
  refine V_aload (v := ad 16) mi_100_17 (by simp [stL, lv_args, Value.category]) ?_
  obtain ⟨p2, hp2, lo2, hi2⟩ := celO hG g16f2 (by omega)
  refine V_gO mi_100_18 g16o G1 ((upd_ne U1 (by omega)).trans ((upd_ne U0 (by omega)).trans hp2)) ?_
  refine V_pO mi_100_21 g4f2 (by omega) (by decide +kernel) (by decide +kernel) G1 (by rw [Int32.toInt_ofInt_of_le (by omega) (by omega)]; omega) (by rw [Int32.toInt_ofInt_of_le (by omega) (by omega)]; omega) (fun w2 G2 U2 => ?_)
  refine V_aload (v := ad 4) mi_100_24 (by simp [stL, lv_args, Value.category]) ?_
  refine V_aload (v := ad 16) mi_100_25 (by simp [stL, lv_args, Value.category]) ?_
  obtain ⟨p3, hp3, lo3, hi3⟩ := celO hG g16f3 (by omega)
  refine V_gO mi_100_26 g16o G2 ((upd_ne U2 (by omega)).trans ((upd_ne U1 (by omega)).trans ((upd_ne U0 (by omega)).trans hp3))) ?_
  refine V_pO mi_100_29 g4f3 (by omega) (by decide +kernel) (by decide +kernel) G2 (by rw [Int32.toInt_ofInt_of_le (by omega) (by omega)]; omega) (by rw [Int32.toInt_ofInt_of_le (by omega) (by omega)]; omega) (fun w3 G3 U3 => ?_)
  refine V_aload (v := ad 4) mi_100_32 (by simp [stL, lv_args, Value.category]) ?_
  refine V_aload (v := ad 16) mi_100_33 (by simp [stL, lv_args, Value.category]) ?_
  obtain ⟨p4, hp4, lo4, hi4⟩ := celO hG g16f4 (by omega)
  refine V_gO mi_100_34 g16o G3 ((upd_ne U3 (by omega)).trans ((upd_ne U2 (by omega)).trans ((upd_ne U1 (by omega)).trans ((upd_ne U0 (by omega)).trans hp4)))) ?_
  refine V_pO mi_100_37 g4f4 (by omega) (by decide +kernel) (by decide +kernel) G3 (by rw [Int32.toInt_ofInt_of_le (by omega) (by omega)]; omega) (by rw [Int32.toInt_ofInt_of_le (by omega) (by omega)]; omega) (fun w4 G4 U4 => ?_)
  refine V_aload (v := ad 4) mi_100_40 (by simp [stL, lv_args, Value.category]) ?_
  refine V_aload (v := ad 16) mi_100_41 (by simp [stL, lv_args, Value.category]) ?_
  obtain ⟨p5, hp5, lo5, hi5⟩ := celO hG g16f5 (by omega)
  refine V_gO mi_100_42 g16o G4 ((upd_ne U4 (by omega)).trans ((upd_ne U3 (by omega)).trans ((upd_ne U2 (by omega)).trans ((upd_ne U1 (by omega)).trans ((upd_ne U0 (by omega)).trans hp5))))) ?_
  refine V_pO mi_100_45 g4f5 (by omega) (by decide +kernel) (by decide +kernel) G4 (by rw [Int32.toInt_ofInt_of_le (by omega) (by omega)]; omega) (by rw [Int32.toInt_ofInt_of_le (by omega) (by omega)]; omega) (fun w5 G5 U5 => ?_)
  have ho : ∀ c i, c ≠ 4 → rd w5 c i = rd ws c i := fun c i hc => (upd_ne U5 (by omega)).trans ((upd_ne U4 (by omega)).trans ((upd_ne U3 (by omega)).trans ((upd_ne U2 (by omega)).trans ((upd_ne U1 (by omega)).trans (upd_ne U0 (by omega))))))
  have h : HY 4 1 g w5 := fun k hk i hi => by
    have k0 : k = 0 := by omega
    subst k0
    have hi : i < 6 := hi
    rw [← hx0 hX hi]
    have e0 : rd w5 4 0 = rd ws 16 0 := by rw [hp0]; exact (upd_ne U5 (by omega)).trans ((upd_ne U4 (by omega)).trans ((upd_ne U3 (by omega)).trans ((upd_ne U2 (by omega)).trans ((upd_ne U1 (by omega)).trans (upd_eq U0)))))
    have e1 : rd w5 4 1 = rd ws 16 1 := by rw [hp1]; exact (upd_ne U5 (by omega)).trans ((upd_ne U4 (by omega)).trans ((upd_ne U3 (by omega)).trans ((upd_ne U2 (by omega)).trans (upd_eq U1))))
    have e2 : rd w5 4 2 = rd ws 16 2 := by rw [hp2]; exact (upd_ne U5 (by omega)).trans ((upd_ne U4 (by omega)).trans ((upd_ne U3 (by omega)).trans (upd_eq U2)))
    have e3 : rd w5 4 3 = rd ws 16 3 := by rw [hp3]; exact (upd_ne U5 (by omega)).trans ((upd_ne U4 (by omega)).trans (upd_eq U3))
    have e4 : rd w5 4 4 = rd ws 16 4 := by rw [hp4]; exact (upd_ne U5 (by omega)).trans (upd_eq U4)
    have e5 : rd w5 4 5 = rd ws 16 5 := by rw [hp5]; exact upd_eq U5
    rcases i with _ | _ | _ | _ | _ | _ | i
    · exact e0
    · exact e1
    · exact e2
    · exact e3
    · exact e4
    · exact e5
    · omega
  refine V_aload (v := ad 16) mi_100_48 (by simp [stL, lv_args, Value.category]) ?_
  refine V_gR mi_100_49 g16r6 (by omega) G5 ?_
  refine V_aload (v := ad 4) mi_100_52 (by simp [stL, lv_args, Value.category]) ?_
  refine V_gR mi_100_53 g4r6 (by omega) G5 ?_
  refine V_stat (As := [.ref (ad 17), .ref (ad 5)]) (st := []) mi_100_56 (by omega) (copy_ct a17 a5 G5 (by omega) (by omega) ⟨by omega, by omega⟩ ⟨by omega, by omega⟩) (by omega) (show 2 = mN 150 by decide +kernel) (by simp [Value.category]) ⟨Nat.le_refl _, Nat.le_refl _⟩ ?_
  rintro r v1 ⟨rfl, H1, o1, d1⟩
  replace h := HY_step h o1 (fun i hi => by rw [d1 i hi, ho _ _ (by omega)]; exact HX_HY hX 1 (by omega) i hi)
  replace ho : ∀ c i, ¬ (4 ≤ c ∧ c ≤ 15) → rd v1 c i = rd ws c i := fun c i hc => (o1 c i (by omega)).trans (ho c i (by omega))
  refine V_aload (v := ad 16) mi_100_59 (by simp [stL, lv_args, Value.category]) ?_
  refine V_gR mi_100_60 g16r7 (by omega) H1 ?_
  refine V_aload (v := ad 4) mi_100_63 (by simp [stL, lv_args, Value.category]) ?_
  refine V_gR mi_100_64 g4r7 (by omega) H1 ?_
  refine V_stat (As := [.ref (ad 18), .ref (ad 6)]) (st := []) mi_100_67 (by omega) (copy_ct a18 a6 H1 (by omega) (by omega) ⟨by omega, by omega⟩ ⟨by omega, by omega⟩) (by omega) (show 2 = mN 150 by decide +kernel) (by simp [Value.category]) ⟨Nat.le_refl _, Nat.le_refl _⟩ ?_
  rintro r v2 ⟨rfl, H2, o2, d2⟩
  replace h := HY_step h o2 (fun i hi => by rw [d2 i hi, ho _ _ (by omega)]; exact HX_HY hX 2 (by omega) i hi)
  replace ho : ∀ c i, ¬ (4 ≤ c ∧ c ≤ 15) → rd v2 c i = rd ws c i := fun c i hc => (o2 c i (by omega)).trans (ho c i (by omega))
  refine V_aload (v := ad 16) mi_100_70 (by simp [stL, lv_args, Value.category]) ?_
  refine V_gR mi_100_71 g16r8 (by omega) H2 ?_
  refine V_aload (v := ad 4) mi_100_74 (by simp [stL, lv_args, Value.category]) ?_
  refine V_gR mi_100_75 g4r8 (by omega) H2 ?_
  refine V_stat (As := [.ref (ad 19), .ref (ad 7)]) (st := []) mi_100_78 (by omega) (copy_ct a19 a7 H2 (by omega) (by omega) ⟨by omega, by omega⟩ ⟨by omega, by omega⟩) (by omega) (show 2 = mN 150 by decide +kernel) (by simp [Value.category]) ⟨Nat.le_refl _, Nat.le_refl _⟩ ?_
  rintro r v3 ⟨rfl, H3, o3, d3⟩
  replace h := HY_step h o3 (fun i hi => by rw [d3 i hi, ho _ _ (by omega)]; exact HX_HY hX 3 (by omega) i hi)
  replace ho : ∀ c i, ¬ (4 ≤ c ∧ c ≤ 15) → rd v3 c i = rd ws c i := fun c i hc => (o3 c i (by omega)).trans (ho c i (by omega))
  refine V_aload (v := ad 16) mi_100_81 (by simp [stL, lv_args, Value.category]) ?_
  refine V_gR mi_100_82 g16r9 (by omega) H3 ?_
  refine V_aload (v := ad 4) mi_100_85 (by simp [stL, lv_args, Value.category]) ?_
  refine V_gR mi_100_86 g4r9 (by omega) H3 ?_
  refine V_stat (As := [.ref (ad 20), .ref (ad 8)]) (st := []) mi_100_89 (by omega) (copy_ct a20 a8 H3 (by omega) (by omega) ⟨by omega, by omega⟩ ⟨by omega, by omega⟩) (by omega) (show 2 = mN 150 by decide +kernel) (by simp [Value.category]) ⟨Nat.le_refl _, Nat.le_refl _⟩ ?_
  rintro r v4 ⟨rfl, H4, o4, d4⟩
  replace h := HY_step h o4 (fun i hi => by rw [d4 i hi, ho _ _ (by omega)]; exact HX_HY hX 4 (by omega) i hi)
  replace ho : ∀ c i, ¬ (4 ≤ c ∧ c ≤ 15) → rd v4 c i = rd ws c i := fun c i hc => (o4 c i (by omega)).trans (ho c i (by omega))
  refine V_aload (v := ad 16) mi_100_92 (by simp [stL, lv_args, Value.category]) ?_
  refine V_gR mi_100_93 g16r10 (by omega) H4 ?_
  refine V_aload (v := ad 4) mi_100_96 (by simp [stL, lv_args, Value.category]) ?_
  refine V_gR mi_100_97 g4r10 (by omega) H4 ?_
  refine V_stat (As := [.ref (ad 21), .ref (ad 9)]) (st := []) mi_100_100 (by omega) (copy_ct a21 a9 H4 (by omega) (by omega) ⟨by omega, by omega⟩ ⟨by omega, by omega⟩) (by omega) (show 2 = mN 150 by decide +kernel) (by simp [Value.category]) ⟨Nat.le_refl _, Nat.le_refl _⟩ ?_
  rintro r v5 ⟨rfl, H5, o5, d5⟩
  replace h := HY_step h o5 (fun i hi => by rw [d5 i hi, ho _ _ (by omega)]; exact HX_HY hX 5 (by omega) i hi)
  replace ho : ∀ c i, ¬ (4 ≤ c ∧ c ≤ 15) → rd v5 c i = rd ws c i := fun c i hc => (o5 c i (by omega)).trans (ho c i (by omega))
  refine V_aload (v := ad 16) mi_100_103 (by simp [stL, lv_args, Value.category]) ?_
  refine V_gR mi_100_104 g16r11 (by omega) H5 ?_
  refine V_aload (v := ad 4) mi_100_107 (by simp [stL, lv_args, Value.category]) ?_
  refine V_gR mi_100_108 g4r11 (by omega) H5 ?_
  refine V_stat (As := [.ref (ad 22), .ref (ad 10)]) (st := []) mi_100_111 (by omega) (copy_ct a22 a10 H5 (by omega) (by omega) ⟨by omega, by omega⟩ ⟨by omega, by omega⟩) (by omega) (show 2 = mN 150 by decide +kernel) (by simp [Value.category]) ⟨Nat.le_refl _, Nat.le_refl _⟩ ?_
  rintro r v6 ⟨rfl, H6, o6, d6⟩
  replace h := HY_step h o6 (fun i hi => by rw [d6 i hi, ho _ _ (by omega)]; exact HX_HY hX 6 (by omega) i hi)
  replace ho : ∀ c i, ¬ (4 ≤ c ∧ c ≤ 15) → rd v6 c i = rd ws c i := fun c i hc => (o6 c i (by omega)).trans (ho c i (by omega))
  refine V_aload (v := ad 16) mi_100_114 (by simp [stL, lv_args, Value.category]) ?_
  refine V_gR mi_100_115 g16r12 (by omega) H6 ?_
  refine V_aload (v := ad 4) mi_100_118 (by simp [stL, lv_args, Value.category]) ?_
  refine V_gR mi_100_119 g4r12 (by omega) H6 ?_
  refine V_stat (As := [.ref (ad 23), .ref (ad 11)]) (st := []) mi_100_122 (by omega) (copy_ct a23 a11 H6 (by omega) (by omega) ⟨by omega, by omega⟩ ⟨by omega, by omega⟩) (by omega) (show 2 = mN 150 by decide +kernel) (by simp [Value.category]) ⟨Nat.le_refl _, Nat.le_refl _⟩ ?_
  rintro r v7 ⟨rfl, H7, o7, d7⟩
  replace h := HY_step h o7 (fun i hi => by rw [d7 i hi, ho _ _ (by omega)]; exact HX_HY hX 7 (by omega) i hi)
  replace ho : ∀ c i, ¬ (4 ≤ c ∧ c ≤ 15) → rd v7 c i = rd ws c i := fun c i hc => (o7 c i (by omega)).trans (ho c i (by omega))
  refine V_aload (v := ad 16) mi_100_125 (by simp [stL, lv_args, Value.category]) ?_
  refine V_gR mi_100_126 g16r13 (by omega) H7 ?_
  refine V_aload (v := ad 4) mi_100_129 (by simp [stL, lv_args, Value.category]) ?_
  refine V_gR mi_100_130 g4r13 (by omega) H7 ?_
  refine V_stat (As := [.ref (ad 24), .ref (ad 12)]) (st := []) mi_100_133 (by omega) (copy_ct a24 a12 H7 (by omega) (by omega) ⟨by omega, by omega⟩ ⟨by omega, by omega⟩) (by omega) (show 2 = mN 150 by decide +kernel) (by simp [Value.category]) ⟨Nat.le_refl _, Nat.le_refl _⟩ ?_
  rintro r v8 ⟨rfl, H8, o8, d8⟩
  replace h := HY_step h o8 (fun i hi => by rw [d8 i hi, ho _ _ (by omega)]; exact HX_HY hX 8 (by omega) i hi)
  replace ho : ∀ c i, ¬ (4 ≤ c ∧ c ≤ 15) → rd v8 c i = rd ws c i := fun c i hc => (o8 c i (by omega)).trans (ho c i (by omega))
  refine V_aload (v := ad 16) mi_100_136 (by simp [stL, lv_args, Value.category]) ?_
  refine V_gR mi_100_137 g16r14 (by omega) H8 ?_
  refine V_aload (v := ad 4) mi_100_140 (by simp [stL, lv_args, Value.category]) ?_
  refine V_gR mi_100_141 g4r14 (by omega) H8 ?_
  refine V_stat (As := [.ref (ad 25), .ref (ad 13)]) (st := []) mi_100_144 (by omega) (copy_ct a25 a13 H8 (by omega) (by omega) ⟨by omega, by omega⟩ ⟨by omega, by omega⟩) (by omega) (show 2 = mN 150 by decide +kernel) (by simp [Value.category]) ⟨Nat.le_refl _, Nat.le_refl _⟩ ?_
  rintro r v9 ⟨rfl, H9, o9, d9⟩
  replace h := HY_step h o9 (fun i hi => by rw [d9 i hi, ho _ _ (by omega)]; exact HX_HY hX 9 (by omega) i hi)
  replace ho : ∀ c i, ¬ (4 ≤ c ∧ c ≤ 15) → rd v9 c i = rd ws c i := fun c i hc => (o9 c i (by omega)).trans (ho c i (by omega))
  refine V_aload (v := ad 16) mi_100_147 (by simp [stL, lv_args, Value.category]) ?_
  refine V_gR mi_100_148 g16r15 (by omega) H9 ?_
  refine V_aload (v := ad 4) mi_100_151 (by simp [stL, lv_args, Value.category]) ?_
  refine V_gR mi_100_152 g4r15 (by omega) H9 ?_
  refine V_stat (As := [.ref (ad 26), .ref (ad 14)]) (st := []) mi_100_155 (by omega) (copy_ct a26 a14 H9 (by omega) (by omega) ⟨by omega, by omega⟩ ⟨by omega, by omega⟩) (by omega) (show 2 = mN 150 by decide +kernel) (by simp [Value.category]) ⟨Nat.le_refl _, Nat.le_refl _⟩ ?_
  rintro r v10 ⟨rfl, H10, o10, d10⟩
  replace h := HY_step h o10 (fun i hi => by rw [d10 i hi, ho _ _ (by omega)]; exact HX_HY hX 10 (by omega) i hi)
  replace ho : ∀ c i, ¬ (4 ≤ c ∧ c ≤ 15) → rd v10 c i = rd ws c i := fun c i hc => (o10 c i (by omega)).trans (ho c i (by omega))
  refine V_aload (v := ad 16) mi_100_158 (by simp [stL, lv_args, Value.category]) ?_
  refine V_gR mi_100_159 g16r16 (by omega) H10 ?_
  refine V_aload (v := ad 4) mi_100_162 (by simp [stL, lv_args, Value.category]) ?_
  refine V_gR mi_100_163 g4r16 (by omega) H10 ?_
  refine V_stat (As := [.ref (ad 27), .ref (ad 15)]) (st := []) mi_100_166 (by omega) (copy_ct a27 a15 H10 (by omega) (by omega) ⟨by omega, by omega⟩ ⟨by omega, by omega⟩) (by omega) (show 2 = mN 150 by decide +kernel) (by simp [Value.category]) ⟨Nat.le_refl _, Nat.le_refl _⟩ ?_
  rintro r v11 ⟨rfl, H11, o11, d11⟩
  replace h := HY_step h o11 (fun i hi => by rw [d11 i hi, ho _ _ (by omega)]; exact HX_HY hX 11 (by omega) i hi)
  replace ho : ∀ c i, ¬ (4 ≤ c ∧ c ≤ 15) → rd v11 c i = rd ws c i := fun c i hc => (o11 c i (by omega)).trans (ho c i (by omega))
  exact V_retV mi_100_169 ⟨rfl, H11, HY_HX h, ho⟩
end XHL
section XHM
variable {l : Launch} {D : va_G} {tys : List (ClassId × FieldType)} {A : Nat → Prop} {ad : Nat → Nat} {ws : va_W}
/-- the stays while they are spread -/
noncomputable def mx (td : Nat → Int) (m j : Nat) : Int := if j < m then sprT td j else td j
theorem mx_step {td : Nat → Int} {f h : Nat} (hh : h < 24) : updI (mx td (24 * f + h)) (24 * f + h) (sprV td f (h + 1)) = mx td (24 * f + (h + 1)) := by
  funext i
  show (if i = 24 * f + h then _ else (if i < 24 * f + h then _ else td i)) = (if i < 24 * f + (h + 1) then sprT td i else td i)
  by_cases e : i = 24 * f + h
  · rw [if_pos e, if_pos (by omega), e]
    unfold sprT
    rw [show (24 * f + h) / 24 = f by omega, show (24 * f + h) % 24 = h by omega]
  · rw [if_neg e]
    by_cases q : i < 24 * f + h
    · rw [if_pos q, if_pos (by omega)]
    · rw [if_neg q, if_neg (by omega)]
theorem mx_0 {td : Nat → Int} : mx td 0 = td := by
  funext i
  unfold mx
  rw [if_neg (by omega)]
theorem XR_cgT {fr td td' : Nat → Int} {w0 w : va_W} {s : TS} (q : XR fr td w0 s w) (e : ∀ j, j < 144 → td j = td' j) : XR fr td' w0 s w := by
  refine ⟨fun g => ?_, q.2⟩
  obtain ⟨a, b, c⟩ := q.1 g
  refine ⟨HX_eq a (fun j hj => ?_), b, fun j hj => by rw [← e j hj]; exact c j hj⟩
  unfold fx
  split
  · exact e _ (by omega)
  · rfl
theorem stay_hx {j : Nat} (h : j < 144) : hxC (102 + j) = 6 ∧ hxI (102 + j) = j := by
  have e1 : hxC (102 + j) = 6 := by
    unfold hxC
    rw [if_neg (by omega), if_neg (by omega), if_neg (by omega), if_neg (by omega), if_neg (by omega), if_neg (by omega), if_pos (by omega)]
  have e2 : hxI (102 + j) = j := by
    unfold hxI
    rw [if_neg (by omega), if_neg (by omega), if_neg (by omega), if_neg (by omega), if_neg (by omega), if_neg (by omega), if_pos (by omega)]
    omega
  exact ⟨e1, e2⟩
theorem XR_stay {fr td : Nat → Int} {w0 w : va_W} {s : TS} {j : Nat} (q : XR fr td w0 s w) (g : s.2.1 = 0) (h : j < 144) : rd w 22 j = some (.int (Int32.ofInt (td j))) ∧ -1 ≤ td j ∧ td j ≤ 3 := by
  obtain ⟨a, -, c⟩ := q.1 g
  have x := a (102 + j) (by omega)
  rw [(stay_hx h).1, (stay_hx h).2] at x
  have e : fx fr td (102 + j) = td j := by
    unfold fx
    rw [if_pos (by omega), show 102 + j - 102 = j by omega]
  rw [e] at x
  exact ⟨x, c j h⟩
theorem sp_12 {n : Nat} {B fr td : Nat → Int} {s : TS} {w0 : va_W} {post : Option Value → va_W → Prop} {f : Nat} (hf : f < 6) : ∀ (m h : Nat) (wv : Int32) (w : va_W), h + m = 24 → (s.2.1 = 0 → wv = Int32.ofInt (sprV td f h) ∧ 0 ≤ sprV td f h ∧ sprV td f h ≤ 3) → XA ad tys n B s w → XR fr (mx td (24 * f + h)) w0 s w → (∀ w' : va_W, XA ad tys n B s w' → XR fr (mx td (24 * f + 24)) w0 s w' → V l D tys A 111 1 0 0 post 0 0 64 [(0, .ref (ad 16)), (1, .int (Int32.ofInt (f : Int)))] [] w') → V l D tys A 111 1 0 0 post 0 0 12 [(0, .ref (ad 16)), (1, .int (Int32.ofInt (f : Int))), (2, .int wv), (3, .int (Int32.ofInt (h : Int)))] [] w
  | 0, h, wv, w, hm, hw, hA, hR, kk => by
    have e : h = 24 := by omega
    subst e
    refine V_iload (v := Int32.ofInt ((24 : Nat) : Int)) mi_111_12 (by simp [stL, lv_args, Value.category]) ?_
    refine V_ipush mi_111_13 ?_
    refine V_cge mi_111_15 ⟨by omega, by omega⟩ ⟨by omega, by omega⟩ (fun _ => ?_) (fun q => absurd q (by omega))
    refine V_sub (lv' := [(0, .ref (ad 16)), (1, .int (Int32.ofInt (f : Int)))]) (fun q hq => ?_) (kk w hA hR)
    simp only [List.mem_cons, List.not_mem_nil, or_false] at hq
    rcases hq with rfl | rfl <;> simp [stL, lv_args, Value.category]
  | m + 1, h, wv, w, hm, hw, hA, hR, kk => by
    refine V_iload (v := Int32.ofInt ((h : Int))) mi_111_12 (by simp [stL, lv_args, Value.category]) ?_
    refine V_ipush mi_111_13 ?_
    refine V_cge mi_111_15 ⟨by omega, by omega⟩ ⟨by omega, by omega⟩ (fun q1 => ?_) (fun q1 => ?_)
    · exact absurd q1 (by omega)
    · have hj : 24 * f + h < 144 := by omega
      have ei : Int32.ofInt ((f : Int) * 24 + (h : Int)) = Int32.ofInt ((24 * f + h : Nat) : Int) := by rw [show (f : Int) * 24 + (h : Int) = ((24 * f + h : Nat) : Int) by omega]
      have mt : mx td (24 * f + h) (24 * f + h) = td (24 * f + h) := by
        unfold mx
        rw [if_neg (by omega)]
      refine V_iload (v := Int32.ofInt ((f : Int))) mi_111_18 (by simp [stL, lv_args, Value.category]) ?_
      refine V_ipush mi_111_19 ?_
      refine V_ibin mi_111_21 (by omega) ?_
      rw [ib2]
      refine V_iload (v := Int32.ofInt ((h : Int))) mi_111_22 (by simp [stL, lv_args, Value.category]) ?_
      refine V_ibin mi_111_23 (by omega) ?_
      rw [ib0]
      rw [ei]
      refine V_istore mi_111_24 ?_
      refine V_aload (v := ad 16) mi_111_26 (by simp [stL, lv_args, Value.category]) ?_
      refine V_gR mi_111_27 g16r11 (by omega) hA.1 ?_
      refine V_iload (v := Int32.ofInt (((24 * f + h : Nat) : Int))) mi_111_30 (by simp [stL, lv_args, Value.category]) ?_
      refine V_stat (As := [.ref (ad 22), .int (Int32.ofInt (((24 * f + h : Nat) : Int)))]) (st := []) mi_111_32 (by omega) (atx_ct a22 hA.1 (by omega)) (by omega) (show 2 = mN 147 by decide +kernel) (by simp [Value.category]) ⟨Nat.le_refl _, Nat.le_refl _⟩ ?_
      rintro r w1 ⟨rfl, v, rfl, hv⟩
      have vt : s.2.1 = 0 → v.toInt = td (24 * f + h) ∧ -1 ≤ td (24 * f + h) ∧ td (24 * f + h) ≤ 3 := fun g => by
        obtain ⟨y1, y2, y3⟩ := XR_stay hR g hj
        rw [mt] at y1 y2 y3
        rw [hv _ hj rfl] at y1
        simp only [Option.some.injEq, Value.int.injEq] at y1
        rw [y1, Int32.toInt_ofInt_of_le (by omega) (by omega)]
        exact ⟨rfl, y2, y3⟩
      have tail : ∀ nv : Int32, (s.2.1 = 0 → nv = Int32.ofInt (sprV td f (h + 1)) ∧ 0 ≤ sprV td f (h + 1) ∧ sprV td f (h + 1) ≤ 3) → V l D tys A 111 1 0 0 post 0 0 48 [(0, .ref (ad 16)), (1, .int (Int32.ofInt (f : Int))), (2, .int nv), (3, .int (Int32.ofInt (h : Int))), (4, .int (Int32.ofInt ((24 * f + h : Nat) : Int)))] [] w1 := fun nv hnv => by
        refine V_aload (v := ad 16) mi_111_48 (by simp [stL, lv_args, Value.category]) ?_
        refine V_gR mi_111_49 g16r11 (by omega) hA.1 ?_
        refine V_iload (v := Int32.ofInt (((24 * f + h : Nat) : Int))) mi_111_52 (by simp [stL, lv_args, Value.category]) ?_
        refine V_iload (v := nv) mi_111_54 (by simp [stL, lv_args, Value.category]) ?_
        refine V_stat (As := [.ref (ad 22), .int (Int32.ofInt (((24 * f + h : Nat) : Int))), .int (nv)]) (st := []) mi_111_55 (by omega) (putx_ct a22 hA.1 (by omega) (i32b _).1 (i32b _).2) (by omega) (show 3 = mN 148 by decide +kernel) (by simp [Value.category]) ⟨Nat.le_refl _, Nat.le_refl _⟩ ?_
        rintro r w2 ⟨rfl, G2, o2, u2⟩
        have hR2 := XR_ptd (j := 24 * f + h) (z := sprV td f (h + 1)) hR o2 (fun g => by
          obtain ⟨n1, n2, n3⟩ := hnv g
          refine ⟨hj, ?_, by omega, n3⟩
          rw [← n1]
          exact u2 _ hj rfl)
        rw [mx_step (by omega)] at hR2
        have hA2 := XA_keep hA G2 (fun c i hc => o2 c i (by omega))
        refine V_iinc (v := Int32.ofInt ((h : Int))) mi_111_58 (by simp [stL, lv_args, Value.category]) ?_
        rw [ia2]
        refine V_goto mi_111_61 ?_
        refine V_sub (lv' := [(0, .ref (ad 16)), (1, .int (Int32.ofInt (f : Int))), (2, .int nv), (3, .int (Int32.ofInt ((h + 1 : Nat) : Int)))]) (fun q hq => ?_) ?_
        · simp only [List.mem_cons, List.not_mem_nil, or_false] at hq
          rcases hq with rfl | rfl | rfl | rfl <;> simp [stL, lv_args, Value.category]
        · exact sp_12 hf m (h + 1) nv w2 (by omega) (fun g => hnv g) hA2 hR2 kk
      have vb := i32b v
      have ve : v = Int32.ofInt v.toInt := (Int32.ofInt_toInt v).symm
      rw [show (some (Value.int v)).toList = [.int (Int32.ofInt v.toInt)] by rw [← ve]; rfl]
      refine V_zlt mi_111_35 vb (fun q2 => ?_) (fun q2 => ?_)
      · refine V_sub (lv' := [(0, .ref (ad 16)), (1, .int (Int32.ofInt (f : Int))), (2, .int wv), (3, .int (Int32.ofInt (h : Int))), (4, .int (Int32.ofInt ((24 * f + h : Nat) : Int)))]) (fun q hq => ?_) (tail wv (fun g => ?_))
        · simp only [List.mem_cons, List.not_mem_nil, or_false] at hq
          rcases hq with rfl | rfl | rfl | rfl | rfl <;> simp [stL, lv_args, Value.category]
        · obtain ⟨n1, n2, n3⟩ := hw g
          obtain ⟨t1, t2, t3⟩ := vt g
          have e : sprV td f (h + 1) = sprV td f h := by
            show (if _ then _ else _) = _
            rw [if_pos (by omega)]
          rw [e]
          exact ⟨n1, n2, n3⟩
      · refine V_aload (v := ad 16) mi_111_38 (by simp [stL, lv_args, Value.category]) ?_
        refine V_gR mi_111_39 g16r11 (by omega) hA.1 ?_
        refine V_iload (v := Int32.ofInt (((24 * f + h : Nat) : Int))) mi_111_42 (by simp [stL, lv_args, Value.category]) ?_
        refine V_stat (As := [.ref (ad 22), .int (Int32.ofInt (((24 * f + h : Nat) : Int)))]) (st := []) mi_111_44 (by omega) (atx_ct a22 hA.1 (by omega)) (by omega) (show 2 = mN 147 by decide +kernel) (by simp [Value.category]) ⟨Nat.le_refl _, Nat.le_refl _⟩ ?_
        rintro r w2 ⟨rfl, v2, rfl, hv2⟩
        refine V_istore mi_111_47 ?_
        refine V_sub (lv' := [(0, .ref (ad 16)), (1, .int (Int32.ofInt (f : Int))), (2, .int v2), (3, .int (Int32.ofInt (h : Int))), (4, .int (Int32.ofInt ((24 * f + h : Nat) : Int)))]) (fun q hq => ?_) (tail v2 (fun g => ?_))
        · simp only [List.mem_cons, List.not_mem_nil, or_false] at hq
          rcases hq with rfl | rfl | rfl | rfl | rfl <;> simp [stL, lv_args, Value.category]
        · obtain ⟨t1, t2, t3⟩ := vt g
          obtain ⟨y1, y2, y3⟩ := XR_stay hR g hj
          rw [mt, hv2 _ hj rfl] at y1
          simp only [Option.some.injEq, Value.int.injEq] at y1
          have e : sprV td f (h + 1) = td (24 * f + h) := by
            show (if _ then _ else _) = _
            rw [if_neg (by omega)]
          rw [e]
          exact ⟨y1, by omega, t3⟩
theorem sp_2 {n : Nat} {B fr td : Nat → Int} {s : TS} {w0 : va_W} : ∀ (m f : Nat) (w : va_W), f + m = 6 → XA ad tys n B s w → XR fr (mx td (24 * f)) w0 s w → V l D tys A 111 1 0 0 (fun r w => r = none ∧ XA ad tys n B s w ∧ XR fr (sprT td) w0 s w) 0 0 2 [(0, .ref (ad 16)), (1, .int (Int32.ofInt (f : Int)))] [] w
  | 0, f, w, hm, hA, hR => by
    have e : f = 6 := by omega
    subst e
    refine V_iload (v := Int32.ofInt ((6 : Nat) : Int)) mi_111_2 (by simp [stL, lv_args, Value.category]) ?_
    refine V_ipush mi_111_3 ?_
    refine V_cge mi_111_5 ⟨by omega, by omega⟩ ⟨by omega, by omega⟩ (fun _ => ?_) (fun q => absurd q (by omega))
    refine V_retV mi_111_70 ⟨rfl, hA, XR_cgT hR (fun j hj => ?_)⟩
    unfold mx
    rw [if_pos (by omega)]
  | m + 1, f, w, hm, hA, hR => by
    refine V_iload (v := Int32.ofInt ((f : Int))) mi_111_2 (by simp [stL, lv_args, Value.category]) ?_
    refine V_ipush mi_111_3 ?_
    refine V_cge mi_111_5 ⟨by omega, by omega⟩ ⟨by omega, by omega⟩ (fun q1 => ?_) (fun q1 => ?_)
    · exact absurd q1 (by omega)
    · refine V_ipush mi_111_8 ?_
      refine V_istore mi_111_9 ?_
      refine V_ipush mi_111_10 ?_
      refine V_istore mi_111_11 ?_
      refine V_sub (lv' := [(0, .ref (ad 16)), (1, .int (Int32.ofInt (f : Int))), (2, .int (Int32.ofInt 0)), (3, .int (Int32.ofInt ((0 : Nat) : Int)))]) (fun q hq => ?_) ?_
      · simp only [List.mem_cons, List.not_mem_nil, or_false] at hq
        rcases hq with rfl | rfl | rfl | rfl <;> simp [stL, lv_args, Value.category]
      refine sp_12 (n := n) (B := B) (fr := fr) (td := td) (s := s) (w0 := w0) (by omega) 24 0 _ w (by omega) (fun _ => ⟨rfl, by show (0 : Int) ≤ 0; omega, by show (0 : Int) ≤ 3; omega⟩) hA hR (fun w' hA' hR' => ?_)
      refine V_iinc (v := Int32.ofInt ((f : Int))) mi_111_64 (by simp [stL, lv_args, Value.category]) ?_
      rw [ia2]
      refine V_goto mi_111_67 ?_
      refine V_sub (lv' := [(0, .ref (ad 16)), (1, .int (Int32.ofInt ((f + 1 : Nat) : Int)))]) (fun q hq => ?_) ?_
      · simp only [List.mem_cons, List.not_mem_nil, or_false] at hq
        rcases hq with rfl | rfl <;> simp [stL, lv_args, Value.category]
      · exact sp_2 m (f + 1) w' (by omega) hA' hR'
theorem spr_ct {n : Nat} {B fr td : Nat → Int} {s : TS} {w0 : va_W} (hA : XA ad tys n B s ws) (hR : XR fr td w0 s ws) : CT l D tys A 111 1 0 0 [.ref (ad 16)] ws (fun r w => r = none ∧ XA ad tys n B s w ∧ XR fr (sprT td) w0 s w) := by
  refine CT_of_V (by omega) (show (1 : Nat) ≤ mML 111 by decide +kernel) ?_
  refine V_ipush mi_111_0 ?_
  refine V_istore mi_111_1 ?_
  refine V_sub (lv' := [(0, .ref (ad 16)), (1, .int (Int32.ofInt ((0 : Nat) : Int)))]) (fun q hq => ?_) (sp_2 6 0 ws (by omega) hA (by rw [show 24 * 0 = 0 from rfl, mx_0]; exact hR))
  simp only [List.mem_cons, List.not_mem_nil, or_false] at hq
  rcases hq with rfl | rfl <;> simp [stL, lv_args, Value.category]
theorem rew_ct (hG : GOK ad tys GG ws) : CT l D tys A 187 0 0 0 [.ref (ad 2)] ws (fun r w => r = none ∧ GOK ad tys GG w ∧ rd w 2 2 = some (.int (Int32.ofInt 0)) ∧ rd w 2 3 = some (.int (Int32.ofInt 0)) ∧ rd w 2 4 = some (.int (Int32.ofInt 0)) ∧ rd w 2 5 = some (.int (Int32.ofInt 0)) ∧ TXO ws w) := by
  refine CT_of_V (by omega) (show (1 : Nat) ≤ mML 187 by decide +kernel) ?_
  refine V_aload (v := ad 2) mi_187_0 (by simp [stL, lv_args, Value.category]) ?_
  refine V_ipush mi_187_1 ?_
  refine V_pO mi_187_2 g2f2 (by omega) (by decide +kernel) (by decide +kernel) hG (by rw [Int32.toInt_ofInt_of_le (by omega) (by omega)]; omega) (by rw [Int32.toInt_ofInt_of_le (by omega) (by omega)]; omega) (fun w2 G2 U2 => ?_)
  refine V_aload (v := ad 2) mi_187_5 (by simp [stL, lv_args, Value.category]) ?_
  refine V_ipush mi_187_6 ?_
  refine V_pO mi_187_7 g2f3 (by omega) (by decide +kernel) (by decide +kernel) G2 (by rw [Int32.toInt_ofInt_of_le (by omega) (by omega)]; omega) (by rw [Int32.toInt_ofInt_of_le (by omega) (by omega)]; omega) (fun w3 G3 U3 => ?_)
  refine V_aload (v := ad 2) mi_187_10 (by simp [stL, lv_args, Value.category]) ?_
  refine V_ipush mi_187_11 ?_
  refine V_pO mi_187_12 g2f4 (by omega) (by decide +kernel) (by decide +kernel) G3 (by rw [Int32.toInt_ofInt_of_le (by omega) (by omega)]; omega) (by rw [Int32.toInt_ofInt_of_le (by omega) (by omega)]; omega) (fun w4 G4 U4 => ?_)
  refine V_aload (v := ad 2) mi_187_15 (by simp [stL, lv_args, Value.category]) ?_
  refine V_ipush mi_187_16 ?_
  refine V_pO mi_187_17 g2f5 (by omega) (by decide +kernel) (by decide +kernel) G4 (by rw [Int32.toInt_ofInt_of_le (by omega) (by omega)]; omega) (by rw [Int32.toInt_ofInt_of_le (by omega) (by omega)]; omega) (fun w5 G5 U5 => ?_)
  refine V_retV mi_187_20 ⟨rfl, G5, ?_, ?_, ?_, ?_, fun c j hn => ?_⟩
  · exact (upd_ne U5 (by omega)).trans ((upd_ne U4 (by omega)).trans ((upd_ne U3 (by omega)).trans (upd_eq U2)))
  · exact (upd_ne U5 (by omega)).trans ((upd_ne U4 (by omega)).trans (upd_eq U3))
  · exact (upd_ne U5 (by omega)).trans (upd_eq U4)
  · exact upd_eq U5
  · exact (upd_ne U5 (by omega)).trans ((upd_ne U4 (by omega)).trans ((upd_ne U3 (by omega)).trans (upd_ne U2 (by omega))))
theorem rd_30 {n : Nat} {B : Nat → Int} {w0 : va_W} {post : Option Value → va_W → Prop} : ∀ (f : Nat) (x : TS × (Nat → Int) × (Nat → Int)) (i : Nat) (w : va_W), i ≤ 1400 → (∀ w' : va_W, XA ad tys n B (linA B n f x).1 w' → XR (linA B n f x).2.1 (linA B n f x).2.2 w0 (linA B n f x).1 w' → V l D tys A 133 9 0 0 post 0 0 86 [(0, .ref (ad 1)), (1, .ref (ad 16))] [] w') → XA ad tys n B x.1 w → XR x.2.1 x.2.2 w0 x.1 w → (x.1.2.1 = 0 → TKA B n x.1 ∧ n - x.1.1.2.1 < f ∧ x.2.1 5 ≤ (x.1.1.2.1 : Int) ∧ i ≤ x.1.1.2.1) → V l D tys A 133 9 0 0 post 0 0 30 [(0, .ref (ad 1)), (1, .ref (ad 16)), (2, .int (Int32.ofInt (i : Int)))] [] w
  | f, x, i, w, hi, kk, hA, hR, hm => by
    obtain ⟨G, T, ok, F0, K, S, E, N, ⟨⟨w2, w3, w4, w5⟩, wk, we, wn⟩, t⟩ := id hA
    have n14 := T.2.1
    have F3 := F0.2.2
    refine V_iload (v := Int32.ofInt ((i : Int))) mi_133_30 (by simp [stL, lv_args, Value.category]) ?_
    refine V_ipush mi_133_31 ?_
    refine V_cge mi_133_34 ⟨by omega, by omega⟩ ⟨by omega, by omega⟩ (fun q1 => ?_) (fun q1 => ?_)
    · have e : linA B n f x = x := by
        cases f with
        | zero => rfl
        | succ f => unfold linA; rw [if_neg (fun q => by obtain ⟨m1, m2, m3, m4⟩ := hm q.1; have := tka_lt m1 n14 q.2; omega)]
      rw [e] at kk
      refine V_sub (lv' := [(0, .ref (ad 1)), (1, .ref (ad 16))]) (fun q hq => ?_) (kk _ hA hR)
      simp only [List.mem_cons, List.not_mem_nil, or_false] at hq
      rcases hq with rfl | rfl <;> simp [stL, lv_args, Value.category]
    · refine V_aload (v := ad 1) mi_133_37 (by simp [stL, lv_args, Value.category]) ?_
      refine V_gO mi_133_38 g1o hA.1 (F0.1) ?_
      refine V_zne mi_133_41 ⟨by omega, by omega⟩ (fun q2 => ?_) (fun q2 => ?_)
      · have e : linA B n f x = x := by
          cases f with
          | zero => rfl
          | succ f => unfold linA; rw [if_neg (fun q => q2 q.1)]
        rw [e] at kk
        refine V_sub (lv' := [(0, .ref (ad 1)), (1, .ref (ad 16))]) (fun q hq => ?_) (kk _ hA hR)
        simp only [List.mem_cons, List.not_mem_nil, or_false] at hq
        rcases hq with rfl | rfl <;> simp [stL, lv_args, Value.category]
      · obtain ⟨m1, m2, m3, m4⟩ := hm q2
        have kK : K = x.1.1.1 := (t q2).1
        refine V_aload (v := ad 1) mi_133_44 (by simp [stL, lv_args, Value.category]) ?_
        refine V_gR mi_133_45 g1r (by omega) hA.1 ?_
        refine V_gO mi_133_48 g2o hA.1 (w2) ?_
        refine V_zeq mi_133_51 ⟨by omega, by omega⟩ (fun q3 => ?_) (fun q3 => ?_)
        · have e : linA B n f x = x := by
            cases f with
            | zero => rfl
            | succ f => unfold linA; rw [if_neg (fun q => q.2 (kK ▸ q3))]
          rw [e] at kk
          refine V_sub (lv' := [(0, .ref (ad 1)), (1, .ref (ad 16))]) (fun q hq => ?_) (kk _ hA hR)
          simp only [List.mem_cons, List.not_mem_nil, or_false] at hq
          rcases hq with rfl | rfl <;> simp [stL, lv_args, Value.category]
        · obtain ⟨l1, l2⟩ := tka_lt m1 n14 (kK ▸ q3)
          have i5 := ((hR.1 q2).2.1 5 (by omega)).1
          refine V_aload (v := ad 1) mi_133_54 (by simp [stL, lv_args, Value.category]) ?_
          refine V_aload (v := ad 16) mi_133_55 (by simp [stL, lv_args, Value.category]) ?_
          refine V_cO (As := [.ref (ad 16)]) (st := []) mi_133_56 (by omega) (by decide +kernel) (by decide +kernel) (by omega) g1o hA.1 (rlx_ct q2 hA hR) (by omega) (show 1 = mN 134 by decide +kernel) (by simp [Value.category]) ?_
          rintro r w2 ⟨rfl, hA2, hR2⟩
          refine V_aload (v := ad 1) mi_133_59 (by simp [stL, lv_args, Value.category]) ?_
          refine V_cO (As := []) (st := []) mi_133_60 (by omega) (by decide +kernel) (by decide +kernel) (by omega) g1o hA2.1 (signx_ct hA2 XMK_rf) (by omega) (show 0 = mN 145 by decide +kernel) (by simp [Value.category]) ?_
          rintro r w3 ⟨rfl, hA3, O3⟩
          replace hR2 := XR_to hR2 O3 hA3 (fun g => (sign_ok g).1)
          obtain ⟨p, hp, p0, p1⟩ := celO hA3.1 g16f0 (by omega)
          refine V_aload (v := ad 16) mi_133_63 (by simp [stL, lv_args, Value.category]) ?_
          refine V_dup mi_133_64 (by simp [Value.category]) ?_
          refine V_gO mi_133_65 g16o hA3.1 (hp) ?_
          refine V_ipush mi_133_68 ?_
          refine V_ibin mi_133_69 (by omega) ?_
          rw [ib0]
          refine V_pO mi_133_70 g16f0 (by omega) (by decide +kernel) (by decide +kernel) hA3.1 (i32b _).1 (i32b _).2 (fun w4 G4 U4 => ?_)
          have hA4 := XA_keep hA3 G4 (fun c i hc => upd_ne U4 (by omega))
          have hR4 := XR_put (j := 5) (z := (linW B n x.2.1 x.2.2 x.1).2.1 5 + 1) hR2 (fun c i hc => upd_ne U4 (fun e => hc e.1)) (by omega) (by omega) (fun g => by
            have e := (XR_at (j := 5) hR2 hp ⟨p0, p1⟩ g (by omega) (by omega) rfl rfl).1
            rw [← e]
            refine ⟨⟨by omega, by omega⟩, rfl, U4, ?_, fun _ => by omega⟩
            rw [e, lin_5]
            omega)
          refine V_aload (v := ad 1) mi_133_73 (by simp [stL, lv_args, Value.category]) ?_
          refine V_gR mi_133_74 g1r (by omega) hA4.1 ?_
          refine V_cO (As := []) (st := []) mi_133_77 (by omega) (by decide +kernel) (by decide +kernel) (by omega) g2o hA4.1 (advx_ct (XB_adv hA4) XMK_rf) (by omega) (show 0 = mN 188 by decide +kernel) (by simp [Value.category]) ?_
          rintro r w5 ⟨rfl, hA5, O5⟩
          refine V_iinc (v := Int32.ofInt ((i : Int))) mi_133_80 (by simp [stL, lv_args, Value.category]) ?_
          rw [ia2]
          refine V_goto mi_133_83 ?_
          have hR5 := XR_to hR4 O5 hA5 (fun g => g)
          cases f with
          | zero => exact absurd m2 (by omega)
          | succ f =>
            have e : linA B n (f + 1) x = linA B n f (linS B n x) := by
              show (if _ then _ else _) = _
              rw [if_pos ⟨q2, fun e => q3 (kK.trans e)⟩]
            rw [e] at kk
            have hA6 : XA ad tys n B (linS B n x).1 w5 := by
              unfold linS
              by_cases g : (signS (linW B n x.2.1 x.2.2 x.1).1).2.1 = 0
              · rw [if_pos g]
                exact hA5
              · rw [if_neg g]
                exact XA_bad hA5 g hA3.2.2.1 rfl
            have hR6 : XR (linS B n x).2.1 (linS B n x).2.2 w0 (linS B n x).1 w5 := by
              unfold linS
              by_cases g : (signS (linW B n x.2.1 x.2.2 x.1).1).2.1 = 0
              · rw [if_pos g]
                exact hR5
              · rw [if_neg g]
                exact XR_bad hR5 g
            refine V_sub (lv' := [(0, .ref (ad 1)), (1, .ref (ad 16)), (2, .int (Int32.ofInt ((i + 1 : Nat) : Int)))]) (fun q hq => ?_) (rd_30 f (linS B n x) (i + 1) w5 (by omega) kk hA6 hR6 (fun g2 => ?_))
            · simp only [List.mem_cons, List.not_mem_nil, or_false] at hq
              rcases hq with rfl | rfl | rfl <;> simp [stL, lv_args, Value.category]
            · obtain ⟨o2, a2, u2⟩ := lin_up (x := x) ok m1 n14 g2
              refine ⟨a2, by omega, ?_, by omega⟩
              rw [linS_5]
              omega
theorem read_ct {n : Nat} {B : Nat → Int} {v0 : Int} (hG : GOK ad tys GG ws) (T : TXX ws n B) (v0I : I32 v0) : CT l D tys A 133 9 0 0 [.ref (ad 1), .ref (ad 16)] ws (fun r w => r = none ∧ XA ad tys n B (hillX B n v0).1 w ∧ XR (hillX B n v0).2.1 (sprT (hillX B n v0).2.2) ws (hillX B n v0).1 w) := by
  refine CT_of_V (by omega) (show (2 : Nat) ≤ mML 133 by decide +kernel) ?_
  refine V_aload (v := ad 16) mi_133_0 (by simp [stL, lv_args, Value.category]) ?_
  refine V_cO (As := []) (st := []) mi_133_1 (by omega) (by decide +kernel) (by decide +kernel) (by omega) g16o hG (clr_ct hG) (by omega) (show 0 = mN 99 by decide +kernel) (by simp [Value.category]) ?_
  rintro r w1 ⟨rfl, G1, hX, o1⟩
  refine V_aload (v := ad 1) mi_133_4 (by simp [stL, lv_args, Value.category]) ?_
  refine V_ipush mi_133_5 ?_
  refine V_pO mi_133_6 g1f1 (by omega) (by decide +kernel) (by decide +kernel) G1 (by rw [Int32.toInt_ofInt_of_le (by omega) (by omega)]; omega) (by rw [Int32.toInt_ofInt_of_le (by omega) (by omega)]; omega) (fun w2 G2 U2 => ?_)
  refine V_aload (v := ad 1) mi_133_9 (by simp [stL, lv_args, Value.category]) ?_
  refine V_ipush mi_133_10 ?_
  refine V_pO mi_133_11 g1f2 (by omega) (by decide +kernel) (by decide +kernel) G2 (by rw [Int32.toInt_ofInt_of_le (by omega) (by omega)]; omega) (by rw [Int32.toInt_ofInt_of_le (by omega) (by omega)]; omega) (fun w3 G3 U3 => ?_)
  refine V_aload (v := ad 1) mi_133_14 (by simp [stL, lv_args, Value.category]) ?_
  refine V_gR mi_133_15 g1r (by omega) G3 ?_
  refine V_cO (As := []) (st := []) mi_133_18 (by omega) (by decide +kernel) (by decide +kernel) (by omega) g2o G3 (rew_ct G3) (by omega) (show 0 = mN 187 by decide +kernel) (by simp [Value.category]) ?_
  rintro r w4 ⟨rfl, G4, k2, k3, k4, k5, O4⟩
  have o4 : ∀ c j, ¬ ((c = 2 ∧ 2 ≤ j ∧ j ≤ 5) ∨ (c = 1 ∧ 1 ≤ j ∧ j ≤ 2)) → rd w4 c j = rd w1 c j := fun c j hn => (O4 c j (by omega)).trans ((upd_ne U3 (by omega)).trans (upd_ne U2 (by omega)))
  have T4 : TXX w4 n B := ⟨(o4 _ _ (by omega)).trans ((o1 _ _ (by omega)).trans T.1), T.2.1, fun k hk => ⟨(o4 _ _ (by omega)).trans ((o1 _ _ (by omega)).trans (T.2.2 k hk).1), (T.2.2 k hk).2⟩⟩
  obtain ⟨t1, t2, t3⟩ := tk_bd (B := B) (n := n) (a := 0) (v := v0) (Nat.zero_le _) v0I.1 v0I.2
  have hB : XB ad tys n B (hill0 B n v0).1 w4 := ⟨G4, T4, ⟨t1, t2.2, t3, by show (0 : Int) ≤ 0; omega, by show (0 : Int) ≤ 3; omega⟩, ⟨(O4 _ _ (by omega)).trans ((upd_ne U3 (by omega)).trans (upd_eq U2)), (O4 _ _ (by omega)).trans (upd_eq U3), by show (0 : Int) ≤ 0; omega, by show (0 : Int) ≤ 3; omega⟩, 0, 0, 0, 0, ⟨⟨k2, k3, k4, k5⟩, ⟨by omega, by omega⟩, ⟨Nat.le_refl _, Nat.zero_le _⟩, ⟨by omega, by omega⟩⟩, fun _ => ⟨rfl, rfl, rfl, fun q => tkV_2 q⟩⟩
  have hR : XR (hill0 B n v0).2.1 (hill0 B n v0).2.2 ws (hill0 B n v0).1 w4 := ⟨fun _ => ⟨HX_keep hX (fun c i h1 h2 => o4 c i (by omega)), fun j hj => ⟨⟨by show (0 : Int) ≤ 0; omega, by show (0 : Int) ≤ 4095; omega⟩, fun _ => by show (0 : Int) ≤ 127; omega⟩, fun j hj => ⟨by show (-1 : Int) ≤ -1; omega, by show (-1 : Int) ≤ 3; omega⟩⟩, fun c j hn => (o4 c j (by omega)).trans (o1 c j (by omega))⟩
  refine V_aload (v := ad 1) mi_133_21 (by simp [stL, lv_args, Value.category]) ?_
  refine V_gR mi_133_22 g1r (by omega) G4 ?_
  refine V_cO (As := []) (st := []) mi_133_25 (by omega) (by decide +kernel) (by decide +kernel) (by omega) g2o G4 (advx_ct hB XMK_rf) (by omega) (show 0 = mN 188 by decide +kernel) (by simp [Value.category]) ?_
  rintro r w5 ⟨rfl, hA, O5⟩
  replace hR := XR_to hR O5 hA (fun g => g)
  refine V_ipush mi_133_28 ?_
  refine V_istore mi_133_29 ?_
  refine V_sub (lv' := [(0, .ref (ad 1)), (1, .ref (ad 16)), (2, .int (Int32.ofInt ((0 : Nat) : Int)))]) (fun q hq => ?_) (rd_30 1402 (hill0 B n v0) 0 w5 (by omega) (fun w6 hA6 hR6 => ?_) hA hR (fun _ => ⟨⟨0, Nat.zero_le _, rfl, rfl, rfl⟩, by have := T.2.1; omega, by show (0 : Int) ≤ _; omega, Nat.zero_le _⟩))
  · simp only [List.mem_cons, List.not_mem_nil, or_false] at hq
    rcases hq with rfl | rfl | rfl <;> simp [stL, lv_args, Value.category]
  refine V_aload (v := ad 16) mi_133_86 (by simp [stL, lv_args, Value.category]) ?_
  refine V_cO (As := []) (st := []) mi_133_87 (by omega) (by decide +kernel) (by decide +kernel) (by omega) g16o hA6.1 (spr_ct hA6 hR6) (by omega) (show 0 = mN 111 by decide +kernel) (by simp [Value.category]) ?_
  rintro r w7 ⟨rfl, hA7, hR7⟩
  exact V_retV mi_133_90 ⟨rfl, hA7, hR7⟩
noncomputable def cSet : CR := (73, [(2, 0, 0)], [], none, [], [29, 30, 31, 32, 33, 34, 35])
theorem wSet : vrf GG [(4, g78), (5, g76)] [] 300 6 cSet [] = true := by decide +kernel
theorem rSet (hAD : ∀ i : Nat, ad (1000 + i) = D.2 1000 i) : CRok l D tys A ad GG 7 cSet := CR_of_vrf (dep := 6) hAD (List.forall_mem_cons.mpr ⟨r78 hAD, List.forall_mem_cons.mpr ⟨r76 hAD, fun c hc => by cases hc⟩⟩) T2OK_nil wSet
/-- what the class's hill leaves as it was -/
noncomputable def HXo (w0 w : va_W) : Prop := ∀ c j, ¬ ((c = 2 ∧ 1 ≤ j ∧ j ≤ 5) ∨ (c = 1 ∧ 1 ≤ j ∧ j ≤ 2) ∨ (4 ≤ c ∧ c ≤ 27) ∨ (29 ≤ c ∧ c ≤ 35)) → rd w c j = rd w0 c j
noncomputable def HXP (ad : Nat → Nat) (tys : List (ClassId × FieldType)) (x : TS × (Nat → Int) × (Nat → Int)) (w0 : va_W) (r : Option Value) (w : va_W) : Prop := GOK ad tys GG w ∧ HXo w0 w ∧ rd w 2 1 = some (.int (Int32.ofInt 0)) ∧ rd w 1 1 = some (.int (Int32.ofInt x.1.2.1)) ∧ rd w 1 2 = some (.int (Int32.ofInt x.1.2.2)) ∧ (x.1.2.1 = 0 → r = some (.int (Int32.ofInt (x.2.1 5))) ∧ HX 4 (endG x) w) ∧ (¬ x.1.2.1 = 0 → r = some (.int (Int32.ofInt (-4))) ∧ ∀ c j, (4 ≤ c ∧ c ≤ 15) ∨ (29 ≤ c ∧ c ≤ 35) → rd w c j = rd w0 c j)
theorem hixx_ct {n : Nat} {B : Nat → Int} {v0 : Int} (hAD : ∀ i : Nat, ad (1000 + i) = D.2 1000 i) (hG : GOK ad tys GG ws) (T : TXX ws n B) (v0I : I32 v0) : CT l D tys A 3 10 0 0 [.ref (ad 0)] ws (HXP ad tys (hillX B n v0) ws) := by
  refine CT_of_V (by omega) (show (1 : Nat) ≤ mML 3 by decide +kernel) ?_
  refine V_aload (v := ad 0) mi_3_0 (by simp [stL, lv_args, Value.category]) ?_
  refine V_gR mi_3_1 g0r0 (by omega) hG ?_
  refine V_aload (v := ad 0) mi_3_4 (by simp [stL, lv_args, Value.category]) ?_
  refine V_gR mi_3_5 g0r3 (by omega) hG ?_
  refine V_cO (As := [.ref (ad 16)]) (st := []) mi_3_8 (by omega) (by decide +kernel) (by decide +kernel) (by omega) g1o hG (read_ct hG T v0I) (by omega) (show 1 = mN 133 by decide +kernel) (by simp [Value.category]) ?_
  rintro r w1 ⟨rfl, hA, hR⟩
  obtain ⟨-, -, -, F0, -⟩ := id hA
  have F3 := F0.2.2
  refine V_aload (v := ad 0) mi_3_11 (by simp [stL, lv_args, Value.category]) ?_
  refine V_gR mi_3_12 g0r1 (by omega) hA.1 ?_
  refine V_ipush mi_3_15 ?_
  refine V_pO mi_3_16 g2f1 (by omega) (by decide +kernel) (by decide +kernel) hA.1 (by rw [Int32.toInt_ofInt_of_le (by omega) (by omega)]; omega) (by rw [Int32.toInt_ofInt_of_le (by omega) (by omega)]; omega) (fun w2 G2 U2 => ?_)
  refine V_aload (v := ad 0) mi_3_19 (by simp [stL, lv_args, Value.category]) ?_
  refine V_gR mi_3_20 g0r0 (by omega) G2 ?_
  refine V_gO mi_3_23 g1o G2 ((upd_ne U2 (by omega)).trans F0.1) ?_
  refine V_zeq mi_3_26 ⟨by omega, by omega⟩ (fun q => ?_) (fun q => ?_)
  · obtain ⟨hX, -, -⟩ := hR.1 q
    refine V_aload (v := ad 0) mi_3_32 (by simp [stL, lv_args, Value.category]) ?_
    refine V_gR mi_3_33 g0r2 (by omega) G2 ?_
    refine V_aload (v := ad 0) mi_3_36 (by simp [stL, lv_args, Value.category]) ?_
    refine V_gR mi_3_37 g0r3 (by omega) G2 ?_
    refine V_cO (As := [.ref (ad 16)]) (st := []) mi_3_40 (by omega) (by decide +kernel) (by decide +kernel) (by omega) g4o G2 (cpf_ct G2 (HX_keep hX (fun c i h1 h2 => upd_ne U2 (by omega)))) (by omega) (show 1 = mN 100 by decide +kernel) (by simp [Value.category]) ?_
    rintro r w3 ⟨rfl, G3, hX3, o3⟩
    refine V_aload (v := ad 0) mi_3_43 (by simp [stL, lv_args, Value.category]) ?_
    obtain ⟨d5, k1, k2⟩ := rSet hAD (l := l) (tys := tys) (A := A) [.ref (ad 0)] w3 ⟨rfl, trivial⟩ G3 (fun q hq => by cases hq)
    refine V_cO (As := []) (st := []) mi_3_44 (by omega) (by decide +kernel) (by decide +kernel) (by omega) g0o G3 (k2) (by omega) (show 0 = mN 73 by decide +kernel) (by simp [Value.category]) ?_
    rintro r w4 ⟨G4, f4, n4, -⟩
    have r0 : r = none := by
      cases r with
      | none => rfl
      | some v => exact n4.elim
    subst r0
    have o4 : ∀ c j, ¬ (29 ≤ c ∧ c ≤ 35) → rd w4 c j = rd w3 c j := fun c j hn => f4.1 c (fun hc => hn (by have hc : c ∈ [29, 30, 31, 32, 33, 34, 35] := hc; simp only [List.mem_cons, List.not_mem_nil, or_false] at hc; omega)) j
    have hX4 := HX_keep hX3 (fun c i h1 h2 => o4 c i (by omega))
    refine V_aload (v := ad 0) mi_3_47 (by simp [stL, lv_args, Value.category]) ?_
    refine V_gR mi_3_48 g0r2 (by omega) G4 ?_
    refine V_gO mi_3_51 g4o G4 (hx0 hX4 (i := 0) (by omega)) ?_
    refine V_retI mi_3_54 (fun q => absurd q (by decide +kernel)) ⟨G4, fun c j hn => ?_, ?_, ?_, ?_, fun _ => ⟨rfl, hX4⟩, fun h => absurd q h⟩
    · rw [o4 _ _ (by omega), o3 _ _ (by omega), upd_ne U2 (by omega)]
      exact hR.2 c j (by omega)
    · rw [o4 _ _ (by omega), o3 _ _ (by omega)]
      exact upd_eq U2
    · rw [o4 _ _ (by omega), o3 _ _ (by omega), upd_ne U2 (by omega)]
      exact F0.1
    · rw [o4 _ _ (by omega), o3 _ _ (by omega), upd_ne U2 (by omega)]
      exact F0.2.1
  · refine V_ipush mi_3_29 ?_
    refine V_retI mi_3_31 (fun q => absurd q (by decide +kernel)) ⟨G2, fun c j hn => ?_, upd_eq U2, ?_, ?_, fun h => absurd h q, fun _ => ⟨rfl, fun c j hc => ?_⟩⟩
    · rw [upd_ne U2 (by omega)]
      exact hR.2 c j (by omega)
    · rw [upd_ne U2 (by omega)]
      exact F0.1
    · rw [upd_ne U2 (by omega)]
      exact F0.2.1
    · rw [upd_ne U2 (by omega)]
      exact hR.2 c j (by omega)
end XHM
