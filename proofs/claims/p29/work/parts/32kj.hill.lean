section XTP
theorem sx8 (x : BitVec 32) (s : Nat) (hs : s ≤ 24) : (x >>> s).signExtend 8 = (x.sshiftRight s).signExtend 8 := by
  apply BitVec.eq_of_getLsbD_eq
  intro i hi
  rw [BitVec.getLsbD_signExtend, BitVec.getLsbD_signExtend, BitVec.getLsbD_ushiftRight, BitVec.getLsbD_sshiftRight]
  have h1 : i < 32 := by omega
  have h2 : s + i < 32 := by omega
  simp [h1, h2, hi]
theorem by_eq (v : Int32) {s : Nat} (hs : s = 0 ∨ s = 8 ∨ s = 16 ∨ s = 24) : (ibF 10 v (Int32.ofInt (s : Int))).toInt8 = (ibF 9 v (Int32.ofInt (s : Int))).toInt8 := by
  apply Int8.toBitVec_inj.mp
  rw [Int32.toBitVec_toInt8, Int32.toBitVec_toInt8]
  have e1 : (ibF 10 v (Int32.ofInt (s : Int))).toBitVec = v.toBitVec >>> s := by
    rcases hs with rfl | rfl | rfl | rfl <;> rfl
  have e2 : (ibF 9 v (Int32.ofInt (s : Int))).toBitVec = v.toBitVec.sshiftRight s := by
    rcases hs with rfl | rfl | rfl | rfl <;> rfl
  rw [e1, e2]
  exact sx8 _ _ (by omega)
/-- a byte of an int, from the highest -/
noncomputable def byS (v : Int32) (j : Nat) : Int := ((ibF 9 v (Int32.ofInt (24 - 8 * (j : Int)))).toInt8).toInt
theorem byS_bd (v : Int32) (j : Nat) : -128 ≤ byS v j ∧ byS v j ≤ 127 := by
  have h1 := Int8.le_toInt ((ibF 9 v (Int32.ofInt (24 - 8 * (j : Int)))).toInt8)
  have h2 := Int8.toInt_lt ((ibF 9 v (Int32.ofInt (24 - 8 * (j : Int)))).toInt8)
  unfold byS
  omega
theorem b32 (x : Int8) : x.toInt32 = Int32.ofInt x.toInt := by
  rw [← Int8.toInt_toInt32, Int32.ofInt_toInt]
theorem byX (v : Int32) {j : Nat} (hj : j < 4) : (ibF 10 v (Int32.ofInt (24 - 8 * (j : Int)))).toInt8.toInt32 = Int32.ofInt (byS v j) := by
  rw [b32]
  unfold byS
  rw [show (24 : Int) - 8 * (j : Int) = ((24 - 8 * j : Nat) : Int) by omega, by_eq v (s := 24 - 8 * j) (by omega)]
theorem byM (v : Int32) (j : Nat) : (ibF 9 v (Int32.ofInt (24 - 8 * (j : Int)))).toInt8.toInt32 = Int32.ofInt (byS v j) := b32 _
/-- the text with 20 bytes more -/
noncomputable def feB (B : Nat → Int) (z : Nat) (a : Nat → Int32) (k : Nat) : Int := if k < z then B k else byS (a ((k - z) / 4)) ((k - z) % 4)
theorem feB_at {B : Nat → Int} {z : Nat} {a : Nat → Int32} {k : Nat} : feB B z a (z + k) = byS (a (k / 4)) (k % 4) := by
  unfold feB
  rw [if_neg (by omega), show z + k - z = k by omega]
variable {l : Launch} {D : va_G} {tys : List (ClassId × FieldType)} {A : Nat → Prop} {ad : Nat → Nat} {ws : va_W} {k d : Nat} {post : Option Value → va_W → Prop} {pc : Nat} {lv : List (Nat × Value)} {st : List Value} {a : Int} {x y z : Nat}
theorem V_bstI {c n j : Nat} {segs : List SG} {ix v : Int32} {b : Int} (hi : mI k pc = (20, a, 1, y, z)) (hix : ix = Int32.ofInt (j : Int)) (hv : v = Int32.ofInt b) (b0 : -128 ≤ b) (b1 : b ≤ 127) (hG : GOK ad tys GG ws) (hg : GG[c]? = some ((1, 1, n), segs)) (hj : j < n) (hn : n ≤ 100000) (hs : segAt segs j = some (0, -128, 127)) (kk : ∀ w : va_W, GOK ad tys GG w → Upd1 ws w c j (.int (Int32.ofInt b)) → V l D tys A k d 0 0 post 0 0 (pc + 1) lv st w) : V l D tys A k d 0 0 post 0 0 pc lv (.int v :: .int ix :: .ref (ad c) :: st) ws := by
  subst hix
  subst hv
  obtain ⟨e, q1, q2, q3⟩ := hG c _ hg
  obtain ⟨cA, f, rfl, c1, c2⟩ := q2
  refine V_bast hi q1 c1 (ix_in hj hn).1 ?_
  rw [(ix_in hj hn).2, byte_fit b0 b1]
  have hu := GOK_upd (j := j) (v := .int (Int32.ofInt b)) (e' := .inl (cA, n, .inl (upd f j (Int32.ofInt b)))) hG hg q1 ⟨cA, _, rfl, c1, c2⟩ (fun j' => by
    show (if j' < n then some (Value.int (upd f j (Int32.ofInt b) j')) else none) = if j' = j then some (Value.int (Int32.ofInt b)) else if j' < n then some (Value.int (f j')) else none
    unfold upd
    by_cases h : j' = j
    · subst h; simp [hj]
    · simp [h]) hs ⟨b, rfl, b0, b1⟩
  exact kk _ hu.1 hu.2
theorem g2r : gOr 2 9 6 0 3 := ⟨_, rfl, by decide +kernel⟩
theorem gr6m : ∃ g, GG[90]? = some ((0, 11, 36), g) ∧ segAt g 6 = some (2, ((95 : Nat) : Int), ((95 : Nat) : Int)) := ⟨_, rfl, by decide +kernel⟩
theorem a95 : gA 95 5 (-2147483648) 2147483647 := gA_of rfl
theorem TB_up {w w' : va_W} {c n : Nat} {B : Nat → Int} (h : TB w c n B) (U : Upd1 w w' c n (.int (Int32.ofInt (B n)))) (b : -128 ≤ B n ∧ B n ≤ 127) : TB w' c (n + 1) B := fun k hk => by
  by_cases e : k = n
  · subst e
    exact ⟨upd_eq U, b⟩
  · exact ⟨(upd_ne U (fun q => e q.2)).trans (h k (by omega)).1, (h k (by omega)).2⟩
theorem TB_ne {w w' : va_W} {c n : Nat} {B : Nat → Int} (h : TB w c n B) (o : ∀ j, rd w' c j = rd w c j) : TB w' c n B := fun k hk => ⟨(o k).trans (h k hk).1, (h k hk).2⟩
theorem TB_cg {w : va_W} {c n : Nat} {B B' : Nat → Int} (h : TB w c n B) (e : ∀ k, k < n → B k = B' k) : TB w c n B' := fun k hk => by
  rw [← e k hk]
  exact h k hk
theorem TB_le {w : va_W} {c n m : Nat} {B : Nat → Int} (h : TB w c n B) (hm : m ≤ n) : TB w c m B := fun k hk => h k (by omega)
theorem ap_3 {z : Nat} {B : Nat → Int} {v : Int32} (hz : z ≤ 1396) (hb : ∀ j, j < 4 → B (z + j) = byS v j) : ∀ (m i : Nat) (w : va_W), i + m = 4 → GOK ad tys GG w → rd w 2 1 = some (.int (Int32.ofInt ((z + i : Nat) : Int))) → TB w 3 (z + i) B → (∀ c j, c ≠ 3 → ¬ (c = 2 ∧ j = 1) → rd w c j = rd ws c j) → V l D tys A 185 1 0 0 (fun r w => r = none ∧ GOK ad tys GG w ∧ (∀ c j, c ≠ 3 → ¬ (c = 2 ∧ j = 1) → rd w c j = rd ws c j) ∧ rd w 2 1 = some (.int (Int32.ofInt ((z + 4 : Nat) : Int))) ∧ TB w 3 (z + 4) B) 0 0 3 [(0, .ref (ad 2)), (1, .int v), (2, .int (Int32.ofInt (24 - 8 * (i : Int))))] [] w
  | 0, i, w, hm, hG, h1, hB, ho => by
    refine V_iload (v := Int32.ofInt (24 - 8 * (i : Int))) mi_185_3 (by simp [stL, lv_args, Value.category]) ?_
    refine V_zlt mi_185_4 ⟨by omega, by omega⟩ (fun q => ?_) (fun q => ?_)
    · refine V_retV mi_185_55 ⟨rfl, hG, ho, ?_, ?_⟩
      · rw [h1, show i = 4 by omega]
      · rw [show i = 4 by omega] at hB
        exact hB
    · exact absurd q (by omega)
  | m + 1, i, w, hm, hG, h1, hB, ho => by
    refine V_iload (v := Int32.ofInt (24 - 8 * (i : Int))) mi_185_3 (by simp [stL, lv_args, Value.category]) ?_
    refine V_zlt mi_185_4 ⟨by omega, by omega⟩ (fun q => ?_) (fun q => ?_)
    · exact absurd q (by omega)
    · refine V_aload (v := ad 2) mi_185_7 (by simp [stL, lv_args, Value.category]) ?_
      refine V_gO mi_185_8 g2o hG (h1) ?_
      refine V_zlt mi_185_11 ⟨by omega, by omega⟩ (fun q2 => ?_) (fun q2 => ?_)
      · exact absurd q2 (by omega)
      · refine V_aload (v := ad 2) mi_185_14 (by simp [stL, lv_args, Value.category]) ?_
        refine V_gO mi_185_15 g2o hG (h1) ?_
        refine V_aload (v := ad 2) mi_185_18 (by simp [stL, lv_args, Value.category]) ?_
        refine V_gR mi_185_19 g2r (by omega) hG ?_
        obtain ⟨s3, e3, f3⟩ := gt3
        refine V_lenA mi_185_22 hG e3 ?_
        refine V_cge mi_185_23 ⟨by omega, by omega⟩ ⟨by omega, by omega⟩ (fun q3 => ?_) (fun q3 => ?_)
        · exact absurd q3 (by omega)
        · refine V_aload (v := ad 2) mi_185_26 (by simp [stL, lv_args, Value.category]) ?_
          refine V_gR mi_185_27 g2r (by omega) hG ?_
          refine V_aload (v := ad 2) mi_185_30 (by simp [stL, lv_args, Value.category]) ?_
          refine V_gO mi_185_31 g2o hG (h1) ?_
          refine V_iload (v := v) mi_185_34 (by simp [stL, lv_args, Value.category]) ?_
          refine V_iload (v := Int32.ofInt (24 - 8 * (i : Int))) mi_185_35 (by simp [stL, lv_args, Value.category]) ?_
          refine V_ibin mi_185_36 (by omega) ?_
          refine V_i2b mi_185_37 ?_
          refine V_bstI (j := z + i) (b := byS v i) mi_185_38 rfl (byX v (by omega)) (byS_bd v i).1 (byS_bd v i).2 hG e3 (by omega) (by omega) (f3 _ (by omega)) (fun w1 G1 U1 => ?_)
          refine V_aload (v := ad 2) mi_185_39 (by simp [stL, lv_args, Value.category]) ?_
          refine V_dup mi_185_40 (by simp [Value.category]) ?_
          refine V_gO mi_185_41 g2o G1 ((upd_ne U1 (by omega)).trans h1) ?_
          refine V_ipush mi_185_44 ?_
          refine V_ibin mi_185_45 (by omega) ?_
          rw [ib0]
          rw [show ((z + i : Nat) : Int) + 1 = ((z + (i + 1) : Nat) : Int) by omega]
          refine V_pO mi_185_46 g2f1 (by omega) (by decide +kernel) (by decide +kernel) G1 (by rw [Int32.toInt_ofInt_of_le (by omega) (by omega)]; omega) (by rw [Int32.toInt_ofInt_of_le (by omega) (by omega)]; omega) (fun w2 G2 U2 => ?_)
          refine V_iinc (v := Int32.ofInt (24 - 8 * (i : Int))) mi_185_49 (by simp [stL, lv_args, Value.category]) ?_
          rw [ia2]
          refine V_goto mi_185_52 ?_
          rw [← hb i (by omega)] at U1
          have t1 := TB_up hB U1 (by rw [hb i (by omega)]; exact byS_bd v i)
          refine V_sub (lv' := [(0, .ref (ad 2)), (1, .int v), (2, .int (Int32.ofInt (24 - 8 * ((i + 1 : Nat) : Int))))]) (fun q hq => ?_) (ap_3 hz hb m (i + 1) w2 (by omega) G2 (upd_eq U2) (TB_ne t1 (fun j => upd_ne U2 (by omega))) (fun c j c3 c2 => (upd_ne U2 c2).trans ((upd_ne U1 (by omega)).trans (ho c j c3 c2))))
          simp only [List.mem_cons, List.not_mem_nil, or_false] at hq
          rw [show (24 : Int) - 8 * ((i + 1 : Nat) : Int) = 24 - 8 * (i : Int) + -8 by omega] at hq
          rcases hq with rfl | rfl | rfl <;> simp [stL, lv_args, Value.category]
theorem appB_ct {z : Nat} {B : Nat → Int} {v : Int32} (hz : z ≤ 1396) (hb : ∀ j, j < 4 → B (z + j) = byS v j) (hG : GOK ad tys GG ws) (h1 : rd ws 2 1 = some (.int (Int32.ofInt (z : Int)))) (hB : TB ws 3 z B) : CT l D tys A 185 1 0 0 [.ref (ad 2), .int v] ws (fun r w => r = none ∧ GOK ad tys GG w ∧ (∀ c j, c ≠ 3 → ¬ (c = 2 ∧ j = 1) → rd w c j = rd ws c j) ∧ rd w 2 1 = some (.int (Int32.ofInt ((z + 4 : Nat) : Int))) ∧ TB w 3 (z + 4) B) := by
  refine CT_of_V (by omega) (show (2 : Nat) ≤ mML 185 by decide +kernel) ?_
  refine V_ipush mi_185_0 ?_
  refine V_istore mi_185_2 ?_
  refine V_sub (lv' := [(0, .ref (ad 2)), (1, .int v), (2, .int (Int32.ofInt (24 - 8 * ((0 : Nat) : Int))))]) (fun q hq => ?_) (ap_3 hz hb 4 0 ws (by omega) hG h1 hB (fun _ _ _ _ => rfl))
  simp only [List.mem_cons, List.not_mem_nil, or_false] at hq
  rcases hq with rfl | rfl | rfl
  · simp [stL, lv_args, Value.category]
  · simp [stL, lv_args, Value.category]
  · rw [show (24 : Int) - 8 * ((0 : Nat) : Int) = 24 by omega]
    simp [stL, lv_args, Value.category]
noncomputable def fe5 (a1 a2 a3 a4 a5 : Int32) (i : Nat) : Int32 := if i = 0 then a1 else if i = 1 then a2 else if i = 2 then a3 else if i = 3 then a4 else a5
theorem feeX_ct {z : Nat} {B : Nat → Int} (a1 a2 a3 a4 a5 : Int32) (hz : z ≤ 1400) (hG : GOK ad tys GG ws) (h1 : rd ws 2 1 = some (.int (Int32.ofInt (z : Int)))) (hB : TB ws 3 z B) : CT l D tys A 1 2 0 0 [.ref (ad 0), .int a1, .int a2, .int a3, .int a4, .int a5] ws (fun r w => GOK ad tys GG w ∧ (∀ c j, c ≠ 3 → ¬ (c = 2 ∧ j = 1) → rd w c j = rd ws c j) ∧ (if z + 20 ≤ 1400 then r = some (.int (Int32.ofInt ((z + 20 : Nat) : Int))) ∧ rd w 2 1 = some (.int (Int32.ofInt ((z + 20 : Nat) : Int))) ∧ TB w 3 (z + 20) (feB B z (fe5 a1 a2 a3 a4 a5)) else r = some (.int (Int32.ofInt (-1))) ∧ rd w 2 1 = some (.int (Int32.ofInt (z : Int))) ∧ TB w 3 z B)) := by
  refine CT_of_V (by omega) (show (6 : Nat) ≤ mML 1 by decide +kernel) ?_
  refine V_aload (v := ad 0) mi_1_0 (by simp [stL, lv_args, Value.category]) ?_
  refine V_gR mi_1_1 g0r1 (by omega) hG ?_
  refine V_gO mi_1_4 g2o hG (h1) ?_
  refine V_ipush mi_1_7 ?_
  refine V_ibin mi_1_9 (by omega) ?_
  rw [ib0]
  refine V_ipush mi_1_10 ?_
  refine V_cle mi_1_13 ⟨by omega, by omega⟩ ⟨by omega, by omega⟩ (fun q => ?_) (fun q => ?_)
  · have t0 : TB ws 3 z (feB B z (fe5 a1 a2 a3 a4 a5)) := TB_cg hB (fun k hk => by unfold feB; rw [if_pos hk])
    refine V_aload (v := ad 0) mi_1_18 (by simp [stL, lv_args, Value.category]) ?_
    refine V_gR mi_1_19 g0r1 (by omega) hG ?_
    refine V_iload (v := a1) mi_1_22 (by simp [stL, lv_args, Value.category]) ?_
    have b0 : ∀ j, j < 4 → (feB B z (fe5 a1 a2 a3 a4 a5)) (z + j) = byS a1 j := fun j hj => by
      rw [show z + j = z + (0 + j) by omega, feB_at, show (0 + j) / 4 = 0 by omega, show (0 + j) % 4 = j by omega]
      rfl
    refine V_cO (As := [.int (a1)]) (st := []) mi_1_23 (by omega) (by decide +kernel) (by decide +kernel) (by omega) g2o hG (appB_ct (z := z) (B := (feB B z (fe5 a1 a2 a3 a4 a5))) (v := a1) (by omega) b0 hG h1 t0) (by omega) (show 1 = mN 185 by decide +kernel) (by simp [Value.category]) ?_
    rintro r w1 ⟨rfl, G1, o1, k1, t1⟩
    refine V_aload (v := ad 0) mi_1_26 (by simp [stL, lv_args, Value.category]) ?_
    refine V_gR mi_1_27 g0r1 (by omega) G1 ?_
    refine V_iload (v := a2) mi_1_30 (by simp [stL, lv_args, Value.category]) ?_
    have b1 : ∀ j, j < 4 → (feB B z (fe5 a1 a2 a3 a4 a5)) (z + 4 + j) = byS a2 j := fun j hj => by
      rw [show z + 4 + j = z + (4 + j) by omega, feB_at, show (4 + j) / 4 = 1 by omega, show (4 + j) % 4 = j by omega]
      rfl
    refine V_cO (As := [.int (a2)]) (st := []) mi_1_31 (by omega) (by decide +kernel) (by decide +kernel) (by omega) g2o G1 (appB_ct (z := z + 4) (B := (feB B z (fe5 a1 a2 a3 a4 a5))) (v := a2) (by omega) b1 G1 k1 t1) (by omega) (show 1 = mN 185 by decide +kernel) (by simp [Value.category]) ?_
    rintro r w2 ⟨rfl, G2, o2, k2, t2⟩
    refine V_aload (v := ad 0) mi_1_34 (by simp [stL, lv_args, Value.category]) ?_
    refine V_gR mi_1_35 g0r1 (by omega) G2 ?_
    refine V_iload (v := a3) mi_1_38 (by simp [stL, lv_args, Value.category]) ?_
    have b2 : ∀ j, j < 4 → (feB B z (fe5 a1 a2 a3 a4 a5)) (z + 8 + j) = byS a3 j := fun j hj => by
      rw [show z + 8 + j = z + (8 + j) by omega, feB_at, show (8 + j) / 4 = 2 by omega, show (8 + j) % 4 = j by omega]
      rfl
    refine V_cO (As := [.int (a3)]) (st := []) mi_1_39 (by omega) (by decide +kernel) (by decide +kernel) (by omega) g2o G2 (appB_ct (z := z + 8) (B := (feB B z (fe5 a1 a2 a3 a4 a5))) (v := a3) (by omega) b2 G2 k2 t2) (by omega) (show 1 = mN 185 by decide +kernel) (by simp [Value.category]) ?_
    rintro r w3 ⟨rfl, G3, o3, k3, t3⟩
    refine V_aload (v := ad 0) mi_1_42 (by simp [stL, lv_args, Value.category]) ?_
    refine V_gR mi_1_43 g0r1 (by omega) G3 ?_
    refine V_iload (v := a4) mi_1_46 (by simp [stL, lv_args, Value.category]) ?_
    have b3 : ∀ j, j < 4 → (feB B z (fe5 a1 a2 a3 a4 a5)) (z + 12 + j) = byS a4 j := fun j hj => by
      rw [show z + 12 + j = z + (12 + j) by omega, feB_at, show (12 + j) / 4 = 3 by omega, show (12 + j) % 4 = j by omega]
      rfl
    refine V_cO (As := [.int (a4)]) (st := []) mi_1_48 (by omega) (by decide +kernel) (by decide +kernel) (by omega) g2o G3 (appB_ct (z := z + 12) (B := (feB B z (fe5 a1 a2 a3 a4 a5))) (v := a4) (by omega) b3 G3 k3 t3) (by omega) (show 1 = mN 185 by decide +kernel) (by simp [Value.category]) ?_
    rintro r w4 ⟨rfl, G4, o4, k4, t4⟩
    refine V_aload (v := ad 0) mi_1_51 (by simp [stL, lv_args, Value.category]) ?_
    refine V_gR mi_1_52 g0r1 (by omega) G4 ?_
    refine V_iload (v := a5) mi_1_55 (by simp [stL, lv_args, Value.category]) ?_
    have b4 : ∀ j, j < 4 → (feB B z (fe5 a1 a2 a3 a4 a5)) (z + 16 + j) = byS a5 j := fun j hj => by
      rw [show z + 16 + j = z + (16 + j) by omega, feB_at, show (16 + j) / 4 = 4 by omega, show (16 + j) % 4 = j by omega]
      rfl
    refine V_cO (As := [.int (a5)]) (st := []) mi_1_57 (by omega) (by decide +kernel) (by decide +kernel) (by omega) g2o G4 (appB_ct (z := z + 16) (B := (feB B z (fe5 a1 a2 a3 a4 a5))) (v := a5) (by omega) b4 G4 k4 t4) (by omega) (show 1 = mN 185 by decide +kernel) (by simp [Value.category]) ?_
    rintro r w5 ⟨rfl, G5, o5, k5, t5⟩
    refine V_aload (v := ad 0) mi_1_60 (by simp [stL, lv_args, Value.category]) ?_
    refine V_gR mi_1_61 g0r1 (by omega) G5 ?_
    refine V_gO mi_1_64 g2o G5 (k5) ?_
    refine V_retI mi_1_67 (fun h => absurd h (by decide +kernel)) ⟨G5, fun c j c3 c2 => (o5 c j c3 c2).trans ((o4 c j c3 c2).trans ((o3 c j c3 c2).trans ((o2 c j c3 c2).trans (o1 c j c3 c2)))), ?_⟩
    rw [if_pos (by omega)]
    exact ⟨rfl, k5, t5⟩
  · refine V_ipush mi_1_16 ?_
    refine V_retI mi_1_17 (fun h => absurd h (by decide +kernel)) ⟨hG, fun _ _ _ _ => rfl, ?_⟩
    rw [if_neg (by omega)]
    exact ⟨rfl, h1, hB⟩
theorem dv4 : (List.range 20).all (fun k => (@decide _ (instDecidableEqInt32 (ibF 3 (Int32.ofInt (k : Nat)) (Int32.ofInt 4)) (Int32.ofInt ((k / 4 : Nat) : Int)))) && (@decide _ (instDecidableEqInt32 (ibF 4 (Int32.ofInt (k : Nat)) (Int32.ofInt 4)) (Int32.ofInt ((k % 4 : Nat) : Int))))) = true := by decide +kernel
theorem dv4_k {k : Nat} (h : k < 20) : ibF 3 (Int32.ofInt (k : Int)) (Int32.ofInt 4) = Int32.ofInt ((k / 4 : Nat) : Int) ∧ ibF 4 (Int32.ofInt (k : Int)) (Int32.ofInt 4) = Int32.ofInt ((k % 4 : Nat) : Int) := by
  have q := List.all_eq_true.mp dv4 k (List.mem_range.mpr h)
  rw [Bool.and_eq_true, decide_eq_true_eq, decide_eq_true_eq] at q
  exact q
theorem fm_55 {z : Nat} {B : Nat → Int} {av : Nat → Int32} {w0 : va_W} {post : Option Value → va_W → Prop} (hz : z ≤ 1380) (hb : ∀ k, k < 20 → B (z + k) = byS (av (k / 4)) (k % 4)) : ∀ (m k : Nat) (w : va_W), k + m = 20 → GOK ad tys GG w → rd w 90 5 = some (.int (Int32.ofInt (z : Int))) → (∀ j, j < 5 → rd w 95 j = some (.int (av j))) → TB w 94 (z + k) B → (∀ c j, c ≠ 94 → rd w c j = rd w0 c j) → (∀ w' : va_W, GOK ad tys GG w' → rd w' 90 5 = some (.int (Int32.ofInt (z : Int))) → TB w' 94 (z + 20) B → (∀ c j, c ≠ 94 → rd w' c j = rd w0 c j) → V l D tys A 210 1 0 0 post 0 0 101 [(0, .ref (ad 90))] [] w') → V l D tys A 210 1 0 0 post 0 0 55 [(0, .ref (ad 90)), (6, .int (Int32.ofInt (k : Int)))] [] w
  | 0, k, w, hm, hG, h5, h95, hB, ho, kk => by
    have e : k = 20 := by omega
    subst e
    refine V_iload (v := Int32.ofInt ((20 : Nat) : Int)) mi_210_55 (by simp [stL, lv_args, Value.category]) ?_
    refine V_ipush mi_210_57 ?_
    refine V_cge mi_210_59 ⟨by omega, by omega⟩ ⟨by omega, by omega⟩ (fun _ => ?_) (fun q => absurd q (by omega))
    refine V_sub (lv' := [(0, .ref (ad 90))]) (fun q hq => ?_) (kk w hG h5 hB ho)
    simp only [List.mem_cons, List.not_mem_nil, or_false] at hq
    rcases hq with rfl
    simp [stL, lv_args, Value.category]
  | m + 1, k, w, hm, hG, h5, h95, hB, ho, kk => by
    obtain ⟨s94, e94, f94⟩ := gt94
    obtain ⟨s95, e95, f95⟩ := a95
    refine V_iload (v := Int32.ofInt ((k : Int))) mi_210_55 (by simp [stL, lv_args, Value.category]) ?_
    refine V_ipush mi_210_57 ?_
    refine V_cge mi_210_59 ⟨by omega, by omega⟩ ⟨by omega, by omega⟩ (fun q => ?_) (fun q => ?_)
    · exact absurd q (by omega)
    · obtain ⟨d1, d2⟩ := dv4_k (k := k) (by omega)
      refine V_aload (v := ad 90) mi_210_62 (by simp [stL, lv_args, Value.category]) ?_
      refine V_getI mi_210_63 hG (rref gr4 (by omega) hG) ?_
      refine V_aload (v := ad 90) mi_210_66 (by simp [stL, lv_args, Value.category]) ?_
      refine V_getI mi_210_67 hG (h5) ?_
      refine V_iload (v := Int32.ofInt ((k : Int))) mi_210_70 (by simp [stL, lv_args, Value.category]) ?_
      refine V_ibin mi_210_72 (by omega) ?_
      rw [ib0]
      refine V_aload (v := ad 90) mi_210_73 (by simp [stL, lv_args, Value.category]) ?_
      refine V_getI mi_210_74 hG (rref gr6m (by omega) hG) ?_
      refine V_iload (v := Int32.ofInt ((k : Int))) mi_210_77 (by simp [stL, lv_args, Value.category]) ?_
      refine V_ipush mi_210_79 ?_
      refine V_ibin mi_210_80 (fun _ => by decide) ?_
      rw [d1]
      refine V_aldX (j := k / 4) mi_210_81 rfl hG e95 (by omega) (by omega) (h95 _ (by omega)) ?_
      refine V_ipush mi_210_82 ?_
      refine V_ipush mi_210_84 ?_
      refine V_iload (v := Int32.ofInt ((k : Int))) mi_210_86 (by simp [stL, lv_args, Value.category]) ?_
      refine V_ipush mi_210_88 ?_
      refine V_ibin mi_210_89 (fun _ => by decide) ?_
      rw [d2]
      refine V_ibin mi_210_90 (by omega) ?_
      rw [ib2]
      refine V_ibin mi_210_91 (by omega) ?_
      rw [ib1]
      refine V_ibin mi_210_92 (by omega) ?_
      refine V_i2b mi_210_93 ?_
      have hbk : B (z + k) = byS (av (k / 4)) (k % 4) := hb k (by omega)
      have bbk : -128 ≤ B (z + k) ∧ B (z + k) ≤ 127 := by rw [hbk]; exact byS_bd _ _
      refine V_bstI (j := z + k) (b := B (z + k)) mi_210_94 (by rw [show (z : Int) + (k : Int) = ((z + k : Nat) : Int) by omega]) (by rw [hbk]; exact byM _ _) (by rw [hbk]; exact (byS_bd _ _).1) (by rw [hbk]; exact (byS_bd _ _).2) hG e94 (by omega) (by omega) (f94 _ (by omega)) (fun w1 G1 U1 => ?_)
      refine V_iinc (v := Int32.ofInt ((k : Int))) mi_210_95 (by simp [stL, lv_args, Value.category]) ?_
      rw [ia2]
      refine V_goto mi_210_98 ?_
      refine V_sub (lv' := [(0, .ref (ad 90)), (6, .int (Int32.ofInt ((k + 1 : Nat) : Int)))]) (fun q hq => ?_) (fm_55 hz hb m (k + 1) w1 (by omega) G1 ((upd_ne U1 (by omega)).trans h5) (fun j hj => (upd_ne U1 (by omega)).trans (h95 j hj)) (TB_up (n := z + k) hB U1 bbk) (fun c j c3 => (upd_ne U1 (by omega)).trans (ho c j c3)) kk)
      simp only [List.mem_cons, List.not_mem_nil, or_false] at hq
      rcases hq with rfl | rfl <;> simp [stL, lv_args, Value.category]
theorem feeM_ct {z : Nat} {B : Nat → Int} (a1 a2 a3 a4 a5 : Int32) (hz : z ≤ 1400) (hG : GOK ad tys GG ws) (h5 : rd ws 90 5 = some (.int (Int32.ofInt (z : Int)))) (hB : TB ws 94 z B) : CT l D tys A 210 1 0 0 [.ref (ad 90), .int a1, .int a2, .int a3, .int a4, .int a5] ws (fun r w => GOK ad tys GG w ∧ (∀ c j, c ≠ 94 → c ≠ 95 → ¬ (c = 90 ∧ j = 5) → rd w c j = rd ws c j) ∧ (if z + 20 ≤ 1400 then r = some (.int (Int32.ofInt ((z + 20 : Nat) : Int))) ∧ rd w 90 5 = some (.int (Int32.ofInt ((z + 20 : Nat) : Int))) ∧ TB w 94 (z + 20) (feB B z (fe5 a1 a2 a3 a4 a5)) else r = some (.int (Int32.ofInt (-1))) ∧ rd w 90 5 = some (.int (Int32.ofInt (z : Int))) ∧ TB w 94 z B)) := by
  refine CT_of_V (by omega) (show (6 : Nat) ≤ mML 210 by decide +kernel) ?_
  obtain ⟨s95, e95, f95⟩ := a95
  refine V_aload (v := ad 90) mi_210_0 (by simp [stL, lv_args, Value.category]) ?_
  refine V_getI mi_210_1 hG (h5) ?_
  refine V_ipush mi_210_4 ?_
  refine V_ibin mi_210_6 (by omega) ?_
  rw [ib0]
  refine V_ipush mi_210_7 ?_
  refine V_cle mi_210_10 ⟨by omega, by omega⟩ ⟨by omega, by omega⟩ (fun q => ?_) (fun q => ?_)
  · refine V_aload (v := ad 90) mi_210_15 (by simp [stL, lv_args, Value.category]) ?_
    refine V_getI mi_210_16 hG (rref gr6m (by omega) hG) ?_
    refine V_ipush mi_210_19 ?_
    refine V_iload (v := a1) mi_210_20 (by simp [stL, lv_args, Value.category]) ?_
    refine V_astX (j := 0) mi_210_21 rfl hG e95 (by omega) (by omega) (f95 _ (by omega)) (i32b _).1 (i32b _).2 (fun w1 G1 U1 => ?_)
    refine V_aload (v := ad 90) mi_210_22 (by simp [stL, lv_args, Value.category]) ?_
    refine V_getI mi_210_23 G1 (rref gr6m (by omega) G1) ?_
    refine V_ipush mi_210_26 ?_
    refine V_iload (v := a2) mi_210_27 (by simp [stL, lv_args, Value.category]) ?_
    refine V_astX (j := 1) mi_210_28 rfl G1 e95 (by omega) (by omega) (f95 _ (by omega)) (i32b _).1 (i32b _).2 (fun w2 G2 U2 => ?_)
    refine V_aload (v := ad 90) mi_210_29 (by simp [stL, lv_args, Value.category]) ?_
    refine V_getI mi_210_30 G2 (rref gr6m (by omega) G2) ?_
    refine V_ipush mi_210_33 ?_
    refine V_iload (v := a3) mi_210_34 (by simp [stL, lv_args, Value.category]) ?_
    refine V_astX (j := 2) mi_210_35 rfl G2 e95 (by omega) (by omega) (f95 _ (by omega)) (i32b _).1 (i32b _).2 (fun w3 G3 U3 => ?_)
    refine V_aload (v := ad 90) mi_210_36 (by simp [stL, lv_args, Value.category]) ?_
    refine V_getI mi_210_37 G3 (rref gr6m (by omega) G3) ?_
    refine V_ipush mi_210_40 ?_
    refine V_iload (v := a4) mi_210_41 (by simp [stL, lv_args, Value.category]) ?_
    refine V_astX (j := 3) mi_210_43 rfl G3 e95 (by omega) (by omega) (f95 _ (by omega)) (i32b _).1 (i32b _).2 (fun w4 G4 U4 => ?_)
    refine V_aload (v := ad 90) mi_210_44 (by simp [stL, lv_args, Value.category]) ?_
    refine V_getI mi_210_45 G4 (rref gr6m (by omega) G4) ?_
    refine V_ipush mi_210_48 ?_
    refine V_iload (v := a5) mi_210_49 (by simp [stL, lv_args, Value.category]) ?_
    refine V_astX (j := 4) mi_210_51 rfl G4 e95 (by omega) (by omega) (f95 _ (by omega)) (i32b _).1 (i32b _).2 (fun w5 G5 U5 => ?_)
    refine V_ipush mi_210_52 ?_
    refine V_istore mi_210_53 ?_
    have o5 : ∀ c j, c ≠ 95 → rd w5 c j = rd ws c j := fun c j hc => (upd_ne U5 (by omega)).trans ((upd_ne U4 (by omega)).trans ((upd_ne U3 (by omega)).trans ((upd_ne U2 (by omega)).trans (upd_ne U1 (by omega)))))
    have h95 : ∀ j, j < 5 → rd w5 95 j = some (.int (fe5 a1 a2 a3 a4 a5 j)) := fun j hj => by
      rcases j with _ | _ | _ | _ | _ | j
      · exact (upd_ne U5 (by omega)).trans ((upd_ne U4 (by omega)).trans ((upd_ne U3 (by omega)).trans ((upd_ne U2 (by omega)).trans (upd_eq U1))))
      · exact (upd_ne U5 (by omega)).trans ((upd_ne U4 (by omega)).trans ((upd_ne U3 (by omega)).trans (upd_eq U2)))
      · exact (upd_ne U5 (by omega)).trans ((upd_ne U4 (by omega)).trans (upd_eq U3))
      · exact (upd_ne U5 (by omega)).trans (upd_eq U4)
      · exact upd_eq U5
      · omega
    have t0 : TB w5 94 z (feB B z (fe5 a1 a2 a3 a4 a5)) := TB_ne (TB_cg hB (fun k hk => by unfold feB; rw [if_pos hk])) (fun j => o5 _ _ (by omega))
    refine V_sub (lv' := [(0, .ref (ad 90)), (6, .int (Int32.ofInt ((0 : Nat) : Int)))]) (fun q hq => ?_) (fm_55 (w0 := w5) (by omega) (fun k hk => feB_at) 20 0 w5 (by omega) G5 ((o5 _ _ (by omega)).trans h5) h95 t0 (fun _ _ _ => rfl) (fun w6 G6 k5 t6 o6 => ?_))
    · simp only [List.mem_cons, List.not_mem_nil, or_false] at hq
      rcases hq with rfl | rfl <;> simp [stL, lv_args, Value.category]
    refine V_aload (v := ad 90) mi_210_101 (by simp [stL, lv_args, Value.category]) ?_
    refine V_dup mi_210_102 (by simp [Value.category]) ?_
    refine V_getI mi_210_103 G6 (k5) ?_
    refine V_ipush mi_210_106 ?_
    refine V_ibin mi_210_108 (by omega) ?_
    rw [ib0]
    rw [show (z : Int) + 20 = ((z + 20 : Nat) : Int) by omega]
    refine V_putI mi_210_109 G6 f5 (by omega) rfl (by decide +kernel) (by rw [Int32.toInt_ofInt_of_le (by omega) (by omega)]; omega) (by rw [Int32.toInt_ofInt_of_le (by omega) (by omega)]; omega) (fun w7 G7 U7 => ?_)
    refine V_aload (v := ad 90) mi_210_112 (by simp [stL, lv_args, Value.category]) ?_
    refine V_getI mi_210_113 G7 (upd_eq U7) ?_
    refine V_retI mi_210_116 (fun h => absurd h (by decide +kernel)) ⟨G7, fun c j c4 c5 c0 => (upd_ne U7 c0).trans ((o6 c j c4).trans (o5 c j c5)), ?_⟩
    rw [if_pos (by omega)]
    exact ⟨rfl, upd_eq U7, TB_ne t6 (fun j => upd_ne U7 (by omega))⟩
  · refine V_ipush mi_210_13 ?_
    refine V_retI mi_210_14 (fun h => absurd h (by decide +kernel)) ⟨hG, fun _ _ _ _ _ => rfl, ?_⟩
    rw [if_neg (by omega)]
    exact ⟨rfl, h5, hB⟩
end XTP
section XPF
variable {l : Launch} {D : va_G} {tys : List (ClassId × FieldType)} {A : Nat → Prop} {ad : Nat → Nat} {ws : va_W}
theorem endB_ct (hG : GOK ad tys GG ws) (n : Int32) {z : Int} (hz : rd ws 90 5 = some (.int (Int32.ofInt z))) (z0 : 0 ≤ z) (z1 : z ≤ 1400) : CT l D tys A 211 1 0 0 [.ref (ad 90), .int n] ws (fun r w => r = some (.int (edV z n)) ∧ GOK ad tys GG w ∧ (∀ c j, ¬ (c = 90 ∧ j = 5) → rd w c j = rd ws c j) ∧ rd w 90 5 = some (.int (Int32.ofInt (edT z n)))) := by
  refine CT_of_V (by omega) (show (2 : Nat) ≤ mML 211 by decide +kernel) ?_
  have lvs : lv_args 0 [Value.ref (ad 90), .int n] = [(0, .ref (ad 90)), (1, .int n)] := rfl
  rw [lvs]
  have n1 := Int32.le_toInt n
  have n2 := Int32.toInt_lt n
  have ez : (Int32.ofInt z).toInt = z := tIi z (by omega) (by omega)
  refine V_iload (v := n) mi_211_0 (by simp) ?_
  refine V_i2l mi_211_1 ?_
  rw [el_]
  refine V_lpush mi_211_2 ?_
  refine V_aload (v := ad 90) mi_211_3 (by simp) ?_
  refine V_getI mi_211_4 hG hz ?_
  refine V_i2l mi_211_7 ?_
  rw [el_ (Int32.ofInt z), ez]
  refine V_stat (As := [.long (Int64.ofInt n.toInt), .long (Int64.ofInt 0), .long (Int64.ofInt z)]) (st := []) mi_211_8 (by omega) (in2_ct (by omega) (by omega) (by omega) (by omega) (by omega) (by omega)) (by omega) (show 3 = mN 193 by decide +kernel) (by simp) ⟨Nat.le_refl _, Nat.le_refl _⟩ ?_
  rintro r w ⟨rfl, hr⟩
  rcases hr with ⟨rfl, h1, h2⟩ | ⟨rfl, hn⟩
  · refine V_if mi_211_11 (fun _ => ?_) (fun h => absurd (show (1 : Int32) ≠ 0 by decide) h)
    refine V_aload (v := ad 90) mi_211_16 (by simp) ?_
    refine V_iload (v := n) mi_211_17 (by simp) ?_
    refine V_putI mi_211_18 hG f5 (by omega) rfl (by decide +kernel) h1 (by omega) (fun w1 G1 U1 => ?_)
    refine V_iload (v := n) mi_211_21 (by simp) ?_
    exact V_retI mi_211_22 (fun h => absurd h (by decide +kernel)) ⟨by unfold edV; rw [if_pos ⟨h1, h2⟩], G1, fun c j hc => upd_ne U1 hc, by unfold edT; rw [if_pos ⟨h1, h2⟩, Int32.ofInt_toInt]; exact upd_eq U1⟩
  · refine V_if mi_211_11 (fun h => absurd (show (0 : Int32) = 0 from rfl) h) (fun _ => ?_)
    refine V_ipush mi_211_14 ?_
    exact V_retI mi_211_15 (fun h => absurd h (by decide +kernel)) ⟨by unfold edV; rw [if_neg hn], hG, fun _ _ _ => rfl, by unfold edT; rw [if_neg hn]; exact hz⟩
theorem edn {n : Nat} {a : Int32} : ∃ m : Nat, edT (n : Int) a = (m : Int) ∧ m ≤ n := by
  unfold edT
  split
  · next h => exact ⟨a.toInt.toNat, by rw [Int.toNat_of_nonneg h.1], by omega⟩
  · exact ⟨n, rfl, Nat.le_refl _⟩
theorem g90f11 : gOf 90 11 36 11 (-2147483648) 2147483647 := ⟨_, rfl, by decide +kernel⟩
/-- the same text stands on both sides; the same fault -/
noncomputable def TAPE (w : va_W) : Prop := ∃ (n : Nat) (B : Nat → Int), n ≤ 1400 ∧ (rd w 2 1 = some (.int (Int32.ofInt (n : Int))) ∧ TB w 3 n B) ∧ rd w 90 5 = some (.int (Int32.ofInt (n : Int))) ∧ TB w 94 n B
noncomputable def FLT (w : va_W) : Prop := ∃ a b : Int, (rd w 1 1 = some (.int (Int32.ofInt a)) ∧ rd w 1 2 = some (.int (Int32.ofInt b))) ∧ rd w 90 12 = some (.int (Int32.ofInt a)) ∧ rd w 90 13 = some (.int (Int32.ofInt b))
noncomputable def RELF (w : va_W) : Prop := TAPE w ∧ FLT w
theorem tape_keep {w0 w : va_W} (h : TAPE w0) (k : ∀ c, c = 2 ∨ c = 3 ∨ c = 94 → ∀ j, rd w c j = rd w0 c j) (k2 : rd w 90 5 = rd w0 90 5) : TAPE w := by
  obtain ⟨n, B, h0, ⟨h1, h2⟩, h3, h4⟩ := h
  exact ⟨n, B, h0, ⟨(k 2 (by omega) 1).trans h1, TB_ne h2 (k 3 (by omega))⟩, k2.trans h3, TB_ne h4 (k 94 (by omega))⟩
theorem flt_keep {w0 w : va_W} (h : FLT w0) (k : ∀ j, rd w 1 j = rd w0 1 j) (k2 : rd w 90 12 = rd w0 90 12) (k3 : rd w 90 13 = rd w0 90 13) : FLT w := by
  obtain ⟨a, b, ⟨h1, h2⟩, h3, h4⟩ := h
  exact ⟨a, b, ⟨(k 1).trans h1, (k 2).trans h2⟩, k2.trans h3, k3.trans h4⟩
theorem relf_keep {w0 w : va_W} (h : RELF w0) (k : ∀ c, c = 1 ∨ c = 2 ∨ c = 3 ∨ c = 94 → ∀ j, rd w c j = rd w0 c j) (k2 : ∀ j, spK j → rd w 90 j = rd w0 90 j) : RELF w := ⟨tape_keep h.1 (fun c hc j => k c (by omega) j) (k2 5 (Or.inl rfl)), flt_keep h.2 (fun j => k 1 (by omega) j) (k2 12 (Or.inr (Or.inl rfl))) (k2 13 (Or.inr (Or.inr rfl)))⟩
/-- feed, both sides: the answer, the text, and nothing else -/
theorem two_feed (hG : GOK ad tys GG ws) (hR : TAPE ws) (a1 a2 a3 a4 a5 : Int32) : ∃ v : Int32, ∃ MID : va_W → Prop, CT l D tys A 1 2 0 0 [.ref (ad 0), .int a1, .int a2, .int a3, .int a4, .int a5] ws (fun r w => r = some (.int v) ∧ GOK ad tys GG w ∧ MID w ∧ ∀ c j, c ≠ 2 → c ≠ 3 → rd w c j = rd ws c j) ∧ ∀ w : va_W, GOK ad tys GG w → MID w → CT l D tys A 210 1 0 0 [.ref (ad 90), .int a1, .int a2, .int a3, .int a4, .int a5] w (fun r w2 => r = some (.int v) ∧ GOK ad tys GG w2 ∧ TAPE w2 ∧ ∀ c j, c ≠ 94 → c ≠ 95 → ¬ (c = 90 ∧ j = 5) → rd w2 c j = rd w c j) := by
  obtain ⟨n, B, h0, ⟨h1, h2⟩, h3, h4⟩ := hR
  by_cases q : n + 20 ≤ 1400
  · refine ⟨Int32.ofInt ((n + 20 : Nat) : Int), fun w => (rd w 2 1 = some (.int (Int32.ofInt ((n + 20 : Nat) : Int))) ∧ TB w 3 (n + 20) (feB B n (fe5 a1 a2 a3 a4 a5))) ∧ rd w 90 5 = some (.int (Int32.ofInt (n : Int))) ∧ TB w 94 n B, CT_post (feeX_ct a1 a2 a3 a4 a5 h0 hG h1 h2) (fun r w h => ?_), fun w hw K => CT_post (feeM_ct a1 a2 a3 a4 a5 h0 hw K.2.1 K.2.2) (fun r w2 h => ?_)⟩
    · obtain ⟨g1, g2, g3⟩ := h
      rw [if_pos q] at g3
      exact ⟨g3.1, g1, ⟨g3.2, (g2 _ _ (by omega) (by omega)).trans h3, TB_ne h4 (fun j => g2 _ _ (by omega) (by omega))⟩, fun c j c2 c3 => g2 _ _ c3 (by omega)⟩
    · obtain ⟨g1, g2, g3⟩ := h
      rw [if_pos q] at g3
      exact ⟨g3.1, g1, ⟨n + 20, _, q, ⟨(g2 _ _ (by omega) (by omega) (by omega)).trans K.1.1, TB_ne K.1.2 (fun j => g2 _ _ (by omega) (by omega) (by omega))⟩, g3.2⟩, g2⟩
  · refine ⟨Int32.ofInt (-1), fun w => (rd w 2 1 = some (.int (Int32.ofInt (n : Int))) ∧ TB w 3 n B) ∧ rd w 90 5 = some (.int (Int32.ofInt (n : Int))) ∧ TB w 94 n B, CT_post (feeX_ct a1 a2 a3 a4 a5 h0 hG h1 h2) (fun r w h => ?_), fun w hw K => CT_post (feeM_ct a1 a2 a3 a4 a5 h0 hw K.2.1 K.2.2) (fun r w2 h => ?_)⟩
    · obtain ⟨g1, g2, g3⟩ := h
      rw [if_neg q] at g3
      exact ⟨g3.1, g1, ⟨g3.2, (g2 _ _ (by omega) (by omega)).trans h3, TB_ne h4 (fun j => g2 _ _ (by omega) (by omega))⟩, fun c j c2 c3 => g2 _ _ c3 (by omega)⟩
    · obtain ⟨g1, g2, g3⟩ := h
      rw [if_neg q] at g3
      exact ⟨g3.1, g1, ⟨n, B, h0, ⟨(g2 _ _ (by omega) (by omega) (by omega)).trans K.1.1, TB_ne K.1.2 (fun j => g2 _ _ (by omega) (by omega) (by omega))⟩, g3.2⟩, g2⟩
theorem two_end (hG : GOK ad tys GG ws) (hR : TAPE ws) (a1 : Int32) : ∃ v : Int32, ∃ MID : va_W → Prop, CT l D tys A 2 0 0 0 [.ref (ad 0), .int a1] ws (fun r w => r = some (.int v) ∧ GOK ad tys GG w ∧ MID w ∧ ∀ c j, c ≠ 2 → rd w c j = rd ws c j) ∧ ∀ w : va_W, GOK ad tys GG w → MID w → CT l D tys A 211 1 0 0 [.ref (ad 90), .int a1] w (fun r w2 => r = some (.int v) ∧ GOK ad tys GG w2 ∧ TAPE w2 ∧ ∀ c j, ¬ (c = 90 ∧ j = 5) → rd w2 c j = rd w c j) := by
  obtain ⟨n, B, h0, ⟨h1, h2⟩, h3, h4⟩ := hR
  obtain ⟨m, e, hm⟩ := edn (n := n) (a := a1)
  refine ⟨edV (n : Int) a1, fun w => (rd w 2 1 = some (.int (Int32.ofInt (m : Int))) ∧ TB w 3 m B) ∧ rd w 90 5 = some (.int (Int32.ofInt (n : Int))) ∧ TB w 94 m B, CT_post (endx_ct hG a1 h1 (by omega) (by omega)) (fun r w h => ?_), fun w hw K => CT_post (endB_ct hw a1 K.2.1 (by omega) (by omega)) (fun r w2 h => ?_)⟩
  · obtain ⟨g0, g1, g2, g3⟩ := h
    rw [e] at g3
    have o : ∀ c j, c ≠ 2 → rd w c j = rd ws c j := fun c j hc => g2.1 c (by simp [hc]) j
    exact ⟨g0, g1, ⟨⟨g3, TB_ne (TB_le h2 hm) (fun j => o _ _ (by omega))⟩, (o _ _ (by omega)).trans h3, TB_ne (TB_le h4 hm) (fun j => o _ _ (by omega))⟩, o⟩
  · obtain ⟨g0, g1, g2, g3⟩ := h
    rw [e] at g3
    exact ⟨g0, g1, ⟨m, B, by omega, ⟨(g2 _ _ (by omega)).trans K.1.1, TB_ne K.1.2 (fun j => g2 _ _ (by omega))⟩, g3, TB_ne K.2.2 (fun j => g2 _ _ (by omega))⟩, g2⟩
theorem fltX_ct {a b : Int} (a1 : Int32) (hG : GOK ad tys GG ws) (h1 : rd ws 1 1 = some (.int (Int32.ofInt a))) (h2 : rd ws 1 2 = some (.int (Int32.ofInt b))) : CT l D tys A 4 0 0 0 [.ref (ad 0), .int a1] ws (fun r w => w = ws ∧ r = some (.int (Int32.ofInt (if a1.toInt = 0 then a else if a1.toInt = 1 then b else -1)))) := by
  refine CT_of_V (by omega) (show (2 : Nat) ≤ mML 4 by decide +kernel) ?_
  refine V_iload (v := a1) mi_4_0 (by simp [stL, lv_args, Value.category]) ?_
  refine V_swl mi_4_1 ?_
  rw [show swT 4 (0 + ln3 0) a1.toInt = if a1.toInt = 0 then 28 else if a1.toInt = 1 then 36 else 44 by
    show swT 4 1 a1.toInt = _
    unfold swT
    rw [show mSw 4 1 = (44, 0, [28, 36]) by decide +kernel]
    show (if a1.toInt < 0 ∨ 0 + ((2 : Nat) : Int) ≤ a1.toInt then 44 else ([28, 36] : List Nat).getD (a1.toInt - 0).toNat 44) = _
    by_cases e0 : a1.toInt = 0
    · rw [if_neg (by omega), if_pos e0, e0]; rfl
    · by_cases e1 : a1.toInt = 1
      · rw [if_neg (by omega), if_neg e0, if_pos e1, e1]; rfl
      · rw [if_pos (by omega), if_neg e0, if_neg e1]]
  by_cases e0 : a1.toInt = 0
  · rw [if_pos e0, if_pos e0]
    refine V_aload (v := ad 0) mi_4_28 (by simp [stL, lv_args, Value.category]) ?_
    refine V_gR mi_4_29 g0r0 (by omega) hG ?_
    refine V_gO mi_4_32 g1o hG (h1) ?_
    exact V_retI mi_4_35 (fun h => absurd h (by decide +kernel)) ⟨rfl, rfl⟩
  · rw [if_neg e0, if_neg e0]
    by_cases e1 : a1.toInt = 1
    · rw [if_pos e1, if_pos e1]
      refine V_aload (v := ad 0) mi_4_36 (by simp [stL, lv_args, Value.category]) ?_
      refine V_gR mi_4_37 g0r0 (by omega) hG ?_
      refine V_gO mi_4_40 g1o hG (h2) ?_
      exact V_retI mi_4_43 (fun h => absurd h (by decide +kernel)) ⟨rfl, rfl⟩
    · rw [if_neg e1, if_neg e1]
      refine V_ipush mi_4_44 ?_
      exact V_retI mi_4_45 (fun h => absurd h (by decide +kernel)) ⟨rfl, rfl⟩
theorem fltM_ct {a b : Int} (a1 : Int32) (hG : GOK ad tys GG ws) (h1 : rd ws 90 12 = some (.int (Int32.ofInt a))) (h2 : rd ws 90 13 = some (.int (Int32.ofInt b))) : CT l D tys A 221 0 0 0 [.ref (ad 90), .int a1] ws (fun r w => w = ws ∧ r = some (.int (Int32.ofInt (if a1.toInt = 0 then a else if a1.toInt = 1 then b else -1)))) := by
  rw [show a1 = Int32.ofInt a1.toInt from (Int32.ofInt_toInt a1).symm]
  have ea : (Int32.ofInt a1.toInt).toInt = a1.toInt := by rw [Int32.ofInt_toInt]
  rw [ea]
  refine CT_of_V (by omega) (show (2 : Nat) ≤ mML 221 by decide +kernel) ?_
  refine V_iload (v := Int32.ofInt (a1.toInt)) mi_221_0 (by simp [stL, lv_args, Value.category]) ?_
  refine V_zne mi_221_1 (i32b a1) (fun q => ?_) (fun q => ?_)
  · refine V_iload (v := Int32.ofInt (a1.toInt)) mi_221_11 (by simp [stL, lv_args, Value.category]) ?_
    refine V_ipush mi_221_12 ?_
    refine V_cne mi_221_13 (i32b a1) ⟨by omega, by omega⟩ (fun q2 => ?_) (fun q2 => ?_)
    · refine V_ipush mi_221_23 ?_
      rw [if_neg q, if_neg q2]
      exact V_retI mi_221_24 (fun h => absurd h (by decide +kernel)) ⟨rfl, rfl⟩
    · refine V_aload (v := ad 90) mi_221_16 (by simp [stL, lv_args, Value.category]) ?_
      refine V_getI mi_221_17 hG (h2) ?_
      refine V_goto mi_221_20 ?_
      rw [if_neg q, if_pos q2]
      exact V_retI mi_221_24 (fun h => absurd h (by decide +kernel)) ⟨rfl, rfl⟩
  · refine V_aload (v := ad 90) mi_221_4 (by simp [stL, lv_args, Value.category]) ?_
    refine V_getI mi_221_5 hG (h1) ?_
    refine V_goto mi_221_8 ?_
    rw [if_pos q]
    exact V_retI mi_221_24 (fun h => absurd h (by decide +kernel)) ⟨rfl, rfl⟩
end XPF
