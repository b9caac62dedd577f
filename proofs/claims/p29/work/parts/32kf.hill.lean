section XRL
variable {l : Launch} {D : va_G} {tys : List (ClassId × FieldType)} {A : Nat → Prop} {ad : Nat → Nat} {ws : va_W}
theorem lenx_ct {ix : Int32} (hG : GOK ad tys GG ws) : CT l D tys A 106 0 0 0 [.ref (ad 16), .int ix] ws (fun r w => w = ws ∧ ∃ p : Int, r = some (.int (Int32.ofInt p)) ∧ 0 ≤ p ∧ p ≤ 7 ∧ (∀ j : Nat, j < 6 → ix = Int32.ofInt (j : Int) → rd ws 17 j = some (.int (Int32.ofInt p)))) := by
  obtain ⟨segs, hg, hs⟩ := a17
  have ib := i32b ix
  have e0 : ix = Int32.ofInt ix.toInt := (Int32.ofInt_toInt ix).symm
  rw [e0]
  have fin : ¬ (0 ≤ ix.toInt ∧ ix.toInt < 6) → V l D tys A 106 0 0 0 (fun r w => w = ws ∧ ∃ p : Int, r = some (.int (Int32.ofInt p)) ∧ 0 ≤ p ∧ p ≤ 7 ∧ (∀ j : Nat, j < 6 → Int32.ofInt ix.toInt = Int32.ofInt (j : Int) → rd ws 17 j = some (.int (Int32.ofInt p)))) 0 0 22 (lv_args 0 [.ref (ad 16), .int (Int32.ofInt ix.toInt)]) [] ws := fun q => by
    refine V_ipush mi_106_22 ?_
    exact V_retI mi_106_23 (fun h => absurd h (by decide +kernel)) ⟨rfl, 0, rfl, by omega, by omega, fun j hj e => by
      have t : (Int32.ofInt (j : Int)).toInt = (j : Int) := Int32.toInt_ofInt_of_le (by omega) (by omega)
      rw [← e, ← e0] at t
      omega⟩
  refine CT_of_V (by omega) (show (2 : Nat) ≤ mML 106 by decide +kernel) ?_
  refine V_iload (v := Int32.ofInt ix.toInt) mi_106_0 (by simp [stL, lv_args, Value.category]) ?_
  refine V_zlt mi_106_1 ib (fun q => ?_) (fun q => ?_)
  · exact fin (by omega)
  · refine V_iload (v := Int32.ofInt ix.toInt) mi_106_4 (by simp [stL, lv_args, Value.category]) ?_
    refine V_aload (v := ad 16) mi_106_5 (by simp [stL, lv_args, Value.category]) ?_
    refine V_gR mi_106_6 g16r6 (by omega) hG ?_
    refine V_lenA mi_106_9 hG hg ?_
    refine V_cge mi_106_10 ib ⟨by omega, by omega⟩ (fun q2 => ?_) (fun q2 => ?_)
    · exact fin (by omega)
    · refine V_aload (v := ad 16) mi_106_13 (by simp [stL, lv_args, Value.category]) ?_
      refine V_gR mi_106_14 g16r6 (by omega) hG ?_
      refine V_iload (v := Int32.ofInt ix.toInt) mi_106_17 (by simp [stL, lv_args, Value.category]) ?_
      obtain ⟨z, hz, z0, z7⟩ := cel hG hg (j := ix.toInt.toNat) (by omega) (hs _ (by omega))
      refine V_aldX (j := ix.toInt.toNat) mi_106_18 (by rw [Int.toNat_of_nonneg q]) hG hg (by omega) (by omega) hz ?_
      refine V_goto mi_106_19 ?_
      refine V_retI mi_106_23 (fun h => absurd h (by decide +kernel)) ⟨rfl, z, rfl, z0, z7, fun j hj e => ?_⟩
      have t : (Int32.ofInt (j : Int)).toInt = (j : Int) := Int32.toInt_ofInt_of_le (by omega) (by omega)
      rw [← e, ← e0] at t
      rw [show j = ix.toInt.toNat by omega]
      exact hz
theorem rh_17 {n : Nat} {B fr td : Nat → Int} {s : TS} {w0 w : va_W} (h : XA ad tys n B (wordS B n xHill s) w) (q : XR fr td w0 (wordS B n xHill s) w) : V l D tys A 135 6 0 0 (fun r w => r = none ∧ XA ad tys n B (firT B n s) w ∧ XR (firF B n fr s) td w0 (firT B n s) w) 0 0 17 (lv_args 0 [.ref (ad 1), .ref (ad 16)]) [] w := by
  obtain ⟨-, -, -, -, -, -, -, xe7, xe8, xe9, xe10, -⟩ := xw_eq
  refine V_aload (v := ad 1) mi_135_17 (by simp [stL, lv_args, Value.category]) ?_
  refine V_ldcS mi_135_18 ?_
  refine V_cO (As := [.ref (D.2 1000 8)]) (st := []) mi_135_20 (by omega) (by decide +kernel) (by decide +kernel) (by omega) g1o h.1 (ewx_ct (i := 8) (s := firA B n s) (by omega) (XB_word h) XMK_rf) (by omega) (show 1 = mN 144 by decide +kernel) (by simp [Value.category]) ?_
  rintro r w ⟨rfl, h, O⟩
  rw [xe8] at h
  replace q := XR_to q O h (fun g => need_wok (word_ok g))
  refine V_aload (v := ad 16) mi_135_23 (by simp [stL, lv_args, Value.category]) ?_
  refine V_aload (v := ad 1) mi_135_24 (by simp [stL, lv_args, Value.category]) ?_
  refine V_ipush mi_135_25 ?_
  refine V_ipush mi_135_26 ?_
  refine V_cO (As := [.int (Int32.ofInt (2)), .int (Int32.ofInt (9))]) (st := [.ref (ad 16)]) mi_135_28 (by omega) (by decide +kernel) (by decide +kernel) (by omega) g1o h.1 (expx_ct (lo := 2) (hi := 9) (s := needS B n xSyll (firA B n s)) ⟨by omega, by omega⟩ ⟨by omega, by omega⟩ (by omega) (XB_word h) XMK_rf) (by omega) (show 2 = mN 141 by decide +kernel) (by simp [Value.category]) ?_
  rintro r w ⟨rfl, h, O⟩
  change V l D tys A 135 6 0 0 _ 0 0 _ _ ((some (Value.int (Int32.ofInt (toldR B n xSyll 2 9 (firA B n s))))).toList ++ _) _
  replace q := XR_to q O h (fun g => need_wok (num2_ok g).1)
  have bd : toldR B n xSyll 2 9 (firA B n s) = 0 ∨ (2 ≤ toldR B n xSyll 2 9 (firA B n s) ∧ toldR B n xSyll 2 9 (firA B n s) ≤ 9) := numR_bd
  refine V_pO mi_135_31 g16f1 (by omega) (by decide +kernel) (by decide +kernel) h.1 (by rw [Int32.toInt_ofInt_of_le (by omega) (by omega)]; omega) (by rw [Int32.toInt_ofInt_of_le (by omega) (by omega)]; omega) (fun w' G1 U1 => ?_)
  replace q := XR_put (j := 0) (z := toldR B n xSyll 2 9 (firA B n s)) q (fun c i hc => upd_ne U1 (fun e => hc e.1)) (by omega) (by omega) (fun _ => ⟨⟨by omega, by omega⟩, rfl, U1, ⟨by omega, by omega⟩, fun _ => by omega⟩)
  replace h := XA_keep h G1 (fun c i hc => upd_ne U1 (by omega))
  refine V_aload (v := ad 1) mi_135_34 (by simp [stL, lv_args, Value.category]) ?_
  refine V_ldcS mi_135_35 ?_
  refine V_cO (As := [.ref (D.2 1000 9)]) (st := []) mi_135_37 (by omega) (by decide +kernel) (by decide +kernel) (by omega) g1o h.1 (ewx_ct (i := 9) (s := firB B n s) (by omega) (XB_num h) XMK_rf) (by omega) (show 1 = mN 144 by decide +kernel) (by simp [Value.category]) ?_
  rintro r w ⟨rfl, h, O⟩
  rw [xe9] at h
  replace q := XR_to q O h (fun g => numT_2ok (word_ok g))
  refine V_aload (v := ad 16) mi_135_40 (by simp [stL, lv_args, Value.category]) ?_
  refine V_aload (v := ad 1) mi_135_41 (by simp [stL, lv_args, Value.category]) ?_
  refine V_ipush mi_135_42 ?_
  refine V_ipush mi_135_43 ?_
  refine V_cO (As := [.int (Int32.ofInt (1)), .int (Int32.ofInt (4))]) (st := [.ref (ad 16)]) mi_135_44 (by omega) (by decide +kernel) (by decide +kernel) (by omega) g1o h.1 (expx_ct (lo := 1) (hi := 4) (s := needS B n xPlac (firB B n s)) ⟨by omega, by omega⟩ ⟨by omega, by omega⟩ (by omega) (XB_word h) XMK_rf) (by omega) (show 2 = mN 141 by decide +kernel) (by simp [Value.category]) ?_
  rintro r w ⟨rfl, h, O⟩
  change V l D tys A 135 6 0 0 _ 0 0 _ _ ((some (Value.int (Int32.ofInt (toldR B n xPlac 1 4 (firB B n s))))).toList ++ _) _
  replace q := XR_to q O h (fun g => need_wok (num2_ok g).1)
  have bd : toldR B n xPlac 1 4 (firB B n s) = 0 ∨ (1 ≤ toldR B n xPlac 1 4 (firB B n s) ∧ toldR B n xPlac 1 4 (firB B n s) ≤ 4) := numR_bd
  refine V_pO mi_135_47 g16f2 (by omega) (by decide +kernel) (by decide +kernel) h.1 (by rw [Int32.toInt_ofInt_of_le (by omega) (by omega)]; omega) (by rw [Int32.toInt_ofInt_of_le (by omega) (by omega)]; omega) (fun w' G1 U1 => ?_)
  replace q := XR_put (j := 1) (z := toldR B n xPlac 1 4 (firB B n s)) q (fun c i hc => upd_ne U1 (fun e => hc e.1)) (by omega) (by omega) (fun _ => ⟨⟨by omega, by omega⟩, rfl, U1, ⟨by omega, by omega⟩, fun _ => by omega⟩)
  replace h := XA_keep h G1 (fun c i hc => upd_ne U1 (by omega))
  refine V_aload (v := ad 1) mi_135_50 (by simp [stL, lv_args, Value.category]) ?_
  refine V_ldcS mi_135_51 ?_
  refine V_cO (As := [.ref (D.2 1000 10)]) (st := []) mi_135_53 (by omega) (by decide +kernel) (by decide +kernel) (by omega) g1o h.1 (ewx_ct (i := 10) (s := firC B n s) (by omega) (XB_num h) XMK_rf) (by omega) (show 1 = mN 144 by decide +kernel) (by simp [Value.category]) ?_
  rintro r w ⟨rfl, h, O⟩
  rw [xe10] at h
  replace q := XR_to q O h (fun g => numT_2ok (word_ok g))
  refine V_aload (v := ad 16) mi_135_56 (by simp [stL, lv_args, Value.category]) ?_
  refine V_aload (v := ad 1) mi_135_57 (by simp [stL, lv_args, Value.category]) ?_
  refine V_ipush mi_135_58 ?_
  refine V_ipush mi_135_59 ?_
  refine V_cO (As := [.int (Int32.ofInt (1)), .int (Int32.ofInt (24))]) (st := [.ref (ad 16)]) mi_135_61 (by omega) (by decide +kernel) (by decide +kernel) (by omega) g1o h.1 (expx_ct (lo := 1) (hi := 24) (s := needS B n xHour (firC B n s)) ⟨by omega, by omega⟩ ⟨by omega, by omega⟩ (by omega) (XB_word h) XMK_rf) (by omega) (show 2 = mN 141 by decide +kernel) (by simp [Value.category]) ?_
  rintro r w ⟨rfl, h, O⟩
  change V l D tys A 135 6 0 0 _ 0 0 _ _ ((some (Value.int (Int32.ofInt (toldR B n xHour 1 24 (firC B n s))))).toList ++ _) _
  replace q := XR_to q O h (fun g => need_wok (num2_ok g).1)
  have bd : toldR B n xHour 1 24 (firC B n s) = 0 ∨ (1 ≤ toldR B n xHour 1 24 (firC B n s) ∧ toldR B n xHour 1 24 (firC B n s) ≤ 24) := numR_bd
  refine V_pO mi_135_64 g16f3 (by omega) (by decide +kernel) (by decide +kernel) h.1 (by rw [Int32.toInt_ofInt_of_le (by omega) (by omega)]; omega) (by rw [Int32.toInt_ofInt_of_le (by omega) (by omega)]; omega) (fun w' G1 U1 => ?_)
  replace q := XR_put (j := 2) (z := toldR B n xHour 1 24 (firC B n s)) q (fun c i hc => upd_ne U1 (fun e => hc e.1)) (by omega) (by omega) (fun _ => ⟨⟨by omega, by omega⟩, rfl, U1, ⟨by omega, by omega⟩, fun _ => by omega⟩)
  replace h := XA_keep h G1 (fun c i hc => upd_ne U1 (by omega))
  refine V_aload (v := ad 1) mi_135_67 (by simp [stL, lv_args, Value.category]) ?_
  refine V_gR mi_135_68 g1r (by omega) h.1 ?_
  refine V_cO (As := []) (st := []) mi_135_71 (by omega) (by decide +kernel) (by decide +kernel) (by omega) g2o h.1 (advx_ct (s := firT B n s) (XB_num h) XMK_rf) (by omega) (show 0 = mN 188 by decide +kernel) (by simp [Value.category]) ?_
  rintro r w ⟨rfl, h, O⟩
  exact V_retV mi_135_74 ⟨rfl, h, XR_to q O h (fun g => numT_2ok g)⟩
theorem rhx_ct {n : Nat} {B fr td : Nat → Int} {s : TS} {w0 : va_W} (h : XA ad tys n B s ws) (q : XR fr td w0 s ws) : CT l D tys A 135 6 0 0 [.ref (ad 1), .ref (ad 16)] ws (fun r w => r = none ∧ XA ad tys n B (firT B n s) w ∧ XR (firF B n fr s) td w0 (firT B n s) w) := by
  obtain ⟨-, -, -, -, -, -, -, xe7, xe8, xe9, xe10, -⟩ := xw_eq
  refine CT_of_V (by omega) (show (2 : Nat) ≤ mML 135 by decide +kernel) ?_
  refine V_aload (v := ad 1) mi_135_0 (by simp [stL, lv_args, Value.category]) ?_
  refine V_gR mi_135_1 g1r (by omega) h.1 ?_
  refine V_ldcS mi_135_4 ?_
  refine V_cO (As := [.ref (D.2 1000 7)]) (st := []) mi_135_6 (by omega) (by decide +kernel) (by decide +kernel) (by omega) g2o h.1 (wordx_ct (i := 7) (by omega) h) (by omega) (show 1 = mN 191 by decide +kernel) (by simp [Value.category]) ?_
  rintro r w1 ⟨rfl, b, rfl, hb⟩
  refine V_bne mi_135_9  (fun q2 => ?_) (fun q2 => ?_)
  · have e : wordS B n xHill s = s := by
      unfold wordS
      by_cases g : s.2.1 = 0
      · rw [← xe7, ← hb g, q2, if_pos rfl]
      · rw [errS_bad g, ite_self]
    exact rh_17 (by rw [e]; exact h) (by rw [e]; exact q)
  · refine V_aload (v := ad 1) mi_135_12 (by simp [stL, lv_args, Value.category]) ?_
    refine V_ipush mi_135_13 ?_
    refine V_cO (As := [.int (Int32.ofInt (1))]) (st := []) mi_135_14 (by omega) (by decide +kernel) (by decide +kernel) (by omega) g1o h.1 (failx_ct h XMK_rf (by omega) (by omega)) (by omega) (show 1 = mN 146 by decide +kernel) (by simp [Value.category]) ?_
    rintro r w ⟨rfl, h, O⟩
    have e : wordS B n xHill s = errS 1 s := by
      unfold wordS
      by_cases g : s.2.1 = 0
      · rw [← xe7, ← hb g, q2, if_neg Bool.false_ne_true]
      · rw [errS_bad g, ite_self]
    exact rh_17 (by rw [e]; exact h) (by rw [e]; exact XR_bad (XR_of (s2 := s) q O (fun g => g)) (err_ok (by decide)))
theorem rgx_ct {n : Nat} {B fr td : Nat → Int} {s : TS} {w0 : va_W} (h : XB ad tys n B s ws) (q : XR fr td w0 s ws) : CT l D tys A 137 6 0 0 [.ref (ad 1), .ref (ad 16)] ws (fun r w => r = none ∧ XA ad tys n B (goT fr B n s) w ∧ XR fr (goD fr td B n s) w0 (goT fr B n s) w) := by
  obtain ⟨-, -, -, -, -, -, -, -, -, -, -, xe11⟩ := xw_eq
  refine CT_of_V (by omega) (show (2 : Nat) ≤ mML 137 by decide +kernel) ?_
  refine V_aload (v := ad 1) mi_137_0 (by simp [stL, lv_args, Value.category]) ?_
  refine V_aload (v := ad 16) mi_137_1 (by simp [stL, lv_args, Value.category]) ?_
  refine V_cO (As := [.ref (ad 16)]) (st := []) mi_137_2 (by omega) (by decide +kernel) (by decide +kernel) (by omega) g1o h.1 (folkx_ct h q) (by omega) (show 1 = mN 140 by decide +kernel) (by simp [Value.category]) ?_
  rintro r w ⟨rfl, h, q⟩
  refine V_istore mi_137_5 ?_
  refine V_aload (v := ad 1) mi_137_6 (by simp [stL, lv_args, Value.category]) ?_
  refine V_ipush mi_137_7 ?_
  refine V_aload (v := ad 16) mi_137_8 (by simp [stL, lv_args, Value.category]) ?_
  obtain ⟨pl, plh, pl0, pl1⟩ := celO h.1 g16f2 (by omega)
  refine V_gO mi_137_9 g16o h.1 (plh) ?_
  refine V_ipush mi_137_12 ?_
  refine V_ibin mi_137_13 (by omega) ?_
  rw [ib1]
  obtain ⟨ep1, ep2⟩ := num2_cg (lo := 0) (hi := pl - 1) (hi' := fr 1 - 1) (s := folkT B n fr s) (fun g => by rw [(XR_at (j := 1) q plh ⟨by omega, by omega⟩ (numT_2ok g) (by omega) (by omega) rfl rfl).1])
  refine V_cO (As := [.int (Int32.ofInt (0)), .int (Int32.ofInt ((pl) - (1)))]) (st := []) mi_137_14 (by omega) (by decide +kernel) (by decide +kernel) (by omega) g1o h.1 (expx_ct (s := folkT B n fr s) ⟨by omega, by omega⟩ ⟨by omega, by omega⟩ (by omega) (XB_num h) XMK_rf) (by omega) (show 2 = mN 141 by decide +kernel) (by simp [Value.category]) ?_
  rintro r w ⟨rfl, h, O⟩
  rw [ep2]
  rw [ep1] at h
  replace q := XR_to q O h (fun g => numT_2ok (num2_ok g).1)
  refine V_istore mi_137_17 ?_
  refine V_aload (v := ad 1) mi_137_18 (by simp [stL, lv_args, Value.category]) ?_
  refine V_ldcS mi_137_19 ?_
  refine V_cO (As := [.ref (D.2 1000 11)]) (st := []) mi_137_21 (by omega) (by decide +kernel) (by decide +kernel) (by omega) g1o h.1 (ewx_ct (i := 11) (s := goP fr B n s) (by omega) (XB_num h) XMK_rf) (by omega) (show 1 = mN 144 by decide +kernel) (by simp [Value.category]) ?_
  rintro r w ⟨rfl, h, O⟩
  rw [xe11] at h
  replace q := XR_to q O h (fun g => numT_2ok (word_ok g))
  refine V_aload (v := ad 1) mi_137_24 (by simp [stL, lv_args, Value.category]) ?_
  refine V_ipush mi_137_25 ?_
  refine V_aload (v := ad 16) mi_137_26 (by simp [stL, lv_args, Value.category]) ?_
  obtain ⟨ho, hoh, ho0, ho1⟩ := celO h.1 g16f3 (by omega)
  refine V_gO mi_137_27 g16o h.1 (hoh) ?_
  refine V_ipush mi_137_30 ?_
  refine V_ibin mi_137_31 (by omega) ?_
  rw [ib1]
  obtain ⟨eh1, eh2⟩ := num2_cg (lo := 0) (hi := ho - 1) (hi' := fr 2 - 1) (s := goN fr B n s) (fun g => by rw [(XR_at (j := 2) q hoh ⟨by omega, by omega⟩ (need_wok g) (by omega) (by omega) rfl rfl).1])
  refine V_cO (As := [.int (Int32.ofInt (0)), .int (Int32.ofInt ((ho) - (1)))]) (st := []) mi_137_32 (by omega) (by decide +kernel) (by decide +kernel) (by omega) g1o h.1 (expx_ct (s := goN fr B n s) ⟨by omega, by omega⟩ ⟨by omega, by omega⟩ (by omega) (XB_word h) XMK_rf) (by omega) (show 2 = mN 141 by decide +kernel) (by simp [Value.category]) ?_
  rintro r w ⟨rfl, h, O⟩
  rw [eh2]
  change V l D tys A 137 6 0 0 _ 0 0 _ _ ((some (Value.int (Int32.ofInt (hourR fr (goN fr B n s))))).toList ++ _) _
  rw [eh1] at h
  replace q := XR_to q O h (fun g => need_wok (num2_ok g).1)
  refine V_istore mi_137_35 ?_
  refine V_aload (v := ad 16) mi_137_37 (by simp [stL, lv_args, Value.category]) ?_
  refine V_gR mi_137_38 g16r11 (by omega) h.1 ?_
  refine V_iload (v := Int32.ofInt (folkR fr s)) mi_137_41 (by simp [stL, lv_args, Value.category]) ?_
  refine V_ipush mi_137_42 ?_
  refine V_ibin mi_137_44 (by omega) ?_
  rw [ib2]
  refine V_iload (v := Int32.ofInt (hourR fr (goN fr B n s))) mi_137_45 (by simp [stL, lv_args, Value.category]) ?_
  refine V_ibin mi_137_47 (by omega) ?_
  rw [ib0]
  refine V_iload (v := Int32.ofInt (numR 0 (fr 1 - 1) (folkT B n fr s))) mi_137_48 (by simp [stL, lv_args, Value.category]) ?_
  have gi : (num2 0 (fr 2 - 1) (goN fr B n s)).2.1 = 0 → (goI fr B n s < 144 ∧ folkR fr s * 24 + hourR fr (goN fr B n s) = (goI fr B n s : Int)) ∧ 0 ≤ numR 0 (fr 1 - 1) (folkT B n fr s) ∧ numR 0 (fr 1 - 1) (folkT B n fr s) ≤ 3 := fun g => by
    obtain ⟨-, d1, d2, d3, -⟩ := XR_bds h.1 q g
    obtain ⟨k1, -, k2, k3, -⟩ := num2_ok g
    obtain ⟨k4, -, -⟩ := need_ok k1
    obtain ⟨k5, -, k6, k7, -⟩ := num_ok (B := B) (n := n) (s := folkT B n fr s) k4
    obtain ⟨-, -, k8, k9, -⟩ := num_ok (B := B) (n := n) (s := s) k5
    have k3 : hourR fr (goN fr B n s) = (goN fr B n s).1.2.2.2 := k3
    have k9 : folkR fr s = s.1.2.2.2 := k9
    unfold goI
    rw [Int.toNat_of_nonneg (by omega)]
    omega
  refine V_stat (As := [.ref (ad 22), .int (Int32.ofInt (((folkR fr s) * (24)) + (hourR fr (goN fr B n s)))), .int (Int32.ofInt (numR 0 (fr 1 - 1) (folkT B n fr s)))]) (st := []) mi_137_49 (by omega) (putx_ct a22 h.1 (by omega) (i32b _).1 (i32b _).2) (by omega) (show 3 = mN 148 by decide +kernel) (by simp [Value.category]) ⟨Nat.le_refl _, Nat.le_refl _⟩ ?_
  rintro r w' ⟨rfl, G1, o, u⟩
  replace q := XR_ptd (j := goI fr B n s) (z := numR 0 (fr 1 - 1) (folkT B n fr s)) q o (fun g => ⟨(gi g).1.1, u _ (gi g).1.1 (by rw [(gi g).1.2]), by have := (gi g).2; omega, (gi g).2.2⟩)
  replace h := XA_keep h G1 (fun c i hc => o c i (by omega))
  refine V_aload (v := ad 1) mi_137_52 (by simp [stL, lv_args, Value.category]) ?_
  refine V_gR mi_137_53 g1r (by omega) h.1 ?_
  refine V_cO (As := []) (st := []) mi_137_56 (by omega) (by decide +kernel) (by decide +kernel) (by omega) g2o h.1 (advx_ct (s := goT fr B n s) (XB_num h) XMK_rf) (by omega) (show 0 = mN 188 by decide +kernel) (by simp [Value.category]) ?_
  rintro r w ⟨rfl, h, O⟩
  refine V_retV mi_137_59 ⟨rfl, h, XR_cg (XR_to q O h (fun g => numT_2ok g)) (fun g => ⟨rfl, ?_⟩)⟩
  unfold goD
  rw [if_pos g]
theorem rkx_ct {n : Nat} {B fr td : Nat → Int} {s : TS} {w0 : va_W} (h : XB ad tys n B s ws) (q : XR fr td w0 s ws) : CT l D tys A 138 3 0 0 [.ref (ad 1), .ref (ad 16)] ws (fun r w => r = none ∧ XA ad tys n B (knT fr B n s) w ∧ XR (knG fr B n s) td w0 (knT fr B n s) w) := by
  have f3 : s.2.1 = 0 → 0 ≤ fr 3 ∧ fr 3 ≤ 6 := fun g => (XR_bds h.1 q g).2.2.2.1
  have fI : ∀ t : TS, (t.2.1 = 0 → s.2.1 = 0) → I32 (numR 0 (fr 3 - 1) t) := fun t m => by
    by_cases g : t.2.1 = 0
    · have := f3 (m g)
      rcases numR_bd (lo := 0) (hi := fr 3 - 1) (s := t) with e | e <;> exact ⟨by omega, by omega⟩
    · have e : num2 0 (fr 3 - 1) t = errS 1 t := num2_K (fun q => absurd q g)
      rw [numR_bad (by rw [e]; exact err_ok (by decide))]
      exact ⟨by omega, by omega⟩
  refine CT_of_V (by omega) (show (2 : Nat) ≤ mML 138 by decide +kernel) ?_
  refine V_aload (v := ad 1) mi_138_0 (by simp [stL, lv_args, Value.category]) ?_
  refine V_aload (v := ad 16) mi_138_1 (by simp [stL, lv_args, Value.category]) ?_
  refine V_cO (As := [.ref (ad 16)]) (st := []) mi_138_2 (by omega) (by decide +kernel) (by decide +kernel) (by omega) g1o h.1 (folkx_ct h q) (by omega) (show 1 = mN 140 by decide +kernel) (by simp [Value.category]) ?_
  rintro r w ⟨rfl, h, q⟩
  change V l D tys A 138 3 0 0 _ 0 0 _ _ ((some (Value.int (Int32.ofInt (knF fr s)))).toList ++ _) _
  refine V_istore mi_138_5 ?_
  refine V_aload (v := ad 1) mi_138_6 (by simp [stL, lv_args, Value.category]) ?_
  refine V_aload (v := ad 16) mi_138_7 (by simp [stL, lv_args, Value.category]) ?_
  refine V_cO (As := [.ref (ad 16)]) (st := []) mi_138_8 (by omega) (by decide +kernel) (by decide +kernel) (by omega) g1o h.1 (folkx_ct (s := folkT B n fr s) (XB_num h) (XR_of q XMK_rf (fun g => numT_2ok g))) (by omega) (show 1 = mN 140 by decide +kernel) (by simp [Value.category]) ?_
  rintro r w ⟨rfl, h, q⟩
  refine V_istore mi_138_11 ?_
  refine V_aload (v := ad 1) mi_138_12 (by simp [stL, lv_args, Value.category]) ?_
  refine V_iload (v := Int32.ofInt (knF fr s)) mi_138_13 (by simp [stL, lv_args, Value.category]) ?_
  refine V_iload (v := Int32.ofInt (folkR fr (folkT B n fr s))) mi_138_14 (by simp [stL, lv_args, Value.category]) ?_
  refine V_cO (As := [.int (Int32.ofInt (knF fr s)), .int (Int32.ofInt (folkR fr (folkT B n fr s)))]) (st := []) mi_138_15 (by omega) (by decide +kernel) (by decide +kernel) (by omega) g1o h.1 (refx_ct (f := knF fr s) (o := folkR fr (folkT B n fr s)) (fI s (fun g => g)) (fI _ (fun g => (num_ok g).1)) h XMK_rf) (by omega) (show 2 = mN 142 by decide +kernel) (by simp [Value.category]) ?_
  rintro r w ⟨rfl, h, O⟩
  have f0 : (folkT B n fr s).2.1 = 0 → 0 ≤ knF fr s ∧ knF fr s ≤ fr 3 - 1 := fun g => by
    obtain ⟨-, -, k8, k9, -⟩ := num_ok (B := B) (n := n) (s := s) g
    have k9 : knF fr s = s.1.2.2.2 := k9
    omega
  rw [show (if knF fr s = folkR fr (folkT B n fr s) then errS 2 (num2 0 (fr 3 - 1) (folkT B n fr s)) else num2 0 (fr 3 - 1) (folkT B n fr s)) = num2 0 (fr 3 - 1) (otheP (knF fr s) (folkT B n fr s)) from oth_eq f0] at h
  replace q := XR_to q O h (fun g => (oth_ok g).1)
  have h : XA ad tys n B (num2 0 (fr 3 - 1) (otheP (knF fr s) (folkT B n fr s))) w := h
  refine V_aload (v := ad 1) mi_138_18 (by simp [stL, lv_args, Value.category]) ?_
  refine V_ipush mi_138_19 ?_
  refine V_aload (v := ad 16) mi_138_20 (by simp [stL, lv_args, Value.category]) ?_
  refine V_iload (v := Int32.ofInt (folkR fr (folkT B n fr s))) mi_138_21 (by simp [stL, lv_args, Value.category]) ?_
  refine V_cO (As := [.int (Int32.ofInt (folkR fr (folkT B n fr s)))]) (st := [.int (Int32.ofInt (0)), .ref (ad 1)]) mi_138_22 (by omega) (by decide +kernel) (by decide +kernel) (by omega) g16o h.1 (lenx_ct h.1) (by omega) (show 1 = mN 106 by decide +kernel) (by simp [Value.category]) ?_
  rintro r w1 ⟨rfl, p, rfl, p0, p7, hp⟩
  refine V_ipush mi_138_25 ?_
  refine V_ibin mi_138_26 (by omega) ?_
  rw [ib1]
  obtain ⟨-, -, -, -, -, -⟩ := xw_eq
  have gO : (knS fr B n s).2.1 = 0 → (folkR fr (folkT B n fr s) = (knO fr B n s : Int) ∧ knO fr B n s < 6) ∧ s.2.1 = 0 := fun g => by
    have g2 := numT_2ok g
    obtain ⟨o1, o2, -⟩ := oth_ok g2
    obtain ⟨-, -, o3, o4, -⟩ := num2_ok o1
    have gs : s.2.1 = 0 := (num_ok (B := B) (n := n) (num2_ok o1).1).1
    have b3 := f3 gs
    have e : knO fr B n s = (numR 0 (fr 3 - 1) (folkT B n fr s)).toNat := by
      rw [o2]
      rfl
    have o4 : folkR fr (folkT B n fr s) = (folkT B n fr s).1.2.2.2 := o4
    have e : knO fr B n s = (folkR fr (folkT B n fr s)).toNat := e
    rw [e, Int.toNat_of_nonneg (by omega)]
    exact ⟨⟨rfl, by omega⟩, gs⟩
  obtain ⟨ep1, ep2⟩ := num2_cg (lo := 0) (hi := p - 1) (hi' := fr (6 + 7 * knO fr B n s) - 1) (s := knS fr B n s) (fun g => by
    obtain ⟨⟨o1, o2⟩, -⟩ := gO g
    obtain ⟨x1, x2, x3, x4⟩ := len_hx o2
    rw [(XR_at (j := 6 + 7 * knO fr B n s) q (hp _ o2 (by rw [o1])) ⟨by omega, by omega⟩ (numT_2ok g) x1 x2 x3 x4).1])
  refine V_cO (As := [.int (Int32.ofInt (0)), .int (Int32.ofInt ((p) - (1)))]) (st := []) mi_138_27 (by omega) (by decide +kernel) (by decide +kernel) (by omega) g1o h.1 (expx_ct (s := knS fr B n s) ⟨by omega, by omega⟩ ⟨by omega, by omega⟩ (by omega) (XB_num h) XMK_rf) (by omega) (show 2 = mN 141 by decide +kernel) (by simp [Value.category]) ?_
  rintro r w ⟨rfl, h, O⟩
  rw [ep2]
  change V l D tys A 138 3 0 0 _ 0 0 _ _ ((some (Value.int (Int32.ofInt (knI fr B n s)))).toList ++ _) _
  rw [ep1] at h
  replace q := XR_to q O h (fun g => numT_2ok (num2_ok g).1)
  refine V_istore mi_138_30 ?_
  refine V_iload (v := Int32.ofInt (knF fr s)) mi_138_32 (by simp [stL, lv_args, Value.category]) ?_
  refine V_ipush mi_138_33 ?_
  refine V_ibin mi_138_35 (by omega) ?_
  rw [ib2]
  refine V_iload (v := Int32.ofInt (folkR fr (folkT B n fr s))) mi_138_36 (by simp [stL, lv_args, Value.category]) ?_
  refine V_ibin mi_138_37 (by omega) ?_
  rw [ib0]
  refine V_istore mi_138_38 ?_
  refine V_aload (v := ad 16) mi_138_40 (by simp [stL, lv_args, Value.category]) ?_
  refine V_gR mi_138_41 g16r12 (by omega) h.1 ?_
  refine V_iload (v := Int32.ofInt (((knF fr s) * (6)) + (folkR fr (folkT B n fr s)))) mi_138_44 (by simp [stL, lv_args, Value.category]) ?_
  refine V_aload (v := ad 16) mi_138_46 (by simp [stL, lv_args, Value.category]) ?_
  refine V_gR mi_138_47 g16r12 (by omega) h.1 ?_
  refine V_iload (v := Int32.ofInt (((knF fr s) * (6)) + (folkR fr (folkT B n fr s)))) mi_138_50 (by simp [stL, lv_args, Value.category]) ?_
  refine V_stat (As := [.ref (ad 23), .int (Int32.ofInt (((knF fr s) * (6)) + (folkR fr (folkT B n fr s))))]) (st := [.int (Int32.ofInt (((knF fr s) * (6)) + (folkR fr (folkT B n fr s)))), .ref (ad 23)]) mi_138_52 (by omega) (atx_ct a23 h.1 (by omega)) (by omega) (show 2 = mN 147 by decide +kernel) (by simp [Value.category]) ⟨Nat.le_refl _, Nat.le_refl _⟩ ?_
  rintro r w1 ⟨rfl, v, rfl, hv⟩
  refine V_ipush mi_138_55 ?_
  refine V_iload (v := Int32.ofInt (knI fr B n s)) mi_138_56 (by simp [stL, lv_args, Value.category]) ?_
  refine V_ibin mi_138_58 (by omega) ?_
  refine V_ibin mi_138_59 (by omega) ?_
  refine V_stat (As := [.ref (ad 23), .int (Int32.ofInt (((knF fr s) * (6)) + (folkR fr (folkT B n fr s)))), .int (ibF 6 (v) (ibF 8 (Int32.ofInt (1)) (Int32.ofInt (knI fr B n s))))]) (st := []) mi_138_60 (by omega) (putx_ct a23 h.1 (by omega) (i32b _).1 (i32b _).2) (by omega) (show 3 = mN 148 by decide +kernel) (by simp [Value.category]) ⟨Nat.le_refl _, Nat.le_refl _⟩ ?_
  rintro r w' ⟨rfl, G1, o, u⟩
  have gi : (num2 0 (fr (6 + 7 * knO fr B n s) - 1) (knS fr B n s)).2.1 = 0 → (knJ fr B n s < 294 ∧ ¬ (102 ≤ knJ fr B n s ∧ knJ fr B n s < 246)) ∧ 23 = 16 + hxC (knJ fr B n s) ∧ Upd1 w1 w' 23 (hxI (knJ fr B n s)) (.int (Int32.ofInt (bitO (fr (knJ fr B n s)) (knI fr B n s)))) ∧ (0 ≤ bitO (fr (knJ fr B n s)) (knI fr B n s) ∧ bitO (fr (knJ fr B n s)) (knI fr B n s) ≤ 4095) ∧ (60 ≤ knJ fr B n s ∧ knJ fr B n s < 102 → bitO (fr (knJ fr B n s)) (knI fr B n s) ≤ 127) := fun g => by
    obtain ⟨k1, -, k2, k3, -⟩ := num2_ok g
    have k3 : knI fr B n s = (knS fr B n s).1.2.2.2 := k3
    obtain ⟨⟨o1, o2⟩, gs⟩ := gO k1
    have bd := XR_bds h.1 q g
    have b3 := bd.2.2.2.1
    have b7 := bd.2.2.2.2.2 _ o2
    obtain ⟨-, -, o3, o4, -⟩ := num_ok (B := B) (n := n) (lo := 0) (hi := fr 3 - 1) (s := s) (num2_ok (oth_ok (numT_2ok k1)).1).1
    have o4 : knF fr s = s.1.2.2.2 := o4
    have J : knJ fr B n s = 66 + (6 * (knF fr s).toNat + knO fr B n s) := by unfold knJ; omega
    have j36 : 6 * (knF fr s).toNat + knO fr B n s < 36 := by omega
    have e1 : hxC (knJ fr B n s) = 7 := by
      unfold hxC
      rw [if_neg (by omega), if_neg (by omega), if_neg (by omega), if_neg (by omega), if_neg (by omega), if_pos (by omega)]
    have e2 : hxI (knJ fr B n s) = 6 * (knF fr s).toNat + knO fr B n s := by
      unfold hxI
      rw [if_neg (by omega), if_neg (by omega), if_neg (by omega), if_neg (by omega), if_neg (by omega), if_pos (by omega)]
      omega
    have ei : knF fr s * 6 + folkR fr (folkT B n fr s) = ((6 * (knF fr s).toNat + knO fr B n s : Nat) : Int) := by omega
    have hv := hv _ j36 (by rw [ei])
    obtain ⟨ve, v0, v1⟩ := XR_at (p := v.toInt) (j := knJ fr B n s) q (by rw [Int32.ofInt_toInt]; exact hv) (i32b v) g (by omega) (by omega) (by omega) e2.symm
    have U := u _ j36 (by rw [ei])
    rw [← e2, show v = Int32.ofInt (fr (knJ fr B n s)) by rw [← ve, Int32.ofInt_toInt], show ibF 6 (Int32.ofInt (fr (knJ fr B n s))) (ibF 8 (Int32.ofInt 1) (Int32.ofInt (knI fr B n s))) = Int32.ofInt (bitO (fr (knJ fr B n s)) (knI fr B n s)) by unfold bitO; rw [Int32.ofInt_toInt]] at U
    have bb := bitO_b2 (a := fr (knJ fr B n s)) (i := knI fr B n s) v0 (XR_bit q g (by omega)) (by omega) (by omega)
    exact ⟨⟨by omega, by omega⟩, by omega, U, ⟨bb.1, by omega⟩, fun _ => bb.2⟩
  replace q := XR_put (j := knJ fr B n s) q o (by omega) (by omega) gi
  replace h := XA_keep h G1 (fun c i hc => o c i (by omega))
  refine V_aload (v := ad 1) mi_138_63 (by simp [stL, lv_args, Value.category]) ?_
  refine V_gR mi_138_64 g1r (by omega) h.1 ?_
  refine V_cO (As := []) (st := []) mi_138_67 (by omega) (by decide +kernel) (by decide +kernel) (by omega) g2o h.1 (advx_ct (s := knT fr B n s) (XB_num h) XMK_rf) (by omega) (show 0 = mN 188 by decide +kernel) (by simp [Value.category]) ?_
  rintro r w ⟨rfl, h, O⟩
  refine V_retV mi_138_70 ⟨rfl, h, XR_cg (XR_to q O h (fun g => numT_2ok g)) (fun g => ⟨?_, rfl⟩)⟩
  unfold knG
  rw [if_pos g]
theorem say_hx {k r : Nat} (hk : k < 12) (hr : r < 4) : (246 + 4 * k + r < 294 ∧ ¬ (102 ≤ 246 + 4 * k + r ∧ 246 + 4 * k + r < 246)) ∧ 24 + r = 16 + hxC (246 + 4 * k + r) ∧ k = hxI (246 + 4 * k + r) := by
  have e1 : hxC (246 + 4 * k + r) = 8 + r := by
    unfold hxC
    rw [if_neg (by omega), if_neg (by omega), if_neg (by omega), if_neg (by omega), if_neg (by omega), if_neg (by omega), if_neg (by omega)]
    omega
  have e2 : hxI (246 + 4 * k + r) = k := by
    unfold hxI
    rw [if_neg (by omega), if_neg (by omega), if_neg (by omega), if_neg (by omega), if_neg (by omega), if_neg (by omega), if_neg (by omega)]
    omega
  exact ⟨⟨by omega, by omega⟩, by omega, by omega⟩
theorem addx_ct {n : Nat} {B fr td : Nat → Int} {s : TS} {w0 : va_W} {a b c e : Int} (bd : s.2.1 = 0 → fr 4 < 12 ∧ (0 ≤ a ∧ a ≤ 99) ∧ (0 ≤ b ∧ b ≤ 99) ∧ (0 ≤ c ∧ c ≤ 99) ∧ (0 ≤ e ∧ e ≤ 99)) (h : XA ad tys n B s ws) (q : XR fr td w0 s ws) : CT l D tys A 112 1 0 0 [.ref (ad 16), .int (Int32.ofInt (a)), .int (Int32.ofInt (b)), .int (Int32.ofInt (c)), .int (Int32.ofInt (e))] ws (fun r w => r = none ∧ XA ad tys n B s w ∧ XR (updI (updI (updI (updI (updI fr (saK fr + 0) a) (saK fr + 1) b) (saK fr + 2) c) (saK fr + 3) e) 4 (fr 4 + 1)) td w0 s w) := by
  obtain ⟨k, hk, k0, k12⟩ := celO h.1 g16f5 (by omega)
  have kf : s.2.1 = 0 → k = fr 4 := fun g => (XR_at (j := 4) q hk ⟨by omega, by omega⟩ g (by omega) (by omega) rfl rfl).1
  refine CT_of_V (by omega) (show (5 : Nat) ≤ mML 112 by decide +kernel) ?_
  refine V_aload (v := ad 16) mi_112_0 (by simp [stL, lv_args, Value.category]) ?_
  refine V_gO mi_112_1 g16o h.1 (hk) ?_
  refine V_ipush mi_112_4 ?_
  refine V_cge mi_112_6 ⟨by omega, by omega⟩ ⟨by omega, by omega⟩ (fun q12 => ?_) (fun q12 => ?_)
  · exact V_retV mi_112_68 ⟨rfl, h, XR_bad q (fun g => by have := kf g; have := bd g; omega)⟩
  · have gk : s.2.1 = 0 → k = fr 4 ∧ saK fr = 246 + 4 * k.toNat := fun g => by
      have := kf g
      refine ⟨this, ?_⟩
      unfold saK
      rw [this]
    refine V_aload (v := ad 16) mi_112_9 (by simp [stL, lv_args, Value.category]) ?_
    refine V_gR mi_112_10 g16r13 (by omega) h.1 ?_
    refine V_aload (v := ad 16) mi_112_13 (by simp [stL, lv_args, Value.category]) ?_
    refine V_gO mi_112_14 g16o h.1 (hk) ?_
    refine V_iload (v := Int32.ofInt (a)) mi_112_17 (by simp [stL, lv_args, Value.category]) ?_
    refine V_stat (As := [.ref (ad 24), .int (Int32.ofInt (k)), .int (Int32.ofInt (a))]) (st := []) mi_112_18 (by omega) (putx_ct a24 h.1 (by omega) (i32b _).1 (i32b _).2) (by omega) (show 3 = mN 148 by decide +kernel) (by simp [Value.category]) ⟨Nat.le_refl _, Nat.le_refl _⟩ ?_
    rintro r w0 ⟨rfl, G0, o0, u0⟩
    replace q := XR_put (j := saK fr + 0) (z := a) q o0 (by omega) (by omega) (fun g => by
      obtain ⟨e1, e2⟩ := gk g
      have b := bd g
      have hx := say_hx (k := k.toNat) (r := 0) (by omega) (by omega)
      rw [e2]
      refine ⟨hx.1, hx.2.1, ?_, by omega, fun _ => by omega⟩
      rw [← hx.2.2]
      exact u0 _ (by omega) (by rw [Int.toNat_of_nonneg (by omega)]))
    replace h := XA_keep h G0 (fun c i hc => o0 c i (by omega))
    have hk0 := (o0 16 5 (by omega)).trans hk
    refine V_aload (v := ad 16) mi_112_21 (by simp [stL, lv_args, Value.category]) ?_
    refine V_gR mi_112_22 g16r14 (by omega) h.1 ?_
    refine V_aload (v := ad 16) mi_112_25 (by simp [stL, lv_args, Value.category]) ?_
    refine V_gO mi_112_26 g16o h.1 (hk0) ?_
    refine V_iload (v := Int32.ofInt (b)) mi_112_29 (by simp [stL, lv_args, Value.category]) ?_
    refine V_stat (As := [.ref (ad 25), .int (Int32.ofInt (k)), .int (Int32.ofInt (b))]) (st := []) mi_112_30 (by omega) (putx_ct a25 h.1 (by omega) (i32b _).1 (i32b _).2) (by omega) (show 3 = mN 148 by decide +kernel) (by simp [Value.category]) ⟨Nat.le_refl _, Nat.le_refl _⟩ ?_
    rintro r w1 ⟨rfl, G1, o1, u1⟩
    replace q := XR_put (j := saK fr + 1) (z := b) q o1 (by omega) (by omega) (fun g => by
      obtain ⟨e1, e2⟩ := gk g
      have b := bd g
      have hx := say_hx (k := k.toNat) (r := 1) (by omega) (by omega)
      rw [e2]
      refine ⟨hx.1, hx.2.1, ?_, by omega, fun _ => by omega⟩
      rw [← hx.2.2]
      exact u1 _ (by omega) (by rw [Int.toNat_of_nonneg (by omega)]))
    replace h := XA_keep h G1 (fun c i hc => o1 c i (by omega))
    have hk1 := (o1 16 5 (by omega)).trans hk0
    refine V_aload (v := ad 16) mi_112_33 (by simp [stL, lv_args, Value.category]) ?_
    refine V_gR mi_112_34 g16r15 (by omega) h.1 ?_
    refine V_aload (v := ad 16) mi_112_37 (by simp [stL, lv_args, Value.category]) ?_
    refine V_gO mi_112_38 g16o h.1 (hk1) ?_
    refine V_iload (v := Int32.ofInt (c)) mi_112_41 (by simp [stL, lv_args, Value.category]) ?_
    refine V_stat (As := [.ref (ad 26), .int (Int32.ofInt (k)), .int (Int32.ofInt (c))]) (st := []) mi_112_42 (by omega) (putx_ct a26 h.1 (by omega) (i32b _).1 (i32b _).2) (by omega) (show 3 = mN 148 by decide +kernel) (by simp [Value.category]) ⟨Nat.le_refl _, Nat.le_refl _⟩ ?_
    rintro r w2 ⟨rfl, G2, o2, u2⟩
    replace q := XR_put (j := saK fr + 2) (z := c) q o2 (by omega) (by omega) (fun g => by
      obtain ⟨e1, e2⟩ := gk g
      have b := bd g
      have hx := say_hx (k := k.toNat) (r := 2) (by omega) (by omega)
      rw [e2]
      refine ⟨hx.1, hx.2.1, ?_, by omega, fun _ => by omega⟩
      rw [← hx.2.2]
      exact u2 _ (by omega) (by rw [Int.toNat_of_nonneg (by omega)]))
    replace h := XA_keep h G2 (fun c i hc => o2 c i (by omega))
    have hk2 := (o2 16 5 (by omega)).trans hk1
    refine V_aload (v := ad 16) mi_112_45 (by simp [stL, lv_args, Value.category]) ?_
    refine V_gR mi_112_46 g16r16 (by omega) h.1 ?_
    refine V_aload (v := ad 16) mi_112_49 (by simp [stL, lv_args, Value.category]) ?_
    refine V_gO mi_112_50 g16o h.1 (hk2) ?_
    refine V_iload (v := Int32.ofInt (e)) mi_112_53 (by simp [stL, lv_args, Value.category]) ?_
    refine V_stat (As := [.ref (ad 27), .int (Int32.ofInt (k)), .int (Int32.ofInt (e))]) (st := []) mi_112_55 (by omega) (putx_ct a27 h.1 (by omega) (i32b _).1 (i32b _).2) (by omega) (show 3 = mN 148 by decide +kernel) (by simp [Value.category]) ⟨Nat.le_refl _, Nat.le_refl _⟩ ?_
    rintro r w3 ⟨rfl, G3, o3, u3⟩
    replace q := XR_put (j := saK fr + 3) (z := e) q o3 (by omega) (by omega) (fun g => by
      obtain ⟨e1, e2⟩ := gk g
      have b := bd g
      have hx := say_hx (k := k.toNat) (r := 3) (by omega) (by omega)
      rw [e2]
      refine ⟨hx.1, hx.2.1, ?_, by omega, fun _ => by omega⟩
      rw [← hx.2.2]
      exact u3 _ (by omega) (by rw [Int.toNat_of_nonneg (by omega)]))
    replace h := XA_keep h G3 (fun c i hc => o3 c i (by omega))
    have hk3 := (o3 16 5 (by omega)).trans hk2
    refine V_aload (v := ad 16) mi_112_58 (by simp [stL, lv_args, Value.category]) ?_
    refine V_dup mi_112_59 (by simp [Value.category]) ?_
    refine V_gO mi_112_60 g16o h.1 (hk3) ?_
    refine V_ipush mi_112_63 ?_
    refine V_ibin mi_112_64 (by omega) ?_
    rw [ib0]
    refine V_pO mi_112_65 g16f5 (by omega) (by decide +kernel) (by decide +kernel) h.1 (by rw [Int32.toInt_ofInt_of_le (by omega) (by omega)]; omega) (by rw [Int32.toInt_ofInt_of_le (by omega) (by omega)]; omega) (fun w' G5 U5 => ?_)
    replace q := XR_put (j := 4) (z := fr 4 + 1) q (fun c i hc => upd_ne U5 (fun e => hc e.1)) (by omega) (by omega) (fun g => by
      obtain ⟨e1, e2⟩ := gk g
      have b := bd g
      rw [← e1]
      exact ⟨⟨by omega, by omega⟩, rfl, U5, by omega, fun _ => by omega⟩)
    replace h := XA_keep h G5 (fun c i hc => upd_ne U5 (by omega))
    exact V_retV mi_112_68 ⟨rfl, h, q⟩
theorem rsf_ct {n : Nat} {B fr td : Nat → Int} {s : TS} {w0 : va_W} (g : s.2.1 = 0) (e4 : fr 4 = 12) (h : XA ad tys n B s ws) (q : XR fr td w0 s ws) : CT l D tys A 139 6 0 0 [.ref (ad 1), .ref (ad 16)] ws (fun r w => r = none ∧ XA ad tys n B (errS 3 s) w ∧ XR fr td w0 (errS 3 s) w) := by
  obtain ⟨k, hk, k0, k12⟩ := celO h.1 g16f5 (by omega)
  have kf : k = fr 4 := (XR_at (j := 4) q hk ⟨by omega, by omega⟩ g (by omega) (by omega) rfl rfl).1
  refine CT_of_V (by omega) (show (2 : Nat) ≤ mML 139 by decide +kernel) ?_
  refine V_aload (v := ad 16) mi_139_0 (by simp [stL, lv_args, Value.category]) ?_
  refine V_gO mi_139_1 g16o h.1 (hk) ?_
  refine V_ipush mi_139_4 ?_
  refine V_clt mi_139_6 ⟨by omega, by omega⟩ ⟨by omega, by omega⟩ (fun q2 => ?_) (fun q2 => ?_)
  · exact absurd q2 (by have := kf; omega)
  · refine V_aload (v := ad 1) mi_139_9 (by simp [stL, lv_args, Value.category]) ?_
    refine V_ipush mi_139_10 ?_
    refine V_cO (As := [.int (Int32.ofInt (3))]) (st := []) mi_139_11 (by omega) (by decide +kernel) (by decide +kernel) (by omega) g1o h.1 (failx_ct h XMK_rf (by omega) (by omega)) (by omega) (show 1 = mN 146 by decide +kernel) (by simp [Value.category]) ?_
    rintro r w ⟨rfl, h, O⟩
    exact V_retV mi_139_14 ⟨rfl, h, XR_bad (XR_of (s2 := s) q O (fun g => g)) (err_ok (by decide))⟩
theorem rsx_ct {n : Nat} {B fr td : Nat → Int} {s : TS} {w0 : va_W} (g : s.2.1 = 0) (e4 : fr 4 < 12) (h : XA ad tys n B s ws) (q : XR fr td w0 s ws) : CT l D tys A 139 6 0 0 [.ref (ad 1), .ref (ad 16)] ws (fun r w => r = none ∧ XA ad tys n B (saT fr B n (advS B n s)) w ∧ XR (saG fr B n (advS B n s)) td w0 (saT fr B n (advS B n s)) w) := by
  obtain ⟨k, hk, k0, k12⟩ := celO h.1 g16f5 (by omega)
  have kf : k = fr 4 := (XR_at (j := 4) q hk ⟨by omega, by omega⟩ g (by omega) (by omega) rfl rfl).1
  obtain ⟨-, -, -, -, -, -, -, -, -, -, -, xe11⟩ := xw_eq
  refine CT_of_V (by omega) (show (2 : Nat) ≤ mML 139 by decide +kernel) ?_
  refine V_aload (v := ad 16) mi_139_0 (by simp [stL, lv_args, Value.category]) ?_
  refine V_gO mi_139_1 g16o h.1 (hk) ?_
  refine V_ipush mi_139_4 ?_
  refine V_clt mi_139_6 ⟨by omega, by omega⟩ ⟨by omega, by omega⟩ (fun q2 => ?_) (fun q2 => ?_)
  · have q : XR fr td w0 (advS B n s) ws := XR_of q XMK_rf (fun g => g)
    have h := XB_adv h
    generalize advS B n s = s at h q
    have f3 : s.2.1 = 0 → 0 ≤ fr 3 ∧ fr 3 ≤ 6 := fun g => (XR_bds h.1 q g).2.2.2.1
    refine V_aload (v := ad 1) mi_139_15 (by simp [stL, lv_args, Value.category]) ?_
    refine V_aload (v := ad 16) mi_139_16 (by simp [stL, lv_args, Value.category]) ?_
    refine V_cO (As := [.ref (ad 16)]) (st := []) mi_139_17 (by omega) (by decide +kernel) (by decide +kernel) (by omega) g1o h.1 (folkx_ct h q) (by omega) (show 1 = mN 140 by decide +kernel) (by simp [Value.category]) ?_
    rintro r w ⟨rfl, h, q⟩
    change V l D tys A 139 6 0 0 _ 0 0 _ _ ((some (Value.int (Int32.ofInt (saF fr s)))).toList ++ _) _
    refine V_istore mi_139_20 ?_
    refine V_aload (v := ad 1) mi_139_21 (by simp [stL, lv_args, Value.category]) ?_
    refine V_aload (v := ad 16) mi_139_22 (by simp [stL, lv_args, Value.category]) ?_
    refine V_cO (As := [.ref (ad 16)]) (st := []) mi_139_23 (by omega) (by decide +kernel) (by decide +kernel) (by omega) g1o h.1 (folkx_ct (s := saA fr B n s) (XB_num h) (XR_of q XMK_rf (fun g => numT_2ok g))) (by omega) (show 1 = mN 140 by decide +kernel) (by simp [Value.category]) ?_
    rintro r w ⟨rfl, h, q⟩
    refine V_istore mi_139_26 ?_
    refine V_aload (v := ad 1) mi_139_27 (by simp [stL, lv_args, Value.category]) ?_
    refine V_ipush mi_139_28 ?_
    refine V_aload (v := ad 16) mi_139_29 (by simp [stL, lv_args, Value.category]) ?_
    refine V_iload (v := Int32.ofInt (folkR fr (saA fr B n s))) mi_139_30 (by simp [stL, lv_args, Value.category]) ?_
    refine V_cO (As := [.int (Int32.ofInt (folkR fr (saA fr B n s)))]) (st := [.int (Int32.ofInt (0)), .ref (ad 1)]) mi_139_31 (by omega) (by decide +kernel) (by decide +kernel) (by omega) g16o h.1 (lenx_ct h.1) (by omega) (show 1 = mN 106 by decide +kernel) (by simp [Value.category]) ?_
    rintro r w1 ⟨rfl, p, rfl, p0, p7, hp⟩
    refine V_ipush mi_139_34 ?_
    refine V_ibin mi_139_35 (by omega) ?_
    rw [ib1]
    have gO : (saB fr B n s).2.1 = 0 → (folkR fr (saA fr B n s) = (saO fr B n s : Int) ∧ saO fr B n s < 6) ∧ s.2.1 = 0 := fun g => by
      obtain ⟨k1, -, k2, k3, -⟩ := num_ok (B := B) (n := n) (s := saA fr B n s) g
      have gs : s.2.1 = 0 := (num_ok (B := B) (n := n) (s := s) k1).1
      have b3 := f3 gs
      have k3 : folkR fr (saA fr B n s) = (saA fr B n s).1.2.2.2 := k3
      have e : saO fr B n s = (folkR fr (saA fr B n s)).toNat := rfl
      rw [e, Int.toNat_of_nonneg (by omega)]
      exact ⟨⟨rfl, by omega⟩, gs⟩
    obtain ⟨ep1, ep2⟩ := num2_cg (lo := 0) (hi := p - 1) (hi' := fr (6 + 7 * saO fr B n s) - 1) (s := saB fr B n s) (fun g => by
      obtain ⟨⟨o1, o2⟩, -⟩ := gO g
      obtain ⟨x1, x2, x3, x4⟩ := len_hx o2
      rw [(XR_at (j := 6 + 7 * saO fr B n s) q (hp _ o2 (by rw [o1])) ⟨by omega, by omega⟩ (numT_2ok g) x1 x2 x3 x4).1])
    refine V_cO (As := [.int (Int32.ofInt (0)), .int (Int32.ofInt ((p) - (1)))]) (st := []) mi_139_36 (by omega) (by decide +kernel) (by decide +kernel) (by omega) g1o h.1 (expx_ct (s := saB fr B n s) ⟨by omega, by omega⟩ ⟨by omega, by omega⟩ (by omega) (XB_num h) XMK_rf) (by omega) (show 2 = mN 141 by decide +kernel) (by simp [Value.category]) ?_
    rintro r w ⟨rfl, h, O⟩
    rw [ep2]
    change V l D tys A 139 6 0 0 _ 0 0 _ _ ((some (Value.int (Int32.ofInt (saI fr B n s)))).toList ++ _) _
    rw [ep1] at h
    replace q := XR_to q O h (fun g => numT_2ok (num2_ok g).1)
    refine V_istore mi_139_39 ?_
    refine V_aload (v := ad 1) mi_139_41 (by simp [stL, lv_args, Value.category]) ?_
    refine V_ldcS mi_139_42 ?_
    refine V_cO (As := [.ref (D.2 1000 11)]) (st := []) mi_139_44 (by omega) (by decide +kernel) (by decide +kernel) (by omega) g1o h.1 (ewx_ct (i := 11) (s := saC fr B n s) (by omega) (XB_num h) XMK_rf) (by omega) (show 1 = mN 144 by decide +kernel) (by simp [Value.category]) ?_
    rintro r w ⟨rfl, h, O⟩
    rw [xe11] at h
    replace q := XR_to q O h (fun g => numT_2ok (word_ok g))
    refine V_aload (v := ad 1) mi_139_47 (by simp [stL, lv_args, Value.category]) ?_
    refine V_ipush mi_139_48 ?_
    refine V_aload (v := ad 16) mi_139_49 (by simp [stL, lv_args, Value.category]) ?_
    obtain ⟨ho, hoh, ho0, ho1⟩ := celO h.1 g16f3 (by omega)
    refine V_gO mi_139_50 g16o h.1 (hoh) ?_
    refine V_ipush mi_139_53 ?_
    refine V_ibin mi_139_54 (by omega) ?_
    rw [ib1]
    obtain ⟨eh1, eh2⟩ := num2_cg (lo := 0) (hi := ho - 1) (hi' := fr 2 - 1) (s := saN fr B n s) (fun g => by rw [(XR_at (j := 2) q hoh ⟨by omega, by omega⟩ (need_wok g) (by omega) (by omega) rfl rfl).1])
    refine V_cO (As := [.int (Int32.ofInt (0)), .int (Int32.ofInt ((ho) - (1)))]) (st := []) mi_139_55 (by omega) (by decide +kernel) (by decide +kernel) (by omega) g1o h.1 (expx_ct (s := saN fr B n s) ⟨by omega, by omega⟩ ⟨by omega, by omega⟩ (by omega) (XB_word h) XMK_rf) (by omega) (show 2 = mN 141 by decide +kernel) (by simp [Value.category]) ?_
    rintro r w ⟨rfl, h, O⟩
    rw [eh2]
    change V l D tys A 139 6 0 0 _ 0 0 _ _ ((some (Value.int (Int32.ofInt (saH fr B n s)))).toList ++ _) _
    rw [eh1] at h
    replace q := XR_to q O h (fun g => need_wok (num2_ok g).1)
    refine V_istore mi_139_58 ?_
    refine V_aload (v := ad 16) mi_139_60 (by simp [stL, lv_args, Value.category]) ?_
    refine V_iload (v := Int32.ofInt (saF fr s)) mi_139_61 (by simp [stL, lv_args, Value.category]) ?_
    refine V_iload (v := Int32.ofInt (folkR fr (saA fr B n s))) mi_139_62 (by simp [stL, lv_args, Value.category]) ?_
    refine V_iload (v := Int32.ofInt (saI fr B n s)) mi_139_63 (by simp [stL, lv_args, Value.category]) ?_
    refine V_iload (v := Int32.ofInt (saH fr B n s)) mi_139_65 (by simp [stL, lv_args, Value.category]) ?_
    have bd : (num2 0 (fr 2 - 1) (saN fr B n s)).2.1 = 0 → fr 4 < 12 ∧ (0 ≤ saF fr s ∧ saF fr s ≤ 99) ∧ (0 ≤ folkR fr (saA fr B n s) ∧ folkR fr (saA fr B n s) ≤ 99) ∧ (0 ≤ saI fr B n s ∧ saI fr B n s ≤ 99) ∧ (0 ≤ saH fr B n s ∧ saH fr B n s ≤ 99) := fun g => by
      obtain ⟨-, d1, d2, d3, -, d5⟩ := XR_bds h.1 q g
      obtain ⟨k1, -, k2, k3, -⟩ := num2_ok g
      obtain ⟨k4, -, -⟩ := need_ok k1
      obtain ⟨k5, -, k6, k7, -⟩ := num_ok (B := B) (n := n) (s := saB fr B n s) k4
      obtain ⟨⟨o1, o2⟩, gs⟩ := gO k5
      obtain ⟨-, -, k8, k9, -⟩ := num_ok (B := B) (n := n) (s := s) (num_ok (B := B) (n := n) (s := saA fr B n s) k5).1
      have k3 : saH fr B n s = (saN fr B n s).1.2.2.2 := k3
      have k7 : saI fr B n s = (saB fr B n s).1.2.2.2 := k7
      have k9 : saF fr s = s.1.2.2.2 := k9
      have := d5 _ o2
      omega
    refine V_cO (As := [.int (Int32.ofInt (saF fr s)), .int (Int32.ofInt (folkR fr (saA fr B n s))), .int (Int32.ofInt (saI fr B n s)), .int (Int32.ofInt (saH fr B n s))]) (st := []) mi_139_67 (by omega) (by decide +kernel) (by decide +kernel) (by omega) g16o h.1 (addx_ct bd h q) (by omega) (show 4 = mN 112 by decide +kernel) (by simp [Value.category]) ?_
    rintro r w ⟨rfl, h, q⟩
    refine V_aload (v := ad 1) mi_139_70 (by simp [stL, lv_args, Value.category]) ?_
    refine V_gR mi_139_71 g1r (by omega) h.1 ?_
    refine V_cO (As := []) (st := []) mi_139_74 (by omega) (by decide +kernel) (by decide +kernel) (by omega) g2o h.1 (advx_ct (s := saT fr B n s) (XB_num h) XMK_rf) (by omega) (show 0 = mN 188 by decide +kernel) (by simp [Value.category]) ?_
    rintro r w ⟨rfl, h, O⟩
    refine V_retV mi_139_77 ⟨rfl, h, XR_cg (XR_to q O h (fun g => numT_2ok g)) (fun g => ⟨?_, rfl⟩)⟩
    unfold saG
    rw [if_pos g, (gO (num_ok (B := B) (n := n) (s := saB fr B n s) (need_ok (num2_ok (numT_2ok g)).1).1).1).1.1]
    rfl
  · exact absurd q2 (by have := kf; omega)
theorem XA_of_bad {n : Nat} {B : Nat → Int} {s : TS} {w : va_W} (h : XB ad tys n B s w) (hb : ¬ s.2.1 = 0) : XA ad tys n B s w := by
  obtain ⟨G, T, ok, F, K, S, E, N, W, t⟩ := h
  exact ⟨G, T, ok, F, K, S, E, N, W, fun q => absurd q hb⟩
theorem XA_pos {n : Nat} {B : Nat → Int} {s : TS} {w : va_W} (h : XA ad tys n B s w) (g : s.2.1 = 0) (k : s.1.1 = 2) : 0 ≤ s.1.2.2.2 := by
  obtain ⟨G, T, ok, F, K, S, E, N, W, t⟩ := h
  obtain ⟨t1, t2, t3, t4⟩ := t g
  obtain ⟨t5, t6⟩ := t4 (t1.trans k)
  omega
theorem n6_eq {y : Int} {s : TS} (h : s.2.1 = 0 → s.1.1 = 2 → 0 ≤ s.1.2.2.2) : errS 3 (num2 0 (y - 1) s) = num2 0 (y - 1) (nam1 y 6 s) := by
  by_cases g : s.2.1 = 0
  · by_cases k : s.1.1 = 2
    · have v0 := h g k
      by_cases v : s.1.2.2.2 < y
      · have e : num2 0 (y - 1) s = s := num2_G (fun _ => ⟨k, by omega, by omega⟩)
        have o : nam1 y 6 s = errS 3 s := by unfold nam1; rw [if_pos ⟨g, k, rfl, v⟩]
        have b : ¬ (errS 3 s).2.1 = 0 := err_ok (by decide)
        rw [e, o, num2_K (fun q => absurd q b), errS_bad b]
      · have o : nam1 y 6 s = s := by unfold nam1; rw [if_neg (fun q => v q.2.2.2)]
        have e : num2 0 (y - 1) s = errS 2 s := num2_R (fun _ => ⟨k, by omega⟩)
        rw [o, e]
        exact errS_bad (err_ok (by decide))
    · have o : nam1 y 6 s = s := by unfold nam1; rw [if_neg (fun q => k q.2.1)]
      have e : num2 0 (y - 1) s = errS 1 s := num2_K (fun _ => k)
      rw [o, e]
      exact errS_bad (err_ok (by decide))
  · have o : nam1 y 6 s = s := by unfold nam1; rw [if_neg (fun q => g q.1)]
    have e : num2 0 (y - 1) s = errS 1 s := num2_K (fun q => absurd q g)
    rw [o, e]
    exact errS_bad (err_ok (by decide))
theorem nam1_k {y : Int} {k : Nat} {s : TS} (h : k ≠ 6) : nam1 y k s = s := by
  unfold nam1
  rw [if_neg (fun q => h q.2.2.1)]
theorem nam1_ok {y : Int} {k : Nat} {s : TS} (h : (nam1 y k s).2.1 = 0) : s.2.1 = 0 := by
  unfold nam1 at h
  split at h
  · exact absurd h (err_ok (by decide))
  · exact h
/-- the class's draft while a name is read -/
noncomputable def xk (F : Nat) (g : Nat → Int) (k : Nat) : Nat → Int := if k = 0 then updI (updI g 3 ((F : Int) + 1)) (48 + F) 1 else updI (updI (updI g 3 ((F : Int) + 1)) (48 + F) 1) (6 + 7 * F) (k : Int)
theorem xk_step {F k : Nat} {g : Nat → Int} {r : Int} (hF : F < 6) (hk : k < 6) : updI (updI (xk F g k) (7 + 7 * F + k) r) (6 + 7 * F) ((k : Int) + 1) = xk F (updI g (7 + 7 * F + k) r) (k + 1) := by
  funext i
  show updI (updI (if k = 0 then _ else _) (7 + 7 * F + k) r) (6 + 7 * F) ((k : Int) + 1) i = (if k + 1 = 0 then _ else updI (updI (updI (updI g (7 + 7 * F + k) r) 3 ((F : Int) + 1)) (48 + F) 1) (6 + 7 * F) ((k + 1 : Nat) : Int)) i
  rw [if_neg (show ¬ k + 1 = 0 by omega)]
  split
  · show (if i = 6 + 7 * F then _ else if i = 7 + 7 * F + k then r else if i = 48 + F then 1 else if i = 3 then _ else g i) = (if i = 6 + 7 * F then _ else if i = 48 + F then 1 else if i = 3 then _ else if i = 7 + 7 * F + k then r else g i)
    by_cases e1 : i = 6 + 7 * F
    · rw [if_pos e1, if_pos e1]; omega
    · rw [if_neg e1, if_neg e1]
      by_cases e2 : i = 7 + 7 * F + k
      · rw [if_pos e2, if_neg (by omega), if_neg (by omega), if_pos e2]
      · rw [if_neg e2, if_neg e2]
  · show (if i = 6 + 7 * F then _ else if i = 7 + 7 * F + k then r else if i = 6 + 7 * F then _ else if i = 48 + F then 1 else if i = 3 then _ else g i) = (if i = 6 + 7 * F then _ else if i = 48 + F then 1 else if i = 3 then _ else if i = 7 + 7 * F + k then r else g i)
    by_cases e1 : i = 6 + 7 * F
    · rw [if_pos e1, if_pos e1]; omega
    · rw [if_neg e1, if_neg e1, if_neg e1]
      by_cases e2 : i = 7 + 7 * F + k
      · rw [if_pos e2, if_neg (by omega), if_neg (by omega), if_pos e2]
      · rw [if_neg e2, if_neg e2]
theorem xk_end {F k : Nat} {g : Nat → Int} (hF : F < 6) (hk : 1 ≤ k) : xk F g k = updI (updI (updI g (6 + 7 * F) (k : Int)) (48 + F) 1) 3 ((F : Int) + 1) := by
  funext i
  unfold xk
  rw [if_neg (by omega)]
  show (if i = 6 + 7 * F then _ else if i = 48 + F then 1 else if i = 3 then _ else g i) = (if i = 3 then _ else if i = 48 + F then 1 else if i = 6 + 7 * F then _ else g i)
  by_cases e1 : i = 6 + 7 * F
  · rw [if_pos e1, if_neg (by omega), if_neg (by omega), if_pos e1]
  · rw [if_neg e1, if_neg e1]
    by_cases e2 : i = 48 + F
    · rw [if_pos e2, if_neg (by omega), if_pos e2]
    · rw [if_neg e2, if_neg e2]
theorem xk_0 {F k : Nat} {g : Nat → Int} : xk F g k 0 = g 0 := by
  unfold xk
  split
  · show (if 0 = 48 + F then _ else if 0 = 3 then _ else g 0) = _
    rw [if_neg (by omega), if_neg (by omega)]
  · show (if 0 = 6 + 7 * F then _ else if 0 = 48 + F then _ else if 0 = 3 then _ else g 0) = _
    rw [if_neg (by omega), if_neg (by omega), if_neg (by omega)]
theorem nam_hx {F k : Nat} (hF : F < 6) (hk : k < 6) : (7 + 7 * F + k < 294 ∧ ¬ (102 ≤ 7 + 7 * F + k ∧ 7 + 7 * F + k < 246)) ∧ 18 = 16 + hxC (7 + 7 * F + k) ∧ 6 * F + k = hxI (7 + 7 * F + k) := by
  have e1 : hxC (7 + 7 * F + k) = 2 := by
    unfold hxC
    rw [if_neg (by omega), if_pos (by omega), if_neg (by omega)]
  have e2 : hxI (7 + 7 * F + k) = 6 * F + k := by
    unfold hxI
    rw [if_neg (by omega), if_pos (by omega), if_neg (by omega)]
    omega
  exact ⟨⟨by omega, by omega⟩, by omega, by omega⟩
theorem st_hx {F : Nat} (hF : F < 6) : (48 + F < 294 ∧ ¬ (102 ≤ 48 + F ∧ 48 + F < 246)) ∧ 19 = 16 + hxC (48 + F) ∧ F = hxI (48 + F) := by
  have e1 : hxC (48 + F) = 3 := by
    unfold hxC
    rw [if_neg (by omega), if_neg (by omega), if_pos (by omega)]
  have e2 : hxI (48 + F) = F := by
    unfold hxI
    rw [if_neg (by omega), if_neg (by omega), if_pos (by omega)]
    omega
  exact ⟨⟨by omega, by omega⟩, by omega, by omega⟩
theorem rnl_bad {n F k : Nat} {B g g2 td : Nat → Int} {s : TS} {w0 w : va_W} (hk : k ≤ 7) (hb : ¬ s.2.1 = 0) (h : XB ad tys n B s w) (q : XR g td w0 s w) : V l D tys A 136 3 0 0 (fun r w => r = none ∧ XA ad tys n B s w ∧ XR g2 td w0 s w) 0 0 41 [(0, .ref (ad 1)), (1, .ref (ad 16)), (2, .int (Int32.ofInt (F : Int))), (3, .int (Int32.ofInt (k : Int)))] [] w := by
  obtain ⟨G, T, ok, F0, K, S, E, N, W, t⟩ := id h
  have F3 := F0.2.2
  refine V_iload (v := Int32.ofInt ((k : Int))) mi_136_41 (by simp [stL, lv_args, Value.category]) ?_
  refine V_ipush mi_136_42 ?_
  refine V_cgt mi_136_44 ⟨by omega, by omega⟩ ⟨by omega, by omega⟩ (fun q2 => ?_) (fun q2 => ?_)
  · exact V_retV mi_136_133 ⟨rfl, XA_of_bad h hb, XR_bad q hb⟩
  · refine V_aload (v := ad 1) mi_136_47 (by simp [stL, lv_args, Value.category]) ?_
    refine V_gO mi_136_48 g1o h.1 (F0.1) ?_
    refine V_zne mi_136_51 ⟨by omega, by omega⟩ (fun q3 => ?_) (fun q3 => ?_)
    · exact V_retV mi_136_133 ⟨rfl, XA_of_bad h hb, XR_bad q hb⟩
    · exact absurd q3 hb
noncomputable def xWr (B : Nat → Int) (n : Nat) (y : Int) (F f k : Nat) (s : TS) (g : Nat → Int) : TS × Nat × (Nat → Int) := if 1 ≤ k ∧ s.1.1 = 3 then (s, k, g) else namW B n y F f k s g
theorem rn_77 {n F f k : Nat} {B g td : Nat → Int} {s : TS} {w0 w : va_W} {y : Int} (hF : F < 6) (hk : k ≤ 6) (hf7 : k + (f + 1) = 7) (g0 : xk F g k 0 = y) (g00 : g 0 = y) (hs : s.2.1 = 0) (hn : ¬ (1 ≤ k ∧ s.1.1 = 3)) (kk : ∀ (k : Nat) (s : TS) (g : Nat → Int) (w : va_W), k ≤ 6 → k + f = 7 → g 0 = y → s.2.1 = 0 → XB ad tys n B s w → XR (xk F g k) td w0 s w → V l D tys A 136 3 0 0 (fun r w => r = none ∧ XA ad tys n B (xWr B n y F f k s g).1 w ∧ XR (namZ F (xWr B n y F f k s g)) td w0 (xWr B n y F f k s g).1 w) 0 0 41 [(0, .ref (ad 1)), (1, .ref (ad 16)), (2, .int (Int32.ofInt (F : Int))), (3, .int (Int32.ofInt (k : Int)))] [] w) (h : XA ad tys n B s w) (q : XR (xk F g k) td w0 s w) : V l D tys A 136 3 0 0 (fun r w => r = none ∧ XA ad tys n B (xWr B n y F (f + 1) k s g).1 w ∧ XR (namZ F (xWr B n y F (f + 1) k s g)) td w0 (xWr B n y F (f + 1) k s g).1 w) 0 0 77 [(0, .ref (ad 1)), (1, .ref (ad 16)), (2, .int (Int32.ofInt (F : Int))), (3, .int (Int32.ofInt (k : Int)))] [] w := by
  refine V_aload (v := ad 1) mi_136_77 (by simp [stL, lv_args, Value.category]) ?_
  refine V_ipush mi_136_78 ?_
  refine V_aload (v := ad 16) mi_136_79 (by simp [stL, lv_args, Value.category]) ?_
  obtain ⟨sy, syh, sy0, sy1⟩ := celO h.1 g16f1 (by omega)
  refine V_gO mi_136_80 g16o h.1 (syh) ?_
  have sye : sy = y := by
    have := (XR_at (j := 0) q syh ⟨by omega, by omega⟩ hs (by omega) (by omega) rfl rfl).1
    rw [this]
    exact g0
  subst sye
  refine V_ipush mi_136_83 ?_
  refine V_ibin mi_136_84 (by omega) ?_
  rw [ib1]
  refine V_cO (As := [.int (Int32.ofInt (0)), .int (Int32.ofInt ((sy) - (1)))]) (st := []) mi_136_85 (by omega) (by decide +kernel) (by decide +kernel) (by omega) g1o h.1 (numx_ct ⟨by omega, by omega⟩ ⟨by omega, by omega⟩ (by omega) h XMK_rf) (by omega) (show 2 = mN 143 by decide +kernel) (by simp [Value.category]) ?_
  rintro r w ⟨rfl, h2, O⟩
  refine V_istore mi_136_88 ?_
  have tail : ∀ w2 : va_W, XA ad tys n B (num2 0 (sy - 1) (nam1 sy k s)) w2 → XR (xk F g k) td w0 (num2 0 (sy - 1) (nam1 sy k s)) w2 → V l D tys A 136 3 0 0 (fun r w => r = none ∧ XA ad tys n B (xWr B n sy F (f + 1) k s g).1 w ∧ XR (namZ F (xWr B n sy F (f + 1) k s g)) td w0 (xWr B n sy F (f + 1) k s g).1 w) 0 0 101 (stL 4 (.int (Int32.ofInt (numR 0 (sy - 1) s))) [(0, .ref (ad 1)), (1, .ref (ad 16)), (2, .int (Int32.ofInt (F : Int))), (3, .int (Int32.ofInt (k : Int)))]) [] w2 := by
    intro w h q
    refine V_aload (v := ad 16) mi_136_101 (by simp [stL, lv_args, Value.category]) ?_
    refine V_gR mi_136_102 g16r7 (by omega) h.1 ?_
    refine V_iload (v := Int32.ofInt ((F : Int))) mi_136_105 (by simp [stL, lv_args, Value.category]) ?_
    refine V_ipush mi_136_106 ?_
    refine V_ibin mi_136_108 (by omega) ?_
    rw [ib2]
    refine V_iload (v := Int32.ofInt ((k : Int))) mi_136_109 (by simp [stL, lv_args, Value.category]) ?_
    refine V_ibin mi_136_110 (by omega) ?_
    rw [ib0]
    refine V_iload (v := Int32.ofInt (numR 0 (sy - 1) s)) mi_136_111 (by simp [stL, lv_args, Value.category]) ?_
    refine V_stat (As := [.ref (ad 18), .int (Int32.ofInt ((((F : Int)) * (6)) + ((k : Int)))), .int (Int32.ofInt (numR 0 (sy - 1) s))]) (st := []) mi_136_113 (by omega) (putx_ct a18 h.1 (by omega) (i32b _).1 (i32b _).2) (by omega) (show 3 = mN 148 by decide +kernel) (by simp [Value.category]) ⟨Nat.le_refl _, Nat.le_refl _⟩ ?_
    rintro r w1 ⟨rfl, G1, o1, u1⟩
    have gk : (num2 0 (sy - 1) (nam1 sy k s)).2.1 = 0 → k < 6 ∧ nam1 sy k s = s ∧ 0 ≤ numR 0 (sy - 1) s ∧ numR 0 (sy - 1) s ≤ 99 := fun g2 => by
      have k6 : k ≠ 6 := fun e => by
        subst e
        have := nam_6 (B := B) (n := n) (y := sy) (s := s)
        unfold namN at this
        rw [numT_2, if_pos g2] at this
        exact this g2
      have e := nam1_k (y := sy) (s := s) k6
      rw [e] at g2
      obtain ⟨-, -, c1, c2, -⟩ := num2_ok g2
      exact ⟨by omega, e, by omega, by omega⟩
    replace q := XR_put (j := 7 + 7 * F + k) (z := numR 0 (sy - 1) s) q o1 (by omega) (by omega) (fun g2 => by
      obtain ⟨k6, -, r0, r9⟩ := gk g2
      have hx := nam_hx hF k6
      refine ⟨hx.1, hx.2.1, ?_, ⟨by omega, by omega⟩, fun _ => by omega⟩
      rw [← hx.2.2]
      exact u1 _ (by omega) (by rw [show (F : Int) * 6 + (k : Int) = ((6 * F + k : Nat) : Int) by omega]))
    replace h := XA_keep h G1 (fun c i hc => o1 c i (by omega))
    refine V_aload (v := ad 16) mi_136_116 (by simp [stL, lv_args, Value.category]) ?_
    refine V_gR mi_136_117 g16r6 (by omega) h.1 ?_
    refine V_iload (v := Int32.ofInt ((F : Int))) mi_136_120 (by simp [stL, lv_args, Value.category]) ?_
    refine V_iload (v := Int32.ofInt ((k : Int))) mi_136_121 (by simp [stL, lv_args, Value.category]) ?_
    refine V_ipush mi_136_122 ?_
    refine V_ibin mi_136_123 (by omega) ?_
    rw [ib0]
    have tk1 : (Int32.ofInt ((k : Int) + 1)).toInt = (k : Int) + 1 := Int32.toInt_ofInt_of_le (by omega) (by omega)
    refine V_stat (As := [.ref (ad 17), .int (Int32.ofInt ((F : Int))), .int (Int32.ofInt (((k : Int)) + (1)))]) (st := []) mi_136_124 (by omega) (putx_ct a17 h.1 (by omega) (by rw [tk1]; omega) (by rw [tk1]; omega)) (by omega) (show 3 = mN 148 by decide +kernel) (by simp [Value.category]) ⟨Nat.le_refl _, Nat.le_refl _⟩ ?_
    rintro r w2 ⟨rfl, G2, o2, u2⟩
    replace q := XR_put (j := 6 + 7 * F) (z := (k : Int) + 1) q o2 (by omega) (by omega) (fun g2 => by
      obtain ⟨k6, -, r0, r9⟩ := gk g2
      obtain ⟨x1, x2, x3, x4⟩ := len_hx hF
      refine ⟨⟨x1, x2⟩, x3, ?_, ⟨by omega, by omega⟩, fun _ => by omega⟩
      rw [← x4]
      exact u2 _ hF rfl)
    replace h := XA_keep h G2 (fun c i hc => o2 c i (by omega))
    refine V_iinc (v := Int32.ofInt ((k : Int))) mi_136_127 (by simp [stL, lv_args, Value.category]) ?_
    rw [ia2]
    refine V_goto mi_136_130 ?_
    refine V_sub (lv' := [(0, .ref (ad 1)), (1, .ref (ad 16)), (2, .int (Int32.ofInt (F : Int))), (3, .int (Int32.ofInt ((k + 1 : Nat) : Int)))]) (fun q hq => ?_) ?_
    · simp only [List.mem_cons, List.not_mem_nil, or_false] at hq
      rcases hq with rfl | rfl | rfl | rfl <;> simp [stL, lv_args, Value.category]
    have hx : XB ad tys n B (namN B n sy k s) w2 := XB_num h
    have ex : xWr B n sy F (f + 1) k s g = namW B n sy F (f + 1) k s g := by
      unfold xWr
      rw [if_neg hn]
    rw [ex]
    unfold namW
    by_cases hf : (namN B n sy k s).2.1 = 0
    · rw [if_pos hf]
      obtain ⟨k6, e, -, -⟩ := gk (numT_2ok hf)
      have er : numR 0 (sy - 1) s = namR sy k s := by unfold namR; rw [e]
      rw [er, xk_step hF k6] at q
      have ew : (if (namN B n sy k s).1.1 = 3 then (namN B n sy k s, k + 1, updI g (7 + 7 * F + k) (namR sy k s)) else namW B n sy F f (k + 1) (namN B n sy k s) (updI g (7 + 7 * F + k) (namR sy k s))) = xWr B n sy F f (k + 1) (namN B n sy k s) (updI g (7 + 7 * F + k) (namR sy k s)) := by
        unfold xWr
        by_cases e3 : (namN B n sy k s).1.1 = 3
        · rw [if_pos e3, if_pos ⟨by omega, e3⟩]
        · rw [if_neg e3, if_neg (fun q => e3 q.2)]
      rw [ew]
      exact kk (k + 1) (namN B n sy k s) (updI g (7 + 7 * F + k) (namR sy k s)) w2 (by omega) (by omega) (by show (if 0 = 7 + 7 * F + k then _ else g 0) = _; rw [if_neg (by omega)]; exact g00) hf hx (XR_of q XMK_rf (fun g => numT_2ok g))
    · rw [if_neg hf]
      exact rnl_bad (by omega) hf hx (XR_of q XMK_rf (fun g => numT_2ok g))
  refine V_iload (v := Int32.ofInt ((k : Int))) mi_136_90 (by simp [stL, lv_args, Value.category]) ?_
  refine V_ipush mi_136_91 ?_
  refine V_cne mi_136_93 ⟨by omega, by omega⟩ ⟨by omega, by omega⟩ (fun q6 => ?_) (fun q6 => ?_)
  · have e : nam1 sy k s = s := nam1_k (fun e => q6 (by omega))
    exact tail _ (by rw [e]; exact h2) (by rw [e]; exact XR_to q O h2 (fun g => (num2_ok g).1))
  · refine V_aload (v := ad 1) mi_136_96 (by simp [stL, lv_args, Value.category]) ?_
    refine V_ipush mi_136_97 ?_
    refine V_cO (As := [.int (Int32.ofInt (3))]) (st := []) mi_136_98 (by omega) (by decide +kernel) (by decide +kernel) (by omega) g1o h2.1 (failx_ct h2 O (by omega) (by omega)) (by omega) (show 1 = mN 146 by decide +kernel) (by simp [Value.category]) ?_
    rintro r w1 ⟨rfl, h3, O3⟩
    have e6 : k = 6 := by omega
    subst e6
    have e := n6_eq (y := sy) (s := s) (fun g2 k2 => XA_pos h g2 k2)
    rw [e] at h3
    exact tail _ h3 (XR_to q O3 h3 (fun g => nam1_ok (num2_ok g).1))
theorem rn_41 {n F : Nat} {B td : Nat → Int} {w0 : va_W} {y : Int} (hF : F < 6) : ∀ (f k : Nat) (s : TS) (g : Nat → Int) (w : va_W), k ≤ 6 → k + f = 7 → g 0 = y → s.2.1 = 0 → XB ad tys n B s w → XR (xk F g k) td w0 s w → V l D tys A 136 3 0 0 (fun r w => r = none ∧ XA ad tys n B (xWr B n y F f k s g).1 w ∧ XR (namZ F (xWr B n y F f k s g)) td w0 (xWr B n y F f k s g).1 w) 0 0 41 [(0, .ref (ad 1)), (1, .ref (ad 16)), (2, .int (Int32.ofInt (F : Int))), (3, .int (Int32.ofInt (k : Int)))] [] w
  | 0, k, s, g, w, hk, hf7, _, _, _, _ => by omega
  | f0 + 1, k, s, g, w, hk, hf7, g0, hs, h, q => by
    obtain ⟨G, T, ok, F0, K0, S0, E0, N0, W0, t0⟩ := id h
    refine V_iload (v := Int32.ofInt ((k : Int))) mi_136_41 (by simp [stL, lv_args, Value.category]) ?_
    refine V_ipush mi_136_42 ?_
    refine V_cgt mi_136_44 ⟨by omega, by omega⟩ ⟨by omega, by omega⟩ (fun q1 => ?_) (fun q1 => ?_)
    · exact absurd q1 (by omega)
    · refine V_aload (v := ad 1) mi_136_47 (by simp [stL, lv_args, Value.category]) ?_
      refine V_gO mi_136_48 g1o h.1 (F0.1) ?_
      refine V_zne mi_136_51 ⟨by omega, by omega⟩ (fun q2 => ?_) (fun q2 => ?_)
      · exact absurd hs q2
      · refine V_aload (v := ad 1) mi_136_54 (by simp [stL, lv_args, Value.category]) ?_
        refine V_gR mi_136_55 g1r (by omega) h.1 ?_
        refine V_cO (As := []) (st := []) mi_136_58 (by omega) (by decide +kernel) (by decide +kernel) (by omega) g2o h.1 (advx_ct h XMK_rf) (by omega) (show 0 = mN 188 by decide +kernel) (by simp [Value.category]) ?_
        rintro r w ⟨rfl, h, O⟩
        replace q := XR_to q O h (fun g => g)
        refine V_iload (v := Int32.ofInt ((k : Int))) mi_136_61 (by simp [stL, lv_args, Value.category]) ?_
        refine V_zle mi_136_62 ⟨by omega, by omega⟩ (fun q3 => ?_) (fun q3 => ?_)
        · exact rn_77 hF hk hf7 (xk_0.trans g0) g0 hs (fun e => by omega) (fun k s g w a b c d e f => rn_41 hF f0 k s g w a b c d e f) h q
        · refine V_aload (v := ad 1) mi_136_65 (by simp [stL, lv_args, Value.category]) ?_
          refine V_gR mi_136_66 g1r (by omega) h.1 ?_
          obtain ⟨G1, T1, ok1, F1, K, S, E, N, ⟨⟨w2, w3, w4, w5⟩, wk, we, wn⟩, t⟩ := id h
          have K3 : K = s.1.1 := (t hs).1
          refine V_gO mi_136_69 g2o h.1 (w2) ?_
          refine V_ipush mi_136_72 ?_
          refine V_cne mi_136_73 ⟨by omega, by omega⟩ ⟨by omega, by omega⟩ (fun q4 => ?_) (fun q4 => ?_)
          · exact rn_77 hF hk hf7 (xk_0.trans g0) g0 hs (fun e => q4 (by rw [K3]; exact e.2)) (fun k s g w a b c d e f => rn_41 hF f0 k s g w a b c d e f) h q
          · have ex : xWr B n y F (f0 + 1) k s g = (s, k, g) := by
              unfold xWr
              rw [if_pos ⟨by omega, by rw [← K3]; exact q4⟩]
            rw [ex]
            refine V_retV mi_136_76 ⟨rfl, h, ?_⟩
            have ez : namZ F (s, k, g) = xk F g k := by
              rw [xk_end hF (by omega)]
              unfold namZ
              rw [if_pos hs]
            rw [ez]
            exact q
theorem rnf_ct {n : Nat} {B fr td : Nat → Int} {s : TS} {w0 : va_W} (g : s.2.1 = 0) (e3 : fr 3 = 6) (h : XA ad tys n B s ws) (q : XR fr td w0 s ws) : CT l D tys A 136 3 0 0 [.ref (ad 1), .ref (ad 16)] ws (fun r w => r = none ∧ XA ad tys n B (errS 3 s) w ∧ XR fr td w0 (errS 3 s) w) := by
  obtain ⟨k, hk, k0, k6⟩ := celO h.1 g16f4 (by omega)
  have kf : k = fr 3 := (XR_at (j := 3) q hk ⟨by omega, by omega⟩ g (by omega) (by omega) rfl rfl).1
  refine CT_of_V (by omega) (show (2 : Nat) ≤ mML 136 by decide +kernel) ?_
  refine V_aload (v := ad 16) mi_136_0 (by simp [stL, lv_args, Value.category]) ?_
  refine V_gO mi_136_1 g16o h.1 (hk) ?_
  refine V_ipush mi_136_4 ?_
  refine V_clt mi_136_6 ⟨by omega, by omega⟩ ⟨by omega, by omega⟩ (fun q2 => ?_) (fun q2 => ?_)
  · exact absurd q2 (by have := kf; omega)
  · refine V_aload (v := ad 1) mi_136_9 (by simp [stL, lv_args, Value.category]) ?_
    refine V_ipush mi_136_10 ?_
    refine V_cO (As := [.int (Int32.ofInt (3))]) (st := []) mi_136_11 (by omega) (by decide +kernel) (by decide +kernel) (by omega) g1o h.1 (failx_ct h XMK_rf (by omega) (by omega)) (by omega) (show 1 = mN 146 by decide +kernel) (by simp [Value.category]) ?_
    rintro r w ⟨rfl, h, O⟩
    exact V_retV mi_136_14 ⟨rfl, h, XR_bad (XR_of (s2 := s) q O (fun g => g)) (err_ok (by decide))⟩
theorem rnx_ct {n : Nat} {B fr td : Nat → Int} {s : TS} {w0 : va_W} {F : Nat} (hF : F < 6) (g : s.2.1 = 0) (e3 : fr 3 = (F : Int)) (h : XA ad tys n B s ws) (q : XR fr td w0 s ws) : CT l D tys A 136 3 0 0 [.ref (ad 1), .ref (ad 16)] ws (fun r w => r = none ∧ XA ad tys n B (namW B n (fr 0) F 7 0 (advS B n s) fr).1 w ∧ XR (namZ F (namW B n (fr 0) F 7 0 (advS B n s) fr)) td w0 (namW B n (fr 0) F 7 0 (advS B n s) fr).1 w) := by
  obtain ⟨k, hk, k0, k6⟩ := celO h.1 g16f4 (by omega)
  have kf : k = fr 3 := (XR_at (j := 3) q hk ⟨by omega, by omega⟩ g (by omega) (by omega) rfl rfl).1
  rw [kf, e3] at hk
  refine CT_of_V (by omega) (show (2 : Nat) ≤ mML 136 by decide +kernel) ?_
  refine V_aload (v := ad 16) mi_136_0 (by simp [stL, lv_args, Value.category]) ?_
  refine V_gO mi_136_1 g16o h.1 (hk) ?_
  refine V_ipush mi_136_4 ?_
  refine V_clt mi_136_6 ⟨by omega, by omega⟩ ⟨by omega, by omega⟩ (fun q2 => ?_) (fun q2 => ?_)
  · refine V_aload (v := ad 16) mi_136_15 (by simp [stL, lv_args, Value.category]) ?_
    refine V_gO mi_136_16 g16o h.1 (hk) ?_
    refine V_istore mi_136_19 ?_
    refine V_aload (v := ad 16) mi_136_20 (by simp [stL, lv_args, Value.category]) ?_
    refine V_dup mi_136_21 (by simp [Value.category]) ?_
    refine V_gO mi_136_22 g16o h.1 (hk) ?_
    refine V_ipush mi_136_25 ?_
    refine V_ibin mi_136_26 (by omega) ?_
    rw [ib0]
    refine V_pO mi_136_27 g16f4 (by omega) (by decide +kernel) (by decide +kernel) h.1 (by rw [Int32.toInt_ofInt_of_le (by omega) (by omega)]; omega) (by rw [Int32.toInt_ofInt_of_le (by omega) (by omega)]; omega) (fun w' G1 U1 => ?_)
    replace q := XR_put (j := 3) (z := (F : Int) + 1) q (fun c i hc => upd_ne U1 (fun e => hc e.1)) (by omega) (by omega) (fun _ => ⟨⟨by omega, by omega⟩, rfl, U1, ⟨by omega, by omega⟩, fun _ => by omega⟩)
    replace h := XA_keep h G1 (fun c i hc => upd_ne U1 (by omega))
    refine V_aload (v := ad 16) mi_136_30 (by simp [stL, lv_args, Value.category]) ?_
    refine V_gR mi_136_31 g16r8 (by omega) h.1 ?_
    refine V_iload (v := Int32.ofInt ((F : Int))) mi_136_34 (by simp [stL, lv_args, Value.category]) ?_
    refine V_ipush mi_136_35 ?_
    refine V_stat (As := [.ref (ad 19), .int (Int32.ofInt ((F : Int))), .int (Int32.ofInt (1))]) (st := []) mi_136_36 (by omega) (putx_ct a19 h.1 (by omega) (i32b _).1 (i32b _).2) (by omega) (show 3 = mN 148 by decide +kernel) (by simp [Value.category]) ⟨Nat.le_refl _, Nat.le_refl _⟩ ?_
    rintro r w1 ⟨rfl, G2, o2, u2⟩
    replace q := XR_put (j := 48 + F) (z := 1) q o2 (by omega) (by omega) (fun g2 => by
      have hx := st_hx (F := F) hF
      refine ⟨hx.1, hx.2.1, ?_, ⟨by omega, by omega⟩, fun _ => by omega⟩
      rw [← hx.2.2]
      exact u2 _ hF rfl)
    replace h := XA_keep h G2 (fun c i hc => o2 c i (by omega))
    refine V_ipush mi_136_39 ?_
    refine V_istore mi_136_40 ?_
    refine V_sub (lv' := [(0, .ref (ad 1)), (1, .ref (ad 16)), (2, .int (Int32.ofInt (F : Int))), (3, .int (Int32.ofInt ((0 : Nat) : Int)))]) (fun q hq => ?_) ?_
    · simp only [List.mem_cons, List.not_mem_nil, or_false] at hq
      rcases hq with rfl | rfl | rfl | rfl <;> simp [stL, lv_args, Value.category]
    refine V_post (fun r w hp => ?_) (rn_41 (y := fr 0) (n := n) (B := B) hF 7 0 (advS B n s) fr w1 (by omega) (by omega) rfl g (XB_adv h) (XR_of q XMK_rf (fun g => g)))
    have ex : xWr B n (fr 0) F 7 0 (advS B n s) fr = namW B n (fr 0) F 7 0 (advS B n s) fr := by
      unfold xWr
      rw [if_neg (fun e => by omega)]
    rw [ex] at hp
    exact hp
  · exact absurd q2 (by omega)
end XRL
