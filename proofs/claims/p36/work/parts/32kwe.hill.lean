section XSQ
variable {l : Launch} {D : va_G} {tys : List (ClassId × FieldType)} {A : Nat → Prop} {ad : Nat → Nat} {ws : va_W}
theorem foX2_ct {G : Nat → Int} (hG : GOK ad tys GG ws) (hX : HX 4 G ws) (hB : HB G) (hS : STO G ws) {f : Int} (fI : I32 f) : CT l D tys A 18 5 0 0 [.ref (ad 0), .int (Int32.ofInt (f))] ws (fun r w => w = ws ∧ r = some (.int (if 0 ≤ f ∧ f < G 3 then Int32.ofInt (ffS G f.toNat (G 3).toNat 0 (-1) 25) else Int32.ofInt (-2)))) := by
  refine CT_of_V (by omega) (show (2 : Nat) ≤ mML 18 by decide +kernel) ?_
  have b3 := hB.b3
  have b2 := hB.b2
  refine V_aload (v := ad 0) mi_18_0 (by simp [stL, lv_args, Value.category]) ?_
  refine V_gR mi_18_1 g0r2 (by omega) hG ?_
  refine V_iload (v := Int32.ofInt (f)) mi_18_4 (by simp [stL, lv_args, Value.category]) ?_
  refine V_cO (As := [.int (Int32.ofInt (f))]) (st := []) mi_18_5 (by omega) (by decide +kernel) (by decide +kernel) (by omega) g4o hG (hfk_ct hG hX hB fI) (by omega) (show 1 = mN 102 by decide +kernel) (by simp [Value.category]) ?_
  rintro r w1 ⟨rfl, rfl⟩
  refine V_beq mi_18_8  (fun c1 => ?_) (fun c1 => ?_)
  · refine V_ipush mi_18_26 ?_
    exact V_retI mi_18_28 (fun h => absurd h (by decide +kernel)) ⟨rfl, by rw [if_neg (of_decide_eq_false c1)]⟩
  · have k1 := of_decide_eq_true c1
    obtain ⟨m, rfl⟩ := Int.eq_ofNat_of_zero_le k1.1
    refine V_aload (v := ad 0) mi_18_11 (by simp [stL, lv_args, Value.category]) ?_
    refine V_gR mi_18_12 g0r5 (by omega) hG ?_
    refine V_aload (v := ad 0) mi_18_15 (by simp [stL, lv_args, Value.category]) ?_
    refine V_gR mi_18_16 g0r2 (by omega) hG ?_
    refine V_iload (v := Int32.ofInt ((m : Int))) mi_18_19 (by simp [stL, lv_args, Value.category]) ?_
    refine V_cO (As := [.ref (ad 4), .int (Int32.ofInt ((m : Int)))]) (st := []) mi_18_20 (by omega) (by decide +kernel) (by decide +kernel) (by omega) g32o hG (ffX_ct (f := m) hG hX hB hS (by omega)) (by omega) (show 2 = mN 180 by decide +kernel) (by simp [Value.category]) ?_
    rintro r w2 ⟨rfl, rfl⟩
    refine V_goto mi_18_23 ?_
    exact V_retI mi_18_28 (fun h => absurd h (by decide +kernel)) ⟨rfl, by rw [if_pos k1, Int.toNat_natCast]⟩
theorem foM2_ct {G : Nat → Int} (hG : GOK ad tys GG ws) (hW : W91 G ws) (hB : HB G) (wf : WF G) (h24 : rd ws 90 24 = some (.int (Int32.ofInt 0))) (h22 : rd ws 90 22 = some (.int (Int32.ofInt (-1)))) {f : Int} (fI : I32 f) : CT l D tys A 259 9 0 0 [.ref (ad 90), .int (Int32.ofInt (f))] ws (fun r w => (GOK ad tys GG w ∧ MTO ws w) ∧ r = some (.int (if 0 ≤ f ∧ f < G 3 then Int32.ofInt (ffS G f.toNat (G 3).toNat 0 (-1) 25) else Int32.ofInt (-2)))) := by
  refine CT_of_V (by omega) (show (2 : Nat) ≤ mML 259 by decide +kernel) ?_
  have b3 := hB.b3
  have b2 := hB.b2
  refine V_aload (v := ad 90) mi_259_0 (by simp [stL, lv_args, Value.category]) ?_
  refine V_iload (v := Int32.ofInt (f)) mi_259_1 (by simp [stL, lv_args, Value.category]) ?_
  refine V_callM (As := [.int (Int32.ofInt (f))]) (st := []) mi_259_2 (by omega) (by decide +kernel) (by decide +kernel) hG (mfk_ct hG hW hB fI) (by omega) (show 1 = mN 199 by decide +kernel) (by simp [Value.category]) ?_
  rintro r w1 ⟨rfl, rfl⟩
  refine V_bne mi_259_5  (fun c1 => ?_) (fun c1 => ?_)
  · have k1 := of_decide_eq_true c1
    obtain ⟨m, rfl⟩ := Int.eq_ofNat_of_zero_le k1.1
    refine V_aload (v := ad 90) mi_259_11 (by simp [stL, lv_args, Value.category]) ?_
    refine V_callM (As := []) (st := []) mi_259_12 (by omega) (by decide +kernel) (by decide +kernel) hG (gt_ct hB wf hG hW h24 h22) (by omega) (show 0 = mN 238 by decide +kernel) (by simp [Value.category]) ?_
    rintro r w4 ⟨rfl, T⟩
    refine V_aload (v := ad 90) mi_259_15 (by simp [stL, lv_args, Value.category]) ?_
    refine V_iload (v := Int32.ofInt ((m : Int))) mi_259_16 (by simp [stL, lv_args, Value.category]) ?_
    refine V_callM (As := [.int (Int32.ofInt ((m : Int)))]) (st := []) mi_259_17 (by omega) (by decide +kernel) (by decide +kernel) T.1 (ffM_ct (f := m) T (mt_w T hW) hB (by omega)) (by omega) (show 1 = mN 257 by decide +kernel) (by simp [Value.category]) ?_
    rintro r w5 ⟨rfl, rfl⟩
    exact V_retI mi_259_20 (fun h => absurd h (by decide +kernel)) ⟨⟨T.1, T.2.2.2⟩, by rw [if_pos k1, Int.toNat_natCast]⟩
  · refine V_ipush mi_259_8 ?_
    exact V_retI mi_259_10 (fun h => absurd h (by decide +kernel)) ⟨⟨hG, fun _ _ _ _ => rfl⟩, by rw [if_neg (of_decide_eq_false c1)]⟩
theorem pairT_foe (hAD : ∀ i : Nat, ad (1000 + i) = D.2 1000 i) (hG : GOK ad tys GG ws) (hR : RELW ws) (a1 : Int32) : PAIRT l D tys A ad 18 259 [.ref (ad 0), .int a1] [.ref (ad 90), .int a1] ws := by
  obtain ⟨G0, o0, x0, y0⟩ := hR.1.2.1
  obtain ⟨G, o, x, y, hb, wf, hS⟩ := aux_sto hR.2 x0 y0 o0 (hb_of hG y0 o0)
  have c1 := foX2_ct (l := l) (D := D) (A := A) hG x hb hS (i32b a1)
  have c2 := foM2_ct (l := l) (D := D) (A := A) hG y hb wf hR.2.2.2.2.2 hR.2.2.2.2.1 (i32b a1)
  simp only [oi] at c1 c2
  exact pairT_st hG hR (by omega) (by omega) c1 c2
theorem daX_ct {G : Nat → Int} (hG : GOK ad tys GG ws) (hX : HX 4 G ws) (hB : HB G) (hS : STO G ws) {f : Int} (fI : I32 f) : CT l D tys A 17 6 0 0 [.ref (ad 0), .int (Int32.ofInt (f))] ws (fun r w => w = ws ∧ r = some (.int (if 0 ≤ f ∧ f < G 3 then Int32.ofInt (if ffS G f.toNat (G 3).toNat 0 (-1) 25 < 0 then -1 else tmI (fwA G (ffS G f.toNat (G 3).toNat 0 (-1) 25).toNat f.toNat)) else Int32.ofInt (-2)))) := by
  refine CT_of_V (by omega) (show (2 : Nat) ≤ mML 17 by decide +kernel) ?_
  have b3 := hB.b3
  have b2 := hB.b2
  refine V_aload (v := ad 0) mi_17_0 (by simp [stL, lv_args, Value.category]) ?_
  refine V_gR mi_17_1 g0r2 (by omega) hG ?_
  refine V_iload (v := Int32.ofInt (f)) mi_17_4 (by simp [stL, lv_args, Value.category]) ?_
  refine V_cO (As := [.int (Int32.ofInt (f))]) (st := []) mi_17_5 (by omega) (by decide +kernel) (by decide +kernel) (by omega) g4o hG (hfk_ct hG hX hB fI) (by omega) (show 1 = mN 102 by decide +kernel) (by simp [Value.category]) ?_
  rintro r w1 ⟨rfl, rfl⟩
  refine V_bne mi_17_8  (fun c1 => ?_) (fun c1 => ?_)
  · have k1 := of_decide_eq_true c1
    obtain ⟨m, rfl⟩ := Int.eq_ofNat_of_zero_le k1.1
    have fb := ffS_bd (G := G) (f := m) (G 3).toNat 0 (-1) 25 (by omega) ⟨by omega, by omega⟩
    have fl := ffS_lt (G := G) (f := m) (G 3).toNat 0 (-1) 25 (Or.inl rfl)
    rw [if_pos k1, Int.toNat_natCast]
    refine V_aload (v := ad 0) mi_17_14 (by simp [stL, lv_args, Value.category]) ?_
    refine V_gR mi_17_15 g0r5 (by omega) hG ?_
    refine V_aload (v := ad 0) mi_17_18 (by simp [stL, lv_args, Value.category]) ?_
    refine V_gR mi_17_19 g0r2 (by omega) hG ?_
    refine V_iload (v := Int32.ofInt ((m : Int))) mi_17_22 (by simp [stL, lv_args, Value.category]) ?_
    refine V_cO (As := [.ref (ad 4), .int (Int32.ofInt ((m : Int)))]) (st := []) mi_17_23 (by omega) (by decide +kernel) (by decide +kernel) (by omega) g32o hG (ffX_ct (f := m) hG hX hB hS (by omega)) (by omega) (show 2 = mN 180 by decide +kernel) (by simp [Value.category]) ?_
    rintro r w2 ⟨rfl, rfl⟩
    generalize hz : ffS G m (G 3).toNat 0 (-1) 25 = z at *
    refine V_istore mi_17_26 ?_
    refine V_iload (v := Int32.ofInt (z)) mi_17_27 (by simp [stL, lv_args, Value.category]) ?_
    refine V_zge mi_17_28 ⟨by omega, by omega⟩ (fun q => ?_) (fun q => ?_)
    · obtain ⟨n, rfl⟩ := Int.eq_ofNat_of_zero_le q
      have fa := fwA_bd hB (p := n) (f := m)
      refine V_aload (v := ad 0) mi_17_35 (by simp [stL, lv_args, Value.category]) ?_
      refine V_gR mi_17_36 g0r5 (by omega) hG ?_
      refine V_aload (v := ad 0) mi_17_39 (by simp [stL, lv_args, Value.category]) ?_
      refine V_gR mi_17_40 g0r2 (by omega) hG ?_
      refine V_iload (v := Int32.ofInt ((n : Int))) mi_17_43 (by simp [stL, lv_args, Value.category]) ?_
      refine V_iload (v := Int32.ofInt ((m : Int))) mi_17_44 (by simp [stL, lv_args, Value.category]) ?_
      refine V_cO (As := [.ref (ad 4), .int (Int32.ofInt ((n : Int))), .int (Int32.ofInt ((m : Int)))]) (st := []) mi_17_45 (by omega) (by decide +kernel) (by decide +kernel) (by omega) g32o hG (fwh_ct (f := n) (o := m) hG hX hB hS (by omega) (by omega)) (by omega) (show 3 = mN 178 by decide +kernel) (by simp [Value.category]) ?_
      rintro r w3 ⟨rfl, rfl⟩
      refine V_stat (As := [.int (Int32.ofInt (fwA G n m))]) (st := []) mi_17_48 (by omega) (tmo_ct (x := fwA G n m) ⟨by omega, by omega⟩) (by omega) (show 1 = mN 75 by decide +kernel) (by simp [Value.category]) ⟨Nat.le_refl _, Nat.le_refl _⟩ ?_
      rintro r w4 ⟨rfl, rfl⟩
      exact V_retI mi_17_51 (fun h => absurd h (by decide +kernel)) ⟨rfl, by rw [if_neg (by omega), Int.toNat_natCast]⟩
    · refine V_ipush mi_17_31 ?_
      refine V_goto mi_17_32 ?_
      exact V_retI mi_17_51 (fun h => absurd h (by decide +kernel)) ⟨rfl, by rw [if_pos q]⟩
  · refine V_ipush mi_17_11 ?_
    exact V_retI mi_17_13 (fun h => absurd h (by decide +kernel)) ⟨rfl, by rw [if_neg (of_decide_eq_false c1)]⟩
theorem daM_ct {G : Nat → Int} (hG : GOK ad tys GG ws) (hW : W91 G ws) (hB : HB G) (wf : WF G) (h24 : rd ws 90 24 = some (.int (Int32.ofInt 0))) (h22 : rd ws 90 22 = some (.int (Int32.ofInt (-1)))) {f : Int} (fI : I32 f) : CT l D tys A 258 9 0 0 [.ref (ad 90), .int (Int32.ofInt (f))] ws (fun r w => (GOK ad tys GG w ∧ MTO ws w) ∧ r = some (.int (if 0 ≤ f ∧ f < G 3 then Int32.ofInt (if ffS G f.toNat (G 3).toNat 0 (-1) 25 < 0 then -1 else tmI (fwA G (ffS G f.toNat (G 3).toNat 0 (-1) 25).toNat f.toNat)) else Int32.ofInt (-2)))) := by
  refine CT_of_V (by omega) (show (2 : Nat) ≤ mML 258 by decide +kernel) ?_
  have b3 := hB.b3
  have b2 := hB.b2
  refine V_aload (v := ad 90) mi_258_0 (by simp [stL, lv_args, Value.category]) ?_
  refine V_iload (v := Int32.ofInt (f)) mi_258_1 (by simp [stL, lv_args, Value.category]) ?_
  refine V_callM (As := [.int (Int32.ofInt (f))]) (st := []) mi_258_2 (by omega) (by decide +kernel) (by decide +kernel) hG (mfk_ct hG hW hB fI) (by omega) (show 1 = mN 199 by decide +kernel) (by simp [Value.category]) ?_
  rintro r w1 ⟨rfl, rfl⟩
  refine V_bne mi_258_5  (fun c1 => ?_) (fun c1 => ?_)
  · have k1 := of_decide_eq_true c1
    obtain ⟨m, rfl⟩ := Int.eq_ofNat_of_zero_le k1.1
    have fb := ffS_bd (G := G) (f := m) (G 3).toNat 0 (-1) 25 (by omega) ⟨by omega, by omega⟩
    have fl := ffS_lt (G := G) (f := m) (G 3).toNat 0 (-1) 25 (Or.inl rfl)
    rw [if_pos k1, Int.toNat_natCast]
    refine V_aload (v := ad 90) mi_258_11 (by simp [stL, lv_args, Value.category]) ?_
    refine V_callM (As := []) (st := []) mi_258_12 (by omega) (by decide +kernel) (by decide +kernel) hG (gt_ct hB wf hG hW h24 h22) (by omega) (show 0 = mN 238 by decide +kernel) (by simp [Value.category]) ?_
    rintro r w4 ⟨rfl, T⟩
    refine V_aload (v := ad 90) mi_258_15 (by simp [stL, lv_args, Value.category]) ?_
    refine V_iload (v := Int32.ofInt ((m : Int))) mi_258_16 (by simp [stL, lv_args, Value.category]) ?_
    refine V_callM (As := [.int (Int32.ofInt ((m : Int)))]) (st := []) mi_258_17 (by omega) (by decide +kernel) (by decide +kernel) T.1 (ffM_ct (f := m) T (mt_w T hW) hB (by omega)) (by omega) (show 1 = mN 257 by decide +kernel) (by simp [Value.category]) ?_
    rintro r w5 ⟨rfl, rfl⟩
    generalize hz : ffS G m (G 3).toNat 0 (-1) 25 = z at *
    refine V_istore mi_258_20 ?_
    refine V_iload (v := Int32.ofInt (z)) mi_258_21 (by simp [stL, lv_args, Value.category]) ?_
    refine V_ipush mi_258_22 ?_
    refine V_cne mi_258_23 ⟨by omega, by omega⟩ ⟨by omega, by omega⟩ (fun q => ?_) (fun q => ?_)
    · obtain ⟨n, rfl⟩ := Int.eq_ofNat_of_zero_le (show 0 ≤ z by omega)
      refine V_aload (v := ad 90) mi_258_30 (by simp [stL, lv_args, Value.category]) ?_
      refine V_iload (v := Int32.ofInt ((n : Int))) mi_258_31 (by simp [stL, lv_args, Value.category]) ?_
      refine V_iload (v := Int32.ofInt ((m : Int))) mi_258_32 (by simp [stL, lv_args, Value.category]) ?_
      refine V_callM (As := [.int (Int32.ofInt ((n : Int))), .int (Int32.ofInt ((m : Int)))]) (st := []) mi_258_33 (by omega) (by decide +kernel) (by decide +kernel) T.1 (wha_ct (f := n) (o := m) T (mt_w T hW) hB (by omega) (by omega)) (by omega) (show 2 = mN 253 by decide +kernel) (by simp [Value.category]) ?_
      rintro r w6 ⟨rfl, rfl⟩
      exact V_retI mi_258_36 (fun h => absurd h (by decide +kernel)) ⟨⟨T.1, T.2.2.2⟩, by rw [if_neg (by omega), Int.toNat_natCast]; rfl⟩
    · refine V_ipush mi_258_26 ?_
      refine V_goto mi_258_27 ?_
      exact V_retI mi_258_36 (fun h => absurd h (by decide +kernel)) ⟨⟨T.1, T.2.2.2⟩, by rw [if_pos (by omega)]⟩
  · refine V_ipush mi_258_8 ?_
    exact V_retI mi_258_10 (fun h => absurd h (by decide +kernel)) ⟨⟨hG, fun _ _ _ _ => rfl⟩, by rw [if_neg (of_decide_eq_false c1)]⟩
theorem pairT_danger (hAD : ∀ i : Nat, ad (1000 + i) = D.2 1000 i) (hG : GOK ad tys GG ws) (hR : RELW ws) (a1 : Int32) : PAIRT l D tys A ad 17 258 [.ref (ad 0), .int a1] [.ref (ad 90), .int a1] ws := by
  obtain ⟨G0, o0, x0, y0⟩ := hR.1.2.1
  obtain ⟨G, o, x, y, hb, wf, hS⟩ := aux_sto hR.2 x0 y0 o0 (hb_of hG y0 o0)
  have c1 := daX_ct (l := l) (D := D) (A := A) hG x hb hS (i32b a1)
  have c2 := daM_ct (l := l) (D := D) (A := A) hG y hb wf hR.2.2.2.2.2 hR.2.2.2.2.1 (i32b a1)
  simp only [oi] at c1 c2
  exact pairT_st hG hR (by omega) (by omega) c1 c2
def seP (G : Nat → Int) (h p : Nat) : Bool := decide (orI (knP G (h + 1) p) (G 3).toNat = 0)
theorem se_18 {G : Nat → Int} (hG : GOK ad tys GG ws) (hX : HX 4 G ws) (hB : HB G) (hS : STO G ws) {h : Nat} {post : Option Value → va_W → Prop} (hh : (h : Int) < G 2) : ∀ (m p : Nat), ((p + m : Nat) : Int) = G 3 → post (some (.int (Int32.ofInt (orI (seP G h) (G 3).toNat)))) ws → V l D tys A 19 4 0 0 post 0 0 18 [(0, .ref (ad 0)), (1, .int (Int32.ofInt ((h : Int)))), (2, .int (Int32.ofInt (orI (seP G h) p))), (3, .int (Int32.ofInt ((p : Int))))] [] ws
  | 0, p, hm, kk => by
    have b3 := hB.b3
    have b2 := hB.b2
    refine V_iload (v := Int32.ofInt ((p : Int))) mi_19_18 (by simp [stL, lv_args, Value.category]) ?_
    refine V_aload (v := ad 0) mi_19_19 (by simp [stL, lv_args, Value.category]) ?_
    refine V_gR mi_19_20 g0r2 (by omega) hG ?_
    refine V_gO mi_19_23 g4o hG (show rd _ 4 4 = some (.int (Int32.ofInt (G 3))) from hx0 hX (i := 4) (by omega)) ?_
    refine V_cge mi_19_26 ⟨by omega, by omega⟩ ⟨by omega, by omega⟩ (fun q => ?_) (fun q => ?_)
    · have e : p = (G 3).toNat := by omega
      rw [← e] at kk
      refine V_iload (v := Int32.ofInt (orI (seP G h) p)) mi_19_59 (by simp [stL, lv_args, Value.category]) ?_
      exact V_retI mi_19_60 (fun h => absurd h (by decide +kernel)) kk
    · exact absurd q (by omega)
  | m + 1, p, hm, kk => by
    have b3 := hB.b3
    have b2 := hB.b2
    refine V_iload (v := Int32.ofInt ((p : Int))) mi_19_18 (by simp [stL, lv_args, Value.category]) ?_
    refine V_aload (v := ad 0) mi_19_19 (by simp [stL, lv_args, Value.category]) ?_
    refine V_gR mi_19_20 g0r2 (by omega) hG ?_
    refine V_gO mi_19_23 g4o hG (show rd _ 4 4 = some (.int (Int32.ofInt (G 3))) from hx0 hX (i := 4) (by omega)) ?_
    refine V_cge mi_19_26 ⟨by omega, by omega⟩ ⟨by omega, by omega⟩ (fun q => ?_) (fun q => ?_)
    · exact absurd q (by omega)
    · have ob := orI_bd (P := knP G (h + 1) p) (f := (G 3).toNat) (by omega)
      refine V_aload (v := ad 0) mi_19_29 (by simp [stL, lv_args, Value.category]) ?_
      refine V_gR mi_19_30 g0r5 (by omega) hG ?_
      refine V_aload (v := ad 0) mi_19_33 (by simp [stL, lv_args, Value.category]) ?_
      refine V_gR mi_19_34 g0r2 (by omega) hG ?_
      refine V_iload (v := Int32.ofInt ((p : Int))) mi_19_37 (by simp [stL, lv_args, Value.category]) ?_
      refine V_iload (v := Int32.ofInt ((h : Int))) mi_19_38 (by simp [stL, lv_args, Value.category]) ?_
      refine V_ipush mi_19_39 ?_
      refine V_ibin mi_19_40 (by omega) ?_
      rw [ib0]
      rw [show (h : Int) + (1) = ((h + 1 : Nat) : Int) by omega]
      refine V_cO (As := [.ref (ad 4), .int (Int32.ofInt ((p : Int))), .int (Int32.ofInt (((h + 1 : Nat) : Int)))]) (st := []) mi_19_41 (by omega) (by decide +kernel) (by decide +kernel) (by omega) g32o hG (kno_ct (f := p) (g := h + 1) hG hX hB hS (by omega) (by omega)) (by omega) (show 3 = mN 179 by decide +kernel) (by simp [Value.category]) ?_
      rintro r w1 ⟨e1, rfl⟩
      rw [e1]
      refine V_zne mi_19_44 ⟨by omega, by omega⟩ (fun q2 => ?_) (fun q2 => ?_)
      · rw [← orI_s0 (P := seP G h) (decide_eq_false q2)]
        refine V_iinc (v := Int32.ofInt ((p : Int))) mi_19_53 (by simp [stL, lv_args, Value.category]) ?_
        rw [ia2]
        refine V_goto mi_19_56 ?_
        refine V_sub (lv' := [(0, .ref (ad 0)), (1, .int (Int32.ofInt ((h : Int)))), (2, .int (Int32.ofInt (orI (seP G h) (p + 1)))), (3, .int (Int32.ofInt (((p + 1 : Nat) : Int))))]) (fun q hq => ?_) ?_
        · simp only [List.mem_cons, List.not_mem_nil, or_false] at hq
          rcases hq with rfl | rfl | rfl | rfl <;> simp [stL, lv_args, Value.category]
        exact se_18 hG hX hB hS hh m (p + 1) (by omega) kk
      · refine V_iload (v := Int32.ofInt (orI (seP G h) p)) mi_19_47 (by simp [stL, lv_args, Value.category]) ?_
        refine V_ipush mi_19_48 ?_
        refine V_iload (v := Int32.ofInt ((p : Int))) mi_19_49 (by simp [stL, lv_args, Value.category]) ?_
        refine V_ibin mi_19_50 (by omega) ?_
        refine V_ibin mi_19_51 (by omega) ?_
        rw [bitO_i, ← orI_s1 (P := seP G h) (decide_eq_true q2)]
        refine V_istore mi_19_52 ?_
        refine V_iinc (v := Int32.ofInt ((p : Int))) mi_19_53 (by simp [stL, lv_args, Value.category]) ?_
        rw [ia2]
        refine V_goto mi_19_56 ?_
        refine V_sub (lv' := [(0, .ref (ad 0)), (1, .int (Int32.ofInt ((h : Int)))), (2, .int (Int32.ofInt (orI (seP G h) (p + 1)))), (3, .int (Int32.ofInt (((p + 1 : Nat) : Int))))]) (fun q hq => ?_) ?_
        · simp only [List.mem_cons, List.not_mem_nil, or_false] at hq
          rcases hq with rfl | rfl | rfl | rfl <;> simp [stL, lv_args, Value.category]
        exact se_18 hG hX hB hS hh m (p + 1) (by omega) kk
theorem seX_ct {G : Nat → Int} (hG : GOK ad tys GG ws) (hX : HX 4 G ws) (hB : HB G) (hS : STO G ws) {h : Int} (hI : I32 h) : CT l D tys A 19 4 0 0 [.ref (ad 0), .int (Int32.ofInt (h))] ws (fun r w => w = ws ∧ r = some (.int (if 0 ≤ h ∧ h < G 2 then Int32.ofInt (orI (seP G h.toNat) (G 3).toNat) else Int32.ofInt (-2)))) := by
  refine CT_of_V (by omega) (show (2 : Nat) ≤ mML 19 by decide +kernel) ?_
  have b3 := hB.b3
  have b2 := hB.b2
  refine V_aload (v := ad 0) mi_19_0 (by simp [stL, lv_args, Value.category]) ?_
  refine V_gR mi_19_1 g0r2 (by omega) hG ?_
  refine V_iload (v := Int32.ofInt (h)) mi_19_4 (by simp [stL, lv_args, Value.category]) ?_
  refine V_cO (As := [.int (Int32.ofInt (h))]) (st := []) mi_19_5 (by omega) (by decide +kernel) (by decide +kernel) (by omega) g4o hG (hho_ct hG hX hB hI) (by omega) (show 1 = mN 103 by decide +kernel) (by simp [Value.category]) ?_
  rintro r w1 ⟨rfl, rfl⟩
  refine V_bne mi_19_8  (fun c1 => ?_) (fun c1 => ?_)
  · have k1 := of_decide_eq_true c1
    obtain ⟨k, rfl⟩ := Int.eq_ofNat_of_zero_le k1.1
    refine V_ipush mi_19_14 ?_
    refine V_istore mi_19_15 ?_
    refine V_ipush mi_19_16 ?_
    refine V_istore mi_19_17 ?_
    refine V_sub (lv' := [(0, .ref (ad 0)), (1, .int (Int32.ofInt (k : Int))), (2, .int (Int32.ofInt 0)), (3, .int (Int32.ofInt ((0 : Nat) : Int)))]) (fun q hq => ?_) ?_
    · simp only [List.mem_cons, List.not_mem_nil, or_false] at hq
      rcases hq with rfl | rfl | rfl | rfl <;> simp [stL, lv_args, Value.category]
    exact se_18 hG hX hB hS (h := k) (by omega) (G 3).toNat 0 (by omega) ⟨rfl, by rw [if_pos k1, Int.toNat_natCast]⟩
  · refine V_ipush mi_19_11 ?_
    exact V_retI mi_19_13 (fun h => absurd h (by decide +kernel)) ⟨rfl, by rw [if_neg (of_decide_eq_false c1)]⟩
theorem sm_19 {G : Nat → Int} {w0 : va_W} (hT : MT ad tys G w0 ws) (hW : W91 G ws) (hB : HB G) {h : Nat} {post : Option Value → va_W → Prop} (hh : (h : Int) < G 2) : ∀ (m p : Nat), ((p + m : Nat) : Int) = G 3 → post (some (.int (Int32.ofInt (orI (seP G h) (G 3).toNat)))) ws → V l D tys A 260 9 0 0 post 0 0 19 [(0, .ref (ad 90)), (1, .int (Int32.ofInt ((h : Int)))), (2, .int (Int32.ofInt (orI (seP G h) p))), (3, .int (Int32.ofInt ((p : Int))))] [] ws
  | 0, p, hm, kk => by
    obtain ⟨s91, e91, -⟩ := g91s
    have b3 := hB.b3
    have b2 := hB.b2
    refine V_iload (v := Int32.ofInt ((p : Int))) mi_260_19 (by simp [stL, lv_args, Value.category]) ?_
    refine V_aload (v := ad 90) mi_260_20 (by simp [stL, lv_args, Value.category]) ?_
    refine V_getI mi_260_21 hT.1 (rref gr1m (by omega) hT.1) ?_
    refine V_ipush mi_260_24 ?_
    refine V_aldX (j := 3) mi_260_25 rfl hT.1 e91 (by omega) (by omega) (hW _ (by omega)) ?_
    refine V_cge mi_260_26 ⟨by omega, by omega⟩ ⟨by omega, by omega⟩ (fun q => ?_) (fun q => ?_)
    · have e : p = (G 3).toNat := by omega
      rw [← e] at kk
      refine V_iload (v := Int32.ofInt (orI (seP G h) p)) mi_260_54 (by simp [stL, lv_args, Value.category]) ?_
      exact V_retI mi_260_55 (fun h => absurd h (by decide +kernel)) kk
    · exact absurd q (by omega)
  | m + 1, p, hm, kk => by
    obtain ⟨s91, e91, -⟩ := g91s
    have b3 := hB.b3
    have b2 := hB.b2
    refine V_iload (v := Int32.ofInt ((p : Int))) mi_260_19 (by simp [stL, lv_args, Value.category]) ?_
    refine V_aload (v := ad 90) mi_260_20 (by simp [stL, lv_args, Value.category]) ?_
    refine V_getI mi_260_21 hT.1 (rref gr1m (by omega) hT.1) ?_
    refine V_ipush mi_260_24 ?_
    refine V_aldX (j := 3) mi_260_25 rfl hT.1 e91 (by omega) (by omega) (hW _ (by omega)) ?_
    refine V_cge mi_260_26 ⟨by omega, by omega⟩ ⟨by omega, by omega⟩ (fun q => ?_) (fun q => ?_)
    · exact absurd q (by omega)
    · have ob := orI_bd (P := knP G (h + 1) p) (f := (G 3).toNat) (by omega)
      refine V_iload (v := Int32.ofInt (orI (seP G h) p)) mi_260_29 (by simp [stL, lv_args, Value.category]) ?_
      refine V_aload (v := ad 90) mi_260_30 (by simp [stL, lv_args, Value.category]) ?_
      refine V_iload (v := Int32.ofInt ((p : Int))) mi_260_31 (by simp [stL, lv_args, Value.category]) ?_
      refine V_iload (v := Int32.ofInt ((h : Int))) mi_260_32 (by simp [stL, lv_args, Value.category]) ?_
      refine V_callM (As := [.int (Int32.ofInt ((p : Int))), .int (Int32.ofInt ((h : Int)))]) (st := [.int (Int32.ofInt (orI (seP G h) p))]) mi_260_33 (by omega) (by decide +kernel) (by decide +kernel) hT.1 (bib_ct (f := p) (h := h) hT hW hB (by omega) hh) (by omega) (show 2 = mN 255 by decide +kernel) (by simp [Value.category]) ?_
      rintro r w1 ⟨e1, rfl⟩
      rw [e1]
      refine V_zne mi_260_36 ⟨by omega, by omega⟩ (fun q2 => ?_) (fun q2 => ?_)
      · refine V_ipush mi_260_45 ?_
        refine V_ibin mi_260_46 (by omega) ?_
        rw [or0, ← orI_s0 (P := seP G h) (decide_eq_false q2)]
        refine V_istore mi_260_47 ?_
        refine V_iinc (v := Int32.ofInt ((p : Int))) mi_260_48 (by simp [stL, lv_args, Value.category]) ?_
        rw [ia2]
        refine V_goto mi_260_51 ?_
        refine V_sub (lv' := [(0, .ref (ad 90)), (1, .int (Int32.ofInt ((h : Int)))), (2, .int (Int32.ofInt (orI (seP G h) (p + 1)))), (3, .int (Int32.ofInt (((p + 1 : Nat) : Int))))]) (fun q hq => ?_) ?_
        · simp only [List.mem_cons, List.not_mem_nil, or_false] at hq
          rcases hq with rfl | rfl | rfl | rfl <;> simp [stL, lv_args, Value.category]
        exact sm_19 hT hW hB hh m (p + 1) (by omega) kk
      · refine V_ipush mi_260_39 ?_
        refine V_iload (v := Int32.ofInt ((p : Int))) mi_260_40 (by simp [stL, lv_args, Value.category]) ?_
        refine V_ibin mi_260_41 (by omega) ?_
        refine V_goto mi_260_42 ?_
        refine V_ibin mi_260_46 (by omega) ?_
        rw [bitO_i, ← orI_s1 (P := seP G h) (decide_eq_true q2)]
        refine V_istore mi_260_47 ?_
        refine V_iinc (v := Int32.ofInt ((p : Int))) mi_260_48 (by simp [stL, lv_args, Value.category]) ?_
        rw [ia2]
        refine V_goto mi_260_51 ?_
        refine V_sub (lv' := [(0, .ref (ad 90)), (1, .int (Int32.ofInt ((h : Int)))), (2, .int (Int32.ofInt (orI (seP G h) (p + 1)))), (3, .int (Int32.ofInt (((p + 1 : Nat) : Int))))]) (fun q hq => ?_) ?_
        · simp only [List.mem_cons, List.not_mem_nil, or_false] at hq
          rcases hq with rfl | rfl | rfl | rfl <;> simp [stL, lv_args, Value.category]
        exact sm_19 hT hW hB hh m (p + 1) (by omega) kk
theorem seM_ct {G : Nat → Int} (hG : GOK ad tys GG ws) (hW : W91 G ws) (hB : HB G) (wf : WF G) (h24 : rd ws 90 24 = some (.int (Int32.ofInt 0))) (h22 : rd ws 90 22 = some (.int (Int32.ofInt (-1)))) {h : Int} (hI : I32 h) : CT l D tys A 260 9 0 0 [.ref (ad 90), .int (Int32.ofInt (h))] ws (fun r w => (GOK ad tys GG w ∧ MTO ws w) ∧ r = some (.int (if 0 ≤ h ∧ h < G 2 then Int32.ofInt (orI (seP G h.toNat) (G 3).toNat) else Int32.ofInt (-2)))) := by
  refine CT_of_V (by omega) (show (2 : Nat) ≤ mML 260 by decide +kernel) ?_
  have b3 := hB.b3
  have b2 := hB.b2
  refine V_aload (v := ad 90) mi_260_0 (by simp [stL, lv_args, Value.category]) ?_
  refine V_iload (v := Int32.ofInt (h)) mi_260_1 (by simp [stL, lv_args, Value.category]) ?_
  refine V_callM (As := [.int (Int32.ofInt (h))]) (st := []) mi_260_2 (by omega) (by decide +kernel) (by decide +kernel) hG (mho_ct hG hW hB hI) (by omega) (show 1 = mN 201 by decide +kernel) (by simp [Value.category]) ?_
  rintro r w1 ⟨rfl, rfl⟩
  refine V_bne mi_260_5  (fun c1 => ?_) (fun c1 => ?_)
  · have k1 := of_decide_eq_true c1
    obtain ⟨k, rfl⟩ := Int.eq_ofNat_of_zero_le k1.1
    refine V_aload (v := ad 90) mi_260_11 (by simp [stL, lv_args, Value.category]) ?_
    refine V_callM (As := []) (st := []) mi_260_12 (by omega) (by decide +kernel) (by decide +kernel) hG (gt_ct hB wf hG hW h24 h22) (by omega) (show 0 = mN 238 by decide +kernel) (by simp [Value.category]) ?_
    rintro r w4 ⟨rfl, T⟩
    refine V_ipush mi_260_15 ?_
    refine V_istore mi_260_16 ?_
    refine V_ipush mi_260_17 ?_
    refine V_istore mi_260_18 ?_
    refine V_sub (lv' := [(0, .ref (ad 90)), (1, .int (Int32.ofInt (k : Int))), (2, .int (Int32.ofInt 0)), (3, .int (Int32.ofInt ((0 : Nat) : Int)))]) (fun q hq => ?_) ?_
    · simp only [List.mem_cons, List.not_mem_nil, or_false] at hq
      rcases hq with rfl | rfl | rfl | rfl <;> simp [stL, lv_args, Value.category]
    exact sm_19 T (mt_w T hW) hB (h := k) (by omega) (G 3).toNat 0 (by omega) ⟨⟨T.1, T.2.2.2⟩, by rw [if_pos k1, Int.toNat_natCast]⟩
  · refine V_ipush mi_260_8 ?_
    exact V_retI mi_260_10 (fun h => absurd h (by decide +kernel)) ⟨⟨hG, fun _ _ _ _ => rfl⟩, by rw [if_neg (of_decide_eq_false c1)]⟩
theorem pairT_secrets (hAD : ∀ i : Nat, ad (1000 + i) = D.2 1000 i) (hG : GOK ad tys GG ws) (hR : RELW ws) (a1 : Int32) : PAIRT l D tys A ad 19 260 [.ref (ad 0), .int a1] [.ref (ad 90), .int a1] ws := by
  obtain ⟨G0, o0, x0, y0⟩ := hR.1.2.1
  obtain ⟨G, o, x, y, hb, wf, hS⟩ := aux_sto hR.2 x0 y0 o0 (hb_of hG y0 o0)
  have c1 := seX_ct (l := l) (D := D) (A := A) hG x hb hS (i32b a1)
  have c2 := seM_ct (l := l) (D := D) (A := A) hG y hb wf hR.2.2.2.2.2 hR.2.2.2.2.1 (i32b a1)
  simp only [oi] at c1 c2
  exact pairT_st hG hR (by omega) (by omega) c1 c2
end XSQ
