section XSU
variable {l : Launch} {D : va_G} {tys : List (ClassId × FieldType)} {A : Nat → Prop} {ad : Nat → Nat} {ws : va_W}
theorem lt_22 {G : Nat → Int} (hG : GOK ad tys GG ws) (hX : HX 4 G ws) (hB : HB G) (hS : STO G ws) {f o : Nat} {post : Option Value → va_W → Prop} (hf : (f : Int) < G 3) (ho : (o : Int) < G 3) : ∀ (h : Nat), (h : Int) ≤ G 2 → post (some (.int (Int32.ofInt (ltI G f o h)))) ws → V l D tys A 24 4 0 0 post 0 0 22 [(0, .ref (ad 0)), (1, .int (Int32.ofInt ((f : Int)))), (2, .int (Int32.ofInt ((o : Int)))), (3, .int (Int32.ofInt ((h : Int) - 1)))] [] ws
  | 0, hm, kk => by
    refine V_iload (v := Int32.ofInt (((0 : Nat) : Int) - 1)) mi_24_22 (by simp [stL, lv_args, Value.category]) ?_
    refine V_zlt mi_24_23 ⟨by omega, by omega⟩ (fun q => ?_) (fun q => ?_)
    · refine V_ipush mi_24_44 ?_
      exact V_retI mi_24_45 (fun h => absurd h (by decide +kernel)) kk
    · exact absurd q (by omega)
  | h + 1, hm, kk => by
    have b2 := hB.b2
    have lb := laI_bd hB (f := f) (o := o) (h := h)
    rw [show ((h + 1 : Nat) : Int) - 1 = (h : Int) by omega]
    refine V_iload (v := Int32.ofInt ((h : Int))) mi_24_22 (by simp [stL, lv_args, Value.category]) ?_
    refine V_zlt mi_24_23 ⟨by omega, by omega⟩ (fun q => ?_) (fun q => ?_)
    · exact absurd q (by omega)
    · refine V_aload (v := ad 0) mi_24_26 (by simp [stL, lv_args, Value.category]) ?_
      refine V_iload (v := Int32.ofInt ((f : Int))) mi_24_27 (by simp [stL, lv_args, Value.category]) ?_
      refine V_iload (v := Int32.ofInt ((o : Int))) mi_24_28 (by simp [stL, lv_args, Value.category]) ?_
      refine V_iload (v := Int32.ofInt ((h : Int))) mi_24_29 (by simp [stL, lv_args, Value.category]) ?_
      refine V_cO (As := [.int (Int32.ofInt ((f : Int))), .int (Int32.ofInt ((o : Int))), .int (Int32.ofInt ((h : Int)))]) (st := []) mi_24_30 (by omega) (by decide +kernel) (by decide +kernel) (by omega) g0o hG (laX_ct (f := f) (o := o) (h := h) hG hX hB hS hf ho (by omega)) (by omega) (show 3 = mN 26 by decide +kernel) (by simp [Value.category]) ?_
      rintro r w1 ⟨e1, rfl⟩
      rw [e1]
      refine V_zlt mi_24_33 ⟨by omega, by omega⟩ (fun q2 => ?_) (fun q2 => ?_)
      · refine V_iinc (v := Int32.ofInt ((h : Int))) mi_24_38 (by simp [stL, lv_args, Value.category]) ?_
        rw [ia2]
        rw [show (h : Int) + (-1) = (h : Int) - 1 by omega]
        refine V_goto mi_24_41 ?_
        refine V_sub (lv' := [(0, .ref (ad 0)), (1, .int (Int32.ofInt ((f : Int)))), (2, .int (Int32.ofInt ((o : Int)))), (3, .int (Int32.ofInt ((h : Int) - 1)))]) (fun q hq => ?_) ?_
        · simp only [List.mem_cons, List.not_mem_nil, or_false] at hq
          rcases hq with rfl | rfl | rfl | rfl <;> simp [stL, lv_args, Value.category]
        rw [show ltI G f o (h + 1) = ltI G f o h from if_pos q2] at kk
        exact lt_22 hG hX hB hS hf ho h (by omega) kk
      · refine V_iload (v := Int32.ofInt ((h : Int))) mi_24_36 (by simp [stL, lv_args, Value.category]) ?_
        rw [show ltI G f o (h + 1) = (h : Int) from if_neg (by omega)] at kk
        exact V_retI mi_24_37 (fun h => absurd h (by decide +kernel)) kk
theorem ltX_ct {G : Nat → Int} (hG : GOK ad tys GG ws) (hX : HX 4 G ws) (hB : HB G) (hS : STO G ws) {f o : Int} (fI : I32 f) (oI : I32 o) : CT l D tys A 24 4 0 0 [.ref (ad 0), .int (Int32.ofInt (f)), .int (Int32.ofInt (o))] ws (fun r w => w = ws ∧ r = some (.int (if (0 ≤ f ∧ f < G 3) ∧ (0 ≤ o ∧ o < G 3) ∧ f ≠ o then Int32.ofInt (ltI G f.toNat o.toNat (G 2).toNat) else Int32.ofInt (-2)))) := by
  refine CT_of_V (by omega) (show (3 : Nat) ≤ mML 24 by decide +kernel) ?_
  have b3 := hB.b3
  have b2 := hB.b2
  refine V_aload (v := ad 0) mi_24_0 (by simp [stL, lv_args, Value.category]) ?_
  refine V_iload (v := Int32.ofInt (f)) mi_24_1 (by simp [stL, lv_args, Value.category]) ?_
  refine V_iload (v := Int32.ofInt (o)) mi_24_2 (by simp [stL, lv_args, Value.category]) ?_
  refine V_cO (As := [.int (Int32.ofInt (f)), .int (Int32.ofInt (o))]) (st := []) mi_24_3 (by omega) (by decide +kernel) (by decide +kernel) (by omega) g0o hG (two_ct hG hX hB fI oI) (by omega) (show 2 = mN 74 by decide +kernel) (by simp [Value.category]) ?_
  rintro r w1 ⟨rfl, rfl⟩
  refine V_bne mi_24_6  (fun c1 => ?_) (fun c1 => ?_)
  · have k1 := of_decide_eq_true c1
    obtain ⟨m, rfl⟩ := Int.eq_ofNat_of_zero_le k1.1.1
    obtain ⟨n, rfl⟩ := Int.eq_ofNat_of_zero_le k1.2.1.1
    refine V_aload (v := ad 0) mi_24_12 (by simp [stL, lv_args, Value.category]) ?_
    refine V_gR mi_24_13 g0r2 (by omega) hG ?_
    refine V_gO mi_24_16 g4o hG (show rd _ 4 3 = some (.int (Int32.ofInt (G 2))) from hx0 hX (i := 3) (by omega)) ?_
    refine V_ipush mi_24_19 ?_
    refine V_ibin mi_24_20 (by omega) ?_
    rw [ib1]
    refine V_istore mi_24_21 ?_
    rw [show G 2 - 1 = (((G 2).toNat : Nat) : Int) - 1 by omega]
    refine V_sub (lv' := [(0, .ref (ad 0)), (1, .int (Int32.ofInt (m : Int))), (2, .int (Int32.ofInt (n : Int))), (3, .int (Int32.ofInt ((((G 2).toNat : Nat) : Int) - 1)))]) (fun q hq => ?_) ?_
    · simp only [List.mem_cons, List.not_mem_nil, or_false] at hq
      rcases hq with rfl | rfl | rfl | rfl <;> simp [stL, lv_args, Value.category]
    exact lt_22 hG hX hB hS (by omega) (by omega) (G 2).toNat (by omega) ⟨rfl, by rw [if_pos k1, Int.toNat_natCast, Int.toNat_natCast]⟩
  · refine V_ipush mi_24_9 ?_
    exact V_retI mi_24_11 (fun h => absurd h (by decide +kernel)) ⟨rfl, by rw [if_neg (of_decide_eq_false c1)]⟩
theorem ltm_25 {G : Nat → Int} {w0 : va_W} (hT : MT ad tys G w0 ws) (hW : W91 G ws) (hB : HB G) {f o : Nat} {post : Option Value → va_W → Prop} (hf : f < 6) (ho : o < 6) : ∀ (h : Nat), (h : Int) ≤ G 2 → post (some (.int (Int32.ofInt (ltI G f o h)))) ws → V l D tys A 268 9 0 0 post 0 0 25 [(0, .ref (ad 90)), (1, .int (Int32.ofInt ((f : Int)))), (2, .int (Int32.ofInt ((o : Int)))), (3, .int (Int32.ofInt ((h : Int) - 1)))] [] ws
  | 0, hm, kk => by
    refine V_iload (v := Int32.ofInt (((0 : Nat) : Int) - 1)) mi_268_25 (by simp [stL, lv_args, Value.category]) ?_
    refine V_zlt mi_268_26 ⟨by omega, by omega⟩ (fun q => ?_) (fun q => ?_)
    · refine V_ipush mi_268_47 ?_
      exact V_retI mi_268_48 (fun h => absurd h (by decide +kernel)) kk
    · exact absurd q (by omega)
  | h + 1, hm, kk => by
    have b2 := hB.b2
    have lb := laI_bd hB (f := f) (o := o) (h := h)
    rw [show ((h + 1 : Nat) : Int) - 1 = (h : Int) by omega]
    refine V_iload (v := Int32.ofInt ((h : Int))) mi_268_25 (by simp [stL, lv_args, Value.category]) ?_
    refine V_zlt mi_268_26 ⟨by omega, by omega⟩ (fun q => ?_) (fun q => ?_)
    · exact absurd q (by omega)
    · refine V_aload (v := ad 90) mi_268_29 (by simp [stL, lv_args, Value.category]) ?_
      refine V_iload (v := Int32.ofInt ((f : Int))) mi_268_30 (by simp [stL, lv_args, Value.category]) ?_
      refine V_iload (v := Int32.ofInt ((o : Int))) mi_268_31 (by simp [stL, lv_args, Value.category]) ?_
      refine V_iload (v := Int32.ofInt ((h : Int))) mi_268_32 (by simp [stL, lv_args, Value.category]) ?_
      refine V_callM (As := [.int (Int32.ofInt ((f : Int))), .int (Int32.ofInt ((o : Int))), .int (Int32.ofInt ((h : Int)))]) (st := []) mi_268_33 (by omega) (by decide +kernel) (by decide +kernel) hT.1 (laM_ct (f := f) (o := o) (h := h) hT hW hB hf ho (by omega)) (by omega) (show 3 = mN 265 by decide +kernel) (by simp [Value.category]) ?_
      rintro r w1 ⟨e1, rfl⟩
      rw [e1]
      refine V_zlt mi_268_36 ⟨by omega, by omega⟩ (fun q2 => ?_) (fun q2 => ?_)
      · refine V_iinc (v := Int32.ofInt ((h : Int))) mi_268_41 (by simp [stL, lv_args, Value.category]) ?_
        rw [ia2]
        rw [show (h : Int) + (-1) = (h : Int) - 1 by omega]
        refine V_goto mi_268_44 ?_
        refine V_sub (lv' := [(0, .ref (ad 90)), (1, .int (Int32.ofInt ((f : Int)))), (2, .int (Int32.ofInt ((o : Int)))), (3, .int (Int32.ofInt ((h : Int) - 1)))]) (fun q hq => ?_) ?_
        · simp only [List.mem_cons, List.not_mem_nil, or_false] at hq
          rcases hq with rfl | rfl | rfl | rfl <;> simp [stL, lv_args, Value.category]
        rw [show ltI G f o (h + 1) = ltI G f o h from if_pos q2] at kk
        exact ltm_25 hT hW hB hf ho h (by omega) kk
      · refine V_iload (v := Int32.ofInt ((h : Int))) mi_268_39 (by simp [stL, lv_args, Value.category]) ?_
        rw [show ltI G f o (h + 1) = (h : Int) from if_neg (by omega)] at kk
        exact V_retI mi_268_40 (fun h => absurd h (by decide +kernel)) kk
theorem ltM_ct {G : Nat → Int} (hG : GOK ad tys GG ws) (hW : W91 G ws) (hB : HB G) (wf : WF G) (h24 : rd ws 90 24 = some (.int (Int32.ofInt 0))) (h22 : rd ws 90 22 = some (.int (Int32.ofInt (-1)))) {f o : Int} (fI : I32 f) (oI : I32 o) : CT l D tys A 268 9 0 0 [.ref (ad 90), .int (Int32.ofInt (f)), .int (Int32.ofInt (o))] ws (fun r w => (GOK ad tys GG w ∧ MTO ws w) ∧ r = some (.int (if (0 ≤ f ∧ f < G 3) ∧ (0 ≤ o ∧ o < G 3) ∧ f ≠ o then Int32.ofInt (ltI G f.toNat o.toNat (G 2).toNat) else Int32.ofInt (-2)))) := by
  refine CT_of_V (by omega) (show (3 : Nat) ≤ mML 268 by decide +kernel) ?_
  obtain ⟨s91, e91, -⟩ := g91s
  have b3 := hB.b3
  have b2 := hB.b2
  refine V_aload (v := ad 90) mi_268_0 (by simp [stL, lv_args, Value.category]) ?_
  refine V_iload (v := Int32.ofInt (f)) mi_268_1 (by simp [stL, lv_args, Value.category]) ?_
  refine V_iload (v := Int32.ofInt (o)) mi_268_2 (by simp [stL, lv_args, Value.category]) ?_
  refine V_callM (As := [.int (Int32.ofInt (f)), .int (Int32.ofInt (o))]) (st := []) mi_268_3 (by omega) (by decide +kernel) (by decide +kernel) hG (m2_ct hG hW hB fI oI) (by omega) (show 2 = mN 200 by decide +kernel) (by simp [Value.category]) ?_
  rintro r w1 ⟨rfl, rfl⟩
  refine V_bne mi_268_6  (fun c1 => ?_) (fun c1 => ?_)
  · have k1 := of_decide_eq_true c1
    obtain ⟨m, rfl⟩ := Int.eq_ofNat_of_zero_le k1.1.1
    obtain ⟨n, rfl⟩ := Int.eq_ofNat_of_zero_le k1.2.1.1
    refine V_aload (v := ad 90) mi_268_12 (by simp [stL, lv_args, Value.category]) ?_
    refine V_callM (As := []) (st := []) mi_268_13 (by omega) (by decide +kernel) (by decide +kernel) hG (gt_ct hB wf hG hW h24 h22) (by omega) (show 0 = mN 238 by decide +kernel) (by simp [Value.category]) ?_
    rintro r w4 ⟨rfl, T⟩
    have hW2 := mt_w T hW
    refine V_aload (v := ad 90) mi_268_16 (by simp [stL, lv_args, Value.category]) ?_
    refine V_getI mi_268_17 T.1 (rref gr1m (by omega) T.1) ?_
    refine V_ipush mi_268_20 ?_
    refine V_aldX (j := 2) mi_268_21 rfl T.1 e91 (by omega) (by omega) (hW2 _ (by omega)) ?_
    refine V_ipush mi_268_22 ?_
    refine V_ibin mi_268_23 (by omega) ?_
    rw [ib1]
    refine V_istore mi_268_24 ?_
    rw [show G 2 - 1 = (((G 2).toNat : Nat) : Int) - 1 by omega]
    refine V_sub (lv' := [(0, .ref (ad 90)), (1, .int (Int32.ofInt (m : Int))), (2, .int (Int32.ofInt (n : Int))), (3, .int (Int32.ofInt ((((G 2).toNat : Nat) : Int) - 1)))]) (fun q hq => ?_) ?_
    · simp only [List.mem_cons, List.not_mem_nil, or_false] at hq
      rcases hq with rfl | rfl | rfl | rfl <;> simp [stL, lv_args, Value.category]
    exact ltm_25 T hW2 hB (by omega) (by omega) (G 2).toNat (by omega) ⟨⟨T.1, T.2.2.2⟩, by rw [if_pos k1, Int.toNat_natCast, Int.toNat_natCast]⟩
  · refine V_ipush mi_268_9 ?_
    exact V_retI mi_268_11 (fun h => absurd h (by decide +kernel)) ⟨⟨hG, fun _ _ _ _ => rfl⟩, by rw [if_neg (of_decide_eq_false c1)]⟩
theorem pairT_latest (hAD : ∀ i : Nat, ad (1000 + i) = D.2 1000 i) (hG : GOK ad tys GG ws) (hR : RELW ws) (a1 a2 : Int32) : PAIRT l D tys A ad 24 268 [.ref (ad 0), .int a1, .int a2] [.ref (ad 90), .int a1, .int a2] ws := by
  obtain ⟨G0, o0, x0, y0⟩ := hR.1.2.1
  obtain ⟨G, o, x, y, hb, wf, hS⟩ := aux_sto hR.2 x0 y0 o0 (hb_of hG y0 o0)
  have c1 := ltX_ct (l := l) (D := D) (A := A) hG x hb hS (i32b a1) (i32b a2)
  have c2 := ltM_ct (l := l) (D := D) (A := A) hG y hb wf hR.2.2.2.2.2 hR.2.2.2.2.1 (i32b a1) (i32b a2)
  simp only [oi] at c1 c2
  exact pairT_st hG hR (by omega) (by omega) c1 c2
theorem cd_30 {G : Nat → Int} (hG : GOK ad tys GG ws) (hX : HX 4 G ws) (hB : HB G) (hS : STO G ws) {f h : Nat} {post : Option Value → va_W → Prop} (hf : (f : Int) < G 3) (hh : (h : Int) < G 2) : ∀ (m p : Nat), ((p + m : Nat) : Int) = G 3 → post (some (.int (Int32.ofInt (orI (clP G h f) (G 3).toNat)))) ws → V l D tys A 25 4 0 0 post 0 0 30 [(0, .ref (ad 0)), (1, .int (Int32.ofInt ((f : Int)))), (2, .int (Int32.ofInt ((h : Int)))), (3, .int (Int32.ofInt (orI (clP G h f) p))), (4, .int (Int32.ofInt ((p : Int))))] [] ws
  | 0, p, hm, kk => by
    have b3 := hB.b3
    have b2 := hB.b2
    refine V_iload (v := Int32.ofInt ((p : Int))) mi_25_30 (by simp [stL, lv_args, Value.category]) ?_
    refine V_aload (v := ad 0) mi_25_32 (by simp [stL, lv_args, Value.category]) ?_
    refine V_gR mi_25_33 g0r2 (by omega) hG ?_
    refine V_gO mi_25_36 g4o hG (show rd _ 4 4 = some (.int (Int32.ofInt (G 3))) from hx0 hX (i := 4) (by omega)) ?_
    refine V_cge mi_25_39 ⟨by omega, by omega⟩ ⟨by omega, by omega⟩ (fun q => ?_) (fun q => ?_)
    · have e : p = (G 3).toNat := by omega
      rw [← e] at kk
      refine V_iload (v := Int32.ofInt (orI (clP G h f) p)) mi_25_72 (by simp [stL, lv_args, Value.category]) ?_
      exact V_retI mi_25_73 (fun h => absurd h (by decide +kernel)) kk
    · exact absurd q (by omega)
  | m + 1, p, hm, kk => by
    have b3 := hB.b3
    have b2 := hB.b2
    refine V_iload (v := Int32.ofInt ((p : Int))) mi_25_30 (by simp [stL, lv_args, Value.category]) ?_
    refine V_aload (v := ad 0) mi_25_32 (by simp [stL, lv_args, Value.category]) ?_
    refine V_gR mi_25_33 g0r2 (by omega) hG ?_
    refine V_gO mi_25_36 g4o hG (show rd _ 4 4 = some (.int (Int32.ofInt (G 3))) from hx0 hX (i := 4) (by omega)) ?_
    refine V_cge mi_25_39 ⟨by omega, by omega⟩ ⟨by omega, by omega⟩ (fun q => ?_) (fun q => ?_)
    · exact absurd q (by omega)
    · have lb := laI_bd hB (f := p) (o := f) (h := h)
      refine V_iload (v := Int32.ofInt ((p : Int))) mi_25_42 (by simp [stL, lv_args, Value.category]) ?_
      refine V_iload (v := Int32.ofInt ((f : Int))) mi_25_44 (by simp [stL, lv_args, Value.category]) ?_
      refine V_ceq mi_25_45 ⟨by omega, by omega⟩ ⟨by omega, by omega⟩ (fun q2 => ?_) (fun q2 => ?_)
      · rw [← orI_s0 (P := clP G h f) (by rw [show p = f by omega]; exact clP_f)]
        refine V_iinc (v := Int32.ofInt ((p : Int))) mi_25_66 (by simp [stL, lv_args, Value.category]) ?_
        rw [ia2]
        refine V_goto mi_25_69 ?_
        refine V_sub (lv' := [(0, .ref (ad 0)), (1, .int (Int32.ofInt ((f : Int)))), (2, .int (Int32.ofInt ((h : Int)))), (3, .int (Int32.ofInt (orI (clP G h f) (p + 1)))), (4, .int (Int32.ofInt (((p + 1 : Nat) : Int))))]) (fun q hq => ?_) ?_
        · simp only [List.mem_cons, List.not_mem_nil, or_false] at hq
          rcases hq with rfl | rfl | rfl | rfl | rfl <;> simp [stL, lv_args, Value.category]
        exact cd_30 hG hX hB hS hf hh m (p + 1) (by omega) kk
      · have hn : p ≠ f := by omega
        refine V_aload (v := ad 0) mi_25_48 (by simp [stL, lv_args, Value.category]) ?_
        refine V_iload (v := Int32.ofInt ((p : Int))) mi_25_49 (by simp [stL, lv_args, Value.category]) ?_
        refine V_iload (v := Int32.ofInt ((f : Int))) mi_25_51 (by simp [stL, lv_args, Value.category]) ?_
        refine V_iload (v := Int32.ofInt ((h : Int))) mi_25_52 (by simp [stL, lv_args, Value.category]) ?_
        refine V_cO (As := [.int (Int32.ofInt ((p : Int))), .int (Int32.ofInt ((f : Int))), .int (Int32.ofInt ((h : Int)))]) (st := []) mi_25_53 (by omega) (by decide +kernel) (by decide +kernel) (by omega) g0o hG (laX_ct (f := p) (o := f) (h := h) hG hX hB hS (by omega) hf hh) (by omega) (show 3 = mN 26 by decide +kernel) (by simp [Value.category]) ?_
        rintro r w1 ⟨e1, rfl⟩
        rw [e1]
        refine V_zlt mi_25_56 ⟨by omega, by omega⟩ (fun q3 => ?_) (fun q3 => ?_)
        · rw [← orI_s0 (P := clP G h f) (by rw [clP_n hn]; exact decide_eq_false (by omega))]
          refine V_iinc (v := Int32.ofInt ((p : Int))) mi_25_66 (by simp [stL, lv_args, Value.category]) ?_
          rw [ia2]
          refine V_goto mi_25_69 ?_
          refine V_sub (lv' := [(0, .ref (ad 0)), (1, .int (Int32.ofInt ((f : Int)))), (2, .int (Int32.ofInt ((h : Int)))), (3, .int (Int32.ofInt (orI (clP G h f) (p + 1)))), (4, .int (Int32.ofInt (((p + 1 : Nat) : Int))))]) (fun q hq => ?_) ?_
          · simp only [List.mem_cons, List.not_mem_nil, or_false] at hq
            rcases hq with rfl | rfl | rfl | rfl | rfl <;> simp [stL, lv_args, Value.category]
          exact cd_30 hG hX hB hS hf hh m (p + 1) (by omega) kk
        · refine V_iload (v := Int32.ofInt (orI (clP G h f) p)) mi_25_59 (by simp [stL, lv_args, Value.category]) ?_
          refine V_ipush mi_25_60 ?_
          refine V_iload (v := Int32.ofInt ((p : Int))) mi_25_61 (by simp [stL, lv_args, Value.category]) ?_
          refine V_ibin mi_25_63 (by omega) ?_
          refine V_ibin mi_25_64 (by omega) ?_
          rw [bitO_i, ← orI_s1 (P := clP G h f) (by rw [clP_n hn]; exact decide_eq_true q3)]
          refine V_istore mi_25_65 ?_
          refine V_iinc (v := Int32.ofInt ((p : Int))) mi_25_66 (by simp [stL, lv_args, Value.category]) ?_
          rw [ia2]
          refine V_goto mi_25_69 ?_
          refine V_sub (lv' := [(0, .ref (ad 0)), (1, .int (Int32.ofInt ((f : Int)))), (2, .int (Int32.ofInt ((h : Int)))), (3, .int (Int32.ofInt (orI (clP G h f) (p + 1)))), (4, .int (Int32.ofInt (((p + 1 : Nat) : Int))))]) (fun q hq => ?_) ?_
          · simp only [List.mem_cons, List.not_mem_nil, or_false] at hq
            rcases hq with rfl | rfl | rfl | rfl | rfl <;> simp [stL, lv_args, Value.category]
          exact cd_30 hG hX hB hS hf hh m (p + 1) (by omega) kk
theorem cdX_ct {G : Nat → Int} (hG : GOK ad tys GG ws) (hX : HX 4 G ws) (hB : HB G) (hS : STO G ws) {f h : Int} (fI : I32 f) (hI : I32 h) : CT l D tys A 25 4 0 0 [.ref (ad 0), .int (Int32.ofInt (f)), .int (Int32.ofInt (h))] ws (fun r w => w = ws ∧ r = some (.int (if (0 ≤ f ∧ f < G 3) ∧ 0 ≤ h ∧ h < G 2 then Int32.ofInt (orI (clP G h.toNat f.toNat) (G 3).toNat) else Int32.ofInt (-2)))) := by
  refine CT_of_V (by omega) (show (3 : Nat) ≤ mML 25 by decide +kernel) ?_
  have b3 := hB.b3
  have b2 := hB.b2
  refine V_aload (v := ad 0) mi_25_0 (by simp [stL, lv_args, Value.category]) ?_
  refine V_gR mi_25_1 g0r2 (by omega) hG ?_
  refine V_iload (v := Int32.ofInt (f)) mi_25_4 (by simp [stL, lv_args, Value.category]) ?_
  refine V_cO (As := [.int (Int32.ofInt (f))]) (st := []) mi_25_5 (by omega) (by decide +kernel) (by decide +kernel) (by omega) g4o hG (hfk_ct hG hX hB fI) (by omega) (show 1 = mN 102 by decide +kernel) (by simp [Value.category]) ?_
  rintro r w1 ⟨rfl, rfl⟩
  refine V_beq mi_25_8  (fun c1 => ?_) (fun c1 => ?_)
  · refine V_ipush mi_25_22 ?_
    exact V_retI mi_25_24 (fun h => absurd h (by decide +kernel)) ⟨rfl, by rw [if_neg (fun k => of_decide_eq_false c1 k.1)]⟩
  · refine V_aload (v := ad 0) mi_25_11 (by simp [stL, lv_args, Value.category]) ?_
    refine V_gR mi_25_12 g0r2 (by omega) hG ?_
    refine V_iload (v := Int32.ofInt (h)) mi_25_15 (by simp [stL, lv_args, Value.category]) ?_
    refine V_cO (As := [.int (Int32.ofInt (h))]) (st := []) mi_25_16 (by omega) (by decide +kernel) (by decide +kernel) (by omega) g4o hG (hho_ct hG hX hB hI) (by omega) (show 1 = mN 103 by decide +kernel) (by simp [Value.category]) ?_
    rintro r w3 ⟨rfl, rfl⟩
    refine V_bne mi_25_19  (fun c3 => ?_) (fun c3 => ?_)
    · have k1 := of_decide_eq_true c1
      have k3 := of_decide_eq_true c3
      obtain ⟨m, rfl⟩ := Int.eq_ofNat_of_zero_le k1.1
      obtain ⟨k, rfl⟩ := Int.eq_ofNat_of_zero_le k3.1
      refine V_ipush mi_25_25 ?_
      refine V_istore mi_25_26 ?_
      refine V_ipush mi_25_27 ?_
      refine V_istore mi_25_28 ?_
      refine V_sub (lv' := [(0, .ref (ad 0)), (1, .int (Int32.ofInt (m : Int))), (2, .int (Int32.ofInt (k : Int))), (3, .int (Int32.ofInt 0)), (4, .int (Int32.ofInt ((0 : Nat) : Int)))]) (fun q hq => ?_) ?_
      · simp only [List.mem_cons, List.not_mem_nil, or_false] at hq
        rcases hq with rfl | rfl | rfl | rfl | rfl <;> simp [stL, lv_args, Value.category]
      exact cd_30 hG hX hB hS (f := m) (h := k) (by omega) (by omega) (G 3).toNat 0 (by omega) ⟨rfl, by rw [if_pos ⟨k1, k3⟩, Int.toNat_natCast, Int.toNat_natCast]⟩
    · refine V_ipush mi_25_22 ?_
      exact V_retI mi_25_24 (fun h => absurd h (by decide +kernel)) ⟨rfl, by rw [if_neg (fun k => of_decide_eq_false c3 k.2)]⟩
theorem cdm_28 {G : Nat → Int} {w0 : va_W} (hT : MT ad tys G w0 ws) (hW : W91 G ws) (hB : HB G) {f h : Nat} {post : Option Value → va_W → Prop} (hf : f < 6) (hh : (h : Int) < G 2) : ∀ (m p : Nat), ((p + m : Nat) : Int) = G 3 → post (some (.int (Int32.ofInt (orI (clP G h f) (G 3).toNat)))) ws → V l D tys A 269 9 0 0 post 0 0 28 [(0, .ref (ad 90)), (1, .int (Int32.ofInt ((f : Int)))), (2, .int (Int32.ofInt ((h : Int)))), (3, .int (Int32.ofInt (orI (clP G h f) p))), (4, .int (Int32.ofInt ((p : Int))))] [] ws
  | 0, p, hm, kk => by
    obtain ⟨s91, e91, -⟩ := g91s
    have b3 := hB.b3
    have b2 := hB.b2
    refine V_iload (v := Int32.ofInt ((p : Int))) mi_269_28 (by simp [stL, lv_args, Value.category]) ?_
    refine V_aload (v := ad 90) mi_269_30 (by simp [stL, lv_args, Value.category]) ?_
    refine V_getI mi_269_31 hT.1 (rref gr1m (by omega) hT.1) ?_
    refine V_ipush mi_269_34 ?_
    refine V_aldX (j := 3) mi_269_35 rfl hT.1 e91 (by omega) (by omega) (hW _ (by omega)) ?_
    refine V_cge mi_269_36 ⟨by omega, by omega⟩ ⟨by omega, by omega⟩ (fun q => ?_) (fun q => ?_)
    · have e : p = (G 3).toNat := by omega
      rw [← e] at kk
      refine V_iload (v := Int32.ofInt (orI (clP G h f) p)) mi_269_73 (by simp [stL, lv_args, Value.category]) ?_
      exact V_retI mi_269_74 (fun h => absurd h (by decide +kernel)) kk
    · exact absurd q (by omega)
  | m + 1, p, hm, kk => by
    obtain ⟨s91, e91, -⟩ := g91s
    have b3 := hB.b3
    have b2 := hB.b2
    refine V_iload (v := Int32.ofInt ((p : Int))) mi_269_28 (by simp [stL, lv_args, Value.category]) ?_
    refine V_aload (v := ad 90) mi_269_30 (by simp [stL, lv_args, Value.category]) ?_
    refine V_getI mi_269_31 hT.1 (rref gr1m (by omega) hT.1) ?_
    refine V_ipush mi_269_34 ?_
    refine V_aldX (j := 3) mi_269_35 rfl hT.1 e91 (by omega) (by omega) (hW _ (by omega)) ?_
    refine V_cge mi_269_36 ⟨by omega, by omega⟩ ⟨by omega, by omega⟩ (fun q => ?_) (fun q => ?_)
    · exact absurd q (by omega)
    · have lb := laI_bd hB (f := p) (o := f) (h := h)
      refine V_iload (v := Int32.ofInt (orI (clP G h f) p)) mi_269_39 (by simp [stL, lv_args, Value.category]) ?_
      refine V_iload (v := Int32.ofInt ((p : Int))) mi_269_40 (by simp [stL, lv_args, Value.category]) ?_
      refine V_iload (v := Int32.ofInt ((f : Int))) mi_269_42 (by simp [stL, lv_args, Value.category]) ?_
      refine V_ceq mi_269_43 ⟨by omega, by omega⟩ ⟨by omega, by omega⟩ (fun q2 => ?_) (fun q2 => ?_)
      · refine V_ipush mi_269_64 ?_
        refine V_ibin mi_269_65 (by omega) ?_
        rw [or0, ← orI_s0 (P := clP G h f) (by rw [show p = f by omega]; exact clP_f)]
        refine V_istore mi_269_66 ?_
        refine V_iinc (v := Int32.ofInt ((p : Int))) mi_269_67 (by simp [stL, lv_args, Value.category]) ?_
        rw [ia2]
        refine V_goto mi_269_70 ?_
        refine V_sub (lv' := [(0, .ref (ad 90)), (1, .int (Int32.ofInt ((f : Int)))), (2, .int (Int32.ofInt ((h : Int)))), (3, .int (Int32.ofInt (orI (clP G h f) (p + 1)))), (4, .int (Int32.ofInt (((p + 1 : Nat) : Int))))]) (fun q hq => ?_) ?_
        · simp only [List.mem_cons, List.not_mem_nil, or_false] at hq
          rcases hq with rfl | rfl | rfl | rfl | rfl <;> simp [stL, lv_args, Value.category]
        exact cdm_28 hT hW hB hf hh m (p + 1) (by omega) kk
      · have hn : p ≠ f := by omega
        refine V_aload (v := ad 90) mi_269_46 (by simp [stL, lv_args, Value.category]) ?_
        refine V_iload (v := Int32.ofInt ((p : Int))) mi_269_47 (by simp [stL, lv_args, Value.category]) ?_
        refine V_iload (v := Int32.ofInt ((f : Int))) mi_269_49 (by simp [stL, lv_args, Value.category]) ?_
        refine V_iload (v := Int32.ofInt ((h : Int))) mi_269_50 (by simp [stL, lv_args, Value.category]) ?_
        refine V_callM (As := [.int (Int32.ofInt ((p : Int))), .int (Int32.ofInt ((f : Int))), .int (Int32.ofInt ((h : Int)))]) (st := [.int (Int32.ofInt (orI (clP G h f) p))]) mi_269_51 (by omega) (by decide +kernel) (by decide +kernel) hT.1 (laM_ct (f := p) (o := f) (h := h) hT hW hB (by omega) hf hh) (by omega) (show 3 = mN 265 by decide +kernel) (by simp [Value.category]) ?_
        rintro r w1 ⟨e1, rfl⟩
        rw [e1]
        refine V_zlt mi_269_54 ⟨by omega, by omega⟩ (fun q3 => ?_) (fun q3 => ?_)
        · refine V_ipush mi_269_64 ?_
          refine V_ibin mi_269_65 (by omega) ?_
          rw [or0, ← orI_s0 (P := clP G h f) (by rw [clP_n hn]; exact decide_eq_false (by omega))]
          refine V_istore mi_269_66 ?_
          refine V_iinc (v := Int32.ofInt ((p : Int))) mi_269_67 (by simp [stL, lv_args, Value.category]) ?_
          rw [ia2]
          refine V_goto mi_269_70 ?_
          refine V_sub (lv' := [(0, .ref (ad 90)), (1, .int (Int32.ofInt ((f : Int)))), (2, .int (Int32.ofInt ((h : Int)))), (3, .int (Int32.ofInt (orI (clP G h f) (p + 1)))), (4, .int (Int32.ofInt (((p + 1 : Nat) : Int))))]) (fun q hq => ?_) ?_
          · simp only [List.mem_cons, List.not_mem_nil, or_false] at hq
            rcases hq with rfl | rfl | rfl | rfl | rfl <;> simp [stL, lv_args, Value.category]
          exact cdm_28 hT hW hB hf hh m (p + 1) (by omega) kk
        · refine V_ipush mi_269_57 ?_
          refine V_iload (v := Int32.ofInt ((p : Int))) mi_269_58 (by simp [stL, lv_args, Value.category]) ?_
          refine V_ibin mi_269_60 (by omega) ?_
          refine V_goto mi_269_61 ?_
          refine V_ibin mi_269_65 (by omega) ?_
          rw [bitO_i, ← orI_s1 (P := clP G h f) (by rw [clP_n hn]; exact decide_eq_true q3)]
          refine V_istore mi_269_66 ?_
          refine V_iinc (v := Int32.ofInt ((p : Int))) mi_269_67 (by simp [stL, lv_args, Value.category]) ?_
          rw [ia2]
          refine V_goto mi_269_70 ?_
          refine V_sub (lv' := [(0, .ref (ad 90)), (1, .int (Int32.ofInt ((f : Int)))), (2, .int (Int32.ofInt ((h : Int)))), (3, .int (Int32.ofInt (orI (clP G h f) (p + 1)))), (4, .int (Int32.ofInt (((p + 1 : Nat) : Int))))]) (fun q hq => ?_) ?_
          · simp only [List.mem_cons, List.not_mem_nil, or_false] at hq
            rcases hq with rfl | rfl | rfl | rfl | rfl <;> simp [stL, lv_args, Value.category]
          exact cdm_28 hT hW hB hf hh m (p + 1) (by omega) kk
theorem cdM_ct {G : Nat → Int} (hG : GOK ad tys GG ws) (hW : W91 G ws) (hB : HB G) (wf : WF G) (h24 : rd ws 90 24 = some (.int (Int32.ofInt 0))) (h22 : rd ws 90 22 = some (.int (Int32.ofInt (-1)))) {f h : Int} (fI : I32 f) (hI : I32 h) : CT l D tys A 269 9 0 0 [.ref (ad 90), .int (Int32.ofInt (f)), .int (Int32.ofInt (h))] ws (fun r w => (GOK ad tys GG w ∧ MTO ws w) ∧ r = some (.int (if (0 ≤ f ∧ f < G 3) ∧ 0 ≤ h ∧ h < G 2 then Int32.ofInt (orI (clP G h.toNat f.toNat) (G 3).toNat) else Int32.ofInt (-2)))) := by
  refine CT_of_V (by omega) (show (3 : Nat) ≤ mML 269 by decide +kernel) ?_
  have b3 := hB.b3
  have b2 := hB.b2
  refine V_aload (v := ad 90) mi_269_0 (by simp [stL, lv_args, Value.category]) ?_
  refine V_iload (v := Int32.ofInt (f)) mi_269_1 (by simp [stL, lv_args, Value.category]) ?_
  refine V_callM (As := [.int (Int32.ofInt (f))]) (st := []) mi_269_2 (by omega) (by decide +kernel) (by decide +kernel) hG (mfk_ct hG hW hB fI) (by omega) (show 1 = mN 199 by decide +kernel) (by simp [Value.category]) ?_
  rintro r w1 ⟨rfl, rfl⟩
  refine V_beq mi_269_5  (fun c1 => ?_) (fun c1 => ?_)
  · refine V_ipush mi_269_16 ?_
    exact V_retI mi_269_18 (fun h => absurd h (by decide +kernel)) ⟨⟨hG, fun _ _ _ _ => rfl⟩, by rw [if_neg (fun k => of_decide_eq_false c1 k.1)]⟩
  · refine V_aload (v := ad 90) mi_269_8 (by simp [stL, lv_args, Value.category]) ?_
    refine V_iload (v := Int32.ofInt (h)) mi_269_9 (by simp [stL, lv_args, Value.category]) ?_
    refine V_callM (As := [.int (Int32.ofInt (h))]) (st := []) mi_269_10 (by omega) (by decide +kernel) (by decide +kernel) hG (mho_ct hG hW hB hI) (by omega) (show 1 = mN 201 by decide +kernel) (by simp [Value.category]) ?_
    rintro r w3 ⟨rfl, rfl⟩
    refine V_bne mi_269_13  (fun c3 => ?_) (fun c3 => ?_)
    · have k1 := of_decide_eq_true c1
      have k3 := of_decide_eq_true c3
      obtain ⟨m, rfl⟩ := Int.eq_ofNat_of_zero_le k1.1
      obtain ⟨k, rfl⟩ := Int.eq_ofNat_of_zero_le k3.1
      refine V_aload (v := ad 90) mi_269_19 (by simp [stL, lv_args, Value.category]) ?_
      refine V_callM (As := []) (st := []) mi_269_20 (by omega) (by decide +kernel) (by decide +kernel) hG (gt_ct hB wf hG hW h24 h22) (by omega) (show 0 = mN 238 by decide +kernel) (by simp [Value.category]) ?_
      rintro r w4 ⟨rfl, T⟩
      refine V_ipush mi_269_23 ?_
      refine V_istore mi_269_24 ?_
      refine V_ipush mi_269_25 ?_
      refine V_istore mi_269_26 ?_
      refine V_sub (lv' := [(0, .ref (ad 90)), (1, .int (Int32.ofInt (m : Int))), (2, .int (Int32.ofInt (k : Int))), (3, .int (Int32.ofInt 0)), (4, .int (Int32.ofInt ((0 : Nat) : Int)))]) (fun q hq => ?_) ?_
      · simp only [List.mem_cons, List.not_mem_nil, or_false] at hq
        rcases hq with rfl | rfl | rfl | rfl | rfl <;> simp [stL, lv_args, Value.category]
      exact cdm_28 T (mt_w T hW) hB (f := m) (h := k) (by omega) (by omega) (G 3).toNat 0 (by omega) ⟨⟨T.1, T.2.2.2⟩, by rw [if_pos ⟨k1, k3⟩, Int.toNat_natCast, Int.toNat_natCast]⟩
    · refine V_ipush mi_269_16 ?_
      exact V_retI mi_269_18 (fun h => absurd h (by decide +kernel)) ⟨⟨hG, fun _ _ _ _ => rfl⟩, by rw [if_neg (fun k => of_decide_eq_false c3 k.2)]⟩
theorem pairT_called (hAD : ∀ i : Nat, ad (1000 + i) = D.2 1000 i) (hG : GOK ad tys GG ws) (hR : RELW ws) (a1 a2 : Int32) : PAIRT l D tys A ad 25 269 [.ref (ad 0), .int a1, .int a2] [.ref (ad 90), .int a1, .int a2] ws := by
  obtain ⟨G0, o0, x0, y0⟩ := hR.1.2.1
  obtain ⟨G, o, x, y, hb, wf, hS⟩ := aux_sto hR.2 x0 y0 o0 (hb_of hG y0 o0)
  have c1 := cdX_ct (l := l) (D := D) (A := A) hG x hb hS (i32b a1) (i32b a2)
  have c2 := cdM_ct (l := l) (D := D) (A := A) hG y hb wf hR.2.2.2.2.2 hR.2.2.2.2.1 (i32b a1) (i32b a2)
  simp only [oi] at c1 c2
  exact pairT_st hG hR (by omega) (by omega) c1 c2
end XSU
