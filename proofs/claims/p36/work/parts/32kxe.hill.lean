section XTE
variable {l : Launch} {D : va_G} {tys : List (ClassId × FieldType)} {A : Nat → Prop} {ad : Nat → Nat} {ws : va_W}
theorem vix_10 {G : Nat → Int} {w0 : va_W} (hX0 : HX 4 G w0) (hS0 : STO G w0) (hB : HB G) {f o : Nat} {post : Option Value → va_W → Prop} (hf : (f : Int) < G 3) (ho : (o : Int) < G 3) : ∀ (m p : Nat) (a : Int) (ws : va_W), ((p + m : Nat) : Int) = allV (G 3) + 1 → (-1 ≤ a ∧ a ≤ 63) → GOK ad tys GG ws → XSC w0 ws → (∀ w : va_W, GOK ad tys GG w → XSC w0 w → post (some (.int (Int32.ofInt (slS (viP G f o) m p a)))) w) → V l D tys A 80 4 0 0 post 0 0 10 [(0, .ref (ad 36)), (1, .ref (ad 4)), (2, .ref (ad 32)), (3, .int (Int32.ofInt ((f : Int)))), (4, .int (Int32.ofInt ((o : Int)))), (5, .int (Int32.ofInt (a))), (6, .int (Int32.ofInt (szI a))), (7, .int (Int32.ofInt ((p : Int))))] [] ws
  | 0, p, a, ws, hm, ha, hG, hO, kk => by
    have hX : HX 4 G ws := XSC_X hO hX0
    have b3 := hB.b3
    have b2 := hB.b2
    have al := all6 b3
    have cp := bcS_bd (a := (p : Int)) 6
    have ca := bcS_bd (a := a) 6
    have ed := szI_c (a := a)
    refine V_iload (v := Int32.ofInt ((p : Int))) mi_80_10 (by simp [stL, lv_args, Value.category]) ?_
    refine V_aload (v := ad 4) mi_80_12 (by simp [stL, lv_args, Value.category]) ?_
    refine V_cO (As := []) (st := [.int (Int32.ofInt ((p : Int)))]) mi_80_13 (by omega) (by decide +kernel) (by decide +kernel) (by omega) g4o hG (evy_ct hG hX hB) (by omega) (show 0 = mN 109 by decide +kernel) (by simp [Value.category]) ?_
    rintro r w0 ⟨e0, rfl⟩
    rw [e0]
    refine V_cgt mi_80_16 ⟨by omega, by omega⟩ ⟨by omega, by omega⟩ (fun q => ?_) (fun q => ?_)
    · refine V_iload (v := Int32.ofInt (a)) mi_80_91 (by simp [stL, lv_args, Value.category]) ?_
      exact V_retI mi_80_93 (fun h => absurd h (by decide +kernel)) (kk ws hG hO)
    · exact absurd q (by omega)
  | m + 1, p, a, ws, hm, ha, hG, hO, kk => by
    have hX : HX 4 G ws := XSC_X hO hX0
    have b3 := hB.b3
    have b2 := hB.b2
    have al := all6 b3
    have cp := bcS_bd (a := (p : Int)) 6
    have ca := bcS_bd (a := a) 6
    have ed := szI_c (a := a)
    refine V_iload (v := Int32.ofInt ((p : Int))) mi_80_10 (by simp [stL, lv_args, Value.category]) ?_
    refine V_aload (v := ad 4) mi_80_12 (by simp [stL, lv_args, Value.category]) ?_
    refine V_cO (As := []) (st := [.int (Int32.ofInt ((p : Int)))]) mi_80_13 (by omega) (by decide +kernel) (by decide +kernel) (by omega) g4o hG (evy_ct hG hX hB) (by omega) (show 0 = mN 109 by decide +kernel) (by simp [Value.category]) ?_
    rintro r w0 ⟨e0, rfl⟩
    rw [e0]
    refine V_cgt mi_80_16 ⟨by omega, by omega⟩ ⟨by omega, by omega⟩ (fun q => ?_) (fun q => ?_)
    · exact absurd q (by omega)
    · refine V_iload (v := Int32.ofInt ((p : Int))) mi_80_19 (by simp [stL, lv_args, Value.category]) ?_
      refine V_iload (v := Int32.ofInt ((o : Int))) mi_80_21 (by simp [stL, lv_args, Value.category]) ?_
      refine V_ibin mi_80_23 (by omega) ?_
      refine V_ipush mi_80_24 ?_
      refine V_ibin mi_80_25 (by omega) ?_
      rw [(tb_k (a := (p : Int)) (i := (o : Int)) (by omega) (by omega) (by omega) (by omega)).1]
      refine V_beq mi_80_26  (fun q2 => ?_) (fun q2 => ?_)
      · refine V_ipush mi_80_42 ?_
        refine V_istore mi_80_43 ?_
        refine V_iload (v := Int32.ofInt (0)) mi_80_45 (by simp [stL, lv_args, Value.category]) ?_
        refine V_zeq mi_80_47 ⟨by omega, by omega⟩ (fun q3 => ?_) (fun q3 => ?_)
        · refine V_iinc (v := Int32.ofInt ((p : Int))) mi_80_85 (by simp [stL, lv_args, Value.category]) ?_
          rw [ia2]
          refine V_goto mi_80_88 ?_
          refine V_sub (lv' := [(0, .ref (ad 36)), (1, .ref (ad 4)), (2, .ref (ad 32)), (3, .int (Int32.ofInt ((f : Int)))), (4, .int (Int32.ofInt ((o : Int)))), (5, .int (Int32.ofInt (a))), (6, .int (Int32.ofInt (szI a))), (7, .int (Int32.ofInt (((p + 1 : Nat) : Int))))]) (fun q hq => ?_) ?_
          · simp only [List.mem_cons, List.not_mem_nil, or_false] at hq
            rcases hq with rfl | rfl | rfl | rfl | rfl | rfl | rfl | rfl <;> simp [stL, lv_args, Value.category]
          rw [slS_n (fun k => by unfold viP at k; rw [q2, Bool.false_and, Bool.false_and] at k; exact absurd k.1 Bool.false_ne_true)] at kk
          exact vix_10 hX0 hS0 hB hf ho m (p + 1) a _ (by omega) ha hG hO kk
        · exact absurd rfl q3
      · refine V_iload (v := Int32.ofInt ((p : Int))) mi_80_29 (by simp [stL, lv_args, Value.category]) ?_
        refine V_iload (v := Int32.ofInt ((f : Int))) mi_80_31 (by simp [stL, lv_args, Value.category]) ?_
        refine V_ibin mi_80_32 (by omega) ?_
        refine V_ipush mi_80_33 ?_
        refine V_ibin mi_80_34 (by omega) ?_
        rw [(tb_k (a := (p : Int)) (i := (f : Int)) (by omega) (by omega) (by omega) (by omega)).1]
        refine V_bne mi_80_35  (fun q3 => ?_) (fun q3 => ?_)
        · refine V_ipush mi_80_42 ?_
          refine V_istore mi_80_43 ?_
          refine V_iload (v := Int32.ofInt (0)) mi_80_45 (by simp [stL, lv_args, Value.category]) ?_
          refine V_zeq mi_80_47 ⟨by omega, by omega⟩ (fun q4 => ?_) (fun q4 => ?_)
          · refine V_iinc (v := Int32.ofInt ((p : Int))) mi_80_85 (by simp [stL, lv_args, Value.category]) ?_
            rw [ia2]
            refine V_goto mi_80_88 ?_
            refine V_sub (lv' := [(0, .ref (ad 36)), (1, .ref (ad 4)), (2, .ref (ad 32)), (3, .int (Int32.ofInt ((f : Int)))), (4, .int (Int32.ofInt ((o : Int)))), (5, .int (Int32.ofInt (a))), (6, .int (Int32.ofInt (szI a))), (7, .int (Int32.ofInt (((p + 1 : Nat) : Int))))]) (fun q hq => ?_) ?_
            · simp only [List.mem_cons, List.not_mem_nil, or_false] at hq
              rcases hq with rfl | rfl | rfl | rfl | rfl | rfl | rfl | rfl <;> simp [stL, lv_args, Value.category]
            rw [slS_n (fun k => by unfold viP at k; rw [q3, Bool.not_true, Bool.and_false, Bool.false_and] at k; exact absurd k.1 Bool.false_ne_true)] at kk
            exact vix_10 hX0 hS0 hB hf ho m (p + 1) a _ (by omega) ha hG hO kk
          · exact absurd rfl q4
        · refine V_ipush mi_80_38 ?_
          refine V_goto mi_80_39 ?_
          refine V_istore mi_80_43 ?_
          refine V_iload (v := Int32.ofInt (1)) mi_80_45 (by simp [stL, lv_args, Value.category]) ?_
          refine V_zeq mi_80_47 ⟨by omega, by omega⟩ (fun q4 => ?_) (fun q4 => ?_)
          · exact absurd q4 (by omega)
          · refine V_iload (v := Int32.ofInt ((p : Int))) mi_80_50 (by simp [stL, lv_args, Value.category]) ?_
            refine V_stat (As := [.int (Int32.ofInt ((p : Int)))]) (st := []) mi_80_52 (by omega) (bcx_ct (a := (p : Int)) (by omega) (by omega)) (by omega) (show 1 = mN 344 by decide +kernel) (by simp [Value.category]) ⟨Nat.le_refl _, Nat.le_refl _⟩ ?_
            rintro r w1 ⟨e1, rfl⟩
            rw [e1]
            refine V_iload (v := Int32.ofInt (szI a)) mi_80_55 (by simp [stL, lv_args, Value.category]) ?_
            refine V_cge mi_80_57 ⟨by omega, by omega⟩ ⟨by omega, by omega⟩ (fun q5 => ?_) (fun q5 => ?_)
            · refine V_iinc (v := Int32.ofInt ((p : Int))) mi_80_85 (by simp [stL, lv_args, Value.category]) ?_
              rw [ia2]
              refine V_goto mi_80_88 ?_
              refine V_sub (lv' := [(0, .ref (ad 36)), (1, .ref (ad 4)), (2, .ref (ad 32)), (3, .int (Int32.ofInt ((f : Int)))), (4, .int (Int32.ofInt ((o : Int)))), (5, .int (Int32.ofInt (a))), (6, .int (Int32.ofInt (szI a))), (7, .int (Int32.ofInt (((p + 1 : Nat) : Int))))]) (fun q hq => ?_) ?_
              · simp only [List.mem_cons, List.not_mem_nil, or_false] at hq
                rcases hq with rfl | rfl | rfl | rfl | rfl | rfl | rfl | rfl <;> simp [stL, lv_args, Value.category]
              rw [slS_n (fun k => by have := k.2; omega)] at kk
              exact vix_10 hX0 hS0 hB hf ho m (p + 1) a _ (by omega) ha hG hO kk
            · refine V_aload (v := ad 36) mi_80_60 (by simp [stL, lv_args, Value.category]) ?_
              refine V_aload (v := ad 4) mi_80_61 (by simp [stL, lv_args, Value.category]) ?_
              refine V_aload (v := ad 32) mi_80_62 (by simp [stL, lv_args, Value.category]) ?_
              refine V_iload (v := Int32.ofInt ((f : Int))) mi_80_63 (by simp [stL, lv_args, Value.category]) ?_
              refine V_iload (v := Int32.ofInt ((p : Int))) mi_80_64 (by simp [stL, lv_args, Value.category]) ?_
              refine V_cO (As := [.ref (ad 4), .ref (ad 32), .int (Int32.ofInt ((f : Int))), .int (Int32.ofInt ((p : Int)))]) (st := []) mi_80_66 (by omega) (by decide +kernel) (by decide +kernel) (by omega) g36o hG (brou_ct (f := f) (so := (p : Int)) hX0 hS0 hB hf (by omega) (by omega) hG hO) (by omega) (show 4 = mN 78 by decide +kernel) (by simp [Value.category]) ?_
              rintro r w2 ⟨⟨G2, O2⟩, e2⟩
              rw [e2]
              have vc := viP_cl (p := p) hB (by omega : f < 6) (by omega) q3
              have vb := brV_bd (so := (p : Int)) hB (by omega : f < 6)
              have cb := (clB_k (i := f) vb.1.1 vb.1.2 (by omega)).1
              refine V_iload (v := Int32.ofInt ((p : Int))) mi_80_69 (by simp [stL, lv_args, Value.category]) ?_
              refine V_cne mi_80_71 ⟨by omega, by omega⟩ ⟨by omega, by omega⟩ (fun q6 => ?_) (fun q6 => ?_)
              · refine V_iinc (v := Int32.ofInt ((p : Int))) mi_80_85 (by simp [stL, lv_args, Value.category]) ?_
                rw [ia2]
                refine V_goto mi_80_88 ?_
                refine V_sub (lv' := [(0, .ref (ad 36)), (1, .ref (ad 4)), (2, .ref (ad 32)), (3, .int (Int32.ofInt ((f : Int)))), (4, .int (Int32.ofInt ((o : Int)))), (5, .int (Int32.ofInt (a))), (6, .int (Int32.ofInt (szI a))), (7, .int (Int32.ofInt (((p + 1 : Nat) : Int))))]) (fun q hq => ?_) ?_
                · simp only [List.mem_cons, List.not_mem_nil, or_false] at hq
                  rcases hq with rfl | rfl | rfl | rfl | rfl | rfl | rfl | rfl <;> simp [stL, lv_args, Value.category]
                rw [slS_n (fun k => by unfold viP at k; rw [decide_eq_false (fun e => q6 (vc.mpr e)), Bool.and_false] at k; exact absurd k.1 Bool.false_ne_true)] at kk
                exact vix_10 hX0 hS0 hB hf ho m (p + 1) a _ (by omega) ha G2 O2 kk
              · refine V_iload (v := Int32.ofInt ((p : Int))) mi_80_74 (by simp [stL, lv_args, Value.category]) ?_
                refine V_istore mi_80_76 ?_
                refine V_iload (v := Int32.ofInt ((p : Int))) mi_80_78 (by simp [stL, lv_args, Value.category]) ?_
                refine V_stat (As := [.int (Int32.ofInt ((p : Int)))]) (st := []) mi_80_80 (by omega) (bcx_ct (a := (p : Int)) (by omega) (by omega)) (by omega) (show 1 = mN 344 by decide +kernel) (by simp [Value.category]) ⟨Nat.le_refl _, Nat.le_refl _⟩ ?_
                rintro r w3 ⟨e3, rfl⟩
                rw [e3, ← szI_p]
                refine V_istore mi_80_83 ?_
                refine V_iinc (v := Int32.ofInt ((p : Int))) mi_80_85 (by simp [stL, lv_args, Value.category]) ?_
                rw [ia2]
                refine V_goto mi_80_88 ?_
                refine V_sub (lv' := [(0, .ref (ad 36)), (1, .ref (ad 4)), (2, .ref (ad 32)), (3, .int (Int32.ofInt ((f : Int)))), (4, .int (Int32.ofInt ((o : Int)))), (5, .int (Int32.ofInt ((p : Int)))), (6, .int (Int32.ofInt (szI (p : Int)))), (7, .int (Int32.ofInt (((p + 1 : Nat) : Int))))]) (fun q hq => ?_) ?_
                · simp only [List.mem_cons, List.not_mem_nil, or_false] at hq
                  rcases hq with rfl | rfl | rfl | rfl | rfl | rfl | rfl | rfl <;> simp [stL, lv_args, Value.category]
                rw [slS_y ⟨by unfold viP; rw [q2, q3, decide_eq_true (vc.mp q6)]; rfl, by omega⟩] at kk
                exact vix_10 hX0 hS0 hB hf ho m (p + 1) (p : Int) _ (by omega) ⟨by omega, by omega⟩ G2 O2 kk
theorem few_ct {G : Nat → Int} (hG : GOK ad tys GG ws) (hX : HX 4 G ws) (hB : HB G) (hS : STO G ws) {f o : Nat} (hf : (f : Int) < G 3) (ho : (o : Int) < G 3) : CT l D tys A 80 4 0 0 [.ref (ad 36), .ref (ad 4), .ref (ad 32), .int (Int32.ofInt ((f : Int))), .int (Int32.ofInt ((o : Int)))] ws (fun r w => (GOK ad tys GG w ∧ XSC ws w) ∧ r = some (.int (Int32.ofInt (slS (viP G f o) (allV (G 3) + 1).toNat 0 (-1))))) := by
  refine CT_of_V (by omega) (show (5 : Nat) ≤ mML 80 by decide +kernel) ?_
  have b3 := hB.b3
  have al := all6 b3
  refine V_ipush mi_80_0 ?_
  refine V_istore mi_80_1 ?_
  refine V_ipush mi_80_3 ?_
  refine V_istore mi_80_5 ?_
  refine V_ipush mi_80_7 ?_
  refine V_istore mi_80_8 ?_
  refine V_sub (lv' := [(0, .ref (ad 36)), (1, .ref (ad 4)), (2, .ref (ad 32)), (3, .int (Int32.ofInt ((f : Int)))), (4, .int (Int32.ofInt ((o : Int)))), (5, .int (Int32.ofInt ((-1)))), (6, .int (Int32.ofInt (7))), (7, .int (Int32.ofInt (((0 : Nat) : Int))))]) (fun q hq => ?_) ?_
  · simp only [List.mem_cons, List.not_mem_nil, or_false] at hq
    rcases hq with rfl | rfl | rfl | rfl | rfl | rfl | rfl | rfl <;> simp [stL, lv_args, Value.category]
  rw [show (7 : Int) = szI (-1) from rfl]
  exact vix_10 hX hS hB hf ho (allV (G 3) + 1).toNat 0 (-1) ws (by omega) ⟨by omega, by omega⟩ hG (fun _ _ _ => rfl) (fun w a b => ⟨⟨a, b⟩, rfl⟩)
theorem vim_5 {G : Nat → Int} {w0 : va_W} (hT : MT ad tys G w0 ws) (hW : W91 G ws) (hB : HB G) {f o : Nat} {post : Option Value → va_W → Prop} (hf : (f : Int) < G 3) (ho : (o : Int) < G 3) : ∀ (m p : Nat) (a : Int), ((p + m : Nat) : Int) = allV (G 3) + 1 → (-1 ≤ a ∧ a ≤ 63) → post (some (.int (Int32.ofInt (slS (viP G f o) m p a)))) ws → V l D tys A 279 4 0 0 post 0 0 5 [(0, .ref (ad 90)), (1, .int (Int32.ofInt ((f : Int)))), (2, .int (Int32.ofInt ((o : Int)))), (3, .int (Int32.ofInt (a))), (4, .int (Int32.ofInt ((p : Int))))] [] ws
  | 0, p, a, hm, ha, kk => by
    have b3 := hB.b3
    have b2 := hB.b2
    have al := all6 b3
    have cp := bcS_bd (a := (p : Int)) 6
    have ca := bcS_bd (a := a) 6
    refine V_iload (v := Int32.ofInt ((p : Int))) mi_279_5 (by simp [stL, lv_args, Value.category]) ?_
    refine V_aload (v := ad 90) mi_279_7 (by simp [stL, lv_args, Value.category]) ?_
    refine V_callM (As := []) (st := [.int (Int32.ofInt ((p : Int)))]) mi_279_8 (by omega) (by decide +kernel) (by decide +kernel) hT.1 (alm_ct hT.1 hW) (by omega) (show 0 = mN 209 by decide +kernel) (by simp [Value.category]) ?_
    rintro r w0 ⟨e0, rfl⟩
    rw [e0]
    refine V_cgt mi_279_11 ⟨by omega, by omega⟩ ⟨by omega, by omega⟩ (fun q => ?_) (fun q => ?_)
    · refine V_iload (v := Int32.ofInt (a)) mi_279_82 (by simp [stL, lv_args, Value.category]) ?_
      exact V_retI mi_279_83 (fun h => absurd h (by decide +kernel)) kk
    · exact absurd q (by omega)
  | m + 1, p, a, hm, ha, kk => by
    have b3 := hB.b3
    have b2 := hB.b2
    have al := all6 b3
    have cp := bcS_bd (a := (p : Int)) 6
    have ca := bcS_bd (a := a) 6
    refine V_iload (v := Int32.ofInt ((p : Int))) mi_279_5 (by simp [stL, lv_args, Value.category]) ?_
    refine V_aload (v := ad 90) mi_279_7 (by simp [stL, lv_args, Value.category]) ?_
    refine V_callM (As := []) (st := [.int (Int32.ofInt ((p : Int)))]) mi_279_8 (by omega) (by decide +kernel) (by decide +kernel) hT.1 (alm_ct hT.1 hW) (by omega) (show 0 = mN 209 by decide +kernel) (by simp [Value.category]) ?_
    rintro r w0 ⟨e0, rfl⟩
    rw [e0]
    refine V_cgt mi_279_11 ⟨by omega, by omega⟩ ⟨by omega, by omega⟩ (fun q => ?_) (fun q => ?_)
    · exact absurd q (by omega)
    · refine V_iload (v := Int32.ofInt ((p : Int))) mi_279_14 (by simp [stL, lv_args, Value.category]) ?_
      refine V_iload (v := Int32.ofInt ((o : Int))) mi_279_16 (by simp [stL, lv_args, Value.category]) ?_
      refine V_stat (As := [.int (Int32.ofInt ((p : Int))), .int (Int32.ofInt ((o : Int)))]) (st := []) mi_279_17 (by omega) (bit_ct _ _ _) (by omega) (show 2 = mN 195 by decide +kernel) (by simp [Value.category]) ⟨Nat.le_refl _, Nat.le_refl _⟩ ?_
      rintro r w1 ⟨e1, rfl⟩
      rw [e1, (tb_k (a := (p : Int)) (i := (o : Int)) (by omega) (by omega) (by omega) (by omega)).1]
      refine V_beq mi_279_20  (fun q2 => ?_) (fun q2 => ?_)
      · refine V_iinc (v := Int32.ofInt ((p : Int))) mi_279_76 (by simp [stL, lv_args, Value.category]) ?_
        rw [ia2]
        refine V_goto mi_279_79 ?_
        refine V_sub (lv' := [(0, .ref (ad 90)), (1, .int (Int32.ofInt ((f : Int)))), (2, .int (Int32.ofInt ((o : Int)))), (3, .int (Int32.ofInt (a))), (4, .int (Int32.ofInt (((p + 1 : Nat) : Int))))]) (fun q hq => ?_) ?_
        · simp only [List.mem_cons, List.not_mem_nil, or_false] at hq
          rcases hq with rfl | rfl | rfl | rfl | rfl <;> simp [stL, lv_args, Value.category]
        rw [slS_n (fun k => by unfold viP at k; rw [q2, Bool.false_and, Bool.false_and] at k; exact absurd k.1 Bool.false_ne_true)] at kk
        exact vim_5 hT hW hB hf ho m (p + 1) a (by omega) ha kk
      · refine V_iload (v := Int32.ofInt ((p : Int))) mi_279_23 (by simp [stL, lv_args, Value.category]) ?_
        refine V_iload (v := Int32.ofInt ((f : Int))) mi_279_25 (by simp [stL, lv_args, Value.category]) ?_
        refine V_stat (As := [.int (Int32.ofInt ((p : Int))), .int (Int32.ofInt ((f : Int)))]) (st := []) mi_279_26 (by omega) (bit_ct _ _ _) (by omega) (show 2 = mN 195 by decide +kernel) (by simp [Value.category]) ⟨Nat.le_refl _, Nat.le_refl _⟩ ?_
        rintro r w2 ⟨e2, rfl⟩
        rw [e2, (tb_k (a := (p : Int)) (i := (f : Int)) (by omega) (by omega) (by omega) (by omega)).1, bI_if]
        refine V_ipush mi_279_29 ?_
        refine V_ceq mi_279_30 ⟨by split <;> omega, by split <;> omega⟩ ⟨by omega, by omega⟩ (fun q3 => ?_) (fun q3 => ?_)
        · refine V_iinc (v := Int32.ofInt ((p : Int))) mi_279_76 (by simp [stL, lv_args, Value.category]) ?_
          rw [ia2]
          refine V_goto mi_279_79 ?_
          refine V_sub (lv' := [(0, .ref (ad 90)), (1, .int (Int32.ofInt ((f : Int)))), (2, .int (Int32.ofInt ((o : Int)))), (3, .int (Int32.ofInt (a))), (4, .int (Int32.ofInt (((p + 1 : Nat) : Int))))]) (fun q hq => ?_) ?_
          · simp only [List.mem_cons, List.not_mem_nil, or_false] at hq
            rcases hq with rfl | rfl | rfl | rfl | rfl <;> simp [stL, lv_args, Value.category]
          rw [slS_n (fun k => by unfold viP at k; rw [show tb (p : Int) (f : Int) = true from (by cases c : tb (p : Int) (f : Int) with | false => exact absurd q3 (by rw [c, if_neg Bool.false_ne_true]; omega) | true => rfl), Bool.not_true, Bool.and_false, Bool.false_and] at k; exact absurd k.1 Bool.false_ne_true)] at kk
          exact vim_5 hT hW hB hf ho m (p + 1) a (by omega) ha kk
        · have q4 : tb (p : Int) (f : Int) = false := by
            cases c : tb (p : Int) (f : Int) with
            | false => rfl
            | true => exact absurd (by rw [if_pos c]) q3
          refine V_iload (v := Int32.ofInt (a)) mi_279_33 (by simp [stL, lv_args, Value.category]) ?_
          refine V_ipush mi_279_34 ?_
          refine V_ceq mi_279_35 ⟨by omega, by omega⟩ ⟨by omega, by omega⟩ (fun q5 => ?_) (fun q5 => ?_)
          · refine V_aload (v := ad 90) mi_279_53 (by simp [stL, lv_args, Value.category]) ?_
            refine V_iload (v := Int32.ofInt ((f : Int))) mi_279_54 (by simp [stL, lv_args, Value.category]) ?_
            refine V_iload (v := Int32.ofInt ((p : Int))) mi_279_55 (by simp [stL, lv_args, Value.category]) ?_
            refine V_callM (As := [.int (Int32.ofInt ((f : Int))), .int (Int32.ofInt ((p : Int)))]) (st := []) mi_279_57 (by omega) (by decide +kernel) (by decide +kernel) hT.1 (bru_ct (f := f) (so := (p : Int)) hT hW hB (by omega) (by omega) (by omega)) (by omega) (show 2 = mN 277 by decide +kernel) (by simp [Value.category]) ?_
            rintro r w3 ⟨e3, rfl⟩
            rw [e3]
            have vb := brV_bd (so := (p : Int)) hB (by omega : f < 6)
            have bb := bitO_bd (a := (p : Int)) (i := (f : Int)) (by omega) (by omega) (by omega) (by omega)
            refine V_iload (v := Int32.ofInt ((p : Int))) mi_279_60 (by simp [stL, lv_args, Value.category]) ?_
            refine V_ipush mi_279_62 ?_
            refine V_iload (v := Int32.ofInt ((f : Int))) mi_279_63 (by simp [stL, lv_args, Value.category]) ?_
            refine V_ibin mi_279_64 (by omega) ?_
            refine V_ibin mi_279_65 (by omega) ?_
            rw [bitO_i]
            refine V_cne mi_279_66 ⟨by omega, by omega⟩ ⟨by omega, by omega⟩ (fun q6 => ?_) (fun q6 => ?_)
            · refine V_iload (v := Int32.ofInt (a)) mi_279_74 (by simp [stL, lv_args, Value.category]) ?_
              refine V_istore mi_279_75 ?_
              refine V_iinc (v := Int32.ofInt ((p : Int))) mi_279_76 (by simp [stL, lv_args, Value.category]) ?_
              rw [ia2]
              refine V_goto mi_279_79 ?_
              refine V_sub (lv' := [(0, .ref (ad 90)), (1, .int (Int32.ofInt ((f : Int)))), (2, .int (Int32.ofInt ((o : Int)))), (3, .int (Int32.ofInt (a))), (4, .int (Int32.ofInt (((p + 1 : Nat) : Int))))]) (fun q hq => ?_) ?_
              · simp only [List.mem_cons, List.not_mem_nil, or_false] at hq
                rcases hq with rfl | rfl | rfl | rfl | rfl <;> simp [stL, lv_args, Value.category]
              rw [slS_n (fun k => by unfold viP at k; rw [decide_eq_false q6, Bool.and_false] at k; exact absurd k.1 Bool.false_ne_true)] at kk
              exact vim_5 hT hW hB hf ho m (p + 1) a (by omega) ha kk
            · refine V_iload (v := Int32.ofInt ((p : Int))) mi_279_69 (by simp [stL, lv_args, Value.category]) ?_
              refine V_goto mi_279_71 ?_
              refine V_istore mi_279_75 ?_
              refine V_iinc (v := Int32.ofInt ((p : Int))) mi_279_76 (by simp [stL, lv_args, Value.category]) ?_
              rw [ia2]
              refine V_goto mi_279_79 ?_
              refine V_sub (lv' := [(0, .ref (ad 90)), (1, .int (Int32.ofInt ((f : Int)))), (2, .int (Int32.ofInt ((o : Int)))), (3, .int (Int32.ofInt ((p : Int)))), (4, .int (Int32.ofInt (((p + 1 : Nat) : Int))))]) (fun q hq => ?_) ?_
              · simp only [List.mem_cons, List.not_mem_nil, or_false] at hq
                rcases hq with rfl | rfl | rfl | rfl | rfl <;> simp [stL, lv_args, Value.category]
              rw [slS_y ⟨by unfold viP; rw [q2, q4, decide_eq_true q6]; rfl, by omega⟩] at kk
              exact vim_5 hT hW hB hf ho m (p + 1) (p : Int) (by omega) ⟨by omega, by omega⟩ kk
          · refine V_iload (v := Int32.ofInt ((p : Int))) mi_279_38 (by simp [stL, lv_args, Value.category]) ?_
            refine V_stat (As := [.int (Int32.ofInt ((p : Int)))]) (st := []) mi_279_40 (by omega) (bcm_ct (a := (p : Int)) (by omega) (by omega)) (by omega) (show 1 = mN 194 by decide +kernel) (by simp [Value.category]) ⟨Nat.le_refl _, Nat.le_refl _⟩ ?_
            rintro r w4 ⟨e4, rfl⟩
            rw [e4]
            refine V_iload (v := Int32.ofInt (a)) mi_279_43 (by simp [stL, lv_args, Value.category]) ?_
            refine V_stat (As := [.int (Int32.ofInt (a))]) (st := [.int (Int32.ofInt (bcS (p : Int) 6))]) mi_279_44 (by omega) (bcm_ct (a := a) (by omega) (by omega)) (by omega) (show 1 = mN 194 by decide +kernel) (by simp [Value.category]) ⟨Nat.le_refl _, Nat.le_refl _⟩ ?_
            rintro r w5 ⟨e5, rfl⟩
            rw [e5]
            refine V_clt mi_279_47 ⟨by omega, by omega⟩ ⟨by omega, by omega⟩ (fun q7 => ?_) (fun q7 => ?_)
            · refine V_aload (v := ad 90) mi_279_53 (by simp [stL, lv_args, Value.category]) ?_
              refine V_iload (v := Int32.ofInt ((f : Int))) mi_279_54 (by simp [stL, lv_args, Value.category]) ?_
              refine V_iload (v := Int32.ofInt ((p : Int))) mi_279_55 (by simp [stL, lv_args, Value.category]) ?_
              refine V_callM (As := [.int (Int32.ofInt ((f : Int))), .int (Int32.ofInt ((p : Int)))]) (st := []) mi_279_57 (by omega) (by decide +kernel) (by decide +kernel) hT.1 (bru_ct (f := f) (so := (p : Int)) hT hW hB (by omega) (by omega) (by omega)) (by omega) (show 2 = mN 277 by decide +kernel) (by simp [Value.category]) ?_
              rintro r w3 ⟨e3, rfl⟩
              rw [e3]
              have vb := brV_bd (so := (p : Int)) hB (by omega : f < 6)
              have bb := bitO_bd (a := (p : Int)) (i := (f : Int)) (by omega) (by omega) (by omega) (by omega)
              refine V_iload (v := Int32.ofInt ((p : Int))) mi_279_60 (by simp [stL, lv_args, Value.category]) ?_
              refine V_ipush mi_279_62 ?_
              refine V_iload (v := Int32.ofInt ((f : Int))) mi_279_63 (by simp [stL, lv_args, Value.category]) ?_
              refine V_ibin mi_279_64 (by omega) ?_
              refine V_ibin mi_279_65 (by omega) ?_
              rw [bitO_i]
              refine V_cne mi_279_66 ⟨by omega, by omega⟩ ⟨by omega, by omega⟩ (fun q6 => ?_) (fun q6 => ?_)
              · refine V_iload (v := Int32.ofInt (a)) mi_279_74 (by simp [stL, lv_args, Value.category]) ?_
                refine V_istore mi_279_75 ?_
                refine V_iinc (v := Int32.ofInt ((p : Int))) mi_279_76 (by simp [stL, lv_args, Value.category]) ?_
                rw [ia2]
                refine V_goto mi_279_79 ?_
                refine V_sub (lv' := [(0, .ref (ad 90)), (1, .int (Int32.ofInt ((f : Int)))), (2, .int (Int32.ofInt ((o : Int)))), (3, .int (Int32.ofInt (a))), (4, .int (Int32.ofInt (((p + 1 : Nat) : Int))))]) (fun q hq => ?_) ?_
                · simp only [List.mem_cons, List.not_mem_nil, or_false] at hq
                  rcases hq with rfl | rfl | rfl | rfl | rfl <;> simp [stL, lv_args, Value.category]
                rw [slS_n (fun k => by unfold viP at k; rw [decide_eq_false q6, Bool.and_false] at k; exact absurd k.1 Bool.false_ne_true)] at kk
                exact vim_5 hT hW hB hf ho m (p + 1) a (by omega) ha kk
              · refine V_iload (v := Int32.ofInt ((p : Int))) mi_279_69 (by simp [stL, lv_args, Value.category]) ?_
                refine V_goto mi_279_71 ?_
                refine V_istore mi_279_75 ?_
                refine V_iinc (v := Int32.ofInt ((p : Int))) mi_279_76 (by simp [stL, lv_args, Value.category]) ?_
                rw [ia2]
                refine V_goto mi_279_79 ?_
                refine V_sub (lv' := [(0, .ref (ad 90)), (1, .int (Int32.ofInt ((f : Int)))), (2, .int (Int32.ofInt ((o : Int)))), (3, .int (Int32.ofInt ((p : Int)))), (4, .int (Int32.ofInt (((p + 1 : Nat) : Int))))]) (fun q hq => ?_) ?_
                · simp only [List.mem_cons, List.not_mem_nil, or_false] at hq
                  rcases hq with rfl | rfl | rfl | rfl | rfl <;> simp [stL, lv_args, Value.category]
                rw [slS_y ⟨by unfold viP; rw [q2, q4, decide_eq_true q6]; rfl, by omega⟩] at kk
                exact vim_5 hT hW hB hf ho m (p + 1) (p : Int) (by omega) ⟨by omega, by omega⟩ kk
            · refine V_goto mi_279_50 ?_
              refine V_iinc (v := Int32.ofInt ((p : Int))) mi_279_76 (by simp [stL, lv_args, Value.category]) ?_
              rw [ia2]
              refine V_goto mi_279_79 ?_
              refine V_sub (lv' := [(0, .ref (ad 90)), (1, .int (Int32.ofInt ((f : Int)))), (2, .int (Int32.ofInt ((o : Int)))), (3, .int (Int32.ofInt (a))), (4, .int (Int32.ofInt (((p + 1 : Nat) : Int))))]) (fun q hq => ?_) ?_
              · simp only [List.mem_cons, List.not_mem_nil, or_false] at hq
                rcases hq with rfl | rfl | rfl | rfl | rfl <;> simp [stL, lv_args, Value.category]
              rw [slS_n (fun k => by have := k.2; omega)] at kk
              exact vim_5 hT hW hB hf ho m (p + 1) a (by omega) ha kk
theorem vio_ct {G : Nat → Int} {w0 : va_W} (hT : MT ad tys G w0 ws) (hW : W91 G ws) (hB : HB G) {f o : Nat} (hf : (f : Int) < G 3) (ho : (o : Int) < G 3) : CT l D tys A 279 4 0 0 [.ref (ad 90), .int (Int32.ofInt ((f : Int))), .int (Int32.ofInt ((o : Int)))] ws (fun r w => w = ws ∧ r = some (.int (Int32.ofInt (slS (viP G f o) (allV (G 3) + 1).toNat 0 (-1))))) := by
  refine CT_of_V (by omega) (show (3 : Nat) ≤ mML 279 by decide +kernel) ?_
  have b3 := hB.b3
  have al := all6 b3
  refine V_ipush mi_279_0 ?_
  refine V_istore mi_279_1 ?_
  refine V_ipush mi_279_2 ?_
  refine V_istore mi_279_3 ?_
  refine V_sub (lv' := [(0, .ref (ad 90)), (1, .int (Int32.ofInt ((f : Int)))), (2, .int (Int32.ofInt ((o : Int)))), (3, .int (Int32.ofInt ((-1)))), (4, .int (Int32.ofInt (((0 : Nat) : Int))))]) (fun q hq => ?_) ?_
  · simp only [List.mem_cons, List.not_mem_nil, or_false] at hq
    rcases hq with rfl | rfl | rfl | rfl | rfl <;> simp [stL, lv_args, Value.category]
  exact vim_5 hT hW hB hf ho (allV (G 3) + 1).toNat 0 (-1) (by omega) ⟨by omega, by omega⟩ ⟨rfl, rfl⟩
theorem bgX_ct {G : Nat → Int} (hG : GOK ad tys GG ws) (hX : HX 4 G ws) (hB : HB G) (hS : STO G ws) {f o : Int} (fI : I32 f) (oI : I32 o) : CT l D tys A 33 5 0 0 [.ref (ad 0), .int (Int32.ofInt (f)), .int (Int32.ofInt (o))] ws (fun r w => (GOK ad tys GG w ∧ XSC ws w) ∧ r = some (.int (if (0 ≤ f ∧ f < G 3) ∧ (0 ≤ o ∧ o < G 3) ∧ f ≠ o then Int32.ofInt (sozV (slS (viP G f.toNat o.toNat) (allV (G 3) + 1).toNat 0 (-1))) else Int32.ofInt (-2)))) := by
  refine CT_of_V (by omega) (show (3 : Nat) ≤ mML 33 by decide +kernel) ?_
  have b3 := hB.b3
  have b2 := hB.b2
  have al := all6 b3
  refine V_aload (v := ad 0) mi_33_0 (by simp [stL, lv_args, Value.category]) ?_
  refine V_iload (v := Int32.ofInt (f)) mi_33_1 (by simp [stL, lv_args, Value.category]) ?_
  refine V_iload (v := Int32.ofInt (o)) mi_33_2 (by simp [stL, lv_args, Value.category]) ?_
  refine V_cO (As := [.int (Int32.ofInt (f)), .int (Int32.ofInt (o))]) (st := []) mi_33_3 (by omega) (by decide +kernel) (by decide +kernel) (by omega) g0o hG (two_ct hG hX hB fI oI) (by omega) (show 2 = mN 74 by decide +kernel) (by simp [Value.category]) ?_
  rintro r w1 ⟨rfl, rfl⟩
  refine V_bne mi_33_6  (fun c1 => ?_) (fun c1 => ?_)
  · have k1 := of_decide_eq_true c1
    obtain ⟨m, rfl⟩ := Int.eq_ofNat_of_zero_le k1.1.1
    obtain ⟨n, rfl⟩ := Int.eq_ofNat_of_zero_le k1.2.1.1
    refine V_aload (v := ad 0) mi_33_12 (by simp [stL, lv_args, Value.category]) ?_
    refine V_gR mi_33_13 g0r6 (by omega) hG ?_
    refine V_aload (v := ad 0) mi_33_16 (by simp [stL, lv_args, Value.category]) ?_
    refine V_gR mi_33_17 g0r2 (by omega) hG ?_
    refine V_aload (v := ad 0) mi_33_20 (by simp [stL, lv_args, Value.category]) ?_
    refine V_gR mi_33_21 g0r5 (by omega) hG ?_
    refine V_iload (v := Int32.ofInt ((m : Int))) mi_33_24 (by simp [stL, lv_args, Value.category]) ?_
    refine V_iload (v := Int32.ofInt ((n : Int))) mi_33_25 (by simp [stL, lv_args, Value.category]) ?_
    refine V_cO (As := [.ref (ad 4), .ref (ad 32), .int (Int32.ofInt ((m : Int))), .int (Int32.ofInt ((n : Int)))]) (st := []) mi_33_26 (by omega) (by decide +kernel) (by decide +kernel) (by omega) g36o hG (few_ct (f := m) (o := n) hG hX hB hS (by omega) (by omega)) (by omega) (show 4 = mN 80 by decide +kernel) (by simp [Value.category]) ?_
    rintro r w2 ⟨o2, rfl⟩
    have sb := slS_bd (P := viP G m n) (allV (G 3) + 1).toNat 0 (-1) (by omega) ⟨by omega, by omega⟩
    refine V_stat (As := [.int (Int32.ofInt (slS (viP G m n) (allV (G 3) + 1).toNat 0 (-1)))]) (st := []) mi_33_29 (by omega) (soz_ct (a := slS (viP G m n) (allV (G 3) + 1).toNat 0 (-1)) sb.1 sb.2) (by omega) (show 1 = mN 76 by decide +kernel) (by simp [Value.category]) ⟨Nat.le_refl _, Nat.le_refl _⟩ ?_
    rintro r w3 ⟨rfl, rfl⟩
    exact V_retI mi_33_32 (fun h => absurd h (by decide +kernel)) ⟨o2, by rw [if_pos k1, Int.toNat_natCast, Int.toNat_natCast]⟩
  · refine V_ipush mi_33_9 ?_
    exact V_retI mi_33_11 (fun h => absurd h (by decide +kernel)) ⟨⟨hG, fun _ _ _ => rfl⟩, by rw [if_neg (of_decide_eq_false c1)]⟩
theorem bgM_ct {G : Nat → Int} (hG : GOK ad tys GG ws) (hW : W91 G ws) (hB : HB G) (wf : WF G) (h24 : rd ws 90 24 = some (.int (Int32.ofInt 0))) (h22 : rd ws 90 22 = some (.int (Int32.ofInt (-1)))) {f o : Int} (fI : I32 f) (oI : I32 o) : CT l D tys A 280 9 0 0 [.ref (ad 90), .int (Int32.ofInt (f)), .int (Int32.ofInt (o))] ws (fun r w => (GOK ad tys GG w ∧ MTO ws w) ∧ r = some (.int (if (0 ≤ f ∧ f < G 3) ∧ (0 ≤ o ∧ o < G 3) ∧ f ≠ o then Int32.ofInt (sozV (slS (viP G f.toNat o.toNat) (allV (G 3) + 1).toNat 0 (-1))) else Int32.ofInt (-2)))) := by
  refine CT_of_V (by omega) (show (3 : Nat) ≤ mML 280 by decide +kernel) ?_
  have b3 := hB.b3
  have b2 := hB.b2
  have al := all6 b3
  refine V_aload (v := ad 90) mi_280_0 (by simp [stL, lv_args, Value.category]) ?_
  refine V_iload (v := Int32.ofInt (f)) mi_280_1 (by simp [stL, lv_args, Value.category]) ?_
  refine V_iload (v := Int32.ofInt (o)) mi_280_2 (by simp [stL, lv_args, Value.category]) ?_
  refine V_callM (As := [.int (Int32.ofInt (f)), .int (Int32.ofInt (o))]) (st := []) mi_280_3 (by omega) (by decide +kernel) (by decide +kernel) hG (m2_ct hG hW hB fI oI) (by omega) (show 2 = mN 200 by decide +kernel) (by simp [Value.category]) ?_
  rintro r w1 ⟨rfl, rfl⟩
  refine V_bne mi_280_6  (fun c1 => ?_) (fun c1 => ?_)
  · have k1 := of_decide_eq_true c1
    obtain ⟨m, rfl⟩ := Int.eq_ofNat_of_zero_le k1.1.1
    obtain ⟨n, rfl⟩ := Int.eq_ofNat_of_zero_le k1.2.1.1
    refine V_aload (v := ad 90) mi_280_12 (by simp [stL, lv_args, Value.category]) ?_
    refine V_callM (As := []) (st := []) mi_280_13 (by omega) (by decide +kernel) (by decide +kernel) hG (gt_ct hB wf hG hW h24 h22) (by omega) (show 0 = mN 238 by decide +kernel) (by simp [Value.category]) ?_
    rintro r w4 ⟨rfl, T⟩
    refine V_aload (v := ad 90) mi_280_16 (by simp [stL, lv_args, Value.category]) ?_
    refine V_iload (v := Int32.ofInt ((m : Int))) mi_280_17 (by simp [stL, lv_args, Value.category]) ?_
    refine V_iload (v := Int32.ofInt ((n : Int))) mi_280_18 (by simp [stL, lv_args, Value.category]) ?_
    refine V_callM (As := [.int (Int32.ofInt ((m : Int))), .int (Int32.ofInt ((n : Int)))]) (st := []) mi_280_19 (by omega) (by decide +kernel) (by decide +kernel) T.1 (vio_ct (f := m) (o := n) T (mt_w T hW) hB (by omega) (by omega)) (by omega) (show 2 = mN 279 by decide +kernel) (by simp [Value.category]) ?_
    rintro r w5 ⟨rfl, rfl⟩
    have sb := slS_bd (P := viP G m n) (allV (G 3) + 1).toNat 0 (-1) (by omega) ⟨by omega, by omega⟩
    refine V_istore mi_280_22 ?_
    refine V_iload (v := Int32.ofInt (slS (viP G m n) (allV (G 3) + 1).toNat 0 (-1))) mi_280_23 (by simp [stL, lv_args, Value.category]) ?_
    refine V_ipush mi_280_24 ?_
    refine V_cne mi_280_25 ⟨by omega, by omega⟩ ⟨by omega, by omega⟩ (fun q6 => ?_) (fun q6 => ?_)
    · refine V_iload (v := Int32.ofInt (slS (viP G m n) (allV (G 3) + 1).toNat 0 (-1))) mi_280_32 (by simp [stL, lv_args, Value.category]) ?_
      refine V_stat (As := [.int (Int32.ofInt (slS (viP G m n) (allV (G 3) + 1).toNat 0 (-1)))]) (st := []) mi_280_33 (by omega) (bcm_ct (a := slS (viP G m n) (allV (G 3) + 1).toNat 0 (-1)) (by omega) (by omega)) (by omega) (show 1 = mN 194 by decide +kernel) (by simp [Value.category]) ⟨Nat.le_refl _, Nat.le_refl _⟩ ?_
      rintro r w6 ⟨rfl, rfl⟩
      exact V_retI mi_280_36 (fun h => absurd h (by decide +kernel)) ⟨⟨T.1, T.2.2.2⟩, by rw [if_pos k1, Int.toNat_natCast, Int.toNat_natCast]; unfold sozV; rw [if_neg (by omega)]⟩
    · refine V_ipush mi_280_28 ?_
      refine V_goto mi_280_29 ?_
      exact V_retI mi_280_36 (fun h => absurd h (by decide +kernel)) ⟨⟨T.1, T.2.2.2⟩, by rw [if_pos k1, Int.toNat_natCast, Int.toNat_natCast]; unfold sozV; rw [if_pos (by omega)]⟩
  · refine V_ipush mi_280_9 ?_
    exact V_retI mi_280_11 (fun h => absurd h (by decide +kernel)) ⟨⟨hG, fun _ _ _ _ => rfl⟩, by rw [if_neg (of_decide_eq_false c1)]⟩
theorem pairT_biddings (hAD : ∀ i : Nat, ad (1000 + i) = D.2 1000 i) (hG : GOK ad tys GG ws) (hR : RELW ws) (a1 a2 : Int32) : PAIRT l D tys A ad 33 280 [.ref (ad 0), .int a1, .int a2] [.ref (ad 90), .int a1, .int a2] ws := by
  obtain ⟨G0, o0, x0, y0⟩ := hR.1.2.1
  obtain ⟨G, o, x, y, hb, wf, hS⟩ := aux_sto hR.2 x0 y0 o0 (hb_of hG y0 o0)
  have c1 := bgX_ct (l := l) (D := D) (A := A) hG x hb hS (i32b a1) (i32b a2)
  have c2 := fun (w : va_W) (hw : GOK ad tys GG w) (K : XSC ws w) => bgM_ct (l := l) (D := D) (A := A) hw (XSC_W K y) hb wf ((K _ _ (by omega)).trans hR.2.2.2.2.2) ((K _ _ (by omega)).trans hR.2.2.2.2.1) (i32b a1) (i32b a2)
  simp only [oi] at c1 c2
  exact pairT_sc hR (by omega) (by omega) c1 c2
theorem vaX_ct {G : Nat → Int} (hG : GOK ad tys GG ws) (hX : HX 4 G ws) (hB : HB G) (hS : STO G ws) {f o : Int} (fI : I32 f) (oI : I32 o) : CT l D tys A 34 5 0 0 [.ref (ad 0), .int (Int32.ofInt (f)), .int (Int32.ofInt (o))] ws (fun r w => (GOK ad tys GG w ∧ XSC ws w) ∧ r = some (.int (if (0 ≤ f ∧ f < G 3) ∧ (0 ≤ o ∧ o < G 3) ∧ f ≠ o then Int32.ofInt (slS (viP G f.toNat o.toNat) (allV (G 3) + 1).toNat 0 (-1)) else Int32.ofInt (-2)))) := by
  refine CT_of_V (by omega) (show (3 : Nat) ≤ mML 34 by decide +kernel) ?_
  have b3 := hB.b3
  have b2 := hB.b2
  have al := all6 b3
  refine V_aload (v := ad 0) mi_34_0 (by simp [stL, lv_args, Value.category]) ?_
  refine V_iload (v := Int32.ofInt (f)) mi_34_1 (by simp [stL, lv_args, Value.category]) ?_
  refine V_iload (v := Int32.ofInt (o)) mi_34_2 (by simp [stL, lv_args, Value.category]) ?_
  refine V_cO (As := [.int (Int32.ofInt (f)), .int (Int32.ofInt (o))]) (st := []) mi_34_3 (by omega) (by decide +kernel) (by decide +kernel) (by omega) g0o hG (two_ct hG hX hB fI oI) (by omega) (show 2 = mN 74 by decide +kernel) (by simp [Value.category]) ?_
  rintro r w1 ⟨rfl, rfl⟩
  refine V_beq mi_34_6  (fun c1 => ?_) (fun c1 => ?_)
  · refine V_ipush mi_34_29 ?_
    exact V_retI mi_34_31 (fun h => absurd h (by decide +kernel)) ⟨⟨hG, fun _ _ _ => rfl⟩, by rw [if_neg (of_decide_eq_false c1)]⟩
  · have k1 := of_decide_eq_true c1
    obtain ⟨m, rfl⟩ := Int.eq_ofNat_of_zero_le k1.1.1
    obtain ⟨n, rfl⟩ := Int.eq_ofNat_of_zero_le k1.2.1.1
    refine V_aload (v := ad 0) mi_34_9 (by simp [stL, lv_args, Value.category]) ?_
    refine V_gR mi_34_10 g0r6 (by omega) hG ?_
    refine V_aload (v := ad 0) mi_34_13 (by simp [stL, lv_args, Value.category]) ?_
    refine V_gR mi_34_14 g0r2 (by omega) hG ?_
    refine V_aload (v := ad 0) mi_34_17 (by simp [stL, lv_args, Value.category]) ?_
    refine V_gR mi_34_18 g0r5 (by omega) hG ?_
    refine V_iload (v := Int32.ofInt ((m : Int))) mi_34_21 (by simp [stL, lv_args, Value.category]) ?_
    refine V_iload (v := Int32.ofInt ((n : Int))) mi_34_22 (by simp [stL, lv_args, Value.category]) ?_
    refine V_cO (As := [.ref (ad 4), .ref (ad 32), .int (Int32.ofInt ((m : Int))), .int (Int32.ofInt ((n : Int)))]) (st := []) mi_34_23 (by omega) (by decide +kernel) (by decide +kernel) (by omega) g36o hG (few_ct (f := m) (o := n) hG hX hB hS (by omega) (by omega)) (by omega) (show 4 = mN 80 by decide +kernel) (by simp [Value.category]) ?_
    rintro r w2 ⟨o2, rfl⟩
    refine V_goto mi_34_26 ?_
    exact V_retI mi_34_31 (fun h => absurd h (by decide +kernel)) ⟨o2, by rw [if_pos k1, Int.toNat_natCast, Int.toNat_natCast]⟩
theorem vaM_ct {G : Nat → Int} (hG : GOK ad tys GG ws) (hW : W91 G ws) (hB : HB G) (wf : WF G) (h24 : rd ws 90 24 = some (.int (Int32.ofInt 0))) (h22 : rd ws 90 22 = some (.int (Int32.ofInt (-1)))) {f o : Int} (fI : I32 f) (oI : I32 o) : CT l D tys A 281 9 0 0 [.ref (ad 90), .int (Int32.ofInt (f)), .int (Int32.ofInt (o))] ws (fun r w => (GOK ad tys GG w ∧ MTO ws w) ∧ r = some (.int (if (0 ≤ f ∧ f < G 3) ∧ (0 ≤ o ∧ o < G 3) ∧ f ≠ o then Int32.ofInt (slS (viP G f.toNat o.toNat) (allV (G 3) + 1).toNat 0 (-1)) else Int32.ofInt (-2)))) := by
  refine CT_of_V (by omega) (show (3 : Nat) ≤ mML 281 by decide +kernel) ?_
  have b3 := hB.b3
  have b2 := hB.b2
  have al := all6 b3
  refine V_aload (v := ad 90) mi_281_0 (by simp [stL, lv_args, Value.category]) ?_
  refine V_iload (v := Int32.ofInt (f)) mi_281_1 (by simp [stL, lv_args, Value.category]) ?_
  refine V_iload (v := Int32.ofInt (o)) mi_281_2 (by simp [stL, lv_args, Value.category]) ?_
  refine V_callM (As := [.int (Int32.ofInt (f)), .int (Int32.ofInt (o))]) (st := []) mi_281_3 (by omega) (by decide +kernel) (by decide +kernel) hG (m2_ct hG hW hB fI oI) (by omega) (show 2 = mN 200 by decide +kernel) (by simp [Value.category]) ?_
  rintro r w1 ⟨rfl, rfl⟩
  refine V_bne mi_281_6  (fun c1 => ?_) (fun c1 => ?_)
  · have k1 := of_decide_eq_true c1
    obtain ⟨m, rfl⟩ := Int.eq_ofNat_of_zero_le k1.1.1
    obtain ⟨n, rfl⟩ := Int.eq_ofNat_of_zero_le k1.2.1.1
    refine V_aload (v := ad 90) mi_281_12 (by simp [stL, lv_args, Value.category]) ?_
    refine V_callM (As := []) (st := []) mi_281_13 (by omega) (by decide +kernel) (by decide +kernel) hG (gt_ct hB wf hG hW h24 h22) (by omega) (show 0 = mN 238 by decide +kernel) (by simp [Value.category]) ?_
    rintro r w4 ⟨rfl, T⟩
    refine V_aload (v := ad 90) mi_281_16 (by simp [stL, lv_args, Value.category]) ?_
    refine V_iload (v := Int32.ofInt ((m : Int))) mi_281_17 (by simp [stL, lv_args, Value.category]) ?_
    refine V_iload (v := Int32.ofInt ((n : Int))) mi_281_18 (by simp [stL, lv_args, Value.category]) ?_
    refine V_callM (As := [.int (Int32.ofInt ((m : Int))), .int (Int32.ofInt ((n : Int)))]) (st := []) mi_281_19 (by omega) (by decide +kernel) (by decide +kernel) T.1 (vio_ct (f := m) (o := n) T (mt_w T hW) hB (by omega) (by omega)) (by omega) (show 2 = mN 279 by decide +kernel) (by simp [Value.category]) ?_
    rintro r w5 ⟨rfl, rfl⟩
    exact V_retI mi_281_22 (fun h => absurd h (by decide +kernel)) ⟨⟨T.1, T.2.2.2⟩, by rw [if_pos k1, Int.toNat_natCast, Int.toNat_natCast]⟩
  · refine V_ipush mi_281_9 ?_
    exact V_retI mi_281_11 (fun h => absurd h (by decide +kernel)) ⟨⟨hG, fun _ _ _ _ => rfl⟩, by rw [if_neg (of_decide_eq_false c1)]⟩
theorem pairT_via (hAD : ∀ i : Nat, ad (1000 + i) = D.2 1000 i) (hG : GOK ad tys GG ws) (hR : RELW ws) (a1 a2 : Int32) : PAIRT l D tys A ad 34 281 [.ref (ad 0), .int a1, .int a2] [.ref (ad 90), .int a1, .int a2] ws := by
  obtain ⟨G0, o0, x0, y0⟩ := hR.1.2.1
  obtain ⟨G, o, x, y, hb, wf, hS⟩ := aux_sto hR.2 x0 y0 o0 (hb_of hG y0 o0)
  have c1 := vaX_ct (l := l) (D := D) (A := A) hG x hb hS (i32b a1) (i32b a2)
  have c2 := fun (w : va_W) (hw : GOK ad tys GG w) (K : XSC ws w) => vaM_ct (l := l) (D := D) (A := A) hw (XSC_W K y) hb wf ((K _ _ (by omega)).trans hR.2.2.2.2.2) ((K _ _ (by omega)).trans hR.2.2.2.2.1) (i32b a1) (i32b a2)
  simp only [oi] at c1 c2
  exact pairT_sc hR (by omega) (by omega) c1 c2
end XTE
