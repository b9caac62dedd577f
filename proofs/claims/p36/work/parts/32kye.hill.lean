section XUE
variable {l : Launch} {D : va_G} {tys : List (ClassId × FieldType)} {A : Nat → Prop} {ad : Nat → Nat} {ws : va_W}
def yrK (G : Nat → Int) (s : Int) (f o i : Nat) : Int := (dwS G (s + (i : Int)) (G 2).toNat).1.K (6 * f + o)
/-- in how many of the first years o's name is known whole to f -/
def yrN (G : Nat → Int) (s : Int) (f o : Nat) : Nat → Nat
  | 0 => 0
  | i + 1 => if yrK G s f o i = allV (G (6 + 7 * o)) then yrN G s f o i + 1 else yrN G s f o i
theorem yrN_le {G : Nat → Int} {s : Int} {f o : Nat} : ∀ i : Nat, yrN G s f o i ≤ i
  | 0 => Nat.le_refl _
  | i + 1 => by
    have := yrN_le (G := G) (s := s) (f := f) (o := o) i
    unfold yrN
    split <;> omega
theorem yrN_y {G : Nat → Int} {s : Int} {f o i : Nat} (h : yrK G s f o i = allV (G (6 + 7 * o))) : yrN G s f o (i + 1) = yrN G s f o i + 1 := if_pos h
theorem yrN_n {G : Nat → Int} {s : Int} {f o i : Nat} (h : ¬ yrK G s f o i = allV (G (6 + 7 * o))) : yrN G s f o (i + 1) = yrN G s f o i := if_neg h
theorem yrK_bd {G : Nat → Int} {s : Int} {f o i : Nat} (hB : HB G) (hf : f < 6) (ho : o < 6) : 0 ≤ yrK G s f o i ∧ yrK G s f o i ≤ 63 := tellW_ok hB (G 2).toNat (6 * f + o) (by omega)
theorem yrx_57 {G : Nat → Int} {s n : Int} {f o : Nat} (hB : HB G) (s0 : 0 ≤ s ∧ s ≤ 2000000000) (n0 : 1 ≤ n ∧ n ≤ 20) (hf : f < 6) (ho : o < 6) (wf : WF G) {w0 : va_W} (hX0 : HX 4 G w0) (hS0 : STO G w0) {post : Option Value → va_W → Prop} : ∀ (m i : Nat) (ws : va_W), ((i + m : Nat) : Int) = n → GOK ad tys GG ws → XSC w0 ws → (∀ w : va_W, GOK ad tys GG w → XSC w0 w → post (some (.int (Int32.ofInt (yrN G s f o n.toNat : Int)))) w) → V l D tys A 65 4 0 0 post 0 0 57 [(0, .ref (ad 0)), (1, .int (Int32.ofInt (s))), (2, .int (Int32.ofInt (n))), (3, .int (Int32.ofInt ((f : Int)))), (4, .int (Int32.ofInt ((o : Int)))), (5, .int (Int32.ofInt ((yrN G s f o i : Int)))), (6, .int (Int32.ofInt ((i : Int))))] [] ws
  | 0, i, ws, hm, hG, hO, kk => by
    have b3 := hB.b3
    have b2 := hB.b2
    have yl := yrN_le (G := G) (s := s) (f := f) (o := o) i
    have yb := yrK_bd (G := G) (s := s) (f := f) (o := o) (i := i) hB hf ho
    have ia : I32 (allV (G (6 + 7 * o))) := i32b _
    refine V_iload (v := Int32.ofInt ((i : Int))) mi_65_57 (by simp [stL, stL2, lv_args, Value.category]) ?_
    refine V_iload (v := Int32.ofInt (n)) mi_65_59 (by simp [stL, stL2, lv_args, Value.category]) ?_
    refine V_cge mi_65_60 ⟨by omega, by omega⟩ ⟨by omega, by omega⟩ (fun q => ?_) (fun q => ?_)
    · refine V_iload (v := Int32.ofInt ((yrN G s f o i : Int))) mi_65_111 (by simp [stL, stL2, lv_args, Value.category]) ?_
      have e : i = n.toNat := by omega
      rw [e]
      exact V_retI mi_65_113 (fun h => absurd h (by decide +kernel)) (kk ws hG hO)
    · exact absurd q (by omega)
  | m + 1, i, ws, hm, hG, hO, kk => by
    have b3 := hB.b3
    have b2 := hB.b2
    have yl := yrN_le (G := G) (s := s) (f := f) (o := o) i
    have yb := yrK_bd (G := G) (s := s) (f := f) (o := o) (i := i) hB hf ho
    have ia : I32 (allV (G (6 + 7 * o))) := i32b _
    refine V_iload (v := Int32.ofInt ((i : Int))) mi_65_57 (by simp [stL, stL2, lv_args, Value.category]) ?_
    refine V_iload (v := Int32.ofInt (n)) mi_65_59 (by simp [stL, stL2, lv_args, Value.category]) ?_
    refine V_cge mi_65_60 ⟨by omega, by omega⟩ ⟨by omega, by omega⟩ (fun q => ?_) (fun q => ?_)
    · exact absurd q (by omega)
    · refine V_aload (v := ad 0) mi_65_63 (by simp [stL, stL2, lv_args, Value.category]) ?_
      refine V_gR mi_65_64 g0r4 (by omega) hG ?_
      refine V_aload (v := ad 0) mi_65_67 (by simp [stL, stL2, lv_args, Value.category]) ?_
      refine V_gR mi_65_68 g0r2 (by omega) hG ?_
      refine V_iload (v := Int32.ofInt (s)) mi_65_71 (by simp [stL, stL2, lv_args, Value.category]) ?_
      refine V_i2l mi_65_72 ?_
      rw [i2lx ⟨by omega, by omega⟩]
      refine V_iload (v := Int32.ofInt ((i : Int))) mi_65_73 (by simp [stL, stL2, lv_args, Value.category]) ?_
      refine V_i2l mi_65_75 ?_
      rw [i2lx ⟨by omega, by omega⟩]
      refine V_lbin mi_65_76 (by omega) ?_
      rw [ladd_]
      refine V_cO (As := [.ref (ad 4), .long (Int64.ofInt (s + (i : Int)))]) (st := []) mi_65_77 (by omega) (by decide +kernel) (by decide +kernel) (by omega) g28o hG (pld_ct (x0 := s + (i : Int)) hG (XSC_X hO hX0) (XSC_S hO hS0) hB wf) (by omega) (show 2 = mN 97 by decide +kernel) (by simp [Value.category]) ?_
      rintro r w1 ⟨rfl, G1, o1, k1⟩
      have hO1 : XSC w0 w1 := fun c j hc => (o1 c j hc).trans (hO c j hc)
      refine V_aload (v := ad 0) mi_65_80 (by simp [stL, stL2, lv_args, Value.category]) ?_
      refine V_gR mi_65_81 g0r4 (by omega) G1 ?_
      refine V_iload (v := Int32.ofInt ((f : Int))) mi_65_84 (by simp [stL, stL2, lv_args, Value.category]) ?_
      refine V_iload (v := Int32.ofInt ((o : Int))) mi_65_85 (by simp [stL, stL2, lv_args, Value.category]) ?_
      refine V_cO (As := [.int (Int32.ofInt ((f : Int))), .int (Int32.ofInt ((o : Int)))]) (st := []) mi_65_87 (by omega) (by decide +kernel) (by decide +kernel) (by omega) g28o G1 (bts_ct (f := f) (o := o) G1 hf ho (k1 _ (by omega) (by omega))) (by omega) (show 2 = mN 88 by decide +kernel) (by simp [Value.category]) ?_
      rintro r w2 ⟨e2, rfl⟩
      rw [e2]
      refine V_aload (v := ad 0) mi_65_90 (by simp [stL, stL2, lv_args, Value.category]) ?_
      refine V_gR mi_65_91 g0r2 (by omega) G1 ?_
      refine V_iload (v := Int32.ofInt ((o : Int))) mi_65_94 (by simp [stL, stL2, lv_args, Value.category]) ?_
      refine V_cO (As := [.int (Int32.ofInt ((o : Int)))]) (st := [.int (Int32.ofInt (yrK G s f o i))]) mi_65_96 (by omega) (by decide +kernel) (by decide +kernel) (by omega) g4o G1 (alf_ct (f := o) G1 (XSC_X hO1 hX0) hB ho) (by omega) (show 1 = mN 108 by decide +kernel) (by simp [Value.category]) ?_
      rintro r w3 ⟨e3, rfl⟩
      rw [e3]
      change V _ _ _ _ _ _ _ _ _ _ _ _ _ [.int (Int32.ofInt (allV (G (6 + 7 * o)))), .int (Int32.ofInt (yrK G s f o i))] _
      refine V_cne mi_65_99 ⟨by omega, by omega⟩ ia (fun q2 => ?_) (fun q2 => ?_)
      · rw [← yrN_n (G := G) (s := s) (f := f) (o := o) (i := i) q2]
        refine V_iinc (v := Int32.ofInt ((i : Int))) mi_65_105 (by simp [stL, stL2, lv_args, Value.category]) ?_
        rw [ia2]
        refine V_goto mi_65_108 ?_
        refine V_sub (lv' := [(0, .ref (ad 0)), (1, .int (Int32.ofInt (s))), (2, .int (Int32.ofInt (n))), (3, .int (Int32.ofInt ((f : Int)))), (4, .int (Int32.ofInt ((o : Int)))), (5, .int (Int32.ofInt ((yrN G s f o (i + 1) : Int)))), (6, .int (Int32.ofInt (((i + 1 : Nat) : Int))))]) (fun q hq => ?_) ?_
        · simp only [List.mem_cons, List.not_mem_nil, or_false] at hq
          rcases hq with rfl | rfl | rfl | rfl | rfl | rfl | rfl <;> simp [stL, stL2, lv_args, Value.category]
        exact yrx_57 hB s0 n0 hf ho wf hX0 hS0 m (i + 1) w1 (by omega) G1 hO1 kk
      · refine V_iinc (v := Int32.ofInt ((yrN G s f o i : Int))) mi_65_102 (by simp [stL, stL2, lv_args, Value.category]) ?_
        rw [ia2]
        rw [show (yrN G s f o i : Int) + 1 = (yrN G s f o (i + 1) : Int) by rw [yrN_y q2]; omega]
        refine V_iinc (v := Int32.ofInt ((i : Int))) mi_65_105 (by simp [stL, stL2, lv_args, Value.category]) ?_
        rw [ia2]
        refine V_goto mi_65_108 ?_
        refine V_sub (lv' := [(0, .ref (ad 0)), (1, .int (Int32.ofInt (s))), (2, .int (Int32.ofInt (n))), (3, .int (Int32.ofInt ((f : Int)))), (4, .int (Int32.ofInt ((o : Int)))), (5, .int (Int32.ofInt ((yrN G s f o (i + 1) : Int)))), (6, .int (Int32.ofInt (((i + 1 : Nat) : Int))))]) (fun q hq => ?_) ?_
        · simp only [List.mem_cons, List.not_mem_nil, or_false] at hq
          rcases hq with rfl | rfl | rfl | rfl | rfl | rfl | rfl <;> simp [stL, stL2, lv_args, Value.category]
        exact yrx_57 hB s0 n0 hf ho wf hX0 hS0 m (i + 1) w1 (by omega) G1 hO1 kk
theorem yrX_ct {G : Nat → Int} (hG : GOK ad tys GG ws) (hX : HX 4 G ws) (hB : HB G) (hS : STO G ws) (wf : WF G) {s n f o : Int} (sI : I32 s) (nI : I32 n) (fI : I32 f) (oI : I32 o) : CT l D tys A 65 4 0 0 [.ref (ad 0), .int (Int32.ofInt (s)), .int (Int32.ofInt (n)), .int (Int32.ofInt (f)), .int (Int32.ofInt (o))] ws (fun r w => (GOK ad tys GG w ∧ XSC ws w) ∧ r = some (.int (if (0 ≤ s ∧ s ≤ 2000000000) ∧ (1 ≤ n ∧ n ≤ 20) ∧ (0 ≤ f ∧ f < G 3) ∧ (0 ≤ o ∧ o < G 3) then Int32.ofInt (yrN G s f.toNat o.toNat n.toNat : Int) else Int32.ofInt (-2)))) := by
  refine CT_of_V (by omega) (show (5 : Nat) ≤ mML 65 by decide +kernel) ?_
  have b3 := hB.b3
  have s1 := sI.1
  have s2 := sI.2
  have n1 := nI.1
  have n2 := nI.2
  refine V_iload (v := Int32.ofInt (s)) mi_65_0 (by simp [stL, stL2, lv_args, Value.category]) ?_
  refine V_zlt mi_65_1 sI (fun q => ?_) (fun q => ?_)
  · refine V_ipush mi_65_22 ?_
    exact V_retI mi_65_24 (fun h => absurd h (by decide +kernel)) ⟨⟨hG, fun _ _ _ => rfl⟩, by rw [if_neg (fun k => by have := k.1.1; omega)]⟩
  · refine V_iload (v := Int32.ofInt (s)) mi_65_4 (by simp [stL, stL2, lv_args, Value.category]) ?_
    refine V_ipush mi_65_5 ?_
    refine V_cgt mi_65_8 ⟨by omega, by omega⟩ ⟨by omega, by omega⟩ (fun q2 => ?_) (fun q2 => ?_)
    · refine V_ipush mi_65_22 ?_
      exact V_retI mi_65_24 (fun h => absurd h (by decide +kernel)) ⟨⟨hG, fun _ _ _ => rfl⟩, by rw [if_neg (fun k => by have := k.1.2; omega)]⟩
    · refine V_iload (v := Int32.ofInt (n)) mi_65_11 (by simp [stL, stL2, lv_args, Value.category]) ?_
      refine V_ipush mi_65_12 ?_
      refine V_clt mi_65_13 ⟨by omega, by omega⟩ ⟨by omega, by omega⟩ (fun q3 => ?_) (fun q3 => ?_)
      · refine V_ipush mi_65_22 ?_
        exact V_retI mi_65_24 (fun h => absurd h (by decide +kernel)) ⟨⟨hG, fun _ _ _ => rfl⟩, by rw [if_neg (fun k => by have := k.2.1.1; omega)]⟩
      · refine V_iload (v := Int32.ofInt (n)) mi_65_16 (by simp [stL, stL2, lv_args, Value.category]) ?_
        refine V_ipush mi_65_17 ?_
        refine V_cle mi_65_19 ⟨by omega, by omega⟩ ⟨by omega, by omega⟩ (fun q4 => ?_) (fun q4 => ?_)
        · refine V_aload (v := ad 0) mi_65_25 (by simp [stL, stL2, lv_args, Value.category]) ?_
          refine V_gR mi_65_26 g0r2 (by omega) hG ?_
          refine V_iload (v := Int32.ofInt (f)) mi_65_29 (by simp [stL, stL2, lv_args, Value.category]) ?_
          refine V_cO (As := [.int (Int32.ofInt (f))]) (st := []) mi_65_30 (by omega) (by decide +kernel) (by decide +kernel) (by omega) g4o hG (hfk_ct hG hX hB fI) (by omega) (show 1 = mN 102 by decide +kernel) (by simp [Value.category]) ?_
          rintro r w1 ⟨rfl, rfl⟩
          refine V_beq mi_65_33  (fun c1 => ?_) (fun c1 => ?_)
          · refine V_ipush mi_65_48 ?_
            exact V_retI mi_65_50 (fun h => absurd h (by decide +kernel)) ⟨⟨hG, fun _ _ _ => rfl⟩, by rw [if_neg (fun k => of_decide_eq_false c1 k.2.2.1)]⟩
          · refine V_aload (v := ad 0) mi_65_36 (by simp [stL, stL2, lv_args, Value.category]) ?_
            refine V_gR mi_65_37 g0r2 (by omega) hG ?_
            refine V_iload (v := Int32.ofInt (o)) mi_65_40 (by simp [stL, stL2, lv_args, Value.category]) ?_
            refine V_cO (As := [.int (Int32.ofInt (o))]) (st := []) mi_65_42 (by omega) (by decide +kernel) (by decide +kernel) (by omega) g4o hG (hfk_ct hG hX hB oI) (by omega) (show 1 = mN 102 by decide +kernel) (by simp [Value.category]) ?_
            rintro r w2 ⟨rfl, rfl⟩
            refine V_bne mi_65_45  (fun c2 => ?_) (fun c2 => ?_)
            · have k1 := of_decide_eq_true c1
              have k2 := of_decide_eq_true c2
              obtain ⟨m, rfl⟩ := Int.eq_ofNat_of_zero_le k1.1
              obtain ⟨k, rfl⟩ := Int.eq_ofNat_of_zero_le k2.1
              refine V_ipush mi_65_51 ?_
              refine V_istore mi_65_52 ?_
              refine V_ipush mi_65_54 ?_
              refine V_istore mi_65_55 ?_
              refine V_sub (lv' := [(0, .ref (ad 0)), (1, .int (Int32.ofInt (s))), (2, .int (Int32.ofInt (n))), (3, .int (Int32.ofInt ((m : Int)))), (4, .int (Int32.ofInt ((k : Int)))), (5, .int (Int32.ofInt (0))), (6, .int (Int32.ofInt (((0 : Nat) : Int))))]) (fun q hq => ?_) ?_
              · simp only [List.mem_cons, List.not_mem_nil, or_false] at hq
                rcases hq with rfl | rfl | rfl | rfl | rfl | rfl | rfl <;> simp [stL, stL2, lv_args, Value.category]
              rw [show Int32.ofInt (0 : Int) = Int32.ofInt ((yrN G s m k 0 : Nat) : Int) from rfl]
              exact yrx_57 (f := m) (o := k) hB ⟨by omega, by omega⟩ ⟨by omega, by omega⟩ (by omega) (by omega) wf hX hS n.toNat 0 _ (by omega) hG (fun _ _ _ => rfl) (fun w g o => ⟨⟨g, o⟩, by rw [if_pos ⟨⟨by omega, by omega⟩, ⟨by omega, by omega⟩, k1, k2⟩, Int.toNat_natCast, Int.toNat_natCast]⟩)
            · refine V_ipush mi_65_48 ?_
              exact V_retI mi_65_50 (fun h => absurd h (by decide +kernel)) ⟨⟨hG, fun _ _ _ => rfl⟩, by rw [if_neg (fun k => of_decide_eq_false c2 k.2.2.2)]⟩
        · refine V_ipush mi_65_22 ?_
          exact V_retI mi_65_24 (fun h => absurd h (by decide +kernel)) ⟨⟨hG, fun _ _ _ => rfl⟩, by rw [if_neg (fun k => by have := k.2.1.2; omega)]⟩
theorem yrm_45 {G : Nat → Int} {s n : Int} {f o : Nat} (hB : HB G) (s0 : 0 ≤ s ∧ s ≤ 2000000000) (n0 : 1 ≤ n ∧ n ≤ 20) (hf : f < 6) (ho : o < 6) {w0 : va_W} (hW0 : W91 G w0) (h24 : rd w0 90 24 = some (.int (Int32.ofInt 0))) {post : Option Value → va_W → Prop} : ∀ (m i : Nat) (ws : va_W), ((i + m : Nat) : Int) = n → GOK ad tys GG ws → MTW w0 ws → (∀ w : va_W, GOK ad tys GG w → MTW w0 w → post (some (.int (Int32.ofInt (yrN G s f o n.toNat : Int)))) w) → V l D tys A 334 10 0 0 post 0 0 45 [(0, .ref (ad 90)), (1, .int (Int32.ofInt (s))), (2, .int (Int32.ofInt (n))), (3, .int (Int32.ofInt ((f : Int)))), (4, .int (Int32.ofInt ((o : Int)))), (5, .int (Int32.ofInt ((yrN G s f o i : Int)))), (6, .int (Int32.ofInt ((i : Int))))] [] ws
  | 0, i, ws, hm, hG, hO, kk => by
    have b3 := hB.b3
    have b2 := hB.b2
    have yl := yrN_le (G := G) (s := s) (f := f) (o := o) i
    have yb := yrK_bd (G := G) (s := s) (f := f) (o := o) (i := i) hB hf ho
    have ia : I32 (allV (G (6 + 7 * o))) := i32b _
    refine V_iload (v := Int32.ofInt ((i : Int))) mi_334_45 (by simp [stL, stL2, lv_args, Value.category]) ?_
    refine V_iload (v := Int32.ofInt (n)) mi_334_47 (by simp [stL, stL2, lv_args, Value.category]) ?_
    refine V_cge mi_334_48 ⟨by omega, by omega⟩ ⟨by omega, by omega⟩ (fun q => ?_) (fun q => ?_)
    · refine V_iload (v := Int32.ofInt ((yrN G s f o i : Int))) mi_334_87 (by simp [stL, stL2, lv_args, Value.category]) ?_
      have e : i = n.toNat := by omega
      rw [e]
      exact V_retI mi_334_89 (fun h => absurd h (by decide +kernel)) (kk ws hG hO)
    · exact absurd q (by omega)
  | m + 1, i, ws, hm, hG, hO, kk => by
    have b3 := hB.b3
    have b2 := hB.b2
    have yl := yrN_le (G := G) (s := s) (f := f) (o := o) i
    have yb := yrK_bd (G := G) (s := s) (f := f) (o := o) (i := i) hB hf ho
    have ia : I32 (allV (G (6 + 7 * o))) := i32b _
    refine V_iload (v := Int32.ofInt ((i : Int))) mi_334_45 (by simp [stL, stL2, lv_args, Value.category]) ?_
    refine V_iload (v := Int32.ofInt (n)) mi_334_47 (by simp [stL, stL2, lv_args, Value.category]) ?_
    refine V_cge mi_334_48 ⟨by omega, by omega⟩ ⟨by omega, by omega⟩ (fun q => ?_) (fun q => ?_)
    · exact absurd q (by omega)
    · refine V_aload (v := ad 90) mi_334_51 (by simp [stL, stL2, lv_args, Value.category]) ?_
      refine V_iload (v := Int32.ofInt (s)) mi_334_52 (by simp [stL, stL2, lv_args, Value.category]) ?_
      refine V_i2l mi_334_53 ?_
      rw [i2lx ⟨by omega, by omega⟩]
      refine V_iload (v := Int32.ofInt ((i : Int))) mi_334_54 (by simp [stL, stL2, lv_args, Value.category]) ?_
      refine V_i2l mi_334_56 ?_
      rw [i2lx ⟨by omega, by omega⟩]
      refine V_lbin mi_334_57 (by omega) ?_
      rw [ladd_]
      refine V_callM (As := [.long (Int64.ofInt (s + (i : Int)))]) (st := []) mi_334_58 (by omega) (by decide +kernel) (by decide +kernel) hG (gdr_ct (x := s + (i : Int)) hB hG (MTW_W hO hW0) ((hO 90 24 (by omega) (by omega)).trans h24)) (by omega) (show 1 = mN 331 by decide +kernel) (by simp [Value.category]) ?_
      rintro r w1 ⟨rfl, G1, k1, o1⟩
      have hO1 : MTW w0 w1 := fun c j h1 h2 => (o1 c j h1 h2).trans (hO c j h1 h2)
      refine V_iload (v := Int32.ofInt ((yrN G s f o i : Int))) mi_334_61 (by simp [stL, stL2, lv_args, Value.category]) ?_
      refine V_aload (v := ad 90) mi_334_63 (by simp [stL, stL2, lv_args, Value.category]) ?_
      refine V_iload (v := Int32.ofInt ((f : Int))) mi_334_64 (by simp [stL, stL2, lv_args, Value.category]) ?_
      refine V_iload (v := Int32.ofInt ((o : Int))) mi_334_65 (by simp [stL, stL2, lv_args, Value.category]) ?_
      refine V_callM (As := [.int (Int32.ofInt ((f : Int))), .int (Int32.ofInt ((o : Int)))]) (st := [.int (Int32.ofInt ((yrN G s f o i : Int)))]) mi_334_67 (by omega) (by decide +kernel) (by decide +kernel) G1 (wez_ct hB G1 (MTW_W hO1 hW0) (f := f) (o := o) (z := yrK G s f o i) ⟨by omega, by omega⟩ hf ho (k1 _ (by omega))) (by omega) (show 2 = mN 242 by decide +kernel) (by simp [Value.category]) ?_
      rintro r w2 ⟨e2, rfl⟩
      rw [e2]
      refine V_beq mi_334_70  (fun q2 => ?_) (fun q2 => ?_)
      · have es := yrN_n (G := G) (s := s) (f := f) (o := o) (i := i) (of_decide_eq_false q2)
        refine V_ipush mi_334_77 ?_
        refine V_ibin mi_334_78 (by omega) ?_
        rw [ib0]
        rw [show (yrN G s f o i : Int) + 0 = (yrN G s f o (i + 1) : Int) by omega]
        refine V_istore mi_334_79 ?_
        refine V_iinc (v := Int32.ofInt ((i : Int))) mi_334_81 (by simp [stL, stL2, lv_args, Value.category]) ?_
        rw [ia2]
        refine V_goto mi_334_84 ?_
        refine V_sub (lv' := [(0, .ref (ad 90)), (1, .int (Int32.ofInt (s))), (2, .int (Int32.ofInt (n))), (3, .int (Int32.ofInt ((f : Int)))), (4, .int (Int32.ofInt ((o : Int)))), (5, .int (Int32.ofInt ((yrN G s f o (i + 1) : Int)))), (6, .int (Int32.ofInt (((i + 1 : Nat) : Int))))]) (fun q hq => ?_) ?_
        · simp only [List.mem_cons, List.not_mem_nil, or_false] at hq
          rcases hq with rfl | rfl | rfl | rfl | rfl | rfl | rfl <;> simp [stL, stL2, lv_args, Value.category]
        exact yrm_45 hB s0 n0 hf ho hW0 h24 m (i + 1) w1 (by omega) G1 hO1 kk
      · have es := yrN_y (G := G) (s := s) (f := f) (o := o) (i := i) (of_decide_eq_true q2)
        refine V_ipush mi_334_73 ?_
        refine V_goto mi_334_74 ?_
        refine V_ibin mi_334_78 (by omega) ?_
        rw [ib0]
        rw [show (yrN G s f o i : Int) + 1 = (yrN G s f o (i + 1) : Int) by omega]
        refine V_istore mi_334_79 ?_
        refine V_iinc (v := Int32.ofInt ((i : Int))) mi_334_81 (by simp [stL, stL2, lv_args, Value.category]) ?_
        rw [ia2]
        refine V_goto mi_334_84 ?_
        refine V_sub (lv' := [(0, .ref (ad 90)), (1, .int (Int32.ofInt (s))), (2, .int (Int32.ofInt (n))), (3, .int (Int32.ofInt ((f : Int)))), (4, .int (Int32.ofInt ((o : Int)))), (5, .int (Int32.ofInt ((yrN G s f o (i + 1) : Int)))), (6, .int (Int32.ofInt (((i + 1 : Nat) : Int))))]) (fun q hq => ?_) ?_
        · simp only [List.mem_cons, List.not_mem_nil, or_false] at hq
          rcases hq with rfl | rfl | rfl | rfl | rfl | rfl | rfl <;> simp [stL, stL2, lv_args, Value.category]
        exact yrm_45 hB s0 n0 hf ho hW0 h24 m (i + 1) w1 (by omega) G1 hO1 kk
theorem yrM_ct {G : Nat → Int} (hG : GOK ad tys GG ws) (hW : W91 G ws) (hB : HB G) (h24 : rd ws 90 24 = some (.int (Int32.ofInt 0))) (h22 : rd ws 90 22 = some (.int (Int32.ofInt (-1)))) {s n f o : Int} (sI : I32 s) (nI : I32 n) (fI : I32 f) (oI : I32 o) : CT l D tys A 334 10 0 0 [.ref (ad 90), .int (Int32.ofInt (s)), .int (Int32.ofInt (n)), .int (Int32.ofInt (f)), .int (Int32.ofInt (o))] ws (fun r w => (GOK ad tys GG w ∧ MTW ws w) ∧ r = some (.int (if (0 ≤ s ∧ s ≤ 2000000000) ∧ (1 ≤ n ∧ n ≤ 20) ∧ (0 ≤ f ∧ f < G 3) ∧ (0 ≤ o ∧ o < G 3) then Int32.ofInt (yrN G s f.toNat o.toNat n.toNat : Int) else Int32.ofInt (-2)))) := by
  refine CT_of_V (by omega) (show (5 : Nat) ≤ mML 334 by decide +kernel) ?_
  have b3 := hB.b3
  have s1 := sI.1
  have s2 := sI.2
  have n1 := nI.1
  have n2 := nI.2
  refine V_iload (v := Int32.ofInt (s)) mi_334_0 (by simp [stL, stL2, lv_args, Value.category]) ?_
  refine V_stat (As := [.int (Int32.ofInt (s))]) (st := []) mi_334_1 (by omega) (see_ct sI) (by omega) (show 1 = mN 332 by decide +kernel) (by simp [Value.category]) ⟨Nat.le_refl _, Nat.le_refl _⟩ ?_
  rintro r w1 ⟨rfl, rfl⟩
  refine V_beq mi_334_4  (fun c0 => ?_) (fun c0 => ?_)
  · refine V_ipush mi_334_36 ?_
    exact V_retI mi_334_38 (fun h => absurd h (by decide +kernel)) ⟨⟨hG, fun _ _ _ _ => rfl⟩, by rw [if_neg (fun k => of_decide_eq_false c0 k.1)]⟩
  · refine V_iload (v := Int32.ofInt (n)) mi_334_7 (by simp [stL, stL2, lv_args, Value.category]) ?_
    refine V_i2l mi_334_8 ?_
    rw [i2lx ⟨by omega, by omega⟩]
    refine V_lpush mi_334_9 ?_
    refine V_lpush mi_334_10 ?_
    refine V_stat (As := [.long (Int64.ofInt (n)), .long (Int64.ofInt (1)), .long (Int64.ofInt (20))]) (st := []) mi_334_13 (by omega) (inM2 (m := n) (lo := 1) (hi := 20) (by omega) (by omega) (by omega) (by omega) (by omega) (by omega)) (by omega) (show 3 = mN 193 by decide +kernel) (by simp [Value.category]) ⟨Nat.le_refl _, Nat.le_refl _⟩ ?_
    rintro r w2 ⟨rfl, rfl⟩
    refine V_beq mi_334_16  (fun c3 => ?_) (fun c3 => ?_)
    · refine V_ipush mi_334_36 ?_
      exact V_retI mi_334_38 (fun h => absurd h (by decide +kernel)) ⟨⟨hG, fun _ _ _ _ => rfl⟩, by rw [if_neg (fun k => of_decide_eq_false c3 k.2.1)]⟩
    · refine V_aload (v := ad 90) mi_334_19 (by simp [stL, stL2, lv_args, Value.category]) ?_
      refine V_iload (v := Int32.ofInt (f)) mi_334_20 (by simp [stL, stL2, lv_args, Value.category]) ?_
      refine V_callM (As := [.int (Int32.ofInt (f))]) (st := []) mi_334_21 (by omega) (by decide +kernel) (by decide +kernel) hG (mfk_ct hG hW hB fI) (by omega) (show 1 = mN 199 by decide +kernel) (by simp [Value.category]) ?_
      rintro r w3 ⟨rfl, rfl⟩
      refine V_beq mi_334_24  (fun c1 => ?_) (fun c1 => ?_)
      · refine V_ipush mi_334_36 ?_
        exact V_retI mi_334_38 (fun h => absurd h (by decide +kernel)) ⟨⟨hG, fun _ _ _ _ => rfl⟩, by rw [if_neg (fun k => of_decide_eq_false c1 k.2.2.1)]⟩
      · refine V_aload (v := ad 90) mi_334_27 (by simp [stL, stL2, lv_args, Value.category]) ?_
        refine V_iload (v := Int32.ofInt (o)) mi_334_28 (by simp [stL, stL2, lv_args, Value.category]) ?_
        refine V_callM (As := [.int (Int32.ofInt (o))]) (st := []) mi_334_30 (by omega) (by decide +kernel) (by decide +kernel) hG (mfk_ct hG hW hB oI) (by omega) (show 1 = mN 199 by decide +kernel) (by simp [Value.category]) ?_
        rintro r w4 ⟨rfl, rfl⟩
        refine V_bne mi_334_33  (fun c2 => ?_) (fun c2 => ?_)
        · have k0 := of_decide_eq_true c0
          have k4 := of_decide_eq_true c3
          have k1 := of_decide_eq_true c1
          have k2 := of_decide_eq_true c2
          obtain ⟨m, rfl⟩ := Int.eq_ofNat_of_zero_le k1.1
          obtain ⟨k, rfl⟩ := Int.eq_ofNat_of_zero_le k2.1
          refine V_ipush mi_334_39 ?_
          refine V_istore mi_334_40 ?_
          refine V_ipush mi_334_42 ?_
          refine V_istore mi_334_43 ?_
          refine V_sub (lv' := [(0, .ref (ad 90)), (1, .int (Int32.ofInt (s))), (2, .int (Int32.ofInt (n))), (3, .int (Int32.ofInt ((m : Int)))), (4, .int (Int32.ofInt ((k : Int)))), (5, .int (Int32.ofInt (0))), (6, .int (Int32.ofInt (((0 : Nat) : Int))))]) (fun q hq => ?_) ?_
          · simp only [List.mem_cons, List.not_mem_nil, or_false] at hq
            rcases hq with rfl | rfl | rfl | rfl | rfl | rfl | rfl <;> simp [stL, stL2, lv_args, Value.category]
          rw [show Int32.ofInt (0 : Int) = Int32.ofInt ((yrN G s m k 0 : Nat) : Int) from rfl]
          exact yrm_45 (f := m) (o := k) hB k0 k4 (by omega) (by omega) hW h24 n.toNat 0 _ (by omega) hG (fun _ _ _ _ => rfl) (fun w g o => ⟨⟨g, o⟩, by rw [if_pos ⟨k0, k4, k1, k2⟩, Int.toNat_natCast, Int.toNat_natCast]⟩)
        · refine V_ipush mi_334_36 ?_
          exact V_retI mi_334_38 (fun h => absurd h (by decide +kernel)) ⟨⟨hG, fun _ _ _ _ => rfl⟩, by rw [if_neg (fun k => of_decide_eq_false c2 k.2.2.2)]⟩
theorem pairT_years (hAD : ∀ i : Nat, ad (1000 + i) = D.2 1000 i) (hG : GOK ad tys GG ws) (hR : RELW ws) (a1 a2 a3 a4 : Int32) : PAIRT l D tys A ad 65 334 [.ref (ad 0), .int a1, .int a2, .int a3, .int a4] [.ref (ad 90), .int a1, .int a2, .int a3, .int a4] ws := by
  obtain ⟨G0, o0, x0, y0⟩ := hR.1.2.1
  obtain ⟨G, o, x, y, hb, wf, hS⟩ := aux_sto hR.2 x0 y0 o0 (hb_of hG y0 o0)
  have c1 := yrX_ct (l := l) (D := D) (A := A) hG x hb hS wf (i32b a1) (i32b a2) (i32b a3) (i32b a4)
  have c2 := fun (w : va_W) (hw : GOK ad tys GG w) (K : XSC ws w) => yrM_ct (l := l) (D := D) (A := A) hw (XSC_W K y) hb ((K _ _ (by omega)).trans hR.2.2.2.2.2) ((K _ _ (by omega)).trans hR.2.2.2.2.1) (i32b a1) (i32b a2) (i32b a3) (i32b a4)
  simp only [oi] at c1 c2
  exact pairT_sw hR (by omega) (by omega) c1 c2
end XUE
