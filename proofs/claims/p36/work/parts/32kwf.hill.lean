section XSR
variable {l : Launch} {D : va_G} {tys : List (ClassId × FieldType)} {A : Nat → Prop} {ad : Nat → Nat} {ws : va_W}
/-- the hours of a call, from t on -/
def caI (G : Nat → Int) (f o : Nat) (L : Int) : Nat → Nat → Int
  | 0, _ => L
  | m + 1, t => if G (102 + (24 * f + t)) = G (102 + (24 * o + t)) then caI G f o L m (t + 1) else -1
def caL (G : Nat → Int) (f o h : Nat) : Int := (h : Int) + G (6 + 7 * o) * G (48 + f) - 1
def laI (G : Nat → Int) (f o h : Nat) : Int := if whB G h f o = true then (if 0 ≤ caL G f o h ∧ caL G f o h < G 2 then caI G f o (caL G f o h) (caL G f o h + 1 - h).toNat h else -1) else -5
theorem mul_bd {a b : Int} (a0 : 0 ≤ a) (a6 : a ≤ 6) (b0 : 0 ≤ b) (b4 : b ≤ 4) : 0 ≤ a * b ∧ a * b ≤ 24 := by
  obtain ⟨m, rfl⟩ := Int.eq_ofNat_of_zero_le a0
  obtain ⟨n, rfl⟩ := Int.eq_ofNat_of_zero_le b0
  have h : (List.range 7).all (fun m => (List.range 5).all (fun n => decide (m * n ≤ 24))) = true := by decide +kernel
  have q := of_decide_eq_true (List.all_eq_true.mp (List.all_eq_true.mp h m (List.mem_range.mpr (by omega))) n (List.mem_range.mpr (by omega)))
  have e : (m : Int) * (n : Int) = ((m * n : Nat) : Int) := (Int.natCast_mul m n).symm
  rw [e]
  omega
theorem caL_bd {G : Nat → Int} (hB : HB G) {f o h : Nat} (hf : f < 6) (ho : o < 6) : (h : Int) - 1 ≤ caL G f o h ∧ caL G f o h ≤ (h : Int) + 23 := by
  have bl := hB.bl o ho
  have bs := hB.bs f hf
  have := mul_bd bl.1 bl.2 bs.1 bs.2
  unfold caL
  omega
theorem ca_63 {G : Nat → Int} (hG : GOK ad tys GG ws) (hX : HX 4 G ws) (hB : HB G) {f o h : Nat} {L : Int} {post : Option Value → va_W → Prop} (hf : (f : Int) < G 3) (ho : (o : Int) < G 3) (hL : -1 ≤ L ∧ L < G 2) : ∀ (m t : Nat), ((t + m : Nat) : Int) = L + 1 → post (some (.int (Int32.ofInt (caI G f o L m t)))) ws → V l D tys A 26 3 0 0 post 0 0 63 [(0, .ref (ad 0)), (1, .int (Int32.ofInt ((f : Int)))), (2, .int (Int32.ofInt ((o : Int)))), (3, .int (Int32.ofInt ((h : Int)))), (4, .int (Int32.ofInt (L))), (5, .int (Int32.ofInt ((t : Int))))] [] ws
  | 0, t, hm, kk => by
    refine V_iload (v := Int32.ofInt ((t : Int))) mi_26_63 (by simp [stL, lv_args, Value.category]) ?_
    refine V_iload (v := Int32.ofInt (L)) mi_26_65 (by simp [stL, lv_args, Value.category]) ?_
    have b2 := hB.b2
    refine V_cgt mi_26_67 ⟨by omega, by omega⟩ ⟨by omega, by omega⟩ (fun q => ?_) (fun q => ?_)
    · refine V_iload (v := Int32.ofInt (L)) mi_26_101 (by simp [stL, lv_args, Value.category]) ?_
      exact V_retI mi_26_103 (fun h => absurd h (by decide +kernel)) kk
    · exact absurd q (by omega)
  | m + 1, t, hm, kk => by
    refine V_iload (v := Int32.ofInt ((t : Int))) mi_26_63 (by simp [stL, lv_args, Value.category]) ?_
    refine V_iload (v := Int32.ofInt (L)) mi_26_65 (by simp [stL, lv_args, Value.category]) ?_
    have b2 := hB.b2
    have b3 := hB.b3
    refine V_cgt mi_26_67 ⟨by omega, by omega⟩ ⟨by omega, by omega⟩ (fun q => ?_) (fun q => ?_)
    · exact absurd q (by omega)
    · have bf := hB.bp (24 * f + t) (by omega)
      have bo := hB.bp (24 * o + t) (by omega)
      refine V_aload (v := ad 0) mi_26_70 (by simp [stL, lv_args, Value.category]) ?_
      refine V_gR mi_26_71 g0r2 (by omega) hG ?_
      refine V_iload (v := Int32.ofInt ((f : Int))) mi_26_74 (by simp [stL, lv_args, Value.category]) ?_
      refine V_iload (v := Int32.ofInt ((t : Int))) mi_26_75 (by simp [stL, lv_args, Value.category]) ?_
      refine V_cO (As := [.int (Int32.ofInt ((f : Int))), .int (Int32.ofInt ((t : Int)))]) (st := []) mi_26_77 (by omega) (by decide +kernel) (by decide +kernel) (by omega) g4o hG (hpl_ct (f := f) (h := t) hG hX hB hf (by omega)) (by omega) (show 2 = mN 110 by decide +kernel) (by simp [Value.category]) ?_
      rintro r w1 ⟨e1, rfl⟩
      rw [e1]
      refine V_aload (v := ad 0) mi_26_80 (by simp [stL, lv_args, Value.category]) ?_
      refine V_gR mi_26_81 g0r2 (by omega) hG ?_
      refine V_iload (v := Int32.ofInt ((o : Int))) mi_26_84 (by simp [stL, lv_args, Value.category]) ?_
      refine V_iload (v := Int32.ofInt ((t : Int))) mi_26_85 (by simp [stL, lv_args, Value.category]) ?_
      refine V_cO (As := [.int (Int32.ofInt ((o : Int))), .int (Int32.ofInt ((t : Int)))]) (st := [.int (Int32.ofInt (G (102 + (24 * f + t))))]) mi_26_87 (by omega) (by decide +kernel) (by decide +kernel) (by omega) g4o hG (hpl_ct (f := o) (h := t) hG hX hB ho (by omega)) (by omega) (show 2 = mN 110 by decide +kernel) (by simp [Value.category]) ?_
      rintro r w2 ⟨e2, rfl⟩
      rw [e2]
      refine V_ceq mi_26_90 ⟨by omega, by omega⟩ ⟨by omega, by omega⟩ (fun q2 => ?_) (fun q2 => ?_)
      · refine V_iinc (v := Int32.ofInt ((t : Int))) mi_26_95 (by simp [stL, lv_args, Value.category]) ?_
        rw [ia2]
        refine V_goto mi_26_98 ?_
        refine V_sub (lv' := [(0, .ref (ad 0)), (1, .int (Int32.ofInt ((f : Int)))), (2, .int (Int32.ofInt ((o : Int)))), (3, .int (Int32.ofInt ((h : Int)))), (4, .int (Int32.ofInt (L))), (5, .int (Int32.ofInt (((t + 1 : Nat) : Int))))]) (fun q hq => ?_) ?_
        · simp only [List.mem_cons, List.not_mem_nil, or_false] at hq
          rcases hq with rfl | rfl | rfl | rfl | rfl | rfl <;> simp [stL, lv_args, Value.category]
        rw [show caI G f o L (m + 1) t = caI G f o L m (t + 1) from if_pos q2] at kk
        exact ca_63 hG hX hB hf ho hL m (t + 1) (by omega) kk
      · refine V_ipush mi_26_93 ?_
        rw [show caI G f o L (m + 1) t = -1 from if_neg q2] at kk
        exact V_retI mi_26_94 (fun h => absurd h (by decide +kernel)) kk
theorem laX_ct {G : Nat → Int} (hG : GOK ad tys GG ws) (hX : HX 4 G ws) (hB : HB G) (hS : STO G ws) {f o h : Nat} (hf : (f : Int) < G 3) (ho : (o : Int) < G 3) (hh : (h : Int) < G 2) : CT l D tys A 26 3 0 0 [.ref (ad 0), .int (Int32.ofInt ((f : Int))), .int (Int32.ofInt ((o : Int))), .int (Int32.ofInt ((h : Int)))] ws (fun r w => w = ws ∧ r = some (.int (Int32.ofInt (laI G f o h)))) := by
  refine CT_of_V (by omega) (show (4 : Nat) ≤ mML 26 by decide +kernel) ?_
  have b3 := hB.b3
  have b2 := hB.b2
  have bl := hB.bl o (by omega)
  have bs := hB.bs f (by omega)
  have bL := caL_bd hB (f := f) (o := o) (h := h) (by omega) (by omega)
  refine V_aload (v := ad 0) mi_26_0 (by simp [stL, lv_args, Value.category]) ?_
  refine V_gR mi_26_1 g0r5 (by omega) hG ?_
  refine V_aload (v := ad 0) mi_26_4 (by simp [stL, lv_args, Value.category]) ?_
  refine V_gR mi_26_5 g0r2 (by omega) hG ?_
  refine V_iload (v := Int32.ofInt ((f : Int))) mi_26_8 (by simp [stL, lv_args, Value.category]) ?_
  refine V_iload (v := Int32.ofInt ((o : Int))) mi_26_9 (by simp [stL, lv_args, Value.category]) ?_
  refine V_iload (v := Int32.ofInt ((h : Int))) mi_26_10 (by simp [stL, lv_args, Value.category]) ?_
  refine V_cO (As := [.ref (ad 4), .int (Int32.ofInt ((f : Int))), .int (Int32.ofInt ((o : Int))), .int (Int32.ofInt ((h : Int)))]) (st := []) mi_26_11 (by omega) (by decide +kernel) (by decide +kernel) (by omega) g32o hG (swh_ct (f := f) (o := o) (g := h) hG hX hB hS hf (by omega) (by omega)) (by omega) (show 4 = mN 177 by decide +kernel) (by simp [Value.category]) ?_
  rintro r w1 ⟨rfl, rfl⟩
  refine V_bne mi_26_14  (fun q => ?_) (fun q => ?_)
  · have e1 : laI G f o h = (if 0 ≤ caL G f o h ∧ caL G f o h < G 2 then caI G f o (caL G f o h) (caL G f o h + 1 - h).toNat h else -1) := if_pos q
    refine V_iload (v := Int32.ofInt ((h : Int))) mi_26_20 (by simp [stL, lv_args, Value.category]) ?_
    refine V_aload (v := ad 0) mi_26_21 (by simp [stL, lv_args, Value.category]) ?_
    refine V_gR mi_26_22 g0r2 (by omega) hG ?_
    refine V_iload (v := Int32.ofInt ((o : Int))) mi_26_25 (by simp [stL, lv_args, Value.category]) ?_
    refine V_cO (As := [.int (Int32.ofInt ((o : Int)))]) (st := [.int (Int32.ofInt ((h : Int)))]) mi_26_26 (by omega) (by decide +kernel) (by decide +kernel) (by omega) g4o hG (hle_ct (f := o) hG hX hB (by omega)) (by omega) (show 1 = mN 106 by decide +kernel) (by simp [Value.category]) ?_
    rintro r w2 ⟨rfl, rfl⟩
    refine V_aload (v := ad 0) mi_26_29 (by simp [stL, lv_args, Value.category]) ?_
    refine V_gR mi_26_30 g0r2 (by omega) hG ?_
    refine V_gR mi_26_33 g4r8 (by omega) hG ?_
    refine V_iload (v := Int32.ofInt ((f : Int))) mi_26_36 (by simp [stL, lv_args, Value.category]) ?_
    refine V_stat (As := [.ref (ad 7), .int (Int32.ofInt ((f : Int)))]) (st := [.int (Int32.ofInt (G (6 + 7 * o))), .int (Int32.ofInt ((h : Int)))]) mi_26_37 (by omega) (atk_ct (j := f) a7 hG (by omega) (by omega) (HX_HY hX 3 (by omega) f (show f < 6 by omega))) (by omega) (show 2 = mN 147 by decide +kernel) (by simp [Value.category]) ⟨Nat.le_refl _, Nat.le_refl _⟩ ?_
    rintro r w3 ⟨rfl, rfl⟩
    rw [show hxJ 3 f = 48 + f from rfl]
    refine V_ibin mi_26_40 (by omega) ?_
    rw [ib2]
    refine V_ibin mi_26_41 (by omega) ?_
    rw [ib0]
    refine V_ipush mi_26_42 ?_
    refine V_ibin mi_26_43 (by omega) ?_
    rw [ib1]
    rw [show (h : Int) + G (6 + 7 * o) * G (48 + f) - 1 = caL G f o h from rfl]
    refine V_istore mi_26_44 ?_
    refine V_aload (v := ad 0) mi_26_46 (by simp [stL, lv_args, Value.category]) ?_
    refine V_gR mi_26_47 g0r2 (by omega) hG ?_
    refine V_iload (v := Int32.ofInt (caL G f o h)) mi_26_50 (by simp [stL, lv_args, Value.category]) ?_
    refine V_cO (As := [.int (Int32.ofInt (caL G f o h))]) (st := []) mi_26_52 (by omega) (by decide +kernel) (by decide +kernel) (by omega) g4o hG (hho_ct hG hX hB (f := caL G f o h) ⟨by omega, by omega⟩) (by omega) (show 1 = mN 103 by decide +kernel) (by simp [Value.category]) ?_
    rintro r w4 ⟨rfl, rfl⟩
    refine V_bne mi_26_55  (fun q2 => ?_) (fun q2 => ?_)
    · have c := of_decide_eq_true q2
      rw [if_pos c] at e1
      refine V_iload (v := Int32.ofInt ((h : Int))) mi_26_60 (by simp [stL, lv_args, Value.category]) ?_
      refine V_istore mi_26_61 ?_
      refine V_sub (lv' := [(0, .ref (ad 0)), (1, .int (Int32.ofInt ((f : Int)))), (2, .int (Int32.ofInt ((o : Int)))), (3, .int (Int32.ofInt ((h : Int)))), (4, .int (Int32.ofInt (caL G f o h))), (5, .int (Int32.ofInt ((h : Int))))]) (fun q hq => ?_) ?_
      · simp only [List.mem_cons, List.not_mem_nil, or_false] at hq
        rcases hq with rfl | rfl | rfl | rfl | rfl | rfl <;> simp [stL, lv_args, Value.category]
      exact ca_63 (h := h) hG hX hB hf ho ⟨by omega, c.2⟩ (caL G f o h + 1 - h).toNat h (by omega) ⟨rfl, by rw [e1]⟩
    · rw [if_neg (of_decide_eq_false q2)] at e1
      refine V_ipush mi_26_58 ?_
      exact V_retI mi_26_59 (fun h => absurd h (by decide +kernel)) ⟨rfl, by rw [e1]⟩
  · refine V_ipush mi_26_17 ?_
    exact V_retI mi_26_19 (fun h => absurd h (by decide +kernel)) ⟨rfl, by rw [show laI G f o h = -5 from if_neg (by rw [q]; exact Bool.false_ne_true)]⟩
theorem cm_50 {G : Nat → Int} {w0 : va_W} (hT : MT ad tys G w0 ws) (hW : W91 G ws) (hB : HB G) {f o h : Nat} {L : Int} {post : Option Value → va_W → Prop} (hf : f < 6) (ho : o < 6) (hL : -1 ≤ L ∧ L < G 2) : ∀ (m t : Nat), ((t + m : Nat) : Int) = L + 1 → post (some (.int (Int32.ofInt (caI G f o L m t)))) ws → V l D tys A 265 3 0 0 post 0 0 50 [(0, .ref (ad 90)), (1, .int (Int32.ofInt ((f : Int)))), (2, .int (Int32.ofInt ((o : Int)))), (3, .int (Int32.ofInt ((h : Int)))), (4, .int (Int32.ofInt (L))), (5, .int (Int32.ofInt ((t : Int))))] [] ws
  | 0, t, hm, kk => by
    refine V_iload (v := Int32.ofInt ((t : Int))) mi_265_50 (by simp [stL, lv_args, Value.category]) ?_
    refine V_iload (v := Int32.ofInt (L)) mi_265_52 (by simp [stL, lv_args, Value.category]) ?_
    have b2 := hB.b2
    refine V_cgt mi_265_54 ⟨by omega, by omega⟩ ⟨by omega, by omega⟩ (fun q => ?_) (fun q => ?_)
    · refine V_iload (v := Int32.ofInt (L)) mi_265_76 (by simp [stL, lv_args, Value.category]) ?_
      exact V_retI mi_265_78 (fun h => absurd h (by decide +kernel)) kk
    · exact absurd q (by omega)
  | m + 1, t, hm, kk => by
    refine V_iload (v := Int32.ofInt ((t : Int))) mi_265_50 (by simp [stL, lv_args, Value.category]) ?_
    refine V_iload (v := Int32.ofInt (L)) mi_265_52 (by simp [stL, lv_args, Value.category]) ?_
    have b2 := hB.b2
    refine V_cgt mi_265_54 ⟨by omega, by omega⟩ ⟨by omega, by omega⟩ (fun q => ?_) (fun q => ?_)
    · exact absurd q (by omega)
    · refine V_aload (v := ad 90) mi_265_57 (by simp [stL, lv_args, Value.category]) ?_
      refine V_iload (v := Int32.ofInt ((f : Int))) mi_265_58 (by simp [stL, lv_args, Value.category]) ?_
      refine V_iload (v := Int32.ofInt ((o : Int))) mi_265_59 (by simp [stL, lv_args, Value.category]) ?_
      refine V_iload (v := Int32.ofInt ((t : Int))) mi_265_60 (by simp [stL, lv_args, Value.category]) ?_
      refine V_callM (As := [.int (Int32.ofInt ((f : Int))), .int (Int32.ofInt ((o : Int))), .int (Int32.ofInt ((t : Int)))]) (st := []) mi_265_62 (by omega) (by decide +kernel) (by decide +kernel) hT.1 (mmt_ct (f := f) (o := o) (h := t) hT.1 hW hB hf ho (by omega)) (by omega) (show 3 = mN 264 by decide +kernel) (by simp [Value.category]) ?_
      rintro r w1 ⟨e1, rfl⟩
      rw [e1]
      refine V_bne mi_265_65  (fun q2 => ?_) (fun q2 => ?_)
      · refine V_iinc (v := Int32.ofInt ((t : Int))) mi_265_70 (by simp [stL, lv_args, Value.category]) ?_
        rw [ia2]
        refine V_goto mi_265_73 ?_
        refine V_sub (lv' := [(0, .ref (ad 90)), (1, .int (Int32.ofInt ((f : Int)))), (2, .int (Int32.ofInt ((o : Int)))), (3, .int (Int32.ofInt ((h : Int)))), (4, .int (Int32.ofInt (L))), (5, .int (Int32.ofInt (((t + 1 : Nat) : Int))))]) (fun q hq => ?_) ?_
        · simp only [List.mem_cons, List.not_mem_nil, or_false] at hq
          rcases hq with rfl | rfl | rfl | rfl | rfl | rfl <;> simp [stL, lv_args, Value.category]
        rw [show caI G f o L (m + 1) t = caI G f o L m (t + 1) from if_pos (of_decide_eq_true q2)] at kk
        exact cm_50 hT hW hB hf ho hL m (t + 1) (by omega) kk
      · refine V_ipush mi_265_68 ?_
        rw [show caI G f o L (m + 1) t = -1 from if_neg (of_decide_eq_false q2)] at kk
        exact V_retI mi_265_69 (fun h => absurd h (by decide +kernel)) kk
theorem laM_ct {G : Nat → Int} {w0 : va_W} (hT : MT ad tys G w0 ws) (hW : W91 G ws) (hB : HB G) {f o h : Nat} (hf : f < 6) (ho : o < 6) (hh : (h : Int) < G 2) : CT l D tys A 265 3 0 0 [.ref (ad 90), .int (Int32.ofInt ((f : Int))), .int (Int32.ofInt ((o : Int))), .int (Int32.ofInt ((h : Int)))] ws (fun r w => w = ws ∧ r = some (.int (Int32.ofInt (laI G f o h)))) := by
  refine CT_of_V (by omega) (show (4 : Nat) ≤ mML 265 by decide +kernel) ?_
  obtain ⟨s91, e91, -⟩ := g91s
  have b3 := hB.b3
  have b2 := hB.b2
  have bl := hB.bl o (by omega)
  have bs := hB.bs f (by omega)
  have bL := caL_bd hB (f := f) (o := o) (h := h) (by omega) (by omega)
  refine V_aload (v := ad 90) mi_265_0 (by simp [stL, lv_args, Value.category]) ?_
  refine V_iload (v := Int32.ofInt ((f : Int))) mi_265_1 (by simp [stL, lv_args, Value.category]) ?_
  refine V_iload (v := Int32.ofInt ((o : Int))) mi_265_2 (by simp [stL, lv_args, Value.category]) ?_
  refine V_iload (v := Int32.ofInt ((h : Int))) mi_265_3 (by simp [stL, lv_args, Value.category]) ?_
  refine V_callM (As := [.int (Int32.ofInt ((f : Int))), .int (Int32.ofInt ((o : Int))), .int (Int32.ofInt ((h : Int)))]) (st := []) mi_265_4 (by omega) (by decide +kernel) (by decide +kernel) hT.1 (mwh_ct (f := f) (o := o) (g := h) hT hW hB hf ho (by omega)) (by omega) (show 3 = mN 241 by decide +kernel) (by simp [Value.category]) ?_
  rintro r w1 ⟨rfl, rfl⟩
  refine V_bne mi_265_7  (fun q => ?_) (fun q => ?_)
  · have e1 : laI G f o h = (if 0 ≤ caL G f o h ∧ caL G f o h < G 2 then caI G f o (caL G f o h) (caL G f o h + 1 - h).toNat h else -1) := if_pos q
    refine V_iload (v := Int32.ofInt ((h : Int))) mi_265_13 (by simp [stL, lv_args, Value.category]) ?_
    refine V_aload (v := ad 90) mi_265_14 (by simp [stL, lv_args, Value.category]) ?_
    refine V_iload (v := Int32.ofInt ((o : Int))) mi_265_15 (by simp [stL, lv_args, Value.category]) ?_
    refine V_callM (As := [.int (Int32.ofInt ((o : Int)))]) (st := [.int (Int32.ofInt ((h : Int)))]) mi_265_16 (by omega) (by decide +kernel) (by decide +kernel) hT.1 (mle_ct (f := o) hT.1 hW hB ho) (by omega) (show 1 = mN 204 by decide +kernel) (by simp [Value.category]) ?_
    rintro r w2 ⟨rfl, rfl⟩
    refine V_aload (v := ad 90) mi_265_19 (by simp [stL, lv_args, Value.category]) ?_
    refine V_getI mi_265_20 hT.1 (rref gr1m (by omega) hT.1) ?_
    refine V_ipush mi_265_23 ?_
    refine V_iload (v := Int32.ofInt ((f : Int))) mi_265_25 (by simp [stL, lv_args, Value.category]) ?_
    refine V_ibin mi_265_26 (by omega) ?_
    rw [ib0]
    refine V_aldX (j := 48 + f) mi_265_27 (by rw [show (48) + ((f : Int)) = ((48 + f : Nat) : Int) by omega]) hT.1 e91 (by omega) (by omega) (hW _ (by omega)) ?_
    refine V_ibin mi_265_28 (by omega) ?_
    rw [ib2]
    refine V_ibin mi_265_29 (by omega) ?_
    rw [ib0]
    refine V_ipush mi_265_30 ?_
    refine V_ibin mi_265_31 (by omega) ?_
    rw [ib1]
    rw [show (h : Int) + G (6 + 7 * o) * G (48 + f) - 1 = caL G f o h from rfl]
    refine V_istore mi_265_32 ?_
    refine V_iload (v := Int32.ofInt (caL G f o h)) mi_265_34 (by simp [stL, lv_args, Value.category]) ?_
    refine V_aload (v := ad 90) mi_265_36 (by simp [stL, lv_args, Value.category]) ?_
    refine V_getI mi_265_37 hT.1 (rref gr1m (by omega) hT.1) ?_
    refine V_ipush mi_265_40 ?_
    refine V_aldX (j := 2) mi_265_41 rfl hT.1 e91 (by omega) (by omega) (hW _ (by omega)) ?_
    refine V_clt mi_265_42 ⟨by omega, by omega⟩ ⟨by omega, by omega⟩ (fun q2 => ?_) (fun q2 => ?_)
    · refine V_iload (v := Int32.ofInt ((h : Int))) mi_265_47 (by simp [stL, lv_args, Value.category]) ?_
      refine V_istore mi_265_48 ?_
      refine V_sub (lv' := [(0, .ref (ad 90)), (1, .int (Int32.ofInt ((f : Int)))), (2, .int (Int32.ofInt ((o : Int)))), (3, .int (Int32.ofInt ((h : Int)))), (4, .int (Int32.ofInt (caL G f o h))), (5, .int (Int32.ofInt ((h : Int))))]) (fun q hq => ?_) ?_
      · simp only [List.mem_cons, List.not_mem_nil, or_false] at hq
        rcases hq with rfl | rfl | rfl | rfl | rfl | rfl <;> simp [stL, lv_args, Value.category]
      refine cm_50 (h := h) hT hW hB hf ho ⟨by omega, q2⟩ (caL G f o h + 1 - h).toNat h (by omega) ⟨rfl, ?_⟩
      rw [e1]
      by_cases c : 0 ≤ caL G f o h
      · rw [if_pos ⟨c, q2⟩]
      · rw [if_neg (fun k => c k.1), show (caL G f o h + 1 - h).toNat = 0 by omega, show caI G f o (caL G f o h) 0 h = caL G f o h from rfl, show caL G f o h = -1 by omega]
    · rw [if_neg (fun k => by omega)] at e1
      refine V_ipush mi_265_45 ?_
      exact V_retI mi_265_46 (fun h => absurd h (by decide +kernel)) ⟨rfl, by rw [e1]⟩
  · refine V_ipush mi_265_10 ?_
    exact V_retI mi_265_12 (fun h => absurd h (by decide +kernel)) ⟨rfl, by rw [show laI G f o h = -5 from if_neg (by rw [q]; exact Bool.false_ne_true)]⟩
end XSR
