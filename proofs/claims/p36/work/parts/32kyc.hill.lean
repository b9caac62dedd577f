section XUC
variable {l : Launch} {D : va_G} {tys : List (ClassId × FieldType)} {A : Nat → Prop} {ad : Nat → Nat} {ws : va_W}
/-- without all whose sayings he would not know it -/
def btP (G : Nat → Int) (f o t : Nat) : Bool := (!(Nat.beq t f) && !(Nat.beq t o)) && !(hshB G (sofV G t) f o)
/-- without which alone -/
def trP (G : Nat → Int) (f o s : Nat) : Bool := !(hshB G (ibF 8 (Int32.ofInt 1) (Int32.ofInt (s : Int))) f o)
theorem btP_f {G : Nat → Int} {f o t : Nat} (h : t = f) : btP G f o t = false := by
  unfold btP
  rw [h, Nat.beq_refl]
  rfl
theorem btP_o {G : Nat → Int} {f o t : Nat} (h : t = o) : btP G f o t = false := by
  unfold btP
  rw [h, Nat.beq_refl, Bool.not_true, Bool.and_false, Bool.false_and]
theorem btP_n {G : Nat → Int} {f o t : Nat} (h : t ≠ f) (h2 : t ≠ o) : btP G f o t = !(hshB G (sofV G t) f o) := by
  unfold btP
  rw [show Nat.beq t f = false from Bool.eq_false_iff.mpr (fun e => h (Nat.eq_of_beq_eq_true e)), show Nat.beq t o = false from Bool.eq_false_iff.mpr (fun e => h2 (Nat.eq_of_beq_eq_true e))]
  rfl
theorem MTW_W {G : Nat → Int} {w0 w : va_W} (o : MTW w0 w) (h : W91 G w0) : W91 G w := fun j hj => (o 91 j (by omega) (by omega)).trans (h j hj)
theorem btx_42 {G : Nat → Int} {w0 : va_W} (hX0 : HX 4 G w0) (hS0 : STO G w0) (hB : HB G) (wf : WF G) {f o : Nat} (hf : (f : Int) < G 3) (ho : o < 6) {post : Option Value → va_W → Prop} : ∀ (m p : Nat) (ws : va_W), ((p + m : Nat) : Int) = G 3 → GOK ad tys GG ws → XSC w0 ws → (∀ w : va_W, GOK ad tys GG w → XSC w0 w → post (some (.int (Int32.ofInt (orI (btP G f o) (G 3).toNat)))) w) → V l D tys A 36 5 0 0 post 0 0 42 [(0, .ref (ad 0)), (1, .int (Int32.ofInt ((f : Int)))), (2, .int (Int32.ofInt ((o : Int)))), (3, .int (Int32.ofInt (orI (btP G f o) p))), (4, .int (Int32.ofInt ((p : Int))))] [] ws
  | 0, p, ws, hm, hG, hO, kk => by
    have hX : HX 4 G ws := XSC_X hO hX0
    have hS : STO G ws := XSC_S hO hS0
    have b3 := hB.b3
    have b4 := hB.b4
    refine V_iload (v := Int32.ofInt ((p : Int))) mi_36_42 (by simp [stL, lv_args, Value.category]) ?_
    refine V_aload (v := ad 0) mi_36_44 (by simp [stL, lv_args, Value.category]) ?_
    refine V_gR mi_36_45 g0r2 (by omega) hG ?_
    refine V_gO mi_36_48 g4o hG (show rd _ 4 4 = some (.int (Int32.ofInt (G 3))) from hx0 hX (i := 4) (by omega)) ?_
    refine V_cge mi_36_51 ⟨by omega, by omega⟩ ⟨by omega, by omega⟩ (fun q => ?_) (fun q => ?_)
    · have e : p = (G 3).toNat := by omega
      rw [← e] at kk
      refine V_iload (v := Int32.ofInt (orI (btP G f o) p)) mi_36_116 (by simp [stL, lv_args, Value.category]) ?_
      exact V_retI mi_36_117 (fun h => absurd h (by decide +kernel)) (kk ws hG hO)
    · exact absurd q (by omega)
  | m + 1, p, ws, hm, hG, hO, kk => by
    have hX : HX 4 G ws := XSC_X hO hX0
    have hS : STO G ws := XSC_S hO hS0
    have b3 := hB.b3
    have b4 := hB.b4
    refine V_iload (v := Int32.ofInt ((p : Int))) mi_36_42 (by simp [stL, lv_args, Value.category]) ?_
    refine V_aload (v := ad 0) mi_36_44 (by simp [stL, lv_args, Value.category]) ?_
    refine V_gR mi_36_45 g0r2 (by omega) hG ?_
    refine V_gO mi_36_48 g4o hG (show rd _ 4 4 = some (.int (Int32.ofInt (G 3))) from hx0 hX (i := 4) (by omega)) ?_
    refine V_cge mi_36_51 ⟨by omega, by omega⟩ ⟨by omega, by omega⟩ (fun q => ?_) (fun q => ?_)
    · exact absurd q (by omega)
    · refine V_iload (v := Int32.ofInt ((p : Int))) mi_36_54 (by simp [stL, lv_args, Value.category]) ?_
      refine V_iload (v := Int32.ofInt ((f : Int))) mi_36_56 (by simp [stL, lv_args, Value.category]) ?_
      refine V_ceq mi_36_57 ⟨by omega, by omega⟩ ⟨by omega, by omega⟩ (fun q2 => ?_) (fun q2 => ?_)
      · refine V_ipush mi_36_70 ?_
        refine V_istore mi_36_71 ?_
        refine V_iload (v := Int32.ofInt (0)) mi_36_73 (by simp [stL, lv_args, Value.category]) ?_
        refine V_zeq mi_36_75 ⟨by omega, by omega⟩ (fun q9 => ?_) (fun q9 => ?_)
        · rw [← orI_s0 (P := btP G f o) (btP_f (by omega))]
          refine V_iinc (v := Int32.ofInt ((p : Int))) mi_36_110 (by simp [stL, lv_args, Value.category]) ?_
          rw [ia2]
          refine V_goto mi_36_113 ?_
          refine V_sub (lv' := [(0, .ref (ad 0)), (1, .int (Int32.ofInt ((f : Int)))), (2, .int (Int32.ofInt ((o : Int)))), (3, .int (Int32.ofInt (orI (btP G f o) (p + 1)))), (4, .int (Int32.ofInt (((p + 1 : Nat) : Int))))]) (fun q hq => ?_) ?_
          · simp only [List.mem_cons, List.not_mem_nil, or_false] at hq
            rcases hq with rfl | rfl | rfl | rfl | rfl <;> simp [stL, lv_args, Value.category]
          exact btx_42 hX0 hS0 hB wf hf ho m (p + 1) ws (by omega) hG hO kk
        · exact absurd rfl q9
      · refine V_iload (v := Int32.ofInt ((p : Int))) mi_36_60 (by simp [stL, lv_args, Value.category]) ?_
        refine V_iload (v := Int32.ofInt ((o : Int))) mi_36_62 (by simp [stL, lv_args, Value.category]) ?_
        refine V_ceq mi_36_63 ⟨by omega, by omega⟩ ⟨by omega, by omega⟩ (fun q3 => ?_) (fun q3 => ?_)
        · refine V_ipush mi_36_70 ?_
          refine V_istore mi_36_71 ?_
          refine V_iload (v := Int32.ofInt (0)) mi_36_73 (by simp [stL, lv_args, Value.category]) ?_
          refine V_zeq mi_36_75 ⟨by omega, by omega⟩ (fun q9 => ?_) (fun q9 => ?_)
          · rw [← orI_s0 (P := btP G f o) (btP_o (by omega))]
            refine V_iinc (v := Int32.ofInt ((p : Int))) mi_36_110 (by simp [stL, lv_args, Value.category]) ?_
            rw [ia2]
            refine V_goto mi_36_113 ?_
            refine V_sub (lv' := [(0, .ref (ad 0)), (1, .int (Int32.ofInt ((f : Int)))), (2, .int (Int32.ofInt ((o : Int)))), (3, .int (Int32.ofInt (orI (btP G f o) (p + 1)))), (4, .int (Int32.ofInt (((p + 1 : Nat) : Int))))]) (fun q hq => ?_) ?_
            · simp only [List.mem_cons, List.not_mem_nil, or_false] at hq
              rcases hq with rfl | rfl | rfl | rfl | rfl <;> simp [stL, lv_args, Value.category]
            exact btx_42 hX0 hS0 hB wf hf ho m (p + 1) ws (by omega) hG hO kk
          · exact absurd rfl q9
        · refine V_ipush mi_36_66 ?_
          refine V_goto mi_36_67 ?_
          refine V_istore mi_36_71 ?_
          refine V_iload (v := Int32.ofInt (1)) mi_36_73 (by simp [stL, lv_args, Value.category]) ?_
          refine V_zeq mi_36_75 ⟨by omega, by omega⟩ (fun q4 => ?_) (fun q4 => ?_)
          · exact absurd q4 (by omega)
          · refine V_aload (v := ad 0) mi_36_78 (by simp [stL, lv_args, Value.category]) ?_
            refine V_gR mi_36_79 g0r4 (by omega) hG ?_
            refine V_aload (v := ad 0) mi_36_82 (by simp [stL, lv_args, Value.category]) ?_
            refine V_gR mi_36_83 g0r2 (by omega) hG ?_
            refine V_iload (v := Int32.ofInt ((f : Int))) mi_36_86 (by simp [stL, lv_args, Value.category]) ?_
            refine V_iload (v := Int32.ofInt ((o : Int))) mi_36_87 (by simp [stL, lv_args, Value.category]) ?_
            refine V_aload (v := ad 0) mi_36_88 (by simp [stL, lv_args, Value.category]) ?_
            refine V_gR mi_36_89 g0r2 (by omega) hG ?_
            refine V_iload (v := Int32.ofInt ((p : Int))) mi_36_92 (by simp [stL, lv_args, Value.category]) ?_
            refine V_cO (As := [.int (Int32.ofInt ((p : Int)))]) (st := [.int (Int32.ofInt ((o : Int))), .int (Int32.ofInt ((f : Int))), .ref (ad 4), .ref (ad 28)]) mi_36_94 (by omega) (by decide +kernel) (by decide +kernel) (by omega) g4o hG (sof_ct (f := p) hG hX hB (by omega)) (by omega) (show 1 = mN 113 by decide +kernel) (by simp [Value.category]) ?_
            rintro r w1 ⟨e1, rfl⟩
            rw [e1]
            refine V_cO (As := [.ref (ad 4), .int (Int32.ofInt ((f : Int))), .int (Int32.ofInt ((o : Int))), .int (sofV G p)]) (st := []) mi_36_97 (by omega) (by decide +kernel) (by decide +kernel) (by omega) g28o hG (xww_ct (hz := sofV G p) hG hX hS hB wf hf ho) (by omega) (show 4 = mN 93 by decide +kernel) (by simp [Value.category]) ?_
            rintro r w2 ⟨⟨G2, o2⟩, e2⟩
            rw [e2]
            have O2 : XSC w0 w2 := fun c j hc => (o2 c j hc).trans (hO c j hc)
            refine V_bne mi_36_100  (fun q5 => ?_) (fun q5 => ?_)
            · rw [← orI_s0 (P := btP G f o) (by rw [btP_n (by omega) (by omega), q5]; rfl)]
              refine V_iinc (v := Int32.ofInt ((p : Int))) mi_36_110 (by simp [stL, lv_args, Value.category]) ?_
              rw [ia2]
              refine V_goto mi_36_113 ?_
              refine V_sub (lv' := [(0, .ref (ad 0)), (1, .int (Int32.ofInt ((f : Int)))), (2, .int (Int32.ofInt ((o : Int)))), (3, .int (Int32.ofInt (orI (btP G f o) (p + 1)))), (4, .int (Int32.ofInt (((p + 1 : Nat) : Int))))]) (fun q hq => ?_) ?_
              · simp only [List.mem_cons, List.not_mem_nil, or_false] at hq
                rcases hq with rfl | rfl | rfl | rfl | rfl <;> simp [stL, lv_args, Value.category]
              exact btx_42 hX0 hS0 hB wf hf ho m (p + 1) w2 (by omega) G2 O2 kk
            · refine V_iload (v := Int32.ofInt (orI (btP G f o) p)) mi_36_103 (by simp [stL, lv_args, Value.category]) ?_
              refine V_ipush mi_36_104 ?_
              refine V_iload (v := Int32.ofInt ((p : Int))) mi_36_105 (by simp [stL, lv_args, Value.category]) ?_
              refine V_ibin mi_36_107 (by omega) ?_
              refine V_ibin mi_36_108 (by omega) ?_
              rw [bitO_i, ← orI_s1 (P := btP G f o) (by rw [btP_n (by omega) (by omega), q5]; rfl)]
              refine V_istore mi_36_109 ?_
              refine V_iinc (v := Int32.ofInt ((p : Int))) mi_36_110 (by simp [stL, lv_args, Value.category]) ?_
              rw [ia2]
              refine V_goto mi_36_113 ?_
              refine V_sub (lv' := [(0, .ref (ad 0)), (1, .int (Int32.ofInt ((f : Int)))), (2, .int (Int32.ofInt ((o : Int)))), (3, .int (Int32.ofInt (orI (btP G f o) (p + 1)))), (4, .int (Int32.ofInt (((p + 1 : Nat) : Int))))]) (fun q hq => ?_) ?_
              · simp only [List.mem_cons, List.not_mem_nil, or_false] at hq
                rcases hq with rfl | rfl | rfl | rfl | rfl <;> simp [stL, lv_args, Value.category]
              exact btx_42 hX0 hS0 hB wf hf ho m (p + 1) w2 (by omega) G2 O2 kk
theorem btX_ct {G : Nat → Int} (hG : GOK ad tys GG ws) (hX : HX 4 G ws) (hB : HB G) (hS : STO G ws) (wf : WF G) {f o : Int} (fI : I32 f) (oI : I32 o) : CT l D tys A 36 5 0 0 [.ref (ad 0), .int (Int32.ofInt (f)), .int (Int32.ofInt (o))] ws (fun r w => (GOK ad tys GG w ∧ XSC ws w) ∧ r = some (.int (if (0 ≤ f ∧ f < G 3) ∧ (0 ≤ o ∧ o < G 3) ∧ f ≠ o then (if whB G (G 2).toNat f.toNat o.toNat = true then Int32.ofInt (orI (btP G f.toNat o.toNat) (G 3).toNat) else Int32.ofInt 0) else Int32.ofInt (-2)))) := by
  refine CT_of_V (by omega) (show (3 : Nat) ≤ mML 36 by decide +kernel) ?_
  have b3 := hB.b3
  have b2 := hB.b2
  have b4 := hB.b4
  refine V_aload (v := ad 0) mi_36_0 (by simp [stL, lv_args, Value.category]) ?_
  refine V_iload (v := Int32.ofInt (f)) mi_36_1 (by simp [stL, lv_args, Value.category]) ?_
  refine V_iload (v := Int32.ofInt (o)) mi_36_2 (by simp [stL, lv_args, Value.category]) ?_
  refine V_cO (As := [.int (Int32.ofInt (f)), .int (Int32.ofInt (o))]) (st := []) mi_36_3 (by omega) (by decide +kernel) (by decide +kernel) (by omega) g0o hG (two_ct hG hX hB fI oI) (by omega) (show 2 = mN 74 by decide +kernel) (by simp [Value.category]) ?_
  rintro r w1 ⟨rfl, rfl⟩
  refine V_bne mi_36_6  (fun c1 => ?_) (fun c1 => ?_)
  · have k1 := of_decide_eq_true c1
    obtain ⟨m, rfl⟩ := Int.eq_ofNat_of_zero_le k1.1.1
    obtain ⟨n, rfl⟩ := Int.eq_ofNat_of_zero_le k1.2.1.1
    refine V_aload (v := ad 0) mi_36_12 (by simp [stL, lv_args, Value.category]) ?_
    refine V_gR mi_36_13 g0r5 (by omega) hG ?_
    refine V_aload (v := ad 0) mi_36_16 (by simp [stL, lv_args, Value.category]) ?_
    refine V_gR mi_36_17 g0r2 (by omega) hG ?_
    refine V_iload (v := Int32.ofInt ((m : Int))) mi_36_20 (by simp [stL, lv_args, Value.category]) ?_
    refine V_iload (v := Int32.ofInt ((n : Int))) mi_36_21 (by simp [stL, lv_args, Value.category]) ?_
    refine V_aload (v := ad 0) mi_36_22 (by simp [stL, lv_args, Value.category]) ?_
    refine V_gR mi_36_23 g0r2 (by omega) hG ?_
    refine V_gO mi_36_26 g4o hG (show rd _ 4 3 = some (.int (Int32.ofInt (G 2))) from hx0 hX (i := 3) (by omega)) ?_
    rw [show G 2 = (((G 2).toNat : Nat) : Int) by omega]
    refine V_cO (As := [.ref (ad 4), .int (Int32.ofInt ((m : Int))), .int (Int32.ofInt ((n : Int))), .int (Int32.ofInt (((G 2).toNat : Int)))]) (st := []) mi_36_29 (by omega) (by decide +kernel) (by decide +kernel) (by omega) g32o hG (swh_ct (f := m) (o := n) (g := (G 2).toNat) hG hX hB hS (by omega) (by omega) (by omega)) (by omega) (show 4 = mN 177 by decide +kernel) (by simp [Value.category]) ?_
    rintro r w2 ⟨rfl, rfl⟩
    refine V_bne mi_36_32  (fun q2 => ?_) (fun q2 => ?_)
    · refine V_ipush mi_36_37 ?_
      refine V_istore mi_36_38 ?_
      refine V_ipush mi_36_39 ?_
      refine V_istore mi_36_40 ?_
      refine V_sub (lv' := [(0, .ref (ad 0)), (1, .int (Int32.ofInt ((m : Int)))), (2, .int (Int32.ofInt ((n : Int)))), (3, .int (Int32.ofInt (0))), (4, .int (Int32.ofInt (((0 : Nat) : Int))))]) (fun q hq => ?_) ?_
      · simp only [List.mem_cons, List.not_mem_nil, or_false] at hq
        rcases hq with rfl | rfl | rfl | rfl | rfl <;> simp [stL, lv_args, Value.category]
      exact btx_42 (f := m) (o := n) hX hS hB wf (by omega) (by omega) (G 3).toNat 0 _ (by omega) hG (fun _ _ _ => rfl) (fun w a b => ⟨⟨a, b⟩, by rw [if_pos k1]; simp only [Int.toNat_natCast, q2]; first | done | rfl⟩)
    · refine V_ipush mi_36_35 ?_
      exact V_retI mi_36_36 (fun h => absurd h (by decide +kernel)) ⟨⟨hG, fun _ _ _ => rfl⟩, by rw [if_pos k1]; simp only [Int.toNat_natCast, q2]; first | done | rfl⟩
  · refine V_ipush mi_36_9 ?_
    exact V_retI mi_36_11 (fun h => absurd h (by decide +kernel)) ⟨⟨hG, fun _ _ _ => rfl⟩, by rw [if_neg (of_decide_eq_false c1)]⟩
theorem trx2_42 {G : Nat → Int} {w0 : va_W} (hX0 : HX 4 G w0) (hS0 : STO G w0) (hB : HB G) (wf : WF G) {f o : Nat} (hf : (f : Int) < G 3) (ho : o < 6) {post : Option Value → va_W → Prop} : ∀ (m p : Nat) (z : Int32) (ws : va_W), ((p + m : Nat) : Int) = G 4 → GOK ad tys GG ws → XSC w0 ws → (∀ w : va_W, GOK ad tys GG w → XSC w0 w → post (some (.int (orS (trP G f o) m p z))) w) → V l D tys A 37 5 0 0 post 0 0 42 [(0, .ref (ad 0)), (1, .int (Int32.ofInt ((f : Int)))), (2, .int (Int32.ofInt ((o : Int)))), (3, .int (z)), (4, .int (Int32.ofInt ((p : Int))))] [] ws
  | 0, p, z, ws, hm, hG, hO, kk => by
    have hX : HX 4 G ws := XSC_X hO hX0
    have hS : STO G ws := XSC_S hO hS0
    have b3 := hB.b3
    have b4 := hB.b4
    refine V_iload (v := Int32.ofInt ((p : Int))) mi_37_42 (by simp [stL, lv_args, Value.category]) ?_
    refine V_aload (v := ad 0) mi_37_44 (by simp [stL, lv_args, Value.category]) ?_
    refine V_gR mi_37_45 g0r2 (by omega) hG ?_
    refine V_gO mi_37_48 g4o hG (show rd _ 4 5 = some (.int (Int32.ofInt (G 4))) from hx0 hX (i := 5) (by omega)) ?_
    refine V_cge mi_37_51 ⟨by omega, by omega⟩ ⟨by omega, by omega⟩ (fun q => ?_) (fun q => ?_)
    · refine V_iload (v := z) mi_37_87 (by simp [stL, lv_args, Value.category]) ?_
      exact V_retI mi_37_88 (fun h => absurd h (by decide +kernel)) (kk ws hG hO)
    · exact absurd q (by omega)
  | m + 1, p, z, ws, hm, hG, hO, kk => by
    have hX : HX 4 G ws := XSC_X hO hX0
    have hS : STO G ws := XSC_S hO hS0
    have b3 := hB.b3
    have b4 := hB.b4
    refine V_iload (v := Int32.ofInt ((p : Int))) mi_37_42 (by simp [stL, lv_args, Value.category]) ?_
    refine V_aload (v := ad 0) mi_37_44 (by simp [stL, lv_args, Value.category]) ?_
    refine V_gR mi_37_45 g0r2 (by omega) hG ?_
    refine V_gO mi_37_48 g4o hG (show rd _ 4 5 = some (.int (Int32.ofInt (G 4))) from hx0 hX (i := 5) (by omega)) ?_
    refine V_cge mi_37_51 ⟨by omega, by omega⟩ ⟨by omega, by omega⟩ (fun q => ?_) (fun q => ?_)
    · exact absurd q (by omega)
    · refine V_aload (v := ad 0) mi_37_54 (by simp [stL, lv_args, Value.category]) ?_
      refine V_gR mi_37_55 g0r4 (by omega) hG ?_
      refine V_aload (v := ad 0) mi_37_58 (by simp [stL, lv_args, Value.category]) ?_
      refine V_gR mi_37_59 g0r2 (by omega) hG ?_
      refine V_iload (v := Int32.ofInt ((f : Int))) mi_37_62 (by simp [stL, lv_args, Value.category]) ?_
      refine V_iload (v := Int32.ofInt ((o : Int))) mi_37_63 (by simp [stL, lv_args, Value.category]) ?_
      refine V_ipush mi_37_64 ?_
      refine V_iload (v := Int32.ofInt ((p : Int))) mi_37_65 (by simp [stL, lv_args, Value.category]) ?_
      refine V_ibin mi_37_67 (by omega) ?_
      refine V_cO (As := [.ref (ad 4), .int (Int32.ofInt ((f : Int))), .int (Int32.ofInt ((o : Int))), .int (ibF 8 (Int32.ofInt (1)) (Int32.ofInt ((p : Int))))]) (st := []) mi_37_68 (by omega) (by decide +kernel) (by decide +kernel) (by omega) g28o hG (xww_ct (hz := ibF 8 (Int32.ofInt 1) (Int32.ofInt (p : Int))) hG hX hS hB wf hf ho) (by omega) (show 4 = mN 93 by decide +kernel) (by simp [Value.category]) ?_
      rintro r w2 ⟨⟨G2, o2⟩, e2⟩
      rw [e2]
      have O2 : XSC w0 w2 := fun c j hc => (o2 c j hc).trans (hO c j hc)
      refine V_bne mi_37_71  (fun q5 => ?_) (fun q5 => ?_)
      · refine V_iinc (v := Int32.ofInt ((p : Int))) mi_37_81 (by simp [stL, lv_args, Value.category]) ?_
        rw [ia2]
        refine V_goto mi_37_84 ?_
        refine V_sub (lv' := [(0, .ref (ad 0)), (1, .int (Int32.ofInt ((f : Int)))), (2, .int (Int32.ofInt ((o : Int)))), (3, .int (z)), (4, .int (Int32.ofInt (((p + 1 : Nat) : Int))))]) (fun q hq => ?_) ?_
        · simp only [List.mem_cons, List.not_mem_nil, or_false] at hq
          rcases hq with rfl | rfl | rfl | rfl | rfl <;> simp [stL, lv_args, Value.category]
        rw [orS_n (show trP G f o p = false by unfold trP; rw [q5]; rfl)] at kk
        exact trx2_42 hX0 hS0 hB wf hf ho m (p + 1) z w2 (by omega) G2 O2 kk
      · refine V_iload (v := z) mi_37_74 (by simp [stL, lv_args, Value.category]) ?_
        refine V_ipush mi_37_75 ?_
        refine V_iload (v := Int32.ofInt ((p : Int))) mi_37_76 (by simp [stL, lv_args, Value.category]) ?_
        refine V_ibin mi_37_78 (by omega) ?_
        refine V_ibin mi_37_79 (by omega) ?_
        refine V_istore mi_37_80 ?_
        refine V_iinc (v := Int32.ofInt ((p : Int))) mi_37_81 (by simp [stL, lv_args, Value.category]) ?_
        rw [ia2]
        refine V_goto mi_37_84 ?_
        refine V_sub (lv' := [(0, .ref (ad 0)), (1, .int (Int32.ofInt ((f : Int)))), (2, .int (Int32.ofInt ((o : Int)))), (3, .int (ibF 6 (z) (ibF 8 (Int32.ofInt (1)) (Int32.ofInt ((p : Int)))))), (4, .int (Int32.ofInt (((p + 1 : Nat) : Int))))]) (fun q hq => ?_) ?_
        · simp only [List.mem_cons, List.not_mem_nil, or_false] at hq
          rcases hq with rfl | rfl | rfl | rfl | rfl <;> simp [stL, lv_args, Value.category]
        rw [orS_s (show trP G f o p = true by unfold trP; rw [q5]; rfl)] at kk
        exact trx2_42 hX0 hS0 hB wf hf ho m (p + 1) _ w2 (by omega) G2 O2 kk
theorem trcX_ct {G : Nat → Int} (hG : GOK ad tys GG ws) (hX : HX 4 G ws) (hB : HB G) (hS : STO G ws) (wf : WF G) {f o : Int} (fI : I32 f) (oI : I32 o) : CT l D tys A 37 5 0 0 [.ref (ad 0), .int (Int32.ofInt (f)), .int (Int32.ofInt (o))] ws (fun r w => (GOK ad tys GG w ∧ XSC ws w) ∧ r = some (.int (if (0 ≤ f ∧ f < G 3) ∧ (0 ≤ o ∧ o < G 3) ∧ f ≠ o then (if whB G (G 2).toNat f.toNat o.toNat = true then orS (trP G f.toNat o.toNat) (G 4).toNat 0 (Int32.ofInt 0) else Int32.ofInt 0) else Int32.ofInt (-2)))) := by
  refine CT_of_V (by omega) (show (3 : Nat) ≤ mML 37 by decide +kernel) ?_
  have b3 := hB.b3
  have b2 := hB.b2
  have b4 := hB.b4
  refine V_aload (v := ad 0) mi_37_0 (by simp [stL, lv_args, Value.category]) ?_
  refine V_iload (v := Int32.ofInt (f)) mi_37_1 (by simp [stL, lv_args, Value.category]) ?_
  refine V_iload (v := Int32.ofInt (o)) mi_37_2 (by simp [stL, lv_args, Value.category]) ?_
  refine V_cO (As := [.int (Int32.ofInt (f)), .int (Int32.ofInt (o))]) (st := []) mi_37_3 (by omega) (by decide +kernel) (by decide +kernel) (by omega) g0o hG (two_ct hG hX hB fI oI) (by omega) (show 2 = mN 74 by decide +kernel) (by simp [Value.category]) ?_
  rintro r w1 ⟨rfl, rfl⟩
  refine V_bne mi_37_6  (fun c1 => ?_) (fun c1 => ?_)
  · have k1 := of_decide_eq_true c1
    obtain ⟨m, rfl⟩ := Int.eq_ofNat_of_zero_le k1.1.1
    obtain ⟨n, rfl⟩ := Int.eq_ofNat_of_zero_le k1.2.1.1
    refine V_aload (v := ad 0) mi_37_12 (by simp [stL, lv_args, Value.category]) ?_
    refine V_gR mi_37_13 g0r5 (by omega) hG ?_
    refine V_aload (v := ad 0) mi_37_16 (by simp [stL, lv_args, Value.category]) ?_
    refine V_gR mi_37_17 g0r2 (by omega) hG ?_
    refine V_iload (v := Int32.ofInt ((m : Int))) mi_37_20 (by simp [stL, lv_args, Value.category]) ?_
    refine V_iload (v := Int32.ofInt ((n : Int))) mi_37_21 (by simp [stL, lv_args, Value.category]) ?_
    refine V_aload (v := ad 0) mi_37_22 (by simp [stL, lv_args, Value.category]) ?_
    refine V_gR mi_37_23 g0r2 (by omega) hG ?_
    refine V_gO mi_37_26 g4o hG (show rd _ 4 3 = some (.int (Int32.ofInt (G 2))) from hx0 hX (i := 3) (by omega)) ?_
    rw [show G 2 = (((G 2).toNat : Nat) : Int) by omega]
    refine V_cO (As := [.ref (ad 4), .int (Int32.ofInt ((m : Int))), .int (Int32.ofInt ((n : Int))), .int (Int32.ofInt (((G 2).toNat : Int)))]) (st := []) mi_37_29 (by omega) (by decide +kernel) (by decide +kernel) (by omega) g32o hG (swh_ct (f := m) (o := n) (g := (G 2).toNat) hG hX hB hS (by omega) (by omega) (by omega)) (by omega) (show 4 = mN 177 by decide +kernel) (by simp [Value.category]) ?_
    rintro r w2 ⟨rfl, rfl⟩
    refine V_bne mi_37_32  (fun q2 => ?_) (fun q2 => ?_)
    · refine V_ipush mi_37_37 ?_
      refine V_istore mi_37_38 ?_
      refine V_ipush mi_37_39 ?_
      refine V_istore mi_37_40 ?_
      refine V_sub (lv' := [(0, .ref (ad 0)), (1, .int (Int32.ofInt ((m : Int)))), (2, .int (Int32.ofInt ((n : Int)))), (3, .int (Int32.ofInt 0)), (4, .int (Int32.ofInt (((0 : Nat) : Int))))]) (fun q hq => ?_) ?_
      · simp only [List.mem_cons, List.not_mem_nil, or_false] at hq
        rcases hq with rfl | rfl | rfl | rfl | rfl <;> simp [stL, lv_args, Value.category]
      exact trx2_42 (f := m) (o := n) hX hS hB wf (by omega) (by omega) (G 4).toNat 0 (Int32.ofInt 0) _ (by omega) hG (fun _ _ _ => rfl) (fun w a b => ⟨⟨a, b⟩, by rw [if_pos k1]; simp only [Int.toNat_natCast, q2]; first | done | rfl⟩)
    · refine V_ipush mi_37_35 ?_
      exact V_retI mi_37_36 (fun h => absurd h (by decide +kernel)) ⟨⟨hG, fun _ _ _ => rfl⟩, by rw [if_pos k1]; simp only [Int.toNat_natCast, q2]; first | done | rfl⟩
  · refine V_ipush mi_37_9 ?_
    exact V_retI mi_37_11 (fun h => absurd h (by decide +kernel)) ⟨⟨hG, fun _ _ _ => rfl⟩, by rw [if_neg (of_decide_eq_false c1)]⟩
theorem btm_29 {G : Nat → Int} {w0 : va_W} (hW0 : W91 G w0) (hB : HB G) (h24 : rd w0 90 24 = some (.int (Int32.ofInt 0))) (h22 : rd w0 90 22 = some (.int (Int32.ofInt (-1)))) {f o : Nat} (hf : f < 6) (ho : o < 6) {post : Option Value → va_W → Prop} : ∀ (m p : Nat) (ws : va_W), ((p + m : Nat) : Int) = G 3 → GOK ad tys GG ws → MTW w0 ws → (∀ w : va_W, GOK ad tys GG w → MTW w0 w → post (some (.int (Int32.ofInt (orI (btP G f o) (G 3).toNat)))) w) → V l D tys A 286 9 0 0 post 0 0 29 [(0, .ref (ad 90)), (1, .int (Int32.ofInt ((f : Int)))), (2, .int (Int32.ofInt ((o : Int)))), (3, .int (Int32.ofInt (orI (btP G f o) p))), (4, .int (Int32.ofInt ((p : Int))))] [] ws
  | 0, p, ws, hm, hG, hO, kk => by
    have hW : W91 G ws := MTW_W hO hW0
    obtain ⟨s91, e91, -⟩ := g91s
    have b3 := hB.b3
    have b4 := hB.b4
    refine V_iload (v := Int32.ofInt ((p : Int))) mi_286_29 (by simp [stL, lv_args, Value.category]) ?_
    refine V_aload (v := ad 90) mi_286_31 (by simp [stL, lv_args, Value.category]) ?_
    refine V_getI mi_286_32 hG (rref gr1m (by omega) hG) ?_
    refine V_ipush mi_286_35 ?_
    refine V_aldX (j := 3) mi_286_36 rfl hG e91 (by omega) (by omega) (hW _ (by omega)) ?_
    refine V_cge mi_286_37 ⟨by omega, by omega⟩ ⟨by omega, by omega⟩ (fun q => ?_) (fun q => ?_)
    · have e : p = (G 3).toNat := by omega
      rw [← e] at kk
      refine V_iload (v := Int32.ofInt (orI (btP G f o) p)) mi_286_84 (by simp [stL, lv_args, Value.category]) ?_
      exact V_retI mi_286_85 (fun h => absurd h (by decide +kernel)) (kk ws hG hO)
    · exact absurd q (by omega)
  | m + 1, p, ws, hm, hG, hO, kk => by
    have hW : W91 G ws := MTW_W hO hW0
    obtain ⟨s91, e91, -⟩ := g91s
    have b3 := hB.b3
    have b4 := hB.b4
    refine V_iload (v := Int32.ofInt ((p : Int))) mi_286_29 (by simp [stL, lv_args, Value.category]) ?_
    refine V_aload (v := ad 90) mi_286_31 (by simp [stL, lv_args, Value.category]) ?_
    refine V_getI mi_286_32 hG (rref gr1m (by omega) hG) ?_
    refine V_ipush mi_286_35 ?_
    refine V_aldX (j := 3) mi_286_36 rfl hG e91 (by omega) (by omega) (hW _ (by omega)) ?_
    refine V_cge mi_286_37 ⟨by omega, by omega⟩ ⟨by omega, by omega⟩ (fun q => ?_) (fun q => ?_)
    · exact absurd q (by omega)
    · refine V_iload (v := Int32.ofInt (orI (btP G f o) p)) mi_286_40 (by simp [stL, lv_args, Value.category]) ?_
      refine V_iload (v := Int32.ofInt ((p : Int))) mi_286_41 (by simp [stL, lv_args, Value.category]) ?_
      refine V_iload (v := Int32.ofInt ((f : Int))) mi_286_43 (by simp [stL, lv_args, Value.category]) ?_
      refine V_ceq mi_286_44 ⟨by omega, by omega⟩ ⟨by omega, by omega⟩ (fun q2 => ?_) (fun q2 => ?_)
      · refine V_ipush mi_286_75 ?_
        refine V_ibin mi_286_76 (by omega) ?_
        rw [or0, ← orI_s0 (P := btP G f o) (btP_f (by omega))]
        refine V_istore mi_286_77 ?_
        refine V_iinc (v := Int32.ofInt ((p : Int))) mi_286_78 (by simp [stL, lv_args, Value.category]) ?_
        rw [ia2]
        refine V_goto mi_286_81 ?_
        refine V_sub (lv' := [(0, .ref (ad 90)), (1, .int (Int32.ofInt ((f : Int)))), (2, .int (Int32.ofInt ((o : Int)))), (3, .int (Int32.ofInt (orI (btP G f o) (p + 1)))), (4, .int (Int32.ofInt (((p + 1 : Nat) : Int))))]) (fun q hq => ?_) ?_
        · simp only [List.mem_cons, List.not_mem_nil, or_false] at hq
          rcases hq with rfl | rfl | rfl | rfl | rfl <;> simp [stL, lv_args, Value.category]
        exact btm_29 hW0 hB h24 h22 hf ho m (p + 1) ws (by omega) hG hO kk
      · refine V_iload (v := Int32.ofInt ((p : Int))) mi_286_47 (by simp [stL, lv_args, Value.category]) ?_
        refine V_iload (v := Int32.ofInt ((o : Int))) mi_286_49 (by simp [stL, lv_args, Value.category]) ?_
        refine V_ceq mi_286_50 ⟨by omega, by omega⟩ ⟨by omega, by omega⟩ (fun q3 => ?_) (fun q3 => ?_)
        · refine V_ipush mi_286_75 ?_
          refine V_ibin mi_286_76 (by omega) ?_
          rw [or0, ← orI_s0 (P := btP G f o) (btP_o (by omega))]
          refine V_istore mi_286_77 ?_
          refine V_iinc (v := Int32.ofInt ((p : Int))) mi_286_78 (by simp [stL, lv_args, Value.category]) ?_
          rw [ia2]
          refine V_goto mi_286_81 ?_
          refine V_sub (lv' := [(0, .ref (ad 90)), (1, .int (Int32.ofInt ((f : Int)))), (2, .int (Int32.ofInt ((o : Int)))), (3, .int (Int32.ofInt (orI (btP G f o) (p + 1)))), (4, .int (Int32.ofInt (((p + 1 : Nat) : Int))))]) (fun q hq => ?_) ?_
          · simp only [List.mem_cons, List.not_mem_nil, or_false] at hq
            rcases hq with rfl | rfl | rfl | rfl | rfl <;> simp [stL, lv_args, Value.category]
          exact btm_29 hW0 hB h24 h22 hf ho m (p + 1) ws (by omega) hG hO kk
        · refine V_aload (v := ad 90) mi_286_53 (by simp [stL, lv_args, Value.category]) ?_
          refine V_iload (v := Int32.ofInt ((f : Int))) mi_286_54 (by simp [stL, lv_args, Value.category]) ?_
          refine V_iload (v := Int32.ofInt ((o : Int))) mi_286_55 (by simp [stL, lv_args, Value.category]) ?_
          refine V_aload (v := ad 90) mi_286_56 (by simp [stL, lv_args, Value.category]) ?_
          refine V_iload (v := Int32.ofInt ((p : Int))) mi_286_57 (by simp [stL, lv_args, Value.category]) ?_
          refine V_callM (As := [.int (Int32.ofInt ((p : Int)))]) (st := [.int (Int32.ofInt ((o : Int))), .int (Int32.ofInt ((f : Int))), .ref (ad 90), .int (Int32.ofInt (orI (btP G f o) p))]) mi_286_59 (by omega) (by decide +kernel) (by decide +kernel) hG (som_ct (f := p) hG hW hB (by omega)) (by omega) (show 1 = mN 285 by decide +kernel) (by simp [Value.category]) ?_
          rintro r w1 ⟨e1, rfl⟩
          rw [e1]
          refine V_callM (As := [.int (Int32.ofInt ((f : Int))), .int (Int32.ofInt ((o : Int))), .int (sofV G p)]) (st := [.int (Int32.ofInt (orI (btP G f o) p))]) mi_286_62 (by omega) (by decide +kernel) (by decide +kernel) hG (mwh2_ct (hz := sofV G p) hG hW hB ((hO _ _ (by omega) (by omega)).trans h24) ((hO _ _ (by omega) (by omega)).trans h22) hf ho) (by omega) (show 3 = mN 284 by decide +kernel) (by simp [Value.category]) ?_
          rintro r w2 ⟨⟨G2, o2⟩, e2⟩
          rw [e2]
          have O2 : MTW w0 w2 := fun c j h1 h2 => (o2.1 c j h1 (by omega)).trans (hO c j h1 h2)
          refine V_bne mi_286_65  (fun q5 => ?_) (fun q5 => ?_)
          · refine V_ipush mi_286_75 ?_
            refine V_ibin mi_286_76 (by omega) ?_
            rw [or0, ← orI_s0 (P := btP G f o) (by rw [btP_n (by omega) (by omega), q5]; rfl)]
            refine V_istore mi_286_77 ?_
            refine V_iinc (v := Int32.ofInt ((p : Int))) mi_286_78 (by simp [stL, lv_args, Value.category]) ?_
            rw [ia2]
            refine V_goto mi_286_81 ?_
            refine V_sub (lv' := [(0, .ref (ad 90)), (1, .int (Int32.ofInt ((f : Int)))), (2, .int (Int32.ofInt ((o : Int)))), (3, .int (Int32.ofInt (orI (btP G f o) (p + 1)))), (4, .int (Int32.ofInt (((p + 1 : Nat) : Int))))]) (fun q hq => ?_) ?_
            · simp only [List.mem_cons, List.not_mem_nil, or_false] at hq
              rcases hq with rfl | rfl | rfl | rfl | rfl <;> simp [stL, lv_args, Value.category]
            exact btm_29 hW0 hB h24 h22 hf ho m (p + 1) w2 (by omega) G2 O2 kk
          · refine V_ipush mi_286_68 ?_
            refine V_iload (v := Int32.ofInt ((p : Int))) mi_286_69 (by simp [stL, lv_args, Value.category]) ?_
            refine V_ibin mi_286_71 (by omega) ?_
            refine V_goto mi_286_72 ?_
            refine V_ibin mi_286_76 (by omega) ?_
            rw [bitO_i, ← orI_s1 (P := btP G f o) (by rw [btP_n (by omega) (by omega), q5]; rfl)]
            refine V_istore mi_286_77 ?_
            refine V_iinc (v := Int32.ofInt ((p : Int))) mi_286_78 (by simp [stL, lv_args, Value.category]) ?_
            rw [ia2]
            refine V_goto mi_286_81 ?_
            refine V_sub (lv' := [(0, .ref (ad 90)), (1, .int (Int32.ofInt ((f : Int)))), (2, .int (Int32.ofInt ((o : Int)))), (3, .int (Int32.ofInt (orI (btP G f o) (p + 1)))), (4, .int (Int32.ofInt (((p + 1 : Nat) : Int))))]) (fun q hq => ?_) ?_
            · simp only [List.mem_cons, List.not_mem_nil, or_false] at hq
              rcases hq with rfl | rfl | rfl | rfl | rfl <;> simp [stL, lv_args, Value.category]
            exact btm_29 hW0 hB h24 h22 hf ho m (p + 1) w2 (by omega) G2 O2 kk
theorem trm2_29 {G : Nat → Int} {w0 : va_W} (hW0 : W91 G w0) (hB : HB G) (h24 : rd w0 90 24 = some (.int (Int32.ofInt 0))) (h22 : rd w0 90 22 = some (.int (Int32.ofInt (-1)))) {f o : Nat} (hf : f < 6) (ho : o < 6) {post : Option Value → va_W → Prop} : ∀ (m p : Nat) (z : Int32) (ws : va_W), ((p + m : Nat) : Int) = G 4 → GOK ad tys GG ws → MTW w0 ws → (∀ w : va_W, GOK ad tys GG w → MTW w0 w → post (some (.int (orS (trP G f o) m p z))) w) → V l D tys A 287 9 0 0 post 0 0 29 [(0, .ref (ad 90)), (1, .int (Int32.ofInt ((f : Int)))), (2, .int (Int32.ofInt ((o : Int)))), (3, .int (z)), (4, .int (Int32.ofInt ((p : Int))))] [] ws
  | 0, p, z, ws, hm, hG, hO, kk => by
    have hW : W91 G ws := MTW_W hO hW0
    obtain ⟨s91, e91, -⟩ := g91s
    have b3 := hB.b3
    have b4 := hB.b4
    refine V_iload (v := Int32.ofInt ((p : Int))) mi_287_29 (by simp [stL, lv_args, Value.category]) ?_
    refine V_aload (v := ad 90) mi_287_31 (by simp [stL, lv_args, Value.category]) ?_
    refine V_getI mi_287_32 hG (rref gr1m (by omega) hG) ?_
    refine V_ipush mi_287_35 ?_
    refine V_aldX (j := 4) mi_287_36 rfl hG e91 (by omega) (by omega) (hW _ (by omega)) ?_
    refine V_cge mi_287_37 ⟨by omega, by omega⟩ ⟨by omega, by omega⟩ (fun q => ?_) (fun q => ?_)
    · refine V_iload (v := z) mi_287_70 (by simp [stL, lv_args, Value.category]) ?_
      exact V_retI mi_287_71 (fun h => absurd h (by decide +kernel)) (kk ws hG hO)
    · exact absurd q (by omega)
  | m + 1, p, z, ws, hm, hG, hO, kk => by
    have hW : W91 G ws := MTW_W hO hW0
    obtain ⟨s91, e91, -⟩ := g91s
    have b3 := hB.b3
    have b4 := hB.b4
    refine V_iload (v := Int32.ofInt ((p : Int))) mi_287_29 (by simp [stL, lv_args, Value.category]) ?_
    refine V_aload (v := ad 90) mi_287_31 (by simp [stL, lv_args, Value.category]) ?_
    refine V_getI mi_287_32 hG (rref gr1m (by omega) hG) ?_
    refine V_ipush mi_287_35 ?_
    refine V_aldX (j := 4) mi_287_36 rfl hG e91 (by omega) (by omega) (hW _ (by omega)) ?_
    refine V_cge mi_287_37 ⟨by omega, by omega⟩ ⟨by omega, by omega⟩ (fun q => ?_) (fun q => ?_)
    · exact absurd q (by omega)
    · refine V_iload (v := z) mi_287_40 (by simp [stL, lv_args, Value.category]) ?_
      refine V_aload (v := ad 90) mi_287_41 (by simp [stL, lv_args, Value.category]) ?_
      refine V_iload (v := Int32.ofInt ((f : Int))) mi_287_42 (by simp [stL, lv_args, Value.category]) ?_
      refine V_iload (v := Int32.ofInt ((o : Int))) mi_287_43 (by simp [stL, lv_args, Value.category]) ?_
      refine V_ipush mi_287_44 ?_
      refine V_iload (v := Int32.ofInt ((p : Int))) mi_287_45 (by simp [stL, lv_args, Value.category]) ?_
      refine V_ibin mi_287_47 (by omega) ?_
      refine V_callM (As := [.int (Int32.ofInt ((f : Int))), .int (Int32.ofInt ((o : Int))), .int (ibF 8 (Int32.ofInt (1)) (Int32.ofInt ((p : Int))))]) (st := [.int (z)]) mi_287_48 (by omega) (by decide +kernel) (by decide +kernel) hG (mwh2_ct (hz := ibF 8 (Int32.ofInt 1) (Int32.ofInt (p : Int))) hG hW hB ((hO _ _ (by omega) (by omega)).trans h24) ((hO _ _ (by omega) (by omega)).trans h22) hf ho) (by omega) (show 3 = mN 284 by decide +kernel) (by simp [Value.category]) ?_
      rintro r w2 ⟨⟨G2, o2⟩, e2⟩
      rw [e2]
      have O2 : MTW w0 w2 := fun c j h1 h2 => (o2.1 c j h1 (by omega)).trans (hO c j h1 h2)
      refine V_beq mi_287_51  (fun q5 => ?_) (fun q5 => ?_)
      · refine V_ipush mi_287_58 ?_
        refine V_iload (v := Int32.ofInt ((p : Int))) mi_287_59 (by simp [stL, lv_args, Value.category]) ?_
        refine V_ibin mi_287_61 (by omega) ?_
        refine V_ibin mi_287_62 (by omega) ?_
        refine V_istore mi_287_63 ?_
        refine V_iinc (v := Int32.ofInt ((p : Int))) mi_287_64 (by simp [stL, lv_args, Value.category]) ?_
        rw [ia2]
        refine V_goto mi_287_67 ?_
        refine V_sub (lv' := [(0, .ref (ad 90)), (1, .int (Int32.ofInt ((f : Int)))), (2, .int (Int32.ofInt ((o : Int)))), (3, .int (ibF 6 (z) (ibF 8 (Int32.ofInt (1)) (Int32.ofInt ((p : Int)))))), (4, .int (Int32.ofInt (((p + 1 : Nat) : Int))))]) (fun q hq => ?_) ?_
        · simp only [List.mem_cons, List.not_mem_nil, or_false] at hq
          rcases hq with rfl | rfl | rfl | rfl | rfl <;> simp [stL, lv_args, Value.category]
        rw [orS_s (show trP G f o p = true by unfold trP; rw [q5]; rfl)] at kk
        exact trm2_29 hW0 hB h24 h22 hf ho m (p + 1) _ w2 (by omega) G2 O2 kk
      · refine V_ipush mi_287_54 ?_
        refine V_goto mi_287_55 ?_
        refine V_ibin mi_287_62 (by omega) ?_
        rw [or0]
        refine V_istore mi_287_63 ?_
        refine V_iinc (v := Int32.ofInt ((p : Int))) mi_287_64 (by simp [stL, lv_args, Value.category]) ?_
        rw [ia2]
        refine V_goto mi_287_67 ?_
        refine V_sub (lv' := [(0, .ref (ad 90)), (1, .int (Int32.ofInt ((f : Int)))), (2, .int (Int32.ofInt ((o : Int)))), (3, .int (z)), (4, .int (Int32.ofInt (((p + 1 : Nat) : Int))))]) (fun q hq => ?_) ?_
        · simp only [List.mem_cons, List.not_mem_nil, or_false] at hq
          rcases hq with rfl | rfl | rfl | rfl | rfl <;> simp [stL, lv_args, Value.category]
        rw [orS_n (show trP G f o p = false by unfold trP; rw [q5]; rfl)] at kk
        exact trm2_29 hW0 hB h24 h22 hf ho m (p + 1) z w2 (by omega) G2 O2 kk
theorem btM_ct {G : Nat → Int} (hG : GOK ad tys GG ws) (hW : W91 G ws) (hB : HB G) (h24 : rd ws 90 24 = some (.int (Int32.ofInt 0))) (h22 : rd ws 90 22 = some (.int (Int32.ofInt (-1)))) {f o : Int} (fI : I32 f) (oI : I32 o) : CT l D tys A 286 9 0 0 [.ref (ad 90), .int (Int32.ofInt (f)), .int (Int32.ofInt (o))] ws (fun r w => (GOK ad tys GG w ∧ MTW ws w) ∧ r = some (.int (if (0 ≤ f ∧ f < G 3) ∧ (0 ≤ o ∧ o < G 3) ∧ f ≠ o then (if whB G (G 2).toNat f.toNat o.toNat = true then Int32.ofInt (orI (btP G f.toNat o.toNat) (G 3).toNat) else Int32.ofInt 0) else Int32.ofInt (-2)))) := by
  refine CT_of_V (by omega) (show (3 : Nat) ≤ mML 286 by decide +kernel) ?_
  have b3 := hB.b3
  have b4 := hB.b4
  refine V_aload (v := ad 90) mi_286_0 (by simp [stL, lv_args, Value.category]) ?_
  refine V_iload (v := Int32.ofInt (f)) mi_286_1 (by simp [stL, lv_args, Value.category]) ?_
  refine V_iload (v := Int32.ofInt (o)) mi_286_2 (by simp [stL, lv_args, Value.category]) ?_
  refine V_callM (As := [.int (Int32.ofInt (f)), .int (Int32.ofInt (o))]) (st := []) mi_286_3 (by omega) (by decide +kernel) (by decide +kernel) hG (m2_ct hG hW hB fI oI) (by omega) (show 2 = mN 200 by decide +kernel) (by simp [Value.category]) ?_
  rintro r w1 ⟨rfl, rfl⟩
  refine V_bne mi_286_6  (fun c1 => ?_) (fun c1 => ?_)
  · have k1 := of_decide_eq_true c1
    obtain ⟨m, rfl⟩ := Int.eq_ofNat_of_zero_le k1.1.1
    obtain ⟨n, rfl⟩ := Int.eq_ofNat_of_zero_le k1.2.1.1
    refine V_ipush mi_286_12 ?_
    refine V_istore mi_286_13 ?_
    refine V_aload (v := ad 90) mi_286_14 (by simp [stL, lv_args, Value.category]) ?_
    refine V_iload (v := Int32.ofInt ((m : Int))) mi_286_15 (by simp [stL, lv_args, Value.category]) ?_
    refine V_iload (v := Int32.ofInt ((n : Int))) mi_286_16 (by simp [stL, lv_args, Value.category]) ?_
    refine V_ipush mi_286_17 ?_
    refine V_callM (As := [.int (Int32.ofInt ((m : Int))), .int (Int32.ofInt ((n : Int))), .int (Int32.ofInt (0))]) (st := []) mi_286_18 (by omega) (by decide +kernel) (by decide +kernel) hG (mwh2_ct (hz := Int32.ofInt 0) (f := m) (o := n) hG hW hB h24 h22 (by omega) (by omega)) (by omega) (show 3 = mN 284 by decide +kernel) (by simp [Value.category]) ?_
    rintro r w2 ⟨⟨G2, o2⟩, e2⟩
    rw [e2, hshB_0 hB]
    have O2 : MTW w1 w2 := fun c j h1 h2 => o2.1 c j h1 (by omega)
    change V _ _ _ _ _ _ _ _ _ _ _ _ _ [.int (bI (whB G (G 2).toNat m n))] _
    refine V_bne mi_286_21  (fun q2 => ?_) (fun q2 => ?_)
    · refine V_ipush mi_286_26 ?_
      refine V_istore mi_286_27 ?_
      refine V_sub (lv' := [(0, .ref (ad 90)), (1, .int (Int32.ofInt ((m : Int)))), (2, .int (Int32.ofInt ((n : Int)))), (3, .int (Int32.ofInt (0))), (4, .int (Int32.ofInt (((0 : Nat) : Int))))]) (fun q hq => ?_) ?_
      · simp only [List.mem_cons, List.not_mem_nil, or_false] at hq
        rcases hq with rfl | rfl | rfl | rfl | rfl <;> simp [stL, lv_args, Value.category]
      exact btm_29 (f := m) (o := n) hW hB h24 h22 (by omega) (by omega) (G 3).toNat 0 w2 (by omega) G2 O2 (fun w a b => ⟨⟨a, b⟩, by rw [if_pos k1]; simp only [Int.toNat_natCast, q2]; first | done | rfl⟩)
    · refine V_ipush mi_286_24 ?_
      exact V_retI mi_286_25 (fun h => absurd h (by decide +kernel)) ⟨⟨G2, O2⟩, by rw [if_pos k1]; simp only [Int.toNat_natCast, q2]; first | done | rfl⟩
  · refine V_ipush mi_286_9 ?_
    exact V_retI mi_286_11 (fun h => absurd h (by decide +kernel)) ⟨⟨hG, fun _ _ _ _ => rfl⟩, by rw [if_neg (of_decide_eq_false c1)]⟩
theorem trcM_ct {G : Nat → Int} (hG : GOK ad tys GG ws) (hW : W91 G ws) (hB : HB G) (h24 : rd ws 90 24 = some (.int (Int32.ofInt 0))) (h22 : rd ws 90 22 = some (.int (Int32.ofInt (-1)))) {f o : Int} (fI : I32 f) (oI : I32 o) : CT l D tys A 287 9 0 0 [.ref (ad 90), .int (Int32.ofInt (f)), .int (Int32.ofInt (o))] ws (fun r w => (GOK ad tys GG w ∧ MTW ws w) ∧ r = some (.int (if (0 ≤ f ∧ f < G 3) ∧ (0 ≤ o ∧ o < G 3) ∧ f ≠ o then (if whB G (G 2).toNat f.toNat o.toNat = true then orS (trP G f.toNat o.toNat) (G 4).toNat 0 (Int32.ofInt 0) else Int32.ofInt 0) else Int32.ofInt (-2)))) := by
  refine CT_of_V (by omega) (show (3 : Nat) ≤ mML 287 by decide +kernel) ?_
  have b3 := hB.b3
  have b4 := hB.b4
  refine V_aload (v := ad 90) mi_287_0 (by simp [stL, lv_args, Value.category]) ?_
  refine V_iload (v := Int32.ofInt (f)) mi_287_1 (by simp [stL, lv_args, Value.category]) ?_
  refine V_iload (v := Int32.ofInt (o)) mi_287_2 (by simp [stL, lv_args, Value.category]) ?_
  refine V_callM (As := [.int (Int32.ofInt (f)), .int (Int32.ofInt (o))]) (st := []) mi_287_3 (by omega) (by decide +kernel) (by decide +kernel) hG (m2_ct hG hW hB fI oI) (by omega) (show 2 = mN 200 by decide +kernel) (by simp [Value.category]) ?_
  rintro r w1 ⟨rfl, rfl⟩
  refine V_bne mi_287_6  (fun c1 => ?_) (fun c1 => ?_)
  · have k1 := of_decide_eq_true c1
    obtain ⟨m, rfl⟩ := Int.eq_ofNat_of_zero_le k1.1.1
    obtain ⟨n, rfl⟩ := Int.eq_ofNat_of_zero_le k1.2.1.1
    refine V_ipush mi_287_12 ?_
    refine V_istore mi_287_13 ?_
    refine V_aload (v := ad 90) mi_287_14 (by simp [stL, lv_args, Value.category]) ?_
    refine V_iload (v := Int32.ofInt ((m : Int))) mi_287_15 (by simp [stL, lv_args, Value.category]) ?_
    refine V_iload (v := Int32.ofInt ((n : Int))) mi_287_16 (by simp [stL, lv_args, Value.category]) ?_
    refine V_ipush mi_287_17 ?_
    refine V_callM (As := [.int (Int32.ofInt ((m : Int))), .int (Int32.ofInt ((n : Int))), .int (Int32.ofInt (0))]) (st := []) mi_287_18 (by omega) (by decide +kernel) (by decide +kernel) hG (mwh2_ct (hz := Int32.ofInt 0) (f := m) (o := n) hG hW hB h24 h22 (by omega) (by omega)) (by omega) (show 3 = mN 284 by decide +kernel) (by simp [Value.category]) ?_
    rintro r w2 ⟨⟨G2, o2⟩, e2⟩
    rw [e2, hshB_0 hB]
    have O2 : MTW w1 w2 := fun c j h1 h2 => o2.1 c j h1 (by omega)
    change V _ _ _ _ _ _ _ _ _ _ _ _ _ [.int (bI (whB G (G 2).toNat m n))] _
    refine V_bne mi_287_21  (fun q2 => ?_) (fun q2 => ?_)
    · refine V_ipush mi_287_26 ?_
      refine V_istore mi_287_27 ?_
      refine V_sub (lv' := [(0, .ref (ad 90)), (1, .int (Int32.ofInt ((m : Int)))), (2, .int (Int32.ofInt ((n : Int)))), (3, .int (Int32.ofInt 0)), (4, .int (Int32.ofInt (((0 : Nat) : Int))))]) (fun q hq => ?_) ?_
      · simp only [List.mem_cons, List.not_mem_nil, or_false] at hq
        rcases hq with rfl | rfl | rfl | rfl | rfl <;> simp [stL, lv_args, Value.category]
      exact trm2_29 (f := m) (o := n) hW hB h24 h22 (by omega) (by omega) (G 4).toNat 0 (Int32.ofInt 0) w2 (by omega) G2 O2 (fun w a b => ⟨⟨a, b⟩, by rw [if_pos k1]; simp only [Int.toNat_natCast, q2]; first | done | rfl⟩)
    · refine V_ipush mi_287_24 ?_
      exact V_retI mi_287_25 (fun h => absurd h (by decide +kernel)) ⟨⟨G2, O2⟩, by rw [if_pos k1]; simp only [Int.toNat_natCast, q2]; first | done | rfl⟩
  · refine V_ipush mi_287_9 ?_
    exact V_retI mi_287_11 (fun h => absurd h (by decide +kernel)) ⟨⟨hG, fun _ _ _ _ => rfl⟩, by rw [if_neg (of_decide_eq_false c1)]⟩
theorem pairT_betrayed (hAD : ∀ i : Nat, ad (1000 + i) = D.2 1000 i) (hG : GOK ad tys GG ws) (hR : RELW ws) (a1 a2 : Int32) : PAIRT l D tys A ad 36 286 [.ref (ad 0), .int a1, .int a2] [.ref (ad 90), .int a1, .int a2] ws := by
  obtain ⟨G0, o0, x0, y0⟩ := hR.1.2.1
  obtain ⟨G, o, x, y, hb, wf, hS⟩ := aux_sto hR.2 x0 y0 o0 (hb_of hG y0 o0)
  have c1 := btX_ct (l := l) (D := D) (A := A) hG x hb hS wf (i32b a1) (i32b a2)
  have c2 := fun (w : va_W) (hw : GOK ad tys GG w) (K : XSC ws w) => btM_ct (l := l) (D := D) (A := A) hw (XSC_W K y) hb ((K _ _ (by omega)).trans hR.2.2.2.2.2) ((K _ _ (by omega)).trans hR.2.2.2.2.1) (i32b a1) (i32b a2)
  simp only [oi] at c1 c2
  exact pairT_sw hR (by omega) (by omega) c1 c2
theorem pairT_traced (hAD : ∀ i : Nat, ad (1000 + i) = D.2 1000 i) (hG : GOK ad tys GG ws) (hR : RELW ws) (a1 a2 : Int32) : PAIRT l D tys A ad 37 287 [.ref (ad 0), .int a1, .int a2] [.ref (ad 90), .int a1, .int a2] ws := by
  obtain ⟨G0, o0, x0, y0⟩ := hR.1.2.1
  obtain ⟨G, o, x, y, hb, wf, hS⟩ := aux_sto hR.2 x0 y0 o0 (hb_of hG y0 o0)
  have c1 := trcX_ct (l := l) (D := D) (A := A) hG x hb hS wf (i32b a1) (i32b a2)
  have c2 := fun (w : va_W) (hw : GOK ad tys GG w) (K : XSC ws w) => trcM_ct (l := l) (D := D) (A := A) hw (XSC_W K y) hb ((K _ _ (by omega)).trans hR.2.2.2.2.2) ((K _ _ (by omega)).trans hR.2.2.2.2.1) (i32b a1) (i32b a2)
  simp only [oi] at c1 c2
  exact pairT_sw hR (by omega) (by omega) c1 c2
end XUC
