section XTG
variable {l : Launch} {D : va_G} {tys : List (ClassId × FieldType)} {A : Nat → Prop} {ad : Nat → Nat} {ws : va_W}
theorem sgS_y {Kw : Nat → Int} {m p : Nat} {t : Int} (h : tb t (p : Int) = true) : sgS Kw (m + 1) p t = sgS Kw m (p + 1) (orr t (Kw p)) := by
  show sgS Kw m (p + 1) (if tb t (p : Int) = true then orr t (Kw p) else t) = _
  rw [if_pos h]
theorem sgS_n {Kw : Nat → Int} {m p : Nat} {t : Int} (h : tb t (p : Int) = false) : sgS Kw (m + 1) p t = sgS Kw m (p + 1) t := by
  show sgS Kw m (p + 1) (if tb t (p : Int) = true then orr t (Kw p) else t) = _
  rw [if_neg (by rw [h]; exact Bool.false_ne_true)]
theorem itN_s {F : Int → Int} {t : Int} : ∀ k : Nat, itN F k (F t) = F (itN F k t)
  | 0 => rfl
  | k + 1 => by
    show F (itN F k (F t)) = F (F (itN F k t))
    rw [itN_s k]
theorem zsh_all : (List.range 6).all (fun i => decide (ibF 8 (Int32.ofInt 0) (Int32.ofInt (i : Nat)) = Int32.ofInt 0)) = true := by decide +kernel
theorem zsh {i : Nat} (h : i < 6) : ibF 8 (Int32.ofInt 0) (Int32.ofInt (i : Int)) = Int32.ofInt 0 := of_decide_eq_true (List.all_eq_true.mp zsh_all i (List.mem_range.mpr h))
/-- the class's rows -/
def RCH (G : Nat → Int) (Rw : Nat → Int) (w : va_W) : Prop := ∀ p, p < (G 3).toNat → rd w 38 p = some (.int (Int32.ofInt (Rw p)))
theorem knn_5 {G : Nat → Int} (hG : GOK ad tys GG ws) (hX : HX 4 G ws) (hB : HB G) (hS : STO G ws) {f : Nat} {post : Option Value → va_W → Prop} (hf : (f : Int) < G 3) : ∀ (m p : Nat), ((p + m : Nat) : Int) = G 3 → post (some (.int (Int32.ofInt (orI (kwP G f) (G 3).toNat)))) ws → V l D tys A 82 3 0 0 post 0 0 5 [(0, .ref (ad 4)), (1, .ref (ad 32)), (2, .int (Int32.ofInt ((f : Int)))), (3, .int (Int32.ofInt (orI (kwP G f) p))), (4, .int (Int32.ofInt ((p : Int))))] [] ws
  | 0, p, hm, kk => by
    have b3 := hB.b3
    have b2 := hB.b2
    refine V_iload (v := Int32.ofInt ((p : Int))) mi_82_5 (by simp [stL, lv_args, Value.category]) ?_
    refine V_aload (v := ad 4) mi_82_7 (by simp [stL, lv_args, Value.category]) ?_
    refine V_gO mi_82_8 g4o hG (show rd _ 4 4 = some (.int (Int32.ofInt (G 3))) from hx0 hX (i := 4) (by omega)) ?_
    refine V_cge mi_82_11 ⟨by omega, by omega⟩ ⟨by omega, by omega⟩ (fun q => ?_) (fun q => ?_)
    · have e : p = (G 3).toNat := by omega
      rw [← e] at kk
      refine V_iload (v := Int32.ofInt (orI (kwP G f) p)) mi_82_48 (by simp [stL, lv_args, Value.category]) ?_
      exact V_retI mi_82_49 (fun h => absurd h (by decide +kernel)) kk
    · exact absurd q (by omega)
  | m + 1, p, hm, kk => by
    have b3 := hB.b3
    have b2 := hB.b2
    refine V_iload (v := Int32.ofInt ((p : Int))) mi_82_5 (by simp [stL, lv_args, Value.category]) ?_
    refine V_aload (v := ad 4) mi_82_7 (by simp [stL, lv_args, Value.category]) ?_
    refine V_gO mi_82_8 g4o hG (show rd _ 4 4 = some (.int (Int32.ofInt (G 3))) from hx0 hX (i := 4) (by omega)) ?_
    refine V_cge mi_82_11 ⟨by omega, by omega⟩ ⟨by omega, by omega⟩ (fun q => ?_) (fun q => ?_)
    · exact absurd q (by omega)
    · refine V_iload (v := Int32.ofInt ((p : Int))) mi_82_14 (by simp [stL, lv_args, Value.category]) ?_
      refine V_iload (v := Int32.ofInt ((f : Int))) mi_82_16 (by simp [stL, lv_args, Value.category]) ?_
      refine V_ceq mi_82_17 ⟨by omega, by omega⟩ ⟨by omega, by omega⟩ (fun q2 => ?_) (fun q2 => ?_)
      · rw [← orI_s0 (P := kwP G f) (by rw [show p = f by omega]; exact kwP_f)]
        refine V_iinc (v := Int32.ofInt ((p : Int))) mi_82_42 (by simp [stL, lv_args, Value.category]) ?_
        rw [ia2]
        refine V_goto mi_82_45 ?_
        refine V_sub (lv' := [(0, .ref (ad 4)), (1, .ref (ad 32)), (2, .int (Int32.ofInt ((f : Int)))), (3, .int (Int32.ofInt (orI (kwP G f) (p + 1)))), (4, .int (Int32.ofInt (((p + 1 : Nat) : Int))))]) (fun q hq => ?_) ?_
        · simp only [List.mem_cons, List.not_mem_nil, or_false] at hq
          rcases hq with rfl | rfl | rfl | rfl | rfl <;> simp [stL, lv_args, Value.category]
        exact knn_5 hG hX hB hS hf m (p + 1) (by omega) kk
      · have hn : p ≠ f := by omega
        refine V_aload (v := ad 32) mi_82_20 (by simp [stL, lv_args, Value.category]) ?_
        refine V_aload (v := ad 4) mi_82_21 (by simp [stL, lv_args, Value.category]) ?_
        refine V_iload (v := Int32.ofInt ((f : Int))) mi_82_22 (by simp [stL, lv_args, Value.category]) ?_
        refine V_iload (v := Int32.ofInt ((p : Int))) mi_82_23 (by simp [stL, lv_args, Value.category]) ?_
        refine V_aload (v := ad 4) mi_82_25 (by simp [stL, lv_args, Value.category]) ?_
        refine V_gO mi_82_26 g4o hG (show rd _ 4 3 = some (.int (Int32.ofInt (G 2))) from hx0 hX (i := 3) (by omega)) ?_
        rw [show G 2 = (((G 2).toNat : Nat) : Int) by omega]
        refine V_cO (As := [.ref (ad 4), .int (Int32.ofInt ((f : Int))), .int (Int32.ofInt ((p : Int))), .int (Int32.ofInt (((G 2).toNat : Int)))]) (st := []) mi_82_29 (by omega) (by decide +kernel) (by decide +kernel) (by omega) g32o hG (swh_ct (f := f) (o := p) (g := (G 2).toNat) hG hX hB hS hf (by omega) (by omega)) (by omega) (show 4 = mN 177 by decide +kernel) (by simp [Value.category]) ?_
        rintro r w1 ⟨e1, rfl⟩
        rw [e1]
        refine V_beq mi_82_32  (fun q3 => ?_) (fun q3 => ?_)
        · rw [← orI_s0 (P := kwP G f) (by rw [kwP_n hn]; exact q3)]
          refine V_iinc (v := Int32.ofInt ((p : Int))) mi_82_42 (by simp [stL, lv_args, Value.category]) ?_
          rw [ia2]
          refine V_goto mi_82_45 ?_
          refine V_sub (lv' := [(0, .ref (ad 4)), (1, .ref (ad 32)), (2, .int (Int32.ofInt ((f : Int)))), (3, .int (Int32.ofInt (orI (kwP G f) (p + 1)))), (4, .int (Int32.ofInt (((p + 1 : Nat) : Int))))]) (fun q hq => ?_) ?_
          · simp only [List.mem_cons, List.not_mem_nil, or_false] at hq
            rcases hq with rfl | rfl | rfl | rfl | rfl <;> simp [stL, lv_args, Value.category]
          exact knn_5 hG hX hB hS hf m (p + 1) (by omega) kk
        · refine V_iload (v := Int32.ofInt (orI (kwP G f) p)) mi_82_35 (by simp [stL, lv_args, Value.category]) ?_
          refine V_ipush mi_82_36 ?_
          refine V_iload (v := Int32.ofInt ((p : Int))) mi_82_37 (by simp [stL, lv_args, Value.category]) ?_
          refine V_ibin mi_82_39 (by omega) ?_
          refine V_ibin mi_82_40 (by omega) ?_
          rw [bitO_i, ← orI_s1 (P := kwP G f) (by rw [kwP_n hn]; exact q3)]
          refine V_istore mi_82_41 ?_
          refine V_iinc (v := Int32.ofInt ((p : Int))) mi_82_42 (by simp [stL, lv_args, Value.category]) ?_
          rw [ia2]
          refine V_goto mi_82_45 ?_
          refine V_sub (lv' := [(0, .ref (ad 4)), (1, .ref (ad 32)), (2, .int (Int32.ofInt ((f : Int)))), (3, .int (Int32.ofInt (orI (kwP G f) (p + 1)))), (4, .int (Int32.ofInt (((p + 1 : Nat) : Int))))]) (fun q hq => ?_) ?_
          · simp only [List.mem_cons, List.not_mem_nil, or_false] at hq
            rcases hq with rfl | rfl | rfl | rfl | rfl <;> simp [stL, lv_args, Value.category]
          exact knn_5 hG hX hB hS hf m (p + 1) (by omega) kk
theorem knn_ct {G : Nat → Int} (hG : GOK ad tys GG ws) (hX : HX 4 G ws) (hB : HB G) (hS : STO G ws) {f : Nat} (hf : (f : Int) < G 3) : CT l D tys A 82 3 0 0 [.ref (ad 4), .ref (ad 32), .int (Int32.ofInt ((f : Int)))] ws (fun r w => w = ws ∧ r = some (.int (Int32.ofInt (kwR G f)))) := by
  refine CT_of_V (by omega) (show (3 : Nat) ≤ mML 82 by decide +kernel) ?_
  have b3 := hB.b3
  refine V_ipush mi_82_0 ?_
  refine V_istore mi_82_1 ?_
  refine V_ipush mi_82_2 ?_
  refine V_istore mi_82_3 ?_
  refine V_sub (lv' := [(0, .ref (ad 4)), (1, .ref (ad 32)), (2, .int (Int32.ofInt ((f : Int)))), (3, .int (Int32.ofInt (0))), (4, .int (Int32.ofInt (((0 : Nat) : Int))))]) (fun q hq => ?_) ?_
  · simp only [List.mem_cons, List.not_mem_nil, or_false] at hq
    rcases hq with rfl | rfl | rfl | rfl | rfl <;> simp [stL, lv_args, Value.category]
  exact knn_5 hG hX hB hS hf (G 3).toNat 0 (by omega) ⟨rfl, rfl⟩
theorem fur_5 {G : Nat → Int} (hG : GOK ad tys GG ws) (hX : HX 4 G ws) (hB : HB G) {s : Int} (s0 : 0 ≤ s) (s1 : s ≤ 63) {Rw : Nat → Int} (hR : RCH G Rw ws) {post : Option Value → va_W → Prop} : ∀ (m p : Nat), ((p + m : Nat) : Int) = G 3 → post (some (.int (Int32.ofInt (fuS Rw s (G 3).toNat)))) ws → V l D tys A 83 1 0 0 post 0 0 5 [(0, .ref (ad 36)), (1, .ref (ad 4)), (2, .int (Int32.ofInt (s))), (3, .int (Int32.ofInt (fuS Rw s p))), (4, .int (Int32.ofInt ((p : Int))))] [] ws
  | 0, p, hm, kk => by
    have b3 := hB.b3
    refine V_iload (v := Int32.ofInt ((p : Int))) mi_83_5 (by simp [stL, lv_args, Value.category]) ?_
    refine V_aload (v := ad 4) mi_83_7 (by simp [stL, lv_args, Value.category]) ?_
    refine V_gO mi_83_8 g4o hG (show rd _ 4 4 = some (.int (Int32.ofInt (G 3))) from hx0 hX (i := 4) (by omega)) ?_
    refine V_cge mi_83_11 ⟨by omega, by omega⟩ ⟨by omega, by omega⟩ (fun q => ?_) (fun q => ?_)
    · have e : p = (G 3).toNat := by omega
      rw [← e] at kk
      refine V_iload (v := Int32.ofInt (fuS Rw s p)) mi_83_41 (by simp [stL, lv_args, Value.category]) ?_
      exact V_retI mi_83_42 (fun h => absurd h (by decide +kernel)) kk
    · exact absurd q (by omega)
  | m + 1, p, hm, kk => by
    have b3 := hB.b3
    refine V_iload (v := Int32.ofInt ((p : Int))) mi_83_5 (by simp [stL, lv_args, Value.category]) ?_
    refine V_aload (v := ad 4) mi_83_7 (by simp [stL, lv_args, Value.category]) ?_
    refine V_gO mi_83_8 g4o hG (show rd _ 4 4 = some (.int (Int32.ofInt (G 3))) from hx0 hX (i := 4) (by omega)) ?_
    refine V_cge mi_83_11 ⟨by omega, by omega⟩ ⟨by omega, by omega⟩ (fun q => ?_) (fun q => ?_)
    · exact absurd q (by omega)
    · refine V_iload (v := Int32.ofInt (s)) mi_83_14 (by simp [stL, lv_args, Value.category]) ?_
      refine V_iload (v := Int32.ofInt ((p : Int))) mi_83_15 (by simp [stL, lv_args, Value.category]) ?_
      refine V_ibin mi_83_17 (by omega) ?_
      refine V_ipush mi_83_18 ?_
      refine V_ibin mi_83_19 (by omega) ?_
      rw [(tb_k (a := s) (i := (p : Int)) s0 s1 (by omega) (by omega)).1]
      refine V_beq mi_83_20  (fun q2 => ?_) (fun q2 => ?_)
      · rw [← fuS_0 (Rw := Rw) q2]
        refine V_iinc (v := Int32.ofInt ((p : Int))) mi_83_35 (by simp [stL, lv_args, Value.category]) ?_
        rw [ia2]
        refine V_goto mi_83_38 ?_
        refine V_sub (lv' := [(0, .ref (ad 36)), (1, .ref (ad 4)), (2, .int (Int32.ofInt (s))), (3, .int (Int32.ofInt (fuS Rw s (p + 1)))), (4, .int (Int32.ofInt (((p + 1 : Nat) : Int))))]) (fun q hq => ?_) ?_
        · simp only [List.mem_cons, List.not_mem_nil, or_false] at hq
          rcases hq with rfl | rfl | rfl | rfl | rfl <;> simp [stL, lv_args, Value.category]
        exact fur_5 hG hX hB s0 s1 hR m (p + 1) (by omega) kk
      · refine V_iload (v := Int32.ofInt (fuS Rw s p)) mi_83_23 (by simp [stL, lv_args, Value.category]) ?_
        refine V_aload (v := ad 36) mi_83_24 (by simp [stL, lv_args, Value.category]) ?_
        refine V_gR mi_83_25 g36r1 (by omega) hG ?_
        refine V_iload (v := Int32.ofInt ((p : Int))) mi_83_28 (by simp [stL, lv_args, Value.category]) ?_
        refine V_stat (As := [.ref (ad 38), .int (Int32.ofInt ((p : Int)))]) (st := [.int (Int32.ofInt (fuS Rw s p))]) mi_83_30 (by omega) (atk_ct (j := p) a38 hG (by omega) (by omega) (hR p (by omega))) (by omega) (show 2 = mN 147 by decide +kernel) (by simp [Value.category]) ⟨Nat.le_refl _, Nat.le_refl _⟩ ?_
        rintro r w1 ⟨e1, rfl⟩
        rw [e1]
        refine V_ibin mi_83_33 (by omega) ?_
        rw [orr_i, ← fuS_1 q2]
        refine V_istore mi_83_34 ?_
        refine V_iinc (v := Int32.ofInt ((p : Int))) mi_83_35 (by simp [stL, lv_args, Value.category]) ?_
        rw [ia2]
        refine V_goto mi_83_38 ?_
        refine V_sub (lv' := [(0, .ref (ad 36)), (1, .ref (ad 4)), (2, .int (Int32.ofInt (s))), (3, .int (Int32.ofInt (fuS Rw s (p + 1)))), (4, .int (Int32.ofInt (((p + 1 : Nat) : Int))))]) (fun q hq => ?_) ?_
        · simp only [List.mem_cons, List.not_mem_nil, or_false] at hq
          rcases hq with rfl | rfl | rfl | rfl | rfl <;> simp [stL, lv_args, Value.category]
        exact fur_5 hG hX hB s0 s1 hR m (p + 1) (by omega) kk
theorem fur_ct {G : Nat → Int} (hG : GOK ad tys GG ws) (hX : HX 4 G ws) (hB : HB G) {s : Int} (s0 : 0 ≤ s) (s1 : s ≤ 63) {Rw : Nat → Int} (hR : RCH G Rw ws) : CT l D tys A 83 1 0 0 [.ref (ad 36), .ref (ad 4), .int (Int32.ofInt (s))] ws (fun r w => w = ws ∧ r = some (.int (Int32.ofInt (fuS Rw s (G 3).toNat)))) := by
  refine CT_of_V (by omega) (show (3 : Nat) ≤ mML 83 by decide +kernel) ?_
  have b3 := hB.b3
  refine V_iload (v := Int32.ofInt (s)) mi_83_0 (by simp [stL, lv_args, Value.category]) ?_
  refine V_istore mi_83_1 ?_
  refine V_ipush mi_83_2 ?_
  refine V_istore mi_83_3 ?_
  refine V_sub (lv' := [(0, .ref (ad 36)), (1, .ref (ad 4)), (2, .int (Int32.ofInt (s))), (3, .int (Int32.ofInt (s))), (4, .int (Int32.ofInt (((0 : Nat) : Int))))]) (fun q hq => ?_) ?_
  · simp only [List.mem_cons, List.not_mem_nil, or_false] at hq
    rcases hq with rfl | rfl | rfl | rfl | rfl <;> simp [stL, lv_args, Value.category]
  exact fur_5 hG hX hB s0 s1 hR (G 3).toNat 0 (by omega) ⟨rfl, rfl⟩
theorem ror_90 {G : Nat → Int} {w0 : va_W} (hX0 : HX 4 G w0) (hS0 : STO G w0) (hB : HB G) (hG : GOK ad tys GG ws) (hO : XSC w0 ws) {Rw : Nat → Int} (hR : RCH G Rw ws) (hR6 : RgI (kwR G) (G 3).toNat 6 0 Rw) {post : Option Value → va_W → Prop} : ∀ (m p : Nat), ((p + m : Nat) : Int) = G 3 → post (some (.int (Int32.ofInt (orI (rgP G) (G 3).toNat)))) ws → V l D tys A 81 4 0 0 post 0 0 90 [(0, .ref (ad 36)), (1, .ref (ad 4)), (2, .ref (ad 32)), (3, .int (Int32.ofInt (orI (rgP G) p))), (4, .int (Int32.ofInt ((p : Int))))] [] ws
  | 0, p, hm, kk => by
    have hX : HX 4 G ws := XSC_X hO hX0
    have hS : STO G ws := XSC_S hO hS0
    have b3 := hB.b3
    have b2 := hB.b2
    refine V_iload (v := Int32.ofInt ((p : Int))) mi_81_90 (by simp [stL, lv_args, Value.category]) ?_
    refine V_aload (v := ad 4) mi_81_92 (by simp [stL, lv_args, Value.category]) ?_
    refine V_gO mi_81_93 g4o hG (show rd _ 4 4 = some (.int (Int32.ofInt (G 3))) from hx0 hX (i := 4) (by omega)) ?_
    refine V_cge mi_81_96 ⟨by omega, by omega⟩ ⟨by omega, by omega⟩ (fun q => ?_) (fun q => ?_)
    · have e : p = (G 3).toNat := by omega
      rw [← e] at kk
      refine V_iload (v := Int32.ofInt (orI (rgP G) p)) mi_81_122 (by simp [stL, lv_args, Value.category]) ?_
      exact V_retI mi_81_123 (fun h => absurd h (by decide +kernel)) kk
    · exact absurd q (by omega)
  | m + 1, p, hm, kk => by
    have hX : HX 4 G ws := XSC_X hO hX0
    have hS : STO G ws := XSC_S hO hS0
    have b3 := hB.b3
    have b2 := hB.b2
    refine V_iload (v := Int32.ofInt ((p : Int))) mi_81_90 (by simp [stL, lv_args, Value.category]) ?_
    refine V_aload (v := ad 4) mi_81_92 (by simp [stL, lv_args, Value.category]) ?_
    refine V_gO mi_81_93 g4o hG (show rd _ 4 4 = some (.int (Int32.ofInt (G 3))) from hx0 hX (i := 4) (by omega)) ?_
    refine V_cge mi_81_96 ⟨by omega, by omega⟩ ⟨by omega, by omega⟩ (fun q => ?_) (fun q => ?_)
    · exact absurd q (by omega)
    · have hI := hR6 p (by omega)
      have e6 : tb (Rw p) (p : Int) = rgP G p := RgI_6 (kwR_b hB) (by omega) (by omega) hR6
      have oa := (opA_k (a := Rw p) (i := p) hI.1.1 hI.1.2 (by omega)).1
      rw [e6] at oa
      refine V_iload (v := Int32.ofInt (orI (rgP G) p)) mi_81_99 (by simp [stL, lv_args, Value.category]) ?_
      refine V_aload (v := ad 36) mi_81_100 (by simp [stL, lv_args, Value.category]) ?_
      refine V_gR mi_81_101 g36r1 (by omega) hG ?_
      refine V_iload (v := Int32.ofInt ((p : Int))) mi_81_104 (by simp [stL, lv_args, Value.category]) ?_
      refine V_stat (As := [.ref (ad 38), .int (Int32.ofInt ((p : Int)))]) (st := [.int (Int32.ofInt (orI (rgP G) p))]) mi_81_106 (by omega) (atk_ct (j := p) a38 hG (by omega) (by omega) (hR p (by omega))) (by omega) (show 2 = mN 147 by decide +kernel) (by simp [Value.category]) ⟨Nat.le_refl _, Nat.le_refl _⟩ ?_
      rintro r w1 ⟨e1, rfl⟩
      rw [e1]
      refine V_ipush mi_81_109 ?_
      refine V_iload (v := Int32.ofInt ((p : Int))) mi_81_110 (by simp [stL, lv_args, Value.category]) ?_
      refine V_ibin mi_81_112 (by omega) ?_
      refine V_ibin mi_81_113 (by omega) ?_
      rw [oa]
      rcases Bool.eq_false_or_eq_true (rgP G p) with hb | hb
      · rw [if_pos hb]
        refine V_ibin mi_81_114 (by omega) ?_
        rw [bitO_i, ← orI_s1 hb]
        refine V_istore mi_81_115 ?_
        refine V_iinc (v := Int32.ofInt ((p : Int))) mi_81_116 (by simp [stL, lv_args, Value.category]) ?_
        rw [ia2]
        refine V_goto mi_81_119 ?_
        refine V_sub (lv' := [(0, .ref (ad 36)), (1, .ref (ad 4)), (2, .ref (ad 32)), (3, .int (Int32.ofInt (orI (rgP G) (p + 1)))), (4, .int (Int32.ofInt (((p + 1 : Nat) : Int))))]) (fun q hq => ?_) ?_
        · simp only [List.mem_cons, List.not_mem_nil, or_false] at hq
          rcases hq with rfl | rfl | rfl | rfl | rfl <;> simp [stL, lv_args, Value.category]
        exact ror_90 hX0 hS0 hB hG hO hR hR6 m (p + 1) (by omega) kk
      · rw [if_neg (by rw [hb]; exact Bool.false_ne_true), show (0 : Int32) = Int32.ofInt 0 from rfl]
        refine V_ibin mi_81_114 (by omega) ?_
        rw [or0, ← orI_s0 hb]
        refine V_istore mi_81_115 ?_
        refine V_iinc (v := Int32.ofInt ((p : Int))) mi_81_116 (by simp [stL, lv_args, Value.category]) ?_
        rw [ia2]
        refine V_goto mi_81_119 ?_
        refine V_sub (lv' := [(0, .ref (ad 36)), (1, .ref (ad 4)), (2, .ref (ad 32)), (3, .int (Int32.ofInt (orI (rgP G) (p + 1)))), (4, .int (Int32.ofInt (((p + 1 : Nat) : Int))))]) (fun q hq => ?_) ?_
        · simp only [List.mem_cons, List.not_mem_nil, or_false] at hq
          rcases hq with rfl | rfl | rfl | rfl | rfl <;> simp [stL, lv_args, Value.category]
        exact ror_90 hX0 hS0 hB hG hO hR hR6 m (p + 1) (by omega) kk
theorem ror_41 {G : Nat → Int} {w0 : va_W} (hX0 : HX 4 G w0) (hS0 : STO G w0) (hB : HB G) {u : Nat} {post : Option Value → va_W → Prop} : ∀ (m p : Nat) (Rw : Nat → Int) (ws : va_W), ((p + m : Nat) : Int) = G 3 → GOK ad tys GG ws → XSC w0 ws → RCH G Rw ws → RgI (kwR G) (G 3).toNat u p Rw → (∀ (R2 : Nat → Int) (w : va_W), GOK ad tys GG w → XSC w0 w → RCH G R2 w → RgI (kwR G) (G 3).toNat (u + 1) 0 R2 → V l D tys A 81 4 0 0 post 0 0 32 [(0, .ref (ad 36)), (1, .ref (ad 4)), (2, .ref (ad 32)), (3, .int (Int32.ofInt (((u + 1 : Nat) : Int))))] [] w) → V l D tys A 81 4 0 0 post 0 0 41 [(0, .ref (ad 36)), (1, .ref (ad 4)), (2, .ref (ad 32)), (3, .int (Int32.ofInt ((u : Int)))), (4, .int (Int32.ofInt ((p : Int))))] [] ws
  | 0, p, Rw, ws, hm, hG, hO, hR, hR6, kk => by
    have hX : HX 4 G ws := XSC_X hO hX0
    have hS : STO G ws := XSC_S hO hS0
    have b3 := hB.b3
    have b2 := hB.b2
    refine V_iload (v := Int32.ofInt ((p : Int))) mi_81_41 (by simp [stL, lv_args, Value.category]) ?_
    refine V_aload (v := ad 4) mi_81_43 (by simp [stL, lv_args, Value.category]) ?_
    refine V_gO mi_81_44 g4o hG (show rd _ 4 4 = some (.int (Int32.ofInt (G 3))) from hx0 hX (i := 4) (by omega)) ?_
    refine V_cge mi_81_47 ⟨by omega, by omega⟩ ⟨by omega, by omega⟩ (fun q => ?_) (fun q => ?_)
    · have e : p = (G 3).toNat := by omega
      rw [e] at hR6
      refine V_iinc (v := Int32.ofInt ((u : Int))) mi_81_79 (by simp [stL, lv_args, Value.category]) ?_
      rw [ia2]
      rw [show (u : Int) + (1) = ((u + 1 : Nat) : Int) by omega]
      refine V_goto mi_81_82 ?_
      refine V_sub (lv' := [(0, .ref (ad 36)), (1, .ref (ad 4)), (2, .ref (ad 32)), (3, .int (Int32.ofInt (((u + 1 : Nat) : Int))))]) (fun q hq => ?_) ?_
      · simp only [List.mem_cons, List.not_mem_nil, or_false] at hq
        rcases hq with rfl | rfl | rfl | rfl <;> simp [stL, lv_args, Value.category]
      exact kk Rw ws hG hO hR (RgI_n hR6)
    · exact absurd q (by omega)
  | m + 1, p, Rw, ws, hm, hG, hO, hR, hR6, kk => by
    have hX : HX 4 G ws := XSC_X hO hX0
    have hS : STO G ws := XSC_S hO hS0
    have b3 := hB.b3
    have b2 := hB.b2
    refine V_iload (v := Int32.ofInt ((p : Int))) mi_81_41 (by simp [stL, lv_args, Value.category]) ?_
    refine V_aload (v := ad 4) mi_81_43 (by simp [stL, lv_args, Value.category]) ?_
    refine V_gO mi_81_44 g4o hG (show rd _ 4 4 = some (.int (Int32.ofInt (G 3))) from hx0 hX (i := 4) (by omega)) ?_
    refine V_cge mi_81_47 ⟨by omega, by omega⟩ ⟨by omega, by omega⟩ (fun q => ?_) (fun q => ?_)
    · exact absurd q (by omega)
    · have hI := hR6 p (by omega)
      have rs := RgI_s (kwR_b hB) (by omega) (show p < (G 3).toNat by omega) hR6
      refine V_aload (v := ad 36) mi_81_50 (by simp [stL, lv_args, Value.category]) ?_
      refine V_gR mi_81_51 g36r1 (by omega) hG ?_
      refine V_iload (v := Int32.ofInt ((p : Int))) mi_81_54 (by simp [stL, lv_args, Value.category]) ?_
      refine V_aload (v := ad 36) mi_81_56 (by simp [stL, lv_args, Value.category]) ?_
      refine V_aload (v := ad 4) mi_81_57 (by simp [stL, lv_args, Value.category]) ?_
      refine V_aload (v := ad 36) mi_81_58 (by simp [stL, lv_args, Value.category]) ?_
      refine V_gR mi_81_59 g36r1 (by omega) hG ?_
      refine V_iload (v := Int32.ofInt ((p : Int))) mi_81_62 (by simp [stL, lv_args, Value.category]) ?_
      refine V_stat (As := [.ref (ad 38), .int (Int32.ofInt ((p : Int)))]) (st := [.ref (ad 4), .ref (ad 36), .int (Int32.ofInt ((p : Int))), .ref (ad 38)]) mi_81_64 (by omega) (atk_ct (j := p) a38 hG (by omega) (by omega) (hR p (by omega))) (by omega) (show 2 = mN 147 by decide +kernel) (by simp [Value.category]) ⟨Nat.le_refl _, Nat.le_refl _⟩ ?_
      rintro r w1 ⟨e1, rfl⟩
      rw [e1]
      refine V_cO (As := [.ref (ad 4), .int (Int32.ofInt (Rw p))]) (st := [.int (Int32.ofInt ((p : Int))), .ref (ad 38)]) mi_81_67 (by omega) (by decide +kernel) (by decide +kernel) (by omega) g36o hG (fur_ct hG hX hB hI.1.1 hI.1.2 hR) (by omega) (show 2 = mN 83 by decide +kernel) (by simp [Value.category]) ?_
      rintro r w2 ⟨e2, rfl⟩
      rw [e2]
      refine V_stat (As := [.ref (ad 38), .int (Int32.ofInt ((p : Int))), .int (Int32.ofInt (fuS Rw (Rw p) (G 3).toNat))]) (st := []) mi_81_70 (by omega) (putk_ct (j := p) a38 hG (by omega) (by omega)) (by omega) (show 3 = mN 148 by decide +kernel) (by simp [Value.category]) ⟨Nat.le_refl _, Nat.le_refl _⟩ ?_
      rintro r w3 ⟨rfl, G3, U3⟩
      refine V_iinc (v := Int32.ofInt ((p : Int))) mi_81_73 (by simp [stL, lv_args, Value.category]) ?_
      rw [ia2]
      refine V_goto mi_81_76 ?_
      refine V_sub (lv' := [(0, .ref (ad 36)), (1, .ref (ad 4)), (2, .ref (ad 32)), (3, .int (Int32.ofInt ((u : Int)))), (4, .int (Int32.ofInt (((p + 1 : Nat) : Int))))]) (fun q hq => ?_) ?_
      · simp only [List.mem_cons, List.not_mem_nil, or_false] at hq
        rcases hq with rfl | rfl | rfl | rfl | rfl <;> simp [stL, lv_args, Value.category]
      refine ror_41 hX0 hS0 hB m (p + 1) _ w3 (by omega) G3 (fun c j hc => (upd_ne U3 (by omega)).trans (hO c j hc)) (fun q hq => ?_) rs.2 kk
      by_cases e : q = p
      · rw [e, show updI Rw p (fuS Rw (Rw p) (G 3).toNat) p = fuS Rw (Rw p) (G 3).toNat from if_pos rfl]
        exact upd_eq U3
      · rw [show updI Rw p (fuS Rw (Rw p) (G 3).toNat) q = Rw q from if_neg e]
        exact (upd_ne U3 (by omega)).trans (hR q hq)
theorem ror_32 {G : Nat → Int} {w0 : va_W} (hX0 : HX 4 G w0) (hS0 : STO G w0) (hB : HB G) {post : Option Value → va_W → Prop} : ∀ (k u : Nat) (Rw : Nat → Int) (ws : va_W), u + k = 6 → GOK ad tys GG ws → XSC w0 ws → RCH G Rw ws → RgI (kwR G) (G 3).toNat u 0 Rw → (∀ w : va_W, GOK ad tys GG w → XSC w0 w → post (some (.int (Int32.ofInt (orI (rgP G) (G 3).toNat)))) w) → V l D tys A 81 4 0 0 post 0 0 32 [(0, .ref (ad 36)), (1, .ref (ad 4)), (2, .ref (ad 32)), (3, .int (Int32.ofInt ((u : Int))))] [] ws
  | 0, u, Rw, ws, hm, hG, hO, hR, hR6, kk => by
    have b3 := hB.b3
    refine V_iload (v := Int32.ofInt ((u : Int))) mi_81_32 (by simp [stL, lv_args, Value.category]) ?_
    refine V_ipush mi_81_33 ?_
    refine V_cge mi_81_35 ⟨by omega, by omega⟩ ⟨by omega, by omega⟩ (fun q => ?_) (fun q => ?_)
    · have e : u = 6 := by omega
      rw [e] at hR6
      refine V_ipush mi_81_85 ?_
      refine V_istore mi_81_86 ?_
      refine V_ipush mi_81_87 ?_
      refine V_istore mi_81_88 ?_
      refine V_sub (lv' := [(0, .ref (ad 36)), (1, .ref (ad 4)), (2, .ref (ad 32)), (3, .int (Int32.ofInt (0))), (4, .int (Int32.ofInt (((0 : Nat) : Int))))]) (fun q hq => ?_) ?_
      · simp only [List.mem_cons, List.not_mem_nil, or_false] at hq
        rcases hq with rfl | rfl | rfl | rfl | rfl <;> simp [stL, lv_args, Value.category]
      exact ror_90 hX0 hS0 hB hG hO hR hR6 (G 3).toNat 0 (by omega) (kk ws hG hO)
    · exact absurd q (by omega)
  | k + 1, u, Rw, ws, hm, hG, hO, hR, hR6, kk => by
    have b3 := hB.b3
    refine V_iload (v := Int32.ofInt ((u : Int))) mi_81_32 (by simp [stL, lv_args, Value.category]) ?_
    refine V_ipush mi_81_33 ?_
    refine V_cge mi_81_35 ⟨by omega, by omega⟩ ⟨by omega, by omega⟩ (fun q => ?_) (fun q => ?_)
    · exact absurd q (by omega)
    · refine V_ipush mi_81_38 ?_
      refine V_istore mi_81_39 ?_
      refine V_sub (lv' := [(0, .ref (ad 36)), (1, .ref (ad 4)), (2, .ref (ad 32)), (3, .int (Int32.ofInt ((u : Int)))), (4, .int (Int32.ofInt (((0 : Nat) : Int))))]) (fun q hq => ?_) ?_
      · simp only [List.mem_cons, List.not_mem_nil, or_false] at hq
        rcases hq with rfl | rfl | rfl | rfl | rfl <;> simp [stL, lv_args, Value.category]
      exact ror_41 hX0 hS0 hB (G 3).toNat 0 Rw ws (by omega) hG hO hR hR6 (fun R2 w g o r i => ror_32 hX0 hS0 hB k (u + 1) R2 w (by omega) g o r i kk)
theorem ror_2 {G : Nat → Int} {w0 : va_W} (hX0 : HX 4 G w0) (hS0 : STO G w0) (hB : HB G) {post : Option Value → va_W → Prop} : ∀ (m p : Nat) (ws : va_W), ((p + m : Nat) : Int) = G 3 → GOK ad tys GG ws → XSC w0 ws → (∀ q, q < p → rd ws 38 q = some (.int (Int32.ofInt (kwR G q)))) → (∀ w : va_W, GOK ad tys GG w → XSC w0 w → post (some (.int (Int32.ofInt (orI (rgP G) (G 3).toNat)))) w) → V l D tys A 81 4 0 0 post 0 0 2 [(0, .ref (ad 36)), (1, .ref (ad 4)), (2, .ref (ad 32)), (3, .int (Int32.ofInt ((p : Int))))] [] ws
  | 0, p, ws, hm, hG, hO, hlt, kk => by
    have hX : HX 4 G ws := XSC_X hO hX0
    have hS : STO G ws := XSC_S hO hS0
    have b3 := hB.b3
    have b2 := hB.b2
    refine V_iload (v := Int32.ofInt ((p : Int))) mi_81_2 (by simp [stL, lv_args, Value.category]) ?_
    refine V_aload (v := ad 4) mi_81_3 (by simp [stL, lv_args, Value.category]) ?_
    refine V_gO mi_81_4 g4o hG (show rd _ 4 4 = some (.int (Int32.ofInt (G 3))) from hx0 hX (i := 4) (by omega)) ?_
    refine V_cge mi_81_7 ⟨by omega, by omega⟩ ⟨by omega, by omega⟩ (fun q => ?_) (fun q => ?_)
    · refine V_ipush mi_81_30 ?_
      refine V_istore mi_81_31 ?_
      refine V_sub (lv' := [(0, .ref (ad 36)), (1, .ref (ad 4)), (2, .ref (ad 32)), (3, .int (Int32.ofInt (((0 : Nat) : Int))))]) (fun q hq => ?_) ?_
      · simp only [List.mem_cons, List.not_mem_nil, or_false] at hq
        rcases hq with rfl | rfl | rfl | rfl <;> simp [stL, lv_args, Value.category]
      exact ror_32 hX0 hS0 hB 6 0 (kwR G) ws (by omega) hG hO (fun q hq => hlt q (by omega)) (RgI_0 (kwR_b hB) (by omega) (fun _ _ => rfl)) kk
    · exact absurd q (by omega)
  | m + 1, p, ws, hm, hG, hO, hlt, kk => by
    have hX : HX 4 G ws := XSC_X hO hX0
    have hS : STO G ws := XSC_S hO hS0
    have b3 := hB.b3
    have b2 := hB.b2
    refine V_iload (v := Int32.ofInt ((p : Int))) mi_81_2 (by simp [stL, lv_args, Value.category]) ?_
    refine V_aload (v := ad 4) mi_81_3 (by simp [stL, lv_args, Value.category]) ?_
    refine V_gO mi_81_4 g4o hG (show rd _ 4 4 = some (.int (Int32.ofInt (G 3))) from hx0 hX (i := 4) (by omega)) ?_
    refine V_cge mi_81_7 ⟨by omega, by omega⟩ ⟨by omega, by omega⟩ (fun q => ?_) (fun q => ?_)
    · exact absurd q (by omega)
    · refine V_aload (v := ad 36) mi_81_10 (by simp [stL, lv_args, Value.category]) ?_
      refine V_gR mi_81_11 g36r1 (by omega) hG ?_
      refine V_iload (v := Int32.ofInt ((p : Int))) mi_81_14 (by simp [stL, lv_args, Value.category]) ?_
      refine V_aload (v := ad 4) mi_81_15 (by simp [stL, lv_args, Value.category]) ?_
      refine V_aload (v := ad 32) mi_81_16 (by simp [stL, lv_args, Value.category]) ?_
      refine V_iload (v := Int32.ofInt ((p : Int))) mi_81_17 (by simp [stL, lv_args, Value.category]) ?_
      refine V_stat (As := [.ref (ad 4), .ref (ad 32), .int (Int32.ofInt ((p : Int)))]) (st := [.int (Int32.ofInt ((p : Int))), .ref (ad 38)]) mi_81_18 (by omega) (knn_ct (f := p) hG hX hB hS (by omega)) (by omega) (show 3 = mN 82 by decide +kernel) (by simp [Value.category]) ⟨Nat.le_refl _, Nat.le_refl _⟩ ?_
      rintro r w1 ⟨e1, rfl⟩
      rw [e1]
      refine V_stat (As := [.ref (ad 38), .int (Int32.ofInt ((p : Int))), .int (Int32.ofInt (kwR G p))]) (st := []) mi_81_21 (by omega) (putk_ct (j := p) a38 hG (by omega) (by omega)) (by omega) (show 3 = mN 148 by decide +kernel) (by simp [Value.category]) ⟨Nat.le_refl _, Nat.le_refl _⟩ ?_
      rintro r w3 ⟨rfl, G3, U3⟩
      refine V_iinc (v := Int32.ofInt ((p : Int))) mi_81_24 (by simp [stL, lv_args, Value.category]) ?_
      rw [ia2]
      refine V_goto mi_81_27 ?_
      refine V_sub (lv' := [(0, .ref (ad 36)), (1, .ref (ad 4)), (2, .ref (ad 32)), (3, .int (Int32.ofInt (((p + 1 : Nat) : Int))))]) (fun q hq => ?_) ?_
      · simp only [List.mem_cons, List.not_mem_nil, or_false] at hq
        rcases hq with rfl | rfl | rfl | rfl <;> simp [stL, lv_args, Value.category]
      refine ror_2 hX0 hS0 hB m (p + 1) w3 (by omega) G3 (fun c j hc => (upd_ne U3 (by omega)).trans (hO c j hc)) (fun q hq => ?_) kk
      by_cases e : q = p
      · rw [e]
        exact upd_eq U3
      · exact (upd_ne U3 (by omega)).trans (hlt q (by omega))
theorem ror_ct {G : Nat → Int} (hG : GOK ad tys GG ws) (hX : HX 4 G ws) (hB : HB G) (hS : STO G ws) : CT l D tys A 81 4 0 0 [.ref (ad 36), .ref (ad 4), .ref (ad 32)] ws (fun r w => (GOK ad tys GG w ∧ XSC ws w) ∧ r = some (.int (Int32.ofInt (orI (rgP G) (G 3).toNat)))) := by
  refine CT_of_V (by omega) (show (3 : Nat) ≤ mML 81 by decide +kernel) ?_
  have b3 := hB.b3
  refine V_ipush mi_81_0 ?_
  refine V_istore mi_81_1 ?_
  refine V_sub (lv' := [(0, .ref (ad 36)), (1, .ref (ad 4)), (2, .ref (ad 32)), (3, .int (Int32.ofInt (((0 : Nat) : Int))))]) (fun q hq => ?_) ?_
  · simp only [List.mem_cons, List.not_mem_nil, or_false] at hq
    rcases hq with rfl | rfl | rfl | rfl <;> simp [stL, lv_args, Value.category]
  exact ror_2 hX hS hB (G 3).toNat 0 ws (by omega) hG (fun _ _ _ => rfl) (fun q hq => absurd hq (by omega)) (fun w a b => ⟨⟨a, b⟩, rfl⟩)
theorem riX_ct {G : Nat → Int} (hG : GOK ad tys GG ws) (hX : HX 4 G ws) (hB : HB G) (hS : STO G ws) : CT l D tys A 35 5 0 0 [.ref (ad 0)] ws (fun r w => (GOK ad tys GG w ∧ XSC ws w) ∧ r = some (.int (if 0 < G 5 then Int32.ofInt (orI (rgP G) (G 3).toNat) else Int32.ofInt (-2)))) := by
  refine CT_of_V (by omega) (show (1 : Nat) ≤ mML 35 by decide +kernel) ?_
  refine V_aload (v := ad 0) mi_35_0 (by simp [stL, lv_args, Value.category]) ?_
  refine V_gR mi_35_1 g0r2 (by omega) hG ?_
  refine V_cO (As := []) (st := []) mi_35_4 (by omega) (by decide +kernel) (by decide +kernel) (by omega) g4o hG (hth_ct hG hX hB) (by omega) (show 0 = mN 101 by decide +kernel) (by simp [Value.category]) ?_
  rintro r w1 ⟨rfl, rfl⟩
  refine V_beq mi_35_7  (fun c1 => ?_) (fun c1 => ?_)
  · refine V_ipush mi_35_28 ?_
    exact V_retI mi_35_30 (fun h => absurd h (by decide +kernel)) ⟨⟨hG, fun _ _ _ => rfl⟩, by rw [if_neg (of_decide_eq_false c1)]⟩
  · refine V_aload (v := ad 0) mi_35_10 (by simp [stL, lv_args, Value.category]) ?_
    refine V_gR mi_35_11 g0r6 (by omega) hG ?_
    refine V_aload (v := ad 0) mi_35_14 (by simp [stL, lv_args, Value.category]) ?_
    refine V_gR mi_35_15 g0r2 (by omega) hG ?_
    refine V_aload (v := ad 0) mi_35_18 (by simp [stL, lv_args, Value.category]) ?_
    refine V_gR mi_35_19 g0r5 (by omega) hG ?_
    refine V_cO (As := [.ref (ad 4), .ref (ad 32)]) (st := []) mi_35_22 (by omega) (by decide +kernel) (by decide +kernel) (by omega) g36o hG (ror_ct hG hX hB hS) (by omega) (show 2 = mN 81 by decide +kernel) (by simp [Value.category]) ?_
    rintro r w2 ⟨o2, rfl⟩
    refine V_goto mi_35_25 ?_
    exact V_retI mi_35_30 (fun h => absurd h (by decide +kernel)) ⟨o2, by rw [if_pos (of_decide_eq_true c1)]⟩
theorem wte_ct {G : Nat → Int} {w0 : va_W} (hT : MT ad tys G w0 ws) (hW : W91 G ws) (hB : HB G) {f o : Nat} (hf : f < 6) (ho : o < 6) : CT l D tys A 242 3 0 0 [.ref (ad 90), .int (Int32.ofInt ((f : Int))), .int (Int32.ofInt ((o : Int)))] ws (fun r w => w = ws ∧ r = some (.int (bI (whB G (G 2).toNat f o)))) := by
  refine CT_of_V (by omega) (show (3 : Nat) ≤ mML 242 by decide +kernel) ?_
  obtain ⟨s91, e91, -⟩ := g91s
  have b3 := hB.b3
  have b2 := hB.b2
  refine V_aload (v := ad 90) mi_242_0 (by simp [stL, lv_args, Value.category]) ?_
  refine V_iload (v := Int32.ofInt ((f : Int))) mi_242_1 (by simp [stL, lv_args, Value.category]) ?_
  refine V_iload (v := Int32.ofInt ((o : Int))) mi_242_2 (by simp [stL, lv_args, Value.category]) ?_
  refine V_aload (v := ad 90) mi_242_3 (by simp [stL, lv_args, Value.category]) ?_
  refine V_getI mi_242_4 hT.1 (rref gr1m (by omega) hT.1) ?_
  refine V_ipush mi_242_7 ?_
  refine V_aldX (j := 2) mi_242_8 rfl hT.1 e91 (by omega) (by omega) (hW _ (by omega)) ?_
  rw [show G 2 = (((G 2).toNat : Nat) : Int) by omega]
  refine V_callM (As := [.int (Int32.ofInt ((f : Int))), .int (Int32.ofInt ((o : Int))), .int (Int32.ofInt (((G 2).toNat : Int)))]) (st := []) mi_242_9 (by omega) (by decide +kernel) (by decide +kernel) hT.1 (mwh_ct (f := f) (o := o) (g := (G 2).toNat) hT hW hB hf ho (by omega)) (by omega) (show 3 = mN 241 by decide +kernel) (by simp [Value.category]) ?_
  rintro r w2 ⟨rfl, rfl⟩
  exact V_retI mi_242_12 (fun _ => by cases whB G (G 2).toNat f o <;> decide) ⟨rfl, rfl⟩
theorem kwm_4 {G : Nat → Int} {w0 : va_W} (hT : MT ad tys G w0 ws) (hW : W91 G ws) (hB : HB G) {f : Nat} {post : Option Value → va_W → Prop} (hf : f < 6) : ∀ (m p : Nat), ((p + m : Nat) : Int) = G 3 → post (some (.int (Int32.ofInt (orI (kwP G f) (G 3).toNat)))) ws → V l D tys A 282 4 0 0 post 0 0 4 [(0, .ref (ad 90)), (1, .int (Int32.ofInt ((f : Int)))), (2, .int (Int32.ofInt (orI (kwP G f) p))), (3, .int (Int32.ofInt ((p : Int))))] [] ws
  | 0, p, hm, kk => by
    obtain ⟨s91, e91, -⟩ := g91s
    have b3 := hB.b3
    have b2 := hB.b2
    refine V_iload (v := Int32.ofInt ((p : Int))) mi_282_4 (by simp [stL, lv_args, Value.category]) ?_
    refine V_aload (v := ad 90) mi_282_5 (by simp [stL, lv_args, Value.category]) ?_
    refine V_getI mi_282_6 hT.1 (rref gr1m (by omega) hT.1) ?_
    refine V_ipush mi_282_9 ?_
    refine V_aldX (j := 3) mi_282_10 rfl hT.1 e91 (by omega) (by omega) (hW _ (by omega)) ?_
    refine V_cge mi_282_11 ⟨by omega, by omega⟩ ⟨by omega, by omega⟩ (fun q => ?_) (fun q => ?_)
    · have e : p = (G 3).toNat := by omega
      rw [← e] at kk
      refine V_iload (v := Int32.ofInt (orI (kwP G f) p)) mi_282_44 (by simp [stL, lv_args, Value.category]) ?_
      exact V_retI mi_282_45 (fun h => absurd h (by decide +kernel)) kk
    · exact absurd q (by omega)
  | m + 1, p, hm, kk => by
    obtain ⟨s91, e91, -⟩ := g91s
    have b3 := hB.b3
    have b2 := hB.b2
    refine V_iload (v := Int32.ofInt ((p : Int))) mi_282_4 (by simp [stL, lv_args, Value.category]) ?_
    refine V_aload (v := ad 90) mi_282_5 (by simp [stL, lv_args, Value.category]) ?_
    refine V_getI mi_282_6 hT.1 (rref gr1m (by omega) hT.1) ?_
    refine V_ipush mi_282_9 ?_
    refine V_aldX (j := 3) mi_282_10 rfl hT.1 e91 (by omega) (by omega) (hW _ (by omega)) ?_
    refine V_cge mi_282_11 ⟨by omega, by omega⟩ ⟨by omega, by omega⟩ (fun q => ?_) (fun q => ?_)
    · exact absurd q (by omega)
    · refine V_iload (v := Int32.ofInt (orI (kwP G f) p)) mi_282_14 (by simp [stL, lv_args, Value.category]) ?_
      refine V_iload (v := Int32.ofInt ((p : Int))) mi_282_15 (by simp [stL, lv_args, Value.category]) ?_
      refine V_iload (v := Int32.ofInt ((f : Int))) mi_282_16 (by simp [stL, lv_args, Value.category]) ?_
      refine V_ceq mi_282_17 ⟨by omega, by omega⟩ ⟨by omega, by omega⟩ (fun q2 => ?_) (fun q2 => ?_)
      · refine V_ipush mi_282_35 ?_
        refine V_ibin mi_282_36 (by omega) ?_
        rw [or0, ← orI_s0 (P := kwP G f) (by rw [show p = f by omega]; exact kwP_f)]
        refine V_istore mi_282_37 ?_
        refine V_iinc (v := Int32.ofInt ((p : Int))) mi_282_38 (by simp [stL, lv_args, Value.category]) ?_
        rw [ia2]
        refine V_goto mi_282_41 ?_
        refine V_sub (lv' := [(0, .ref (ad 90)), (1, .int (Int32.ofInt ((f : Int)))), (2, .int (Int32.ofInt (orI (kwP G f) (p + 1)))), (3, .int (Int32.ofInt (((p + 1 : Nat) : Int))))]) (fun q hq => ?_) ?_
        · simp only [List.mem_cons, List.not_mem_nil, or_false] at hq
          rcases hq with rfl | rfl | rfl | rfl <;> simp [stL, lv_args, Value.category]
        exact kwm_4 hT hW hB hf m (p + 1) (by omega) kk
      · have hn : p ≠ f := by omega
        refine V_aload (v := ad 90) mi_282_20 (by simp [stL, lv_args, Value.category]) ?_
        refine V_iload (v := Int32.ofInt ((f : Int))) mi_282_21 (by simp [stL, lv_args, Value.category]) ?_
        refine V_iload (v := Int32.ofInt ((p : Int))) mi_282_22 (by simp [stL, lv_args, Value.category]) ?_
        refine V_callM (As := [.int (Int32.ofInt ((f : Int))), .int (Int32.ofInt ((p : Int)))]) (st := [.int (Int32.ofInt (orI (kwP G f) p))]) mi_282_23 (by omega) (by decide +kernel) (by decide +kernel) hT.1 (wte_ct (f := f) (o := p) hT hW hB hf (by omega)) (by omega) (show 2 = mN 242 by decide +kernel) (by simp [Value.category]) ?_
        rintro r w1 ⟨e1, rfl⟩
        rw [e1]
        refine V_beq mi_282_26  (fun q3 => ?_) (fun q3 => ?_)
        · refine V_ipush mi_282_35 ?_
          refine V_ibin mi_282_36 (by omega) ?_
          rw [or0, ← orI_s0 (P := kwP G f) (by rw [kwP_n hn]; exact q3)]
          refine V_istore mi_282_37 ?_
          refine V_iinc (v := Int32.ofInt ((p : Int))) mi_282_38 (by simp [stL, lv_args, Value.category]) ?_
          rw [ia2]
          refine V_goto mi_282_41 ?_
          refine V_sub (lv' := [(0, .ref (ad 90)), (1, .int (Int32.ofInt ((f : Int)))), (2, .int (Int32.ofInt (orI (kwP G f) (p + 1)))), (3, .int (Int32.ofInt (((p + 1 : Nat) : Int))))]) (fun q hq => ?_) ?_
          · simp only [List.mem_cons, List.not_mem_nil, or_false] at hq
            rcases hq with rfl | rfl | rfl | rfl <;> simp [stL, lv_args, Value.category]
          exact kwm_4 hT hW hB hf m (p + 1) (by omega) kk
        · refine V_ipush mi_282_29 ?_
          refine V_iload (v := Int32.ofInt ((p : Int))) mi_282_30 (by simp [stL, lv_args, Value.category]) ?_
          refine V_ibin mi_282_31 (by omega) ?_
          refine V_goto mi_282_32 ?_
          refine V_ibin mi_282_36 (by omega) ?_
          rw [bitO_i, ← orI_s1 (P := kwP G f) (by rw [kwP_n hn]; exact q3)]
          refine V_istore mi_282_37 ?_
          refine V_iinc (v := Int32.ofInt ((p : Int))) mi_282_38 (by simp [stL, lv_args, Value.category]) ?_
          rw [ia2]
          refine V_goto mi_282_41 ?_
          refine V_sub (lv' := [(0, .ref (ad 90)), (1, .int (Int32.ofInt ((f : Int)))), (2, .int (Int32.ofInt (orI (kwP G f) (p + 1)))), (3, .int (Int32.ofInt (((p + 1 : Nat) : Int))))]) (fun q hq => ?_) ?_
          · simp only [List.mem_cons, List.not_mem_nil, or_false] at hq
            rcases hq with rfl | rfl | rfl | rfl <;> simp [stL, lv_args, Value.category]
          exact kwm_4 hT hW hB hf m (p + 1) (by omega) kk
theorem kwm_ct {G : Nat → Int} {w0 : va_W} (hT : MT ad tys G w0 ws) (hW : W91 G ws) (hB : HB G) {f : Nat} (hf : f < 6) : CT l D tys A 282 4 0 0 [.ref (ad 90), .int (Int32.ofInt ((f : Int)))] ws (fun r w => w = ws ∧ r = some (.int (Int32.ofInt (kwR G f)))) := by
  refine CT_of_V (by omega) (show (2 : Nat) ≤ mML 282 by decide +kernel) ?_
  have b3 := hB.b3
  refine V_ipush mi_282_0 ?_
  refine V_istore mi_282_1 ?_
  refine V_ipush mi_282_2 ?_
  refine V_istore mi_282_3 ?_
  refine V_sub (lv' := [(0, .ref (ad 90)), (1, .int (Int32.ofInt ((f : Int)))), (2, .int (Int32.ofInt (0))), (3, .int (Int32.ofInt (((0 : Nat) : Int))))]) (fun q hq => ?_) ?_
  · simp only [List.mem_cons, List.not_mem_nil, or_false] at hq
    rcases hq with rfl | rfl | rfl | rfl <;> simp [stL, lv_args, Value.category]
  exact kwm_4 hT hW hB hf (G 3).toNat 0 (by omega) ⟨rfl, rfl⟩
theorem rim_47 {G : Nat → Int} {w0 : va_W} (hT : MT ad tys G w0 ws) (hW : W91 G ws) (hB : HB G) {f u : Nat} {rg : Int} {post : Option Value → va_W → Prop} : ∀ (m p : Nat) (t : Int), ((p + m : Nat) : Int) = G 3 → 0 ≤ t ∧ t ≤ 63 → V l D tys A 283 9 0 0 post 0 0 37 [(0, .ref (ad 90)), (1, .int (Int32.ofInt (rg))), (2, .int (Int32.ofInt ((f : Int)))), (3, .int (Int32.ofInt (sgS (kwR G) m p t))), (4, .int (Int32.ofInt (((u + 1 : Nat) : Int))))] [] ws → V l D tys A 283 9 0 0 post 0 0 47 [(0, .ref (ad 90)), (1, .int (Int32.ofInt (rg))), (2, .int (Int32.ofInt ((f : Int)))), (3, .int (Int32.ofInt (t))), (4, .int (Int32.ofInt ((u : Int)))), (5, .int (Int32.ofInt ((p : Int))))] [] ws
  | 0, p, t, hm, ht, kk => by
    obtain ⟨s91, e91, -⟩ := g91s
    have b3 := hB.b3
    have b2 := hB.b2
    refine V_iload (v := Int32.ofInt ((p : Int))) mi_283_47 (by simp [stL, lv_args, Value.category]) ?_
    refine V_aload (v := ad 90) mi_283_49 (by simp [stL, lv_args, Value.category]) ?_
    refine V_getI mi_283_50 hT.1 (rref gr1m (by omega) hT.1) ?_
    refine V_ipush mi_283_53 ?_
    refine V_aldX (j := 3) mi_283_54 rfl hT.1 e91 (by omega) (by omega) (hW _ (by omega)) ?_
    refine V_cge mi_283_55 ⟨by omega, by omega⟩ ⟨by omega, by omega⟩ (fun q => ?_) (fun q => ?_)
    · refine V_iinc (v := Int32.ofInt ((u : Int))) mi_283_87 (by simp [stL, lv_args, Value.category]) ?_
      rw [ia2]
      refine V_goto mi_283_90 ?_
      rw [show (u : Int) + (1) = ((u + 1 : Nat) : Int) by omega]
      refine V_sub (lv' := [(0, .ref (ad 90)), (1, .int (Int32.ofInt (rg))), (2, .int (Int32.ofInt ((f : Int)))), (3, .int (Int32.ofInt (t))), (4, .int (Int32.ofInt (((u + 1 : Nat) : Int))))]) (fun q hq => ?_) ?_
      · simp only [List.mem_cons, List.not_mem_nil, or_false] at hq
        rcases hq with rfl | rfl | rfl | rfl | rfl | rfl <;> simp [stL, lv_args, Value.category]
      exact kk
    · exact absurd q (by omega)
  | m + 1, p, t, hm, ht, kk => by
    obtain ⟨s91, e91, -⟩ := g91s
    have b3 := hB.b3
    have b2 := hB.b2
    refine V_iload (v := Int32.ofInt ((p : Int))) mi_283_47 (by simp [stL, lv_args, Value.category]) ?_
    refine V_aload (v := ad 90) mi_283_49 (by simp [stL, lv_args, Value.category]) ?_
    refine V_getI mi_283_50 hT.1 (rref gr1m (by omega) hT.1) ?_
    refine V_ipush mi_283_53 ?_
    refine V_aldX (j := 3) mi_283_54 rfl hT.1 e91 (by omega) (by omega) (hW _ (by omega)) ?_
    refine V_cge mi_283_55 ⟨by omega, by omega⟩ ⟨by omega, by omega⟩ (fun q => ?_) (fun q => ?_)
    · exact absurd q (by omega)
    · refine V_iload (v := Int32.ofInt (t)) mi_283_58 (by simp [stL, lv_args, Value.category]) ?_
      refine V_iload (v := Int32.ofInt (t)) mi_283_59 (by simp [stL, lv_args, Value.category]) ?_
      refine V_iload (v := Int32.ofInt ((p : Int))) mi_283_60 (by simp [stL, lv_args, Value.category]) ?_
      refine V_stat (As := [.int (Int32.ofInt (t)), .int (Int32.ofInt ((p : Int)))]) (st := [.int (Int32.ofInt (t))]) mi_283_62 (by omega) (bit_ct _ _ _) (by omega) (show 2 = mN 195 by decide +kernel) (by simp [Value.category]) ⟨Nat.le_refl _, Nat.le_refl _⟩ ?_
      rintro r w1 ⟨e1, rfl⟩
      rw [e1, (tb_k (i := (p : Int)) ht.1 ht.2 (by omega) (by omega)).1, bI_if]
      refine V_ipush mi_283_65 ?_
      refine V_cne mi_283_66 ⟨by split <;> omega, by split <;> omega⟩ ⟨by omega, by omega⟩ (fun q2 => ?_) (fun q2 => ?_)
      · have q3 : tb t (p : Int) = false := by
          cases c : tb t (p : Int) with
          | false => rfl
          | true => exact absurd (by rw [if_pos c]) q2
        refine V_ipush mi_283_78 ?_
        refine V_ibin mi_283_79 (by omega) ?_
        rw [or0]
        rw [sgS_n q3] at kk
        refine V_istore mi_283_80 ?_
        refine V_iinc (v := Int32.ofInt ((p : Int))) mi_283_81 (by simp [stL, lv_args, Value.category]) ?_
        rw [ia2]
        refine V_goto mi_283_84 ?_
        refine V_sub (lv' := [(0, .ref (ad 90)), (1, .int (Int32.ofInt (rg))), (2, .int (Int32.ofInt ((f : Int)))), (3, .int (Int32.ofInt (t))), (4, .int (Int32.ofInt ((u : Int)))), (5, .int (Int32.ofInt (((p + 1 : Nat) : Int))))]) (fun q hq => ?_) ?_
        · simp only [List.mem_cons, List.not_mem_nil, or_false] at hq
          rcases hq with rfl | rfl | rfl | rfl | rfl | rfl <;> simp [stL, lv_args, Value.category]
        exact rim_47 hT hW hB m (p + 1) _ (by omega) ht kk
      · have q3 : tb t (p : Int) = true := by
          cases c : tb t (p : Int) with
          | true => rfl
          | false => exact absurd q2 (by rw [c, if_neg Bool.false_ne_true]; omega)
        refine V_aload (v := ad 90) mi_283_69 (by simp [stL, lv_args, Value.category]) ?_
        refine V_iload (v := Int32.ofInt ((p : Int))) mi_283_70 (by simp [stL, lv_args, Value.category]) ?_
        refine V_callM (As := [.int (Int32.ofInt ((p : Int)))]) (st := [.int (Int32.ofInt (t))]) mi_283_72 (by omega) (by decide +kernel) (by decide +kernel) hT.1 (kwm_ct (f := p) hT hW hB (by omega)) (by omega) (show 1 = mN 282 by decide +kernel) (by simp [Value.category]) ?_
        rintro r w2 ⟨e2, rfl⟩
        rw [e2]
        refine V_goto mi_283_75 ?_
        refine V_ibin mi_283_79 (by omega) ?_
        rw [orr_i]
        rw [sgS_y q3] at kk
        refine V_istore mi_283_80 ?_
        refine V_iinc (v := Int32.ofInt ((p : Int))) mi_283_81 (by simp [stL, lv_args, Value.category]) ?_
        rw [ia2]
        refine V_goto mi_283_84 ?_
        refine V_sub (lv' := [(0, .ref (ad 90)), (1, .int (Int32.ofInt (rg))), (2, .int (Int32.ofInt ((f : Int)))), (3, .int (Int32.ofInt (orr t (kwR G p)))), (4, .int (Int32.ofInt ((u : Int)))), (5, .int (Int32.ofInt (((p + 1 : Nat) : Int))))]) (fun q hq => ?_) ?_
        · simp only [List.mem_cons, List.not_mem_nil, or_false] at hq
          rcases hq with rfl | rfl | rfl | rfl | rfl | rfl <;> simp [stL, lv_args, Value.category]
        exact rim_47 hT hW hB m (p + 1) _ (by omega) (orr_bd ht (kwR_b hB p (by omega))) kk
theorem rim_37 {G : Nat → Int} {w0 : va_W} (hT : MT ad tys G w0 ws) (hW : W91 G ws) (hB : HB G) {f : Nat} {rg : Int} {post : Option Value → va_W → Prop} : ∀ (k u : Nat) (t : Int), u + k = 6 → 0 ≤ t ∧ t ≤ 63 → V l D tys A 283 9 0 0 post 0 0 93 [(0, .ref (ad 90)), (1, .int (Int32.ofInt (rg))), (2, .int (Int32.ofInt ((f : Int)))), (3, .int (Int32.ofInt (itN (fun t => sgS (kwR G) (G 3).toNat 0 t) k t)))] [] ws → V l D tys A 283 9 0 0 post 0 0 37 [(0, .ref (ad 90)), (1, .int (Int32.ofInt (rg))), (2, .int (Int32.ofInt ((f : Int)))), (3, .int (Int32.ofInt (t))), (4, .int (Int32.ofInt ((u : Int))))] [] ws
  | 0, u, t, hm, ht, kk => by
    refine V_iload (v := Int32.ofInt ((u : Int))) mi_283_37 (by simp [stL, lv_args, Value.category]) ?_
    refine V_ipush mi_283_39 ?_
    refine V_cge mi_283_41 ⟨by omega, by omega⟩ ⟨by omega, by omega⟩ (fun q => ?_) (fun q => ?_)
    · refine V_sub (lv' := [(0, .ref (ad 90)), (1, .int (Int32.ofInt (rg))), (2, .int (Int32.ofInt ((f : Int)))), (3, .int (Int32.ofInt (t)))]) (fun q hq => ?_) ?_
      · simp only [List.mem_cons, List.not_mem_nil, or_false] at hq
        rcases hq with rfl | rfl | rfl | rfl | rfl <;> simp [stL, lv_args, Value.category]
      exact kk
    · exact absurd q (by omega)
  | k + 1, u, t, hm, ht, kk => by
    have b3 := hB.b3
    refine V_iload (v := Int32.ofInt ((u : Int))) mi_283_37 (by simp [stL, lv_args, Value.category]) ?_
    refine V_ipush mi_283_39 ?_
    refine V_cge mi_283_41 ⟨by omega, by omega⟩ ⟨by omega, by omega⟩ (fun q => ?_) (fun q => ?_)
    · exact absurd q (by omega)
    · refine V_ipush mi_283_44 ?_
      refine V_istore mi_283_45 ?_
      refine V_sub (lv' := [(0, .ref (ad 90)), (1, .int (Int32.ofInt (rg))), (2, .int (Int32.ofInt ((f : Int)))), (3, .int (Int32.ofInt (t))), (4, .int (Int32.ofInt ((u : Int)))), (5, .int (Int32.ofInt (((0 : Nat) : Int))))]) (fun q hq => ?_) ?_
      · simp only [List.mem_cons, List.not_mem_nil, or_false] at hq
        rcases hq with rfl | rfl | rfl | rfl | rfl | rfl <;> simp [stL, lv_args, Value.category]
      have sb := sgS_bd (kwR_b hB) (G 3).toNat 0 t (by omega) ht
      exact rim_47 hT hW hB (G 3).toNat 0 t (by omega) ht (rim_37 hT hW hB k (u + 1) _ (by omega) sb.1 (by rw [show itN (fun t => sgS (kwR G) (G 3).toNat 0 t) (k + 1) t = itN (fun t => sgS (kwR G) (G 3).toNat 0 t) k ((fun t => sgS (kwR G) (G 3).toNat 0 t) t) from (itN_s k).symm] at kk; exact kk))
theorem rim_18 {G : Nat → Int} {w0 : va_W} (hT : MT ad tys G w0 ws) (hW : W91 G ws) (hB : HB G) {post : Option Value → va_W → Prop} : ∀ (m p : Nat), ((p + m : Nat) : Int) = G 3 → post (some (.int (Int32.ofInt (orI (rgP G) (G 3).toNat)))) ws → V l D tys A 283 9 0 0 post 0 0 18 [(0, .ref (ad 90)), (1, .int (Int32.ofInt (orI (rgP G) p))), (2, .int (Int32.ofInt ((p : Int))))] [] ws
  | 0, p, hm, kk => by
    obtain ⟨s91, e91, -⟩ := g91s
    have b3 := hB.b3
    have b2 := hB.b2
    refine V_iload (v := Int32.ofInt ((p : Int))) mi_283_18 (by simp [stL, lv_args, Value.category]) ?_
    refine V_aload (v := ad 90) mi_283_19 (by simp [stL, lv_args, Value.category]) ?_
    refine V_getI mi_283_20 hT.1 (rref gr1m (by omega) hT.1) ?_
    refine V_ipush mi_283_23 ?_
    refine V_aldX (j := 3) mi_283_24 rfl hT.1 e91 (by omega) (by omega) (hW _ (by omega)) ?_
    refine V_cge mi_283_25 ⟨by omega, by omega⟩ ⟨by omega, by omega⟩ (fun q => ?_) (fun q => ?_)
    · have e : p = (G 3).toNat := by omega
      rw [← e] at kk
      refine V_iload (v := Int32.ofInt (orI (rgP G) p)) mi_283_109 (by simp [stL, lv_args, Value.category]) ?_
      exact V_retI mi_283_110 (fun h => absurd h (by decide +kernel)) kk
    · exact absurd q (by omega)
  | m + 1, p, hm, kk => by
    obtain ⟨s91, e91, -⟩ := g91s
    have b3 := hB.b3
    have b2 := hB.b2
    refine V_iload (v := Int32.ofInt ((p : Int))) mi_283_18 (by simp [stL, lv_args, Value.category]) ?_
    refine V_aload (v := ad 90) mi_283_19 (by simp [stL, lv_args, Value.category]) ?_
    refine V_getI mi_283_20 hT.1 (rref gr1m (by omega) hT.1) ?_
    refine V_ipush mi_283_23 ?_
    refine V_aldX (j := 3) mi_283_24 rfl hT.1 e91 (by omega) (by omega) (hW _ (by omega)) ?_
    refine V_cge mi_283_25 ⟨by omega, by omega⟩ ⟨by omega, by omega⟩ (fun q => ?_) (fun q => ?_)
    · exact absurd q (by omega)
    · refine V_aload (v := ad 90) mi_283_28 (by simp [stL, lv_args, Value.category]) ?_
      refine V_iload (v := Int32.ofInt ((p : Int))) mi_283_29 (by simp [stL, lv_args, Value.category]) ?_
      refine V_callM (As := [.int (Int32.ofInt ((p : Int)))]) (st := []) mi_283_30 (by omega) (by decide +kernel) (by decide +kernel) hT.1 (kwm_ct (f := p) hT hW hB (by omega)) (by omega) (show 1 = mN 282 by decide +kernel) (by simp [Value.category]) ?_
      rintro r w2 ⟨e2, rfl⟩
      rw [e2]
      refine V_istore mi_283_33 ?_
      refine V_ipush mi_283_34 ?_
      refine V_istore mi_283_35 ?_
      refine V_sub (lv' := [(0, .ref (ad 90)), (1, .int (Int32.ofInt (orI (rgP G) p))), (2, .int (Int32.ofInt ((p : Int)))), (3, .int (Int32.ofInt (kwR G p))), (4, .int (Int32.ofInt (((0 : Nat) : Int))))]) (fun q hq => ?_) ?_
      · simp only [List.mem_cons, List.not_mem_nil, or_false] at hq
        rcases hq with rfl | rfl | rfl | rfl | rfl <;> simp [stL, lv_args, Value.category]
      refine rim_37 hT hW hB 6 0 _ (by omega) (kwR_b hB p (by omega)) ?_
      change V _ _ _ _ 283 9 0 0 post 0 0 93 [(0, .ref (ad 90)), (1, .int (Int32.ofInt (orI (rgP G) p))), (2, .int (Int32.ofInt ((p : Int)))), (3, .int (Int32.ofInt (t6S (kwR G) (G 3).toNat p)))] [] ws
      have tb6 := (itN_fx (F := (fun t => sgS (kwR G) (G 3).toNat 0 t)) (fun t ht => sgS_bd (kwR_b hB) (G 3).toNat 0 t (by omega) ht) (kwR_b hB p (by omega)) 6).1
      refine V_iload (v := Int32.ofInt (orI (rgP G) p)) mi_283_93 (by simp [stL, lv_args, Value.category]) ?_
      refine V_iload (v := Int32.ofInt (t6S (kwR G) (G 3).toNat p)) mi_283_94 (by simp [stL, lv_args, Value.category]) ?_
      refine V_iload (v := Int32.ofInt ((p : Int))) mi_283_95 (by simp [stL, lv_args, Value.category]) ?_
      refine V_stat (As := [.int (Int32.ofInt (t6S (kwR G) (G 3).toNat p)), .int (Int32.ofInt ((p : Int)))]) (st := [.int (Int32.ofInt (orI (rgP G) p))]) mi_283_96 (by omega) (bit_ct _ _ _) (by omega) (show 2 = mN 195 by decide +kernel) (by simp [Value.category]) ⟨Nat.le_refl _, Nat.le_refl _⟩ ?_
      rintro r w3 ⟨e3, rfl⟩
      rw [e3, (tb_k (a := t6S (kwR G) (G 3).toNat p) (i := (p : Int)) tb6.1 tb6.2 (by omega) (by omega)).1]
      rcases Bool.eq_false_or_eq_true (tb (t6S (kwR G) (G 3).toNat p) (p : Int)) with hb | hb
      · rw [hb, show bI true = Int32.ofInt 1 from rfl]
        refine V_iload (v := Int32.ofInt ((p : Int))) mi_283_99 (by simp [stL, lv_args, Value.category]) ?_
        refine V_ibin mi_283_100 (by omega) ?_
        refine V_ibin mi_283_101 (by omega) ?_
        rw [bitO_i, ← orI_s1 (P := rgP G) hb]
        refine V_istore mi_283_102 ?_
        refine V_iinc (v := Int32.ofInt ((p : Int))) mi_283_103 (by simp [stL, lv_args, Value.category]) ?_
        rw [ia2]
        refine V_goto mi_283_106 ?_
        refine V_sub (lv' := [(0, .ref (ad 90)), (1, .int (Int32.ofInt (orI (rgP G) (p + 1)))), (2, .int (Int32.ofInt (((p + 1 : Nat) : Int))))]) (fun q hq => ?_) ?_
        · simp only [List.mem_cons, List.not_mem_nil, or_false] at hq
          rcases hq with rfl | rfl | rfl | rfl <;> simp [stL, lv_args, Value.category]
        exact rim_18 hT hW hB m (p + 1) (by omega) kk
      · rw [hb, show bI false = Int32.ofInt 0 from rfl]
        refine V_iload (v := Int32.ofInt ((p : Int))) mi_283_99 (by simp [stL, lv_args, Value.category]) ?_
        refine V_ibin mi_283_100 (by omega) ?_
        rw [zsh (by omega)]
        refine V_ibin mi_283_101 (by omega) ?_
        rw [or0, ← orI_s0 (P := rgP G) hb]
        refine V_istore mi_283_102 ?_
        refine V_iinc (v := Int32.ofInt ((p : Int))) mi_283_103 (by simp [stL, lv_args, Value.category]) ?_
        rw [ia2]
        refine V_goto mi_283_106 ?_
        refine V_sub (lv' := [(0, .ref (ad 90)), (1, .int (Int32.ofInt (orI (rgP G) (p + 1)))), (2, .int (Int32.ofInt (((p + 1 : Nat) : Int))))]) (fun q hq => ?_) ?_
        · simp only [List.mem_cons, List.not_mem_nil, or_false] at hq
          rcases hq with rfl | rfl | rfl | rfl <;> simp [stL, lv_args, Value.category]
        exact rim_18 hT hW hB m (p + 1) (by omega) kk
theorem riM_ct {G : Nat → Int} (hG : GOK ad tys GG ws) (hW : W91 G ws) (hB : HB G) (wf : WF G) (h24 : rd ws 90 24 = some (.int (Int32.ofInt 0))) (h22 : rd ws 90 22 = some (.int (Int32.ofInt (-1)))) : CT l D tys A 283 9 0 0 [.ref (ad 90)] ws (fun r w => (GOK ad tys GG w ∧ MTO ws w) ∧ r = some (.int (if 0 < G 5 then Int32.ofInt (orI (rgP G) (G 3).toNat) else Int32.ofInt (-2)))) := by
  refine CT_of_V (by omega) (show (1 : Nat) ≤ mML 283 by decide +kernel) ?_
  have b3 := hB.b3
  refine V_aload (v := ad 90) mi_283_0 (by simp [stL, lv_args, Value.category]) ?_
  refine V_callM (As := []) (st := []) mi_283_1 (by omega) (by decide +kernel) (by decide +kernel) hG (mth_ct hG hW hB) (by omega) (show 0 = mN 198 by decide +kernel) (by simp [Value.category]) ?_
  rintro r w1 ⟨rfl, rfl⟩
  refine V_bne mi_283_4  (fun c1 => ?_) (fun c1 => ?_)
  · refine V_aload (v := ad 90) mi_283_10 (by simp [stL, lv_args, Value.category]) ?_
    refine V_callM (As := []) (st := []) mi_283_11 (by omega) (by decide +kernel) (by decide +kernel) hG (gt_ct hB wf hG hW h24 h22) (by omega) (show 0 = mN 238 by decide +kernel) (by simp [Value.category]) ?_
    rintro r w4 ⟨rfl, T⟩
    refine V_ipush mi_283_14 ?_
    refine V_istore mi_283_15 ?_
    refine V_ipush mi_283_16 ?_
    refine V_istore mi_283_17 ?_
    refine V_sub (lv' := [(0, .ref (ad 90)), (1, .int (Int32.ofInt (0))), (2, .int (Int32.ofInt (((0 : Nat) : Int))))]) (fun q hq => ?_) ?_
    · simp only [List.mem_cons, List.not_mem_nil, or_false] at hq
      rcases hq with rfl | rfl | rfl <;> simp [stL, lv_args, Value.category]
    exact rim_18 T (mt_w T hW) hB (G 3).toNat 0 (by omega) ⟨⟨T.1, T.2.2.2⟩, by rw [if_pos (of_decide_eq_true c1)]⟩
  · refine V_ipush mi_283_7 ?_
    exact V_retI mi_283_9 (fun h => absurd h (by decide +kernel)) ⟨⟨hG, fun _ _ _ _ => rfl⟩, by rw [if_neg (of_decide_eq_false c1)]⟩
theorem pairT_rings (hAD : ∀ i : Nat, ad (1000 + i) = D.2 1000 i) (hG : GOK ad tys GG ws) (hR : RELW ws) : PAIRT l D tys A ad 35 283 [.ref (ad 0)] [.ref (ad 90)] ws := by
  obtain ⟨G0, o0, x0, y0⟩ := hR.1.2.1
  obtain ⟨G, o, x, y, hb, wf, hS⟩ := aux_sto hR.2 x0 y0 o0 (hb_of hG y0 o0)
  have c1 := riX_ct (l := l) (D := D) (A := A) hG x hb hS 
  have c2 := fun (w : va_W) (hw : GOK ad tys GG w) (K : XSC ws w) => riM_ct (l := l) (D := D) (A := A) hw (XSC_W K y) hb wf ((K _ _ (by omega)).trans hR.2.2.2.2.2) ((K _ _ (by omega)).trans hR.2.2.2.2.1) 
  exact pairT_sc hR (by omega) (by omega) c1 c2
end XTG
