section XSN
variable {l : Launch} {D : va_G} {tys : List (ClassId × FieldType)} {A : Nat → Prop} {ad : Nat → Nat} {ws : va_W}
/-- who knows it whole, ahead of hour g -/
def knP (G : Nat → Int) (g f q : Nat) : Bool := !(Nat.beq q f) && whB G g q f
theorem knP_f {G : Nat → Int} {g f : Nat} : knP G g f f = false := by
  unfold knP
  rw [Nat.beq_refl]
  rfl
theorem knP_n {G : Nat → Int} {g f q : Nat} (n : q ≠ f) : knP G g f q = whB G g q f := by
  unfold knP
  rw [show Nat.beq q f = false from Bool.eq_false_iff.mpr (fun e => n (Nat.eq_of_beq_eq_true e))]
  rfl
theorem kno_6 {G : Nat → Int} (hG : GOK ad tys GG ws) (hX : HX 4 G ws) (hB : HB G) (hS : STO G ws) {f g : Nat} {post : Option Value → va_W → Prop} (hf : f < 6) (hg : (g : Int) ≤ G 2) : ∀ (m p : Nat), ((p + m : Nat) : Int) = G 3 → post (some (.int (Int32.ofInt (orI (knP G g f) (G 3).toNat)))) ws → V l D tys A 179 3 0 0 post 0 0 6 [(0, .ref (ad 32)), (1, .ref (ad 4)), (2, .int (Int32.ofInt ((f : Int)))), (3, .int (Int32.ofInt ((g : Int)))), (4, .int (Int32.ofInt (orI (knP G g f) p))), (5, .int (Int32.ofInt ((p : Int))))] [] ws
  | 0, p, hm, kk => by
    have b3 := hB.b3
    refine V_iload (v := Int32.ofInt ((p : Int))) mi_179_6 (by simp [stL, lv_args, Value.category]) ?_
    refine V_aload (v := ad 4) mi_179_8 (by simp [stL, lv_args, Value.category]) ?_
    refine V_gO mi_179_9 g4o hG (show rd _ 4 4 = some (.int (Int32.ofInt (G 3))) from hx0 hX (i := 4) (by omega)) ?_
    refine V_cge mi_179_12 ⟨by omega, by omega⟩ ⟨by omega, by omega⟩ (fun q => ?_) (fun q => ?_)
    · have e : p = (G 3).toNat := by omega
      rw [← e] at kk
      refine V_iload (v := Int32.ofInt (orI (knP G g f) p)) mi_179_48 (by simp [stL, lv_args, Value.category]) ?_
      exact V_retI mi_179_50 (fun h => absurd h (by decide +kernel)) kk
    · exact absurd q (by omega)
  | m + 1, p, hm, kk => by
    have b3 := hB.b3
    refine V_iload (v := Int32.ofInt ((p : Int))) mi_179_6 (by simp [stL, lv_args, Value.category]) ?_
    refine V_aload (v := ad 4) mi_179_8 (by simp [stL, lv_args, Value.category]) ?_
    refine V_gO mi_179_9 g4o hG (show rd _ 4 4 = some (.int (Int32.ofInt (G 3))) from hx0 hX (i := 4) (by omega)) ?_
    refine V_cge mi_179_12 ⟨by omega, by omega⟩ ⟨by omega, by omega⟩ (fun q => ?_) (fun q => ?_)
    · exact absurd q (by omega)
    · refine V_iload (v := Int32.ofInt ((p : Int))) mi_179_15 (by simp [stL, lv_args, Value.category]) ?_
      refine V_iload (v := Int32.ofInt ((f : Int))) mi_179_17 (by simp [stL, lv_args, Value.category]) ?_
      refine V_ceq mi_179_18 ⟨by omega, by omega⟩ ⟨by omega, by omega⟩ (fun q2 => ?_) (fun q2 => ?_)
      · rw [← orI_s0 (P := knP G g f) (by rw [show p = f by omega]; exact knP_f)]
        refine V_iinc (v := Int32.ofInt ((p : Int))) mi_179_42 (by simp [stL, lv_args, Value.category]) ?_
        rw [ia2]
        refine V_goto mi_179_45 ?_
        refine V_sub (lv' := [(0, .ref (ad 32)), (1, .ref (ad 4)), (2, .int (Int32.ofInt ((f : Int)))), (3, .int (Int32.ofInt ((g : Int)))), (4, .int (Int32.ofInt (orI (knP G g f) (p + 1)))), (5, .int (Int32.ofInt (((p + 1 : Nat) : Int))))]) (fun q hq => ?_) ?_
        · simp only [List.mem_cons, List.not_mem_nil, or_false] at hq
          rcases hq with rfl | rfl | rfl | rfl | rfl | rfl <;> simp [stL, lv_args, Value.category]
        exact kno_6 hG hX hB hS hf hg m (p + 1) (by omega) kk
      · have hn : p ≠ f := by omega
        refine V_aload (v := ad 32) mi_179_21 (by simp [stL, lv_args, Value.category]) ?_
        refine V_aload (v := ad 4) mi_179_22 (by simp [stL, lv_args, Value.category]) ?_
        refine V_iload (v := Int32.ofInt ((p : Int))) mi_179_23 (by simp [stL, lv_args, Value.category]) ?_
        refine V_iload (v := Int32.ofInt ((f : Int))) mi_179_25 (by simp [stL, lv_args, Value.category]) ?_
        refine V_iload (v := Int32.ofInt ((g : Int))) mi_179_26 (by simp [stL, lv_args, Value.category]) ?_
        refine V_cO (As := [.ref (ad 4), .int (Int32.ofInt ((p : Int))), .int (Int32.ofInt ((f : Int))), .int (Int32.ofInt ((g : Int)))]) (st := []) mi_179_27 (by omega) (by decide +kernel) (by decide +kernel) (by omega) g32o hG (swh_ct (f := p) (o := f) (g := g) hG hX hB hS (by omega) hf hg) (by omega) (show 4 = mN 177 by decide +kernel) (by simp [Value.category]) ?_
        rintro r w1 ⟨e1, rfl⟩
        rw [e1]
        refine V_beq mi_179_30  (fun q3 => ?_) (fun q3 => ?_)
        · rw [← orI_s0 (P := knP G g f) (by rw [knP_n hn]; exact q3)]
          refine V_iinc (v := Int32.ofInt ((p : Int))) mi_179_42 (by simp [stL, lv_args, Value.category]) ?_
          rw [ia2]
          refine V_goto mi_179_45 ?_
          refine V_sub (lv' := [(0, .ref (ad 32)), (1, .ref (ad 4)), (2, .int (Int32.ofInt ((f : Int)))), (3, .int (Int32.ofInt ((g : Int)))), (4, .int (Int32.ofInt (orI (knP G g f) (p + 1)))), (5, .int (Int32.ofInt (((p + 1 : Nat) : Int))))]) (fun q hq => ?_) ?_
          · simp only [List.mem_cons, List.not_mem_nil, or_false] at hq
            rcases hq with rfl | rfl | rfl | rfl | rfl | rfl <;> simp [stL, lv_args, Value.category]
          exact kno_6 hG hX hB hS hf hg m (p + 1) (by omega) kk
        · refine V_iload (v := Int32.ofInt (orI (knP G g f) p)) mi_179_33 (by simp [stL, lv_args, Value.category]) ?_
          refine V_ipush mi_179_35 ?_
          refine V_iload (v := Int32.ofInt ((p : Int))) mi_179_36 (by simp [stL, lv_args, Value.category]) ?_
          refine V_ibin mi_179_38 (by omega) ?_
          refine V_ibin mi_179_39 (by omega) ?_
          rw [bitO_i, ← orI_s1 (P := knP G g f) (by rw [knP_n hn]; exact q3)]
          refine V_istore mi_179_40 ?_
          refine V_iinc (v := Int32.ofInt ((p : Int))) mi_179_42 (by simp [stL, lv_args, Value.category]) ?_
          rw [ia2]
          refine V_goto mi_179_45 ?_
          refine V_sub (lv' := [(0, .ref (ad 32)), (1, .ref (ad 4)), (2, .int (Int32.ofInt ((f : Int)))), (3, .int (Int32.ofInt ((g : Int)))), (4, .int (Int32.ofInt (orI (knP G g f) (p + 1)))), (5, .int (Int32.ofInt (((p + 1 : Nat) : Int))))]) (fun q hq => ?_) ?_
          · simp only [List.mem_cons, List.not_mem_nil, or_false] at hq
            rcases hq with rfl | rfl | rfl | rfl | rfl | rfl <;> simp [stL, lv_args, Value.category]
          exact kno_6 hG hX hB hS hf hg m (p + 1) (by omega) kk
theorem kno_ct {G : Nat → Int} (hG : GOK ad tys GG ws) (hX : HX 4 G ws) (hB : HB G) (hS : STO G ws) {f g : Nat} (hf : f < 6) (hg : (g : Int) ≤ G 2) : CT l D tys A 179 3 0 0 [.ref (ad 32), .ref (ad 4), .int (Int32.ofInt ((f : Int))), .int (Int32.ofInt ((g : Int)))] ws (fun r w => w = ws ∧ r = some (.int (Int32.ofInt (orI (knP G g f) (G 3).toNat)))) := by
  refine CT_of_V (by omega) (show (4 : Nat) ≤ mML 179 by decide +kernel) ?_
  have b3 := hB.b3
  refine V_ipush mi_179_0 ?_
  refine V_istore mi_179_1 ?_
  refine V_ipush mi_179_3 ?_
  refine V_istore mi_179_4 ?_
  refine V_sub (lv' := [(0, .ref (ad 32)), (1, .ref (ad 4)), (2, .int (Int32.ofInt ((f : Int)))), (3, .int (Int32.ofInt ((g : Int)))), (4, .int (Int32.ofInt (0))), (5, .int (Int32.ofInt (((0 : Nat) : Int))))]) (fun q hq => ?_) ?_
  · simp only [List.mem_cons, List.not_mem_nil, or_false] at hq
    rcases hq with rfl | rfl | rfl | rfl | rfl | rfl <;> simp [stL, lv_args, Value.category]
  exact kno_6 hG hX hB hS hf hg (G 3).toNat 0 (by omega) ⟨rfl, rfl⟩
theorem bib_5 {G : Nat → Int} {w0 : va_W} (hT : MT ad tys G w0 ws) (hW : W91 G ws) (hB : HB G) {f h : Nat} {post : Option Value → va_W → Prop} (hf : f < 6) (hh : (h : Int) < G 2) : ∀ (m p : Nat), ((p + m : Nat) : Int) = G 3 → post (some (.int (Int32.ofInt (orI (knP G (h + 1) f) (G 3).toNat)))) ws → V l D tys A 255 3 0 0 post 0 0 5 [(0, .ref (ad 90)), (1, .int (Int32.ofInt ((f : Int)))), (2, .int (Int32.ofInt ((h : Int)))), (3, .int (Int32.ofInt (orI (knP G (h + 1) f) p))), (4, .int (Int32.ofInt ((p : Int))))] [] ws
  | 0, p, hm, kk => by
    obtain ⟨s91, e91, -⟩ := g91s
    have b3 := hB.b3
    have b2 := hB.b2
    refine V_iload (v := Int32.ofInt ((p : Int))) mi_255_5 (by simp [stL, lv_args, Value.category]) ?_
    refine V_aload (v := ad 90) mi_255_7 (by simp [stL, lv_args, Value.category]) ?_
    refine V_getI mi_255_8 hT.1 (rref gr1m (by omega) hT.1) ?_
    refine V_ipush mi_255_11 ?_
    refine V_aldX (j := 3) mi_255_12 rfl hT.1 e91 (by omega) (by omega) (hW _ (by omega)) ?_
    refine V_cge mi_255_13 ⟨by omega, by omega⟩ ⟨by omega, by omega⟩ (fun q => ?_) (fun q => ?_)
    · have e : p = (G 3).toNat := by omega
      rw [← e] at kk
      refine V_iload (v := Int32.ofInt (orI (knP G (h + 1) f) p)) mi_255_52 (by simp [stL, lv_args, Value.category]) ?_
      exact V_retI mi_255_53 (fun h => absurd h (by decide +kernel)) kk
    · exact absurd q (by omega)
  | m + 1, p, hm, kk => by
    obtain ⟨s91, e91, -⟩ := g91s
    have b3 := hB.b3
    have b2 := hB.b2
    refine V_iload (v := Int32.ofInt ((p : Int))) mi_255_5 (by simp [stL, lv_args, Value.category]) ?_
    refine V_aload (v := ad 90) mi_255_7 (by simp [stL, lv_args, Value.category]) ?_
    refine V_getI mi_255_8 hT.1 (rref gr1m (by omega) hT.1) ?_
    refine V_ipush mi_255_11 ?_
    refine V_aldX (j := 3) mi_255_12 rfl hT.1 e91 (by omega) (by omega) (hW _ (by omega)) ?_
    refine V_cge mi_255_13 ⟨by omega, by omega⟩ ⟨by omega, by omega⟩ (fun q => ?_) (fun q => ?_)
    · exact absurd q (by omega)
    · refine V_iload (v := Int32.ofInt (orI (knP G (h + 1) f) p)) mi_255_16 (by simp [stL, lv_args, Value.category]) ?_
      refine V_iload (v := Int32.ofInt ((p : Int))) mi_255_17 (by simp [stL, lv_args, Value.category]) ?_
      refine V_iload (v := Int32.ofInt ((f : Int))) mi_255_19 (by simp [stL, lv_args, Value.category]) ?_
      refine V_ceq mi_255_20 ⟨by omega, by omega⟩ ⟨by omega, by omega⟩ (fun q2 => ?_) (fun q2 => ?_)
      · refine V_ipush mi_255_43 ?_
        refine V_ibin mi_255_44 (by omega) ?_
        rw [or0, ← orI_s0 (P := knP G (h + 1) f) (by rw [show p = f by omega]; exact knP_f)]
        refine V_istore mi_255_45 ?_
        refine V_iinc (v := Int32.ofInt ((p : Int))) mi_255_46 (by simp [stL, lv_args, Value.category]) ?_
        rw [ia2]
        refine V_goto mi_255_49 ?_
        refine V_sub (lv' := [(0, .ref (ad 90)), (1, .int (Int32.ofInt ((f : Int)))), (2, .int (Int32.ofInt ((h : Int)))), (3, .int (Int32.ofInt (orI (knP G (h + 1) f) (p + 1)))), (4, .int (Int32.ofInt (((p + 1 : Nat) : Int))))]) (fun q hq => ?_) ?_
        · simp only [List.mem_cons, List.not_mem_nil, or_false] at hq
          rcases hq with rfl | rfl | rfl | rfl | rfl <;> simp [stL, lv_args, Value.category]
        exact bib_5 hT hW hB hf hh m (p + 1) (by omega) kk
      · have hn : p ≠ f := by omega
        refine V_aload (v := ad 90) mi_255_23 (by simp [stL, lv_args, Value.category]) ?_
        refine V_iload (v := Int32.ofInt ((p : Int))) mi_255_24 (by simp [stL, lv_args, Value.category]) ?_
        refine V_iload (v := Int32.ofInt ((f : Int))) mi_255_26 (by simp [stL, lv_args, Value.category]) ?_
        refine V_iload (v := Int32.ofInt ((h : Int))) mi_255_27 (by simp [stL, lv_args, Value.category]) ?_
        refine V_ipush mi_255_28 ?_
        refine V_ibin mi_255_29 (by omega) ?_
        rw [ib0]
        rw [show (h : Int) + (1) = ((h + 1 : Nat) : Int) by omega]
        refine V_callM (As := [.int (Int32.ofInt ((p : Int))), .int (Int32.ofInt ((f : Int))), .int (Int32.ofInt (((h + 1 : Nat) : Int)))]) (st := [.int (Int32.ofInt (orI (knP G (h + 1) f) p))]) mi_255_30 (by omega) (by decide +kernel) (by decide +kernel) hT.1 (mwh_ct (f := p) (o := f) (g := h + 1) hT hW hB (by omega) hf (by omega)) (by omega) (show 3 = mN 241 by decide +kernel) (by simp [Value.category]) ?_
        rintro r w1 ⟨e1, rfl⟩
        rw [e1]
        refine V_beq mi_255_33  (fun q3 => ?_) (fun q3 => ?_)
        · refine V_ipush mi_255_43 ?_
          refine V_ibin mi_255_44 (by omega) ?_
          rw [or0, ← orI_s0 (P := knP G (h + 1) f) (by rw [knP_n hn]; exact q3)]
          refine V_istore mi_255_45 ?_
          refine V_iinc (v := Int32.ofInt ((p : Int))) mi_255_46 (by simp [stL, lv_args, Value.category]) ?_
          rw [ia2]
          refine V_goto mi_255_49 ?_
          refine V_sub (lv' := [(0, .ref (ad 90)), (1, .int (Int32.ofInt ((f : Int)))), (2, .int (Int32.ofInt ((h : Int)))), (3, .int (Int32.ofInt (orI (knP G (h + 1) f) (p + 1)))), (4, .int (Int32.ofInt (((p + 1 : Nat) : Int))))]) (fun q hq => ?_) ?_
          · simp only [List.mem_cons, List.not_mem_nil, or_false] at hq
            rcases hq with rfl | rfl | rfl | rfl | rfl <;> simp [stL, lv_args, Value.category]
          exact bib_5 hT hW hB hf hh m (p + 1) (by omega) kk
        · refine V_ipush mi_255_36 ?_
          refine V_iload (v := Int32.ofInt ((p : Int))) mi_255_37 (by simp [stL, lv_args, Value.category]) ?_
          refine V_ibin mi_255_39 (by omega) ?_
          refine V_goto mi_255_40 ?_
          refine V_ibin mi_255_44 (by omega) ?_
          rw [bitO_i, ← orI_s1 (P := knP G (h + 1) f) (by rw [knP_n hn]; exact q3)]
          refine V_istore mi_255_45 ?_
          refine V_iinc (v := Int32.ofInt ((p : Int))) mi_255_46 (by simp [stL, lv_args, Value.category]) ?_
          rw [ia2]
          refine V_goto mi_255_49 ?_
          refine V_sub (lv' := [(0, .ref (ad 90)), (1, .int (Int32.ofInt ((f : Int)))), (2, .int (Int32.ofInt ((h : Int)))), (3, .int (Int32.ofInt (orI (knP G (h + 1) f) (p + 1)))), (4, .int (Int32.ofInt (((p + 1 : Nat) : Int))))]) (fun q hq => ?_) ?_
          · simp only [List.mem_cons, List.not_mem_nil, or_false] at hq
            rcases hq with rfl | rfl | rfl | rfl | rfl <;> simp [stL, lv_args, Value.category]
          exact bib_5 hT hW hB hf hh m (p + 1) (by omega) kk
theorem bib_ct {G : Nat → Int} {w0 : va_W} (hT : MT ad tys G w0 ws) (hW : W91 G ws) (hB : HB G) {f h : Nat} (hf : f < 6) (hh : (h : Int) < G 2) : CT l D tys A 255 3 0 0 [.ref (ad 90), .int (Int32.ofInt ((f : Int))), .int (Int32.ofInt ((h : Int)))] ws (fun r w => w = ws ∧ r = some (.int (Int32.ofInt (orI (knP G (h + 1) f) (G 3).toNat)))) := by
  refine CT_of_V (by omega) (show (3 : Nat) ≤ mML 255 by decide +kernel) ?_
  have b3 := hB.b3
  refine V_ipush mi_255_0 ?_
  refine V_istore mi_255_1 ?_
  refine V_ipush mi_255_2 ?_
  refine V_istore mi_255_3 ?_
  refine V_sub (lv' := [(0, .ref (ad 90)), (1, .int (Int32.ofInt ((f : Int)))), (2, .int (Int32.ofInt ((h : Int)))), (3, .int (Int32.ofInt (0))), (4, .int (Int32.ofInt (((0 : Nat) : Int))))]) (fun q hq => ?_) ?_
  · simp only [List.mem_cons, List.not_mem_nil, or_false] at hq
    rcases hq with rfl | rfl | rfl | rfl | rfl <;> simp [stL, lv_args, Value.category]
  exact bib_5 hT hW hB hf hh (G 3).toNat 0 (by omega) ⟨rfl, rfl⟩
theorem biX_ct {G : Nat → Int} (hG : GOK ad tys GG ws) (hX : HX 4 G ws) (hB : HB G) (hS : STO G ws) {f h : Int} (fI : I32 f) (hI : I32 h) : CT l D tys A 16 4 0 0 [.ref (ad 0), .int (Int32.ofInt (f)), .int (Int32.ofInt (h))] ws (fun r w => w = ws ∧ r = some (.int (if (0 ≤ f ∧ f < G 3) ∧ 0 ≤ h ∧ h < G 2 then Int32.ofInt (orI (knP G (h.toNat + 1) f.toNat) (G 3).toNat) else Int32.ofInt (-2)))) := by
  refine CT_of_V (by omega) (show (3 : Nat) ≤ mML 16 by decide +kernel) ?_
  have b3 := hB.b3
  have b2 := hB.b2
  refine V_aload (v := ad 0) mi_16_0 (by simp [stL, lv_args, Value.category]) ?_
  refine V_gR mi_16_1 g0r2 (by omega) hG ?_
  refine V_iload (v := Int32.ofInt (f)) mi_16_4 (by simp [stL, lv_args, Value.category]) ?_
  refine V_cO (As := [.int (Int32.ofInt (f))]) (st := []) mi_16_5 (by omega) (by decide +kernel) (by decide +kernel) (by omega) g4o hG (hfk_ct hG hX hB fI) (by omega) (show 1 = mN 102 by decide +kernel) (by simp [Value.category]) ?_
  rintro r w1 ⟨rfl, rfl⟩
  refine V_beq mi_16_8  (fun c1 => ?_) (fun c1 => ?_)
  · refine V_ipush mi_16_22 ?_
    exact V_retI mi_16_24 (fun h => absurd h (by decide +kernel)) ⟨rfl, by rw [if_neg (fun k => of_decide_eq_false c1 k.1)]⟩
  · refine V_aload (v := ad 0) mi_16_11 (by simp [stL, lv_args, Value.category]) ?_
    refine V_gR mi_16_12 g0r2 (by omega) hG ?_
    refine V_iload (v := Int32.ofInt (h)) mi_16_15 (by simp [stL, lv_args, Value.category]) ?_
    refine V_cO (As := [.int (Int32.ofInt (h))]) (st := []) mi_16_16 (by omega) (by decide +kernel) (by decide +kernel) (by omega) g4o hG (hho_ct hG hX hB hI) (by omega) (show 1 = mN 103 by decide +kernel) (by simp [Value.category]) ?_
    rintro r w3 ⟨rfl, rfl⟩
    refine V_bne mi_16_19  (fun c3 => ?_) (fun c3 => ?_)
    · have k1 := of_decide_eq_true c1
      have k3 := of_decide_eq_true c3
      obtain ⟨m, rfl⟩ := Int.eq_ofNat_of_zero_le k1.1
      obtain ⟨k, rfl⟩ := Int.eq_ofNat_of_zero_le k3.1
      refine V_aload (v := ad 0) mi_16_25 (by simp [stL, lv_args, Value.category]) ?_
      refine V_gR mi_16_26 g0r5 (by omega) hG ?_
      refine V_aload (v := ad 0) mi_16_29 (by simp [stL, lv_args, Value.category]) ?_
      refine V_gR mi_16_30 g0r2 (by omega) hG ?_
      refine V_iload (v := Int32.ofInt ((m : Int))) mi_16_33 (by simp [stL, lv_args, Value.category]) ?_
      refine V_iload (v := Int32.ofInt ((k : Int))) mi_16_34 (by simp [stL, lv_args, Value.category]) ?_
      refine V_ipush mi_16_35 ?_
      refine V_ibin mi_16_36 (by omega) ?_
      rw [ib0]
      rw [show (k : Int) + (1) = ((k + 1 : Nat) : Int) by omega]
      refine V_cO (As := [.ref (ad 4), .int (Int32.ofInt ((m : Int))), .int (Int32.ofInt (((k + 1 : Nat) : Int)))]) (st := []) mi_16_37 (by omega) (by decide +kernel) (by decide +kernel) (by omega) g32o hG (kno_ct (f := m) (g := k + 1) hG hX hB hS (by omega) (by omega)) (by omega) (show 3 = mN 179 by decide +kernel) (by simp [Value.category]) ?_
      rintro r w4 ⟨rfl, rfl⟩
      exact V_retI mi_16_40 (fun h => absurd h (by decide +kernel)) ⟨rfl, by rw [if_pos ⟨k1, k3⟩, Int.toNat_natCast, Int.toNat_natCast]⟩
    · refine V_ipush mi_16_22 ?_
      exact V_retI mi_16_24 (fun h => absurd h (by decide +kernel)) ⟨rfl, by rw [if_neg (fun k => of_decide_eq_false c3 k.2)]⟩
theorem biM_ct {G : Nat → Int} (hG : GOK ad tys GG ws) (hW : W91 G ws) (hB : HB G) (wf : WF G) (h24 : rd ws 90 24 = some (.int (Int32.ofInt 0))) (h22 : rd ws 90 22 = some (.int (Int32.ofInt (-1)))) {f h : Int} (fI : I32 f) (hI : I32 h) : CT l D tys A 256 9 0 0 [.ref (ad 90), .int (Int32.ofInt (f)), .int (Int32.ofInt (h))] ws (fun r w => (GOK ad tys GG w ∧ MTO ws w) ∧ r = some (.int (if (0 ≤ f ∧ f < G 3) ∧ 0 ≤ h ∧ h < G 2 then Int32.ofInt (orI (knP G (h.toNat + 1) f.toNat) (G 3).toNat) else Int32.ofInt (-2)))) := by
  refine CT_of_V (by omega) (show (3 : Nat) ≤ mML 256 by decide +kernel) ?_
  have b3 := hB.b3
  have b2 := hB.b2
  refine V_aload (v := ad 90) mi_256_0 (by simp [stL, lv_args, Value.category]) ?_
  refine V_iload (v := Int32.ofInt (f)) mi_256_1 (by simp [stL, lv_args, Value.category]) ?_
  refine V_callM (As := [.int (Int32.ofInt (f))]) (st := []) mi_256_2 (by omega) (by decide +kernel) (by decide +kernel) hG (mfk_ct hG hW hB fI) (by omega) (show 1 = mN 199 by decide +kernel) (by simp [Value.category]) ?_
  rintro r w1 ⟨rfl, rfl⟩
  refine V_beq mi_256_5  (fun c1 => ?_) (fun c1 => ?_)
  · refine V_ipush mi_256_16 ?_
    exact V_retI mi_256_18 (fun h => absurd h (by decide +kernel)) ⟨⟨hG, fun _ _ _ _ => rfl⟩, by rw [if_neg (fun k => of_decide_eq_false c1 k.1)]⟩
  · refine V_aload (v := ad 90) mi_256_8 (by simp [stL, lv_args, Value.category]) ?_
    refine V_iload (v := Int32.ofInt (h)) mi_256_9 (by simp [stL, lv_args, Value.category]) ?_
    refine V_callM (As := [.int (Int32.ofInt (h))]) (st := []) mi_256_10 (by omega) (by decide +kernel) (by decide +kernel) hG (mho_ct hG hW hB hI) (by omega) (show 1 = mN 201 by decide +kernel) (by simp [Value.category]) ?_
    rintro r w3 ⟨rfl, rfl⟩
    refine V_bne mi_256_13  (fun c3 => ?_) (fun c3 => ?_)
    · have k1 := of_decide_eq_true c1
      have k3 := of_decide_eq_true c3
      obtain ⟨m, rfl⟩ := Int.eq_ofNat_of_zero_le k1.1
      obtain ⟨k, rfl⟩ := Int.eq_ofNat_of_zero_le k3.1
      refine V_aload (v := ad 90) mi_256_19 (by simp [stL, lv_args, Value.category]) ?_
      refine V_callM (As := []) (st := []) mi_256_20 (by omega) (by decide +kernel) (by decide +kernel) hG (gt_ct hB wf hG hW h24 h22) (by omega) (show 0 = mN 238 by decide +kernel) (by simp [Value.category]) ?_
      rintro r w4 ⟨rfl, T⟩
      refine V_aload (v := ad 90) mi_256_23 (by simp [stL, lv_args, Value.category]) ?_
      refine V_iload (v := Int32.ofInt ((m : Int))) mi_256_24 (by simp [stL, lv_args, Value.category]) ?_
      refine V_iload (v := Int32.ofInt ((k : Int))) mi_256_25 (by simp [stL, lv_args, Value.category]) ?_
      refine V_callM (As := [.int (Int32.ofInt ((m : Int))), .int (Int32.ofInt ((k : Int)))]) (st := []) mi_256_26 (by omega) (by decide +kernel) (by decide +kernel) T.1 (bib_ct (f := m) (h := k) T (mt_w T hW) hB (by omega) (by omega)) (by omega) (show 2 = mN 255 by decide +kernel) (by simp [Value.category]) ?_
      rintro r w5 ⟨rfl, rfl⟩
      exact V_retI mi_256_29 (fun h => absurd h (by decide +kernel)) ⟨⟨T.1, T.2.2.2⟩, by rw [if_pos ⟨k1, k3⟩, Int.toNat_natCast, Int.toNat_natCast]⟩
    · refine V_ipush mi_256_16 ?_
      exact V_retI mi_256_18 (fun h => absurd h (by decide +kernel)) ⟨⟨hG, fun _ _ _ _ => rfl⟩, by rw [if_neg (fun k => of_decide_eq_false c3 k.2)]⟩
theorem pairT_bidders (hAD : ∀ i : Nat, ad (1000 + i) = D.2 1000 i) (hG : GOK ad tys GG ws) (hR : RELW ws) (a1 a2 : Int32) : PAIRT l D tys A ad 16 256 [.ref (ad 0), .int a1, .int a2] [.ref (ad 90), .int a1, .int a2] ws := by
  obtain ⟨G0, o0, x0, y0⟩ := hR.1.2.1
  obtain ⟨G, o, x, y, hb, wf, hS⟩ := aux_sto hR.2 x0 y0 o0 (hb_of hG y0 o0)
  have c1 := biX_ct (l := l) (D := D) (A := A) hG x hb hS (i32b a1) (i32b a2)
  have c2 := biM_ct (l := l) (D := D) (A := A) hG y hb wf hR.2.2.2.2.2 hR.2.2.2.2.1 (i32b a1) (i32b a2)
  simp only [oi] at c1 c2
  exact pairT_st hG hR (by omega) (by omega) c1 c2
end XSN
