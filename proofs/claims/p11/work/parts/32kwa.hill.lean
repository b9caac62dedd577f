section XSL
variable {l : Launch} {D : va_G} {tys : List (ClassId × FieldType)} {A : Nat → Prop} {ad : Nat → Nat} {ws : va_W}
theorem stb_ct {f o g : Nat} {v : Int32} (hG : GOK ad tys GG ws) (hf : f < 6) (ho : o < 6) (hg : g ≤ 24) (h : rd ws 33 (36 * g + (6 * f + o)) = some (.int v)) : CT l D tys A 176 1 0 0 [.ref (ad 32), .int (Int32.ofInt ((f : Int))), .int (Int32.ofInt ((o : Int))), .int (Int32.ofInt ((g : Int)))] ws (fun r w => w = ws ∧ r = some (.int v)) := by
  refine CT_of_V (by omega) (show (4 : Nat) ≤ mML 176 by decide +kernel) ?_
  refine V_aload (v := ad 32) mi_176_0 (by simp [stL, lv_args, Value.category]) ?_
  refine V_gR mi_176_1 g32r0 (by omega) hG ?_
  refine V_iload (v := Int32.ofInt ((g : Int))) mi_176_4 (by simp [stL, lv_args, Value.category]) ?_
  refine V_ipush mi_176_5 ?_
  refine V_ibin mi_176_7 (by omega) ?_
  rw [ib2]
  refine V_iload (v := Int32.ofInt ((f : Int))) mi_176_8 (by simp [stL, lv_args, Value.category]) ?_
  refine V_ipush mi_176_9 ?_
  refine V_ibin mi_176_11 (by omega) ?_
  rw [ib2]
  refine V_ibin mi_176_12 (by omega) ?_
  rw [ib0]
  refine V_iload (v := Int32.ofInt ((o : Int))) mi_176_13 (by simp [stL, lv_args, Value.category]) ?_
  refine V_ibin mi_176_14 (by omega) ?_
  rw [ib0]
  rw [show (g : Int) * (36) + (f : Int) * (6) + (o : Int) = ((36 * g + (6 * f + o) : Nat) : Int) by omega]
  refine V_stat (As := [.ref (ad 33), .int (Int32.ofInt (((36 * g + (6 * f + o) : Nat) : Int)))]) (st := []) mi_176_15 (by omega) (atk_ct (j := 36 * g + (6 * f + o)) a33 hG (by omega) (by omega) h) (by omega) (show 2 = mN 147 by decide +kernel) (by simp [Value.category]) ⟨Nat.le_refl _, Nat.le_refl _⟩ ?_
  rintro r w1 ⟨rfl, rfl⟩
  exact V_retI mi_176_18 (fun h => absurd h (by decide +kernel)) ⟨rfl, rfl⟩
theorem sto_k {G : Nat → Int} {w : va_W} (hB : HB G) (hS : STO G w) {f o g : Nat} (hf : (f : Int) < G 3) (ho : o < 6) (hg : (g : Int) ≤ G 2) : rd w 33 (36 * g + (6 * f + o)) = some (.int (Int32.ofInt ((tellT G g).K (6 * f + o)))) :=
  hS.2.2.1 g (by omega) (6 * f + o) (by have := hB.b3; omega) (by omega)
theorem knX_ct {G : Nat → Int} (hG : GOK ad tys GG ws) (hX : HX 4 G ws) (hB : HB G) (hS : STO G ws) {f o : Int} (fI : I32 f) (oI : I32 o) : CT l D tys A 10 3 0 0 [.ref (ad 0), .int (Int32.ofInt (f)), .int (Int32.ofInt (o))] ws (fun r w => w = ws ∧ r = some (.int (if (0 ≤ f ∧ f < G 3) ∧ (0 ≤ o ∧ o < G 3) then Int32.ofInt ((tellT G 0).K (6 * f.toNat + o.toNat)) else Int32.ofInt (-2)))) := by
  refine CT_of_V (by omega) (show (3 : Nat) ≤ mML 10 by decide +kernel) ?_
  have b3 := hB.b3
  have b2 := hB.b2
  refine V_aload (v := ad 0) mi_10_0 (by simp [stL, lv_args, Value.category]) ?_
  refine V_gR mi_10_1 g0r2 (by omega) hG ?_
  refine V_iload (v := Int32.ofInt (f)) mi_10_4 (by simp [stL, lv_args, Value.category]) ?_
  refine V_cO (As := [.int (Int32.ofInt (f))]) (st := []) mi_10_5 (by omega) (by decide +kernel) (by decide +kernel) (by omega) g4o hG (hfk_ct hG hX hB fI) (by omega) (show 1 = mN 102 by decide +kernel) (by simp [Value.category]) ?_
  rintro r w1 ⟨rfl, rfl⟩
  refine V_beq mi_10_8  (fun c1 => ?_) (fun c1 => ?_)
  · refine V_ipush mi_10_35 ?_
    exact V_retI mi_10_37 (fun h => absurd h (by decide +kernel)) ⟨rfl, by rw [if_neg (fun k => of_decide_eq_false c1 k.1)]⟩
  · refine V_aload (v := ad 0) mi_10_11 (by simp [stL, lv_args, Value.category]) ?_
    refine V_gR mi_10_12 g0r2 (by omega) hG ?_
    refine V_iload (v := Int32.ofInt (o)) mi_10_15 (by simp [stL, lv_args, Value.category]) ?_
    refine V_cO (As := [.int (Int32.ofInt (o))]) (st := []) mi_10_16 (by omega) (by decide +kernel) (by decide +kernel) (by omega) g4o hG (hfk_ct hG hX hB oI) (by omega) (show 1 = mN 102 by decide +kernel) (by simp [Value.category]) ?_
    rintro r w2 ⟨rfl, rfl⟩
    refine V_beq mi_10_19  (fun c2 => ?_) (fun c2 => ?_)
    · refine V_ipush mi_10_35 ?_
      exact V_retI mi_10_37 (fun h => absurd h (by decide +kernel)) ⟨rfl, by rw [if_neg (fun k => of_decide_eq_false c2 k.2)]⟩
    · have k1 := of_decide_eq_true c1
      have k2 := of_decide_eq_true c2
      obtain ⟨m, rfl⟩ := Int.eq_ofNat_of_zero_le k1.1
      obtain ⟨n, rfl⟩ := Int.eq_ofNat_of_zero_le k2.1
      refine V_aload (v := ad 0) mi_10_22 (by simp [stL, lv_args, Value.category]) ?_
      refine V_gR mi_10_23 g0r5 (by omega) hG ?_
      refine V_iload (v := Int32.ofInt ((m : Int))) mi_10_26 (by simp [stL, lv_args, Value.category]) ?_
      refine V_iload (v := Int32.ofInt ((n : Int))) mi_10_27 (by simp [stL, lv_args, Value.category]) ?_
      refine V_ipush mi_10_28 ?_
      refine V_cO (As := [.int (Int32.ofInt ((m : Int))), .int (Int32.ofInt ((n : Int))), .int (Int32.ofInt (((0 : Nat) : Int)))]) (st := []) mi_10_29 (by omega) (by decide +kernel) (by decide +kernel) (by omega) g32o hG (stb_ct (f := m) (o := n) (g := 0) hG (by omega) (by omega) (by omega) (sto_k hB hS (by omega) (by omega) (by omega))) (by omega) (show 3 = mN 176 by decide +kernel) (by simp [Value.category]) ?_
      rintro r w3 ⟨rfl, rfl⟩
      refine V_goto mi_10_32 ?_
      exact V_retI mi_10_37 (fun h => absurd h (by decide +kernel)) ⟨rfl, by rw [if_pos ⟨k1, k2⟩, Int.toNat_natCast, Int.toNat_natCast]⟩
theorem ini_at {G : Nat → Int} {m n : Nat} (hn : n < 6) : iniK G (6 * m + n) = if m = n then allV (G (6 + 7 * n)) else G (66 + (6 * m + n)) := by
  unfold iniK
  rw [show (6 * m + n) / 6 = m by omega, show (6 * m + n) % 6 = n by omega]
theorem knM_ct {G : Nat → Int} (hG : GOK ad tys GG ws) (hW : W91 G ws) (hB : HB G) {f o : Int} (fI : I32 f) (oI : I32 o) : CT l D tys A 248 2 0 0 [.ref (ad 90), .int (Int32.ofInt (f)), .int (Int32.ofInt (o))] ws (fun r w => w = ws ∧ r = some (.int (if (0 ≤ f ∧ f < G 3) ∧ (0 ≤ o ∧ o < G 3) then Int32.ofInt ((tellT G 0).K (6 * f.toNat + o.toNat)) else Int32.ofInt (-2)))) := by
  refine CT_of_V (by omega) (show (3 : Nat) ≤ mML 248 by decide +kernel) ?_
  obtain ⟨s91, e91, -⟩ := g91s
  have b3 := hB.b3
  have b2 := hB.b2
  refine V_aload (v := ad 90) mi_248_0 (by simp [stL, lv_args, Value.category]) ?_
  refine V_iload (v := Int32.ofInt (f)) mi_248_1 (by simp [stL, lv_args, Value.category]) ?_
  refine V_callM (As := [.int (Int32.ofInt (f))]) (st := []) mi_248_2 (by omega) (by decide +kernel) (by decide +kernel) hG (mfk_ct hG hW hB fI) (by omega) (show 1 = mN 199 by decide +kernel) (by simp [Value.category]) ?_
  rintro r w1 ⟨rfl, rfl⟩
  refine V_beq mi_248_5  (fun c1 => ?_) (fun c1 => ?_)
  · refine V_ipush mi_248_16 ?_
    refine V_goto mi_248_18 ?_
    exact V_retI mi_248_48 (fun h => absurd h (by decide +kernel)) ⟨rfl, by rw [if_neg (fun k => of_decide_eq_false c1 k.1)]⟩
  · refine V_aload (v := ad 90) mi_248_8 (by simp [stL, lv_args, Value.category]) ?_
    refine V_iload (v := Int32.ofInt (o)) mi_248_9 (by simp [stL, lv_args, Value.category]) ?_
    refine V_callM (As := [.int (Int32.ofInt (o))]) (st := []) mi_248_10 (by omega) (by decide +kernel) (by decide +kernel) hG (mfk_ct hG hW hB oI) (by omega) (show 1 = mN 199 by decide +kernel) (by simp [Value.category]) ?_
    rintro r w2 ⟨rfl, rfl⟩
    refine V_bne mi_248_13  (fun c2 => ?_) (fun c2 => ?_)
    · have k1 := of_decide_eq_true c1
      have k2 := of_decide_eq_true c2
      obtain ⟨m, rfl⟩ := Int.eq_ofNat_of_zero_le k1.1
      obtain ⟨n, rfl⟩ := Int.eq_ofNat_of_zero_le k2.1
      rw [if_pos ⟨k1, k2⟩, Int.toNat_natCast, Int.toNat_natCast, show (tellT G 0).K = iniK G from rfl, ini_at (by omega)]
      refine V_iload (v := Int32.ofInt ((m : Int))) mi_248_21 (by simp [stL, lv_args, Value.category]) ?_
      refine V_iload (v := Int32.ofInt ((n : Int))) mi_248_22 (by simp [stL, lv_args, Value.category]) ?_
      refine V_cne mi_248_23 ⟨by omega, by omega⟩ ⟨by omega, by omega⟩ (fun q => ?_) (fun q => ?_)
      · refine V_aload (v := ad 90) mi_248_34 (by simp [stL, lv_args, Value.category]) ?_
        refine V_getI mi_248_35 hG (rref gr1m (by omega) hG) ?_
        refine V_ipush mi_248_38 ?_
        refine V_ipush mi_248_40 ?_
        refine V_iload (v := Int32.ofInt ((m : Int))) mi_248_42 (by simp [stL, lv_args, Value.category]) ?_
        refine V_ibin mi_248_43 (by omega) ?_
        rw [ib2]
        refine V_ibin mi_248_44 (by omega) ?_
        rw [ib0]
        refine V_iload (v := Int32.ofInt ((n : Int))) mi_248_45 (by simp [stL, lv_args, Value.category]) ?_
        refine V_ibin mi_248_46 (by omega) ?_
        rw [ib0]
        refine V_aldX (j := 66 + (6 * m + n)) mi_248_47 (by rw [show ((66) + ((6) * ((m : Int)))) + ((n : Int)) = ((66 + (6 * m + n) : Nat) : Int) by omega]) hG e91 (by omega) (by omega) (hW _ (by omega)) ?_
        exact V_retI mi_248_48 (fun h => absurd h (by decide +kernel)) ⟨rfl, by rw [if_neg (by omega)]⟩
      · have e : m = n := by omega
        rw [if_pos e, e]
        refine V_aload (v := ad 90) mi_248_26 (by simp [stL, lv_args, Value.category]) ?_
        refine V_iload (v := Int32.ofInt ((n : Int))) mi_248_27 (by simp [stL, lv_args, Value.category]) ?_
        refine V_callM (As := [.int (Int32.ofInt ((n : Int)))]) (st := []) mi_248_28 (by omega) (by decide +kernel) (by decide +kernel) hG (who_ct (o := n) (by omega) hG hW hB) (by omega) (show 1 = mN 206 by decide +kernel) (by simp [Value.category]) ?_
        rintro r w3 ⟨rfl, rfl⟩
        refine V_goto mi_248_31 ?_
        exact V_retI mi_248_48 (fun h => absurd h (by decide +kernel)) ⟨rfl, rfl⟩
    · refine V_ipush mi_248_16 ?_
      refine V_goto mi_248_18 ?_
      exact V_retI mi_248_48 (fun h => absurd h (by decide +kernel)) ⟨rfl, by rw [if_neg (fun k => of_decide_eq_false c2 k.2)]⟩
theorem pairT_knew (hAD : ∀ i : Nat, ad (1000 + i) = D.2 1000 i) (hG : GOK ad tys GG ws) (hR : RELW ws) (a1 a2 : Int32) : PAIRT l D tys A ad 10 248 [.ref (ad 0), .int a1, .int a2] [.ref (ad 90), .int a1, .int a2] ws := by
  obtain ⟨G0, o0, x0, y0⟩ := hR.1.2.1
  obtain ⟨G, o, x, y, hb, wf, hS⟩ := aux_sto hR.2 x0 y0 o0 (hb_of hG y0 o0)
  have c1 := knX_ct (l := l) (D := D) (A := A) hG x hb hS (i32b a1) (i32b a2)
  have c2 := knM_ct (l := l) (D := D) (A := A) hG y hb (i32b a1) (i32b a2)
  simp only [oi] at c1 c2
  exact pairT_ro hG hR (by omega) (by omega) c1 c2
end XSL
