section XSL
variable {l : Launch} {D : va_G} {tys : List (ClassId × FieldType)} {A : Nat → Prop} {ad : Nat → Nat} {ws : va_W}
theorem sayT_no {G : Nat → Int} {h S : Nat} (w : ∀ s, s < S → sWhn G s ≠ h) : ∀ (m s : Nat) (T : TT), s + m = S → sayT G h m s T = T
  | 0, s, T, _ => rfl
  | m + 1, s, T, hm => by
    unfold sayT
    rw [if_neg (w s (by omega))]
    exact sayT_no w m (s + 1) T (by omega)
theorem tell_end {G : Nat → Int} (hB : HB G) (wf : WF G) : tellT G ((G 2).toNat + 1) = tellT G (G 2).toNat := by
  show sayT G (G 2).toNat (G 4).toNat 0 (tellT G (G 2).toNat) = _
  exact sayT_no (S := (G 4).toNat) (fun s hs => by have := WF_n hB wf s hs; omega) _ _ _ (by omega)
/-- the reference has told -/
noncomputable def MTO (w0 w : va_W) : Prop := ∀ c j, ¬ (98 ≤ c ∧ c ≤ 101) → ¬ (c = 90 ∧ (j = 18 ∨ j = 21)) → rd w c j = rd w0 c j
noncomputable def MT (ad : Nat → Nat) (tys : List (ClassId × FieldType)) (G : Nat → Int) (w0 w : va_W) : Prop := GOK ad tys GG w ∧ KNM G ((G 2).toNat + 1) w ∧ (rd w 90 18 = some (.int (tellT G (G 2).toNat).sd) ∧ (∀ i, i < 12 → rd w 100 i = some (.int (Int32.ofInt ((tellT G (G 2).toNat).hb i)))) ∧ ∀ i, i < 12 → rd w 101 i = some (.int (Int32.ofInt ((tellT G (G 2).toNat).lb i)))) ∧ MTO w0 w
theorem gt_ct {G : Nat → Int} (hB : HB G) (wf : WF G) (hG : GOK ad tys GG ws) (hW : W91 G ws) (h24 : rd ws 90 24 = some (.int (Int32.ofInt 0))) (h22 : rd ws 90 22 = some (.int (Int32.ofInt (-1)))) : CT l D tys A 238 8 0 0 [.ref (ad 90)] ws (fun r w => r = none ∧ MT ad tys G ws w) :=
  CT_post (gat_ct hB hG hW h24 h22) (fun r w h => by
    obtain ⟨e, T, k, o⟩ := h
    rw [tell_end hB wf] at T
    exact ⟨e, T.g, k, ⟨T.s, T.h, T.lr⟩, fun c j h1 h2 => o c j (by omega) (by omega) (by omega)⟩)
theorem pairT_st {kx km d1 d2 : Nat} {xs ms : List Value} {v : Int32} (hG : GOK ad tys GG ws) (hR : RELW ws) (h1 : d1 < 11) (h2 : d2 < 11) (c1 : CT l D tys A kx d1 0 0 xs ws (fun r w => w = ws ∧ r = some (.int v))) (c2 : CT l D tys A km d2 0 0 ms ws (fun r w => (GOK ad tys GG w ∧ MTO ws w) ∧ r = some (.int v))) : PAIRT l D tys A ad kx km xs ms ws := by
  refine ⟨v, fun w => w = ws, ⟨d1, h1, CT_post c1 (fun r w h => ?_)⟩, fun w hw K => ⟨d2, h2, ?_⟩⟩
  · obtain ⟨rfl, e⟩ := h
    exact ⟨e, hG, rfl⟩
  · subst K
    refine CT_post c2 (fun r w2 h => ?_)
    obtain ⟨⟨g, o⟩, e⟩ := h
    exact ⟨e, g, relh_keep hR.1 (fun c hc j => o c j (by omega) (by omega)) (fun j hj => o 90 j (by omega) (fun q => by
      obtain ⟨-, q⟩ := q
      rcases q with rfl | rfl
      · exact absurd hj (by unfold spK; decide)
      · exact absurd hj (by unfold spK; decide))), aux_keep hR.2 (fun c j hc => o c j (by omega) (by omega))⟩
theorem stb_ct {f o g : Nat} {v : Int32} (hG : GOK ad tys GG ws) (hf : f < 6) (ho : o < 6) (hg : g ≤ 24) (h : rd ws 33 (36 * g + (6 * f + o)) = some (.int v)) : CT l D tys A 176 1 0 0 [.ref (ad 32), .int (Int32.ofInt ((f : Int))), .int (Int32.ofInt ((o : Int))), .int (Int32.ofInt ((g : Int)))] ws (fun r w => w = ws ∧ r = some (.int v)) := by
  refine CT_of_V (by omega) (show (4 : Nat) ≤ mML 176 by decide +kernel) ?_
  refine V_aload (v := ad 32) mi_176_0 (by simp [stL, lv_args, Value.category]) ?_
  refine V_gR mi_176_1 g32r0 (by omega) hG ?_
  refine V_iload (v := Int32.ofInt ((g : Int))) mi_176_4 (by simp [stL, lv_args, Value.category]) ?_
  refine V_ipush mi_176_5 ?_
  refine V_ibin mi_176_7 (by omega) ?_
  rw [ib2]
  refine V_iload (v := Int32.ofInt ((f : Int))) mi_176_8 (by simp [stL, lv_args, Value.category]) ?_
  refine V_ipush mi_176_9 ?_
  refine V_ibin mi_176_11 (by omega) ?_
  rw [ib2]
  refine V_ibin mi_176_12 (by omega) ?_
  rw [ib0]
  refine V_iload (v := Int32.ofInt ((o : Int))) mi_176_13 (by simp [stL, lv_args, Value.category]) ?_
  refine V_ibin mi_176_14 (by omega) ?_
  rw [ib0]
  rw [show (g : Int) * (36) + (f : Int) * (6) + (o : Int) = ((36 * g + (6 * f + o) : Nat) : Int) by omega]
  refine V_stat (As := [.ref (ad 33), .int (Int32.ofInt (((36 * g + (6 * f + o) : Nat) : Int)))]) (st := []) mi_176_15 (by omega) (atk_ct (j := 36 * g + (6 * f + o)) a33 hG (by omega) (by omega) h) (by omega) (show 2 = mN 147 by decide +kernel) (by simp [Value.category]) ⟨Nat.le_refl _, Nat.le_refl _⟩ ?_
  rintro r w1 ⟨rfl, rfl⟩
  exact V_retI mi_176_18 (fun h => absurd h (by decide +kernel)) ⟨rfl, rfl⟩
theorem sto_k {G : Nat → Int} {w : va_W} (hB : HB G) (hS : STO G w) {f o g : Nat} (hf : (f : Int) < G 3) (ho : o < 6) (hg : (g : Int) ≤ G 2) : rd w 33 (36 * g + (6 * f + o)) = some (.int (Int32.ofInt ((tellT G g).K (6 * f + o)))) :=
  hS.2.2.1 g (by omega) (6 * f + o) (by have := hB.b3; omega) (by omega)
theorem ksX_ct {G : Nat → Int} (hG : GOK ad tys GG ws) (hX : HX 4 G ws) (hB : HB G) (hS : STO G ws) {f o h : Int} (fI : I32 f) (oI : I32 o) (hI : I32 h) : CT l D tys A 11 3 0 0 [.ref (ad 0), .int (Int32.ofInt (f)), .int (Int32.ofInt (o)), .int (Int32.ofInt (h))] ws (fun r w => w = ws ∧ r = some (.int (if ((0 ≤ f ∧ f < G 3) ∧ (0 ≤ o ∧ o < G 3)) ∧ 0 ≤ h ∧ h < G 2 then Int32.ofInt ((tellT G (h.toNat + 1)).K (6 * f.toNat + o.toNat)) else Int32.ofInt (-2)))) := by
  refine CT_of_V (by omega) (show (4 : Nat) ≤ mML 11 by decide +kernel) ?_
  have b3 := hB.b3
  have b2 := hB.b2
  refine V_aload (v := ad 0) mi_11_0 (by simp [stL, lv_args, Value.category]) ?_
  refine V_gR mi_11_1 g0r2 (by omega) hG ?_
  refine V_iload (v := Int32.ofInt (f)) mi_11_4 (by simp [stL, lv_args, Value.category]) ?_
  refine V_cO (As := [.int (Int32.ofInt (f))]) (st := []) mi_11_5 (by omega) (by decide +kernel) (by decide +kernel) (by omega) g4o hG (hfk_ct hG hX hB fI) (by omega) (show 1 = mN 102 by decide +kernel) (by simp [Value.category]) ?_
  rintro r w1 ⟨rfl, rfl⟩
  refine V_beq mi_11_8  (fun c1 => ?_) (fun c1 => ?_)
  · refine V_ipush mi_11_33 ?_
    exact V_retI mi_11_35 (fun h => absurd h (by decide +kernel)) ⟨rfl, by rw [if_neg (fun k => of_decide_eq_false c1 k.1.1)]⟩
  · refine V_aload (v := ad 0) mi_11_11 (by simp [stL, lv_args, Value.category]) ?_
    refine V_gR mi_11_12 g0r2 (by omega) hG ?_
    refine V_iload (v := Int32.ofInt (o)) mi_11_15 (by simp [stL, lv_args, Value.category]) ?_
    refine V_cO (As := [.int (Int32.ofInt (o))]) (st := []) mi_11_16 (by omega) (by decide +kernel) (by decide +kernel) (by omega) g4o hG (hfk_ct hG hX hB oI) (by omega) (show 1 = mN 102 by decide +kernel) (by simp [Value.category]) ?_
    rintro r w2 ⟨rfl, rfl⟩
    refine V_beq mi_11_19  (fun c2 => ?_) (fun c2 => ?_)
    · refine V_ipush mi_11_33 ?_
      exact V_retI mi_11_35 (fun h => absurd h (by decide +kernel)) ⟨rfl, by rw [if_neg (fun k => of_decide_eq_false c2 k.1.2)]⟩
    · refine V_aload (v := ad 0) mi_11_22 (by simp [stL, lv_args, Value.category]) ?_
      refine V_gR mi_11_23 g0r2 (by omega) hG ?_
      refine V_iload (v := Int32.ofInt (h)) mi_11_26 (by simp [stL, lv_args, Value.category]) ?_
      refine V_cO (As := [.int (Int32.ofInt (h))]) (st := []) mi_11_27 (by omega) (by decide +kernel) (by decide +kernel) (by omega) g4o hG (hho_ct hG hX hB hI) (by omega) (show 1 = mN 103 by decide +kernel) (by simp [Value.category]) ?_
      rintro r w3 ⟨rfl, rfl⟩
      refine V_bne mi_11_30  (fun c3 => ?_) (fun c3 => ?_)
      · have k1 := of_decide_eq_true c1
        have k2 := of_decide_eq_true c2
        have k3 := of_decide_eq_true c3
        obtain ⟨m, rfl⟩ := Int.eq_ofNat_of_zero_le k1.1
        obtain ⟨n, rfl⟩ := Int.eq_ofNat_of_zero_le k2.1
        obtain ⟨k, rfl⟩ := Int.eq_ofNat_of_zero_le k3.1
        refine V_aload (v := ad 0) mi_11_36 (by simp [stL, lv_args, Value.category]) ?_
        refine V_gR mi_11_37 g0r5 (by omega) hG ?_
        refine V_iload (v := Int32.ofInt ((m : Int))) mi_11_40 (by simp [stL, lv_args, Value.category]) ?_
        refine V_iload (v := Int32.ofInt ((n : Int))) mi_11_41 (by simp [stL, lv_args, Value.category]) ?_
        refine V_iload (v := Int32.ofInt ((k : Int))) mi_11_42 (by simp [stL, lv_args, Value.category]) ?_
        refine V_ipush mi_11_43 ?_
        refine V_ibin mi_11_44 (by omega) ?_
        rw [ib0]
        rw [show (k : Int) + (1) = ((k + 1 : Nat) : Int) by omega]
        refine V_cO (As := [.int (Int32.ofInt ((m : Int))), .int (Int32.ofInt ((n : Int))), .int (Int32.ofInt (((k + 1 : Nat) : Int)))]) (st := []) mi_11_45 (by omega) (by decide +kernel) (by decide +kernel) (by omega) g32o hG (stb_ct (f := m) (o := n) (g := k + 1) hG (by omega) (by omega) (by omega) (sto_k hB hS (by omega) (by omega) (by omega))) (by omega) (show 3 = mN 176 by decide +kernel) (by simp [Value.category]) ?_
        rintro r w4 ⟨rfl, rfl⟩
        exact V_retI mi_11_48 (fun h => absurd h (by decide +kernel)) ⟨rfl, by rw [if_pos ⟨⟨k1, k2⟩, k3⟩, Int.toNat_natCast, Int.toNat_natCast, Int.toNat_natCast]⟩
      · refine V_ipush mi_11_33 ?_
        exact V_retI mi_11_35 (fun h => absurd h (by decide +kernel)) ⟨rfl, by rw [if_neg (fun k => of_decide_eq_false c3 k.2)]⟩
theorem kah_ct {f o g : Nat} {z : Int} (hG : GOK ad tys GG ws) (hf : f < 6) (ho : o < 6) (hg : g ≤ 24) (h : rd ws 98 (36 * g + (6 * f + o)) = some (.int (Int32.ofInt z))) : CT l D tys A 239 0 0 0 [.ref (ad 90), .int (Int32.ofInt ((f : Int))), .int (Int32.ofInt ((o : Int))), .int (Int32.ofInt ((g : Int)))] ws (fun r w => w = ws ∧ r = some (.int (Int32.ofInt z))) := by
  refine CT_of_V (by omega) (show (4 : Nat) ≤ mML 239 by decide +kernel) ?_
  obtain ⟨s98, e98, f98⟩ := a98
  refine V_aload (v := ad 90) mi_239_0 (by simp [stL, lv_args, Value.category]) ?_
  refine V_getI mi_239_1 hG (rref gr16 (by omega) hG) ?_
  refine V_ipush mi_239_4 ?_
  refine V_iload (v := Int32.ofInt ((g : Int))) mi_239_6 (by simp [stL, lv_args, Value.category]) ?_
  refine V_ibin mi_239_7 (by omega) ?_
  rw [ib2]
  refine V_ipush mi_239_8 ?_
  refine V_iload (v := Int32.ofInt ((f : Int))) mi_239_10 (by simp [stL, lv_args, Value.category]) ?_
  refine V_ibin mi_239_11 (by omega) ?_
  rw [ib2]
  refine V_ibin mi_239_12 (by omega) ?_
  rw [ib0]
  refine V_iload (v := Int32.ofInt ((o : Int))) mi_239_13 (by simp [stL, lv_args, Value.category]) ?_
  refine V_ibin mi_239_14 (by omega) ?_
  rw [ib0]
  refine V_aldX (j := 36 * g + (6 * f + o)) mi_239_15 (by rw [show (((36) * ((g : Int))) + ((6) * ((f : Int)))) + ((o : Int)) = ((36 * g + (6 * f + o) : Nat) : Int) by omega]) hG e98 (by omega) (by omega) (h) ?_
  exact V_retI mi_239_16 (fun h => absurd h (by decide +kernel)) ⟨rfl, rfl⟩
theorem mt_k {G : Nat → Int} {w0 w : va_W} (h : MT ad tys G w0 w) {f o g : Nat} (hf : f < 6) (ho : o < 6) (hg : (g : Int) ≤ G 2) : rd w 98 (36 * g + (6 * f + o)) = some (.int (Int32.ofInt ((tellT G g).K (6 * f + o)))) :=
  h.2.1 g (by omega) (6 * f + o) (by omega)
theorem ksM_ct {G : Nat → Int} (hG : GOK ad tys GG ws) (hW : W91 G ws) (hB : HB G) (wf : WF G) (h24 : rd ws 90 24 = some (.int (Int32.ofInt 0))) (h22 : rd ws 90 22 = some (.int (Int32.ofInt (-1)))) {f o h : Int} (fI : I32 f) (oI : I32 o) (hI : I32 h) : CT l D tys A 249 9 0 0 [.ref (ad 90), .int (Int32.ofInt (f)), .int (Int32.ofInt (o)), .int (Int32.ofInt (h))] ws (fun r w => (GOK ad tys GG w ∧ MTO ws w) ∧ r = some (.int (if ((0 ≤ f ∧ f < G 3) ∧ (0 ≤ o ∧ o < G 3)) ∧ 0 ≤ h ∧ h < G 2 then Int32.ofInt ((tellT G (h.toNat + 1)).K (6 * f.toNat + o.toNat)) else Int32.ofInt (-2)))) := by
  refine CT_of_V (by omega) (show (4 : Nat) ≤ mML 249 by decide +kernel) ?_
  have b3 := hB.b3
  have b2 := hB.b2
  refine V_aload (v := ad 90) mi_249_0 (by simp [stL, lv_args, Value.category]) ?_
  refine V_iload (v := Int32.ofInt (f)) mi_249_1 (by simp [stL, lv_args, Value.category]) ?_
  refine V_callM (As := [.int (Int32.ofInt (f))]) (st := []) mi_249_2 (by omega) (by decide +kernel) (by decide +kernel) hG (mfk_ct hG hW hB fI) (by omega) (show 1 = mN 199 by decide +kernel) (by simp [Value.category]) ?_
  rintro r w1 ⟨rfl, rfl⟩
  refine V_beq mi_249_5  (fun c1 => ?_) (fun c1 => ?_)
  · refine V_ipush mi_249_24 ?_
    exact V_retI mi_249_26 (fun h => absurd h (by decide +kernel)) ⟨⟨hG, fun _ _ _ _ => rfl⟩, by rw [if_neg (fun k => of_decide_eq_false c1 k.1.1)]⟩
  · refine V_aload (v := ad 90) mi_249_8 (by simp [stL, lv_args, Value.category]) ?_
    refine V_iload (v := Int32.ofInt (o)) mi_249_9 (by simp [stL, lv_args, Value.category]) ?_
    refine V_callM (As := [.int (Int32.ofInt (o))]) (st := []) mi_249_10 (by omega) (by decide +kernel) (by decide +kernel) hG (mfk_ct hG hW hB oI) (by omega) (show 1 = mN 199 by decide +kernel) (by simp [Value.category]) ?_
    rintro r w2 ⟨rfl, rfl⟩
    refine V_beq mi_249_13  (fun c2 => ?_) (fun c2 => ?_)
    · refine V_ipush mi_249_24 ?_
      exact V_retI mi_249_26 (fun h => absurd h (by decide +kernel)) ⟨⟨hG, fun _ _ _ _ => rfl⟩, by rw [if_neg (fun k => of_decide_eq_false c2 k.1.2)]⟩
    · refine V_aload (v := ad 90) mi_249_16 (by simp [stL, lv_args, Value.category]) ?_
      refine V_iload (v := Int32.ofInt (h)) mi_249_17 (by simp [stL, lv_args, Value.category]) ?_
      refine V_callM (As := [.int (Int32.ofInt (h))]) (st := []) mi_249_18 (by omega) (by decide +kernel) (by decide +kernel) hG (mho_ct hG hW hB hI) (by omega) (show 1 = mN 201 by decide +kernel) (by simp [Value.category]) ?_
      rintro r w3 ⟨rfl, rfl⟩
      refine V_bne mi_249_21  (fun c3 => ?_) (fun c3 => ?_)
      · have k1 := of_decide_eq_true c1
        have k2 := of_decide_eq_true c2
        have k3 := of_decide_eq_true c3
        obtain ⟨m, rfl⟩ := Int.eq_ofNat_of_zero_le k1.1
        obtain ⟨n, rfl⟩ := Int.eq_ofNat_of_zero_le k2.1
        obtain ⟨k, rfl⟩ := Int.eq_ofNat_of_zero_le k3.1
        refine V_aload (v := ad 90) mi_249_27 (by simp [stL, lv_args, Value.category]) ?_
        refine V_callM (As := []) (st := []) mi_249_28 (by omega) (by decide +kernel) (by decide +kernel) hG (gt_ct hB wf hG hW h24 h22) (by omega) (show 0 = mN 238 by decide +kernel) (by simp [Value.category]) ?_
        rintro r w4 ⟨rfl, T⟩
        refine V_aload (v := ad 90) mi_249_31 (by simp [stL, lv_args, Value.category]) ?_
        refine V_iload (v := Int32.ofInt ((m : Int))) mi_249_32 (by simp [stL, lv_args, Value.category]) ?_
        refine V_iload (v := Int32.ofInt ((n : Int))) mi_249_33 (by simp [stL, lv_args, Value.category]) ?_
        refine V_iload (v := Int32.ofInt ((k : Int))) mi_249_34 (by simp [stL, lv_args, Value.category]) ?_
        refine V_ipush mi_249_35 ?_
        refine V_ibin mi_249_36 (by omega) ?_
        rw [ib0]
        rw [show (k : Int) + (1) = ((k + 1 : Nat) : Int) by omega]
        refine V_callM (As := [.int (Int32.ofInt ((m : Int))), .int (Int32.ofInt ((n : Int))), .int (Int32.ofInt (((k + 1 : Nat) : Int)))]) (st := []) mi_249_37 (by omega) (by decide +kernel) (by decide +kernel) T.1 (kah_ct (f := m) (o := n) (g := k + 1) T.1 (by omega) (by omega) (by omega) (mt_k T (by omega) (by omega) (by omega))) (by omega) (show 3 = mN 239 by decide +kernel) (by simp [Value.category]) ?_
        rintro r w5 ⟨rfl, rfl⟩
        exact V_retI mi_249_40 (fun h => absurd h (by decide +kernel)) ⟨⟨T.1, T.2.2.2⟩, by rw [if_pos ⟨⟨k1, k2⟩, k3⟩, Int.toNat_natCast, Int.toNat_natCast, Int.toNat_natCast]⟩
      · refine V_ipush mi_249_24 ?_
        exact V_retI mi_249_26 (fun h => absurd h (by decide +kernel)) ⟨⟨hG, fun _ _ _ _ => rfl⟩, by rw [if_neg (fun k => of_decide_eq_false c3 k.2)]⟩
theorem pairT_knows (hAD : ∀ i : Nat, ad (1000 + i) = D.2 1000 i) (hG : GOK ad tys GG ws) (hR : RELW ws) (a1 a2 a3 : Int32) : PAIRT l D tys A ad 11 249 [.ref (ad 0), .int a1, .int a2, .int a3] [.ref (ad 90), .int a1, .int a2, .int a3] ws := by
  obtain ⟨G0, o0, x0, y0⟩ := hR.1.2.1
  obtain ⟨G, o, x, y, hb, wf, hS⟩ := aux_sto hR.2 x0 y0 o0 (hb_of hG y0 o0)
  have c1 := ksX_ct (l := l) (D := D) (A := A) hG x hb hS (i32b a1) (i32b a2) (i32b a3)
  have c2 := ksM_ct (l := l) (D := D) (A := A) hG y hb wf hR.2.2.2.2.2 hR.2.2.2.2.1 (i32b a1) (i32b a2) (i32b a3)
  simp only [oi] at c1 c2
  exact pairT_st hG hR (by omega) (by omega) c1 c2
end XSL
