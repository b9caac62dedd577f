section XSY
variable {l : Launch} {D : va_G} {tys : List (ClassId × FieldType)} {A : Nat → Prop} {ad : Nat → Nat} {ws : va_W}
theorem moI_p {G : Nat → Int} {g p : Nat} : moI G g (p : Int) = loS G g p (G 3).toNat := by
  unfold moI
  rw [if_neg (by omega), Int.toNat_natCast]
theorem moI_bd {G : Nat → Int} {g : Nat} {a : Int} (hB : HB G) : -1 ≤ moI G g a ∧ moI G g a ≤ 36 := by
  have b := loS_bd (G := G) (g := g) (f := a.toNat) (G 3).toNat
  have b3 := hB.b3
  unfold moI
  split <;> omega
theorem wi_21 {G : Nat → Int} (hG : GOK ad tys GG ws) (hX : HX 4 G ws) (hB : HB G) (hS : STO G ws) {h : Nat} {post : Option Value → va_W → Prop} (hh : (h : Int) < G 2) : ∀ (m p : Nat) (a : Int), ((p + m : Nat) : Int) = G 3 → (-1 ≤ a ∧ a ≤ 5) → post (some (.int (Int32.ofInt (wiS G (h + 1) m p a)))) ws → V l D tys A 21 4 0 0 post 0 0 21 [(0, .ref (ad 0)), (1, .int (Int32.ofInt ((h : Int)))), (2, .int (Int32.ofInt (a))), (3, .int (Int32.ofInt (moI G (h + 1) a))), (4, .int (Int32.ofInt ((p : Int))))] [] ws
  | 0, p, a, hm, ha, kk => by
    have b3 := hB.b3
    have b2 := hB.b2
    have mb := moI_bd (G := G) (g := h + 1) (a := a) hB
    refine V_iload (v := Int32.ofInt ((p : Int))) mi_21_21 (by simp [stL, lv_args, Value.category]) ?_
    refine V_aload (v := ad 0) mi_21_23 (by simp [stL, lv_args, Value.category]) ?_
    refine V_gR mi_21_24 g0r2 (by omega) hG ?_
    refine V_gO mi_21_27 g4o hG (show rd _ 4 4 = some (.int (Int32.ofInt (G 3))) from hx0 hX (i := 4) (by omega)) ?_
    refine V_cge mi_21_30 ⟨by omega, by omega⟩ ⟨by omega, by omega⟩ (fun q => ?_) (fun q => ?_)
    · refine V_iload (v := Int32.ofInt (a)) mi_21_69 (by simp [stL, lv_args, Value.category]) ?_
      exact V_retI mi_21_70 (fun h => absurd h (by decide +kernel)) kk
    · exact absurd q (by omega)
  | m + 1, p, a, hm, ha, kk => by
    have b3 := hB.b3
    have b2 := hB.b2
    have mb := moI_bd (G := G) (g := h + 1) (a := a) hB
    refine V_iload (v := Int32.ofInt ((p : Int))) mi_21_21 (by simp [stL, lv_args, Value.category]) ?_
    refine V_aload (v := ad 0) mi_21_23 (by simp [stL, lv_args, Value.category]) ?_
    refine V_gR mi_21_24 g0r2 (by omega) hG ?_
    refine V_gO mi_21_27 g4o hG (show rd _ 4 4 = some (.int (Int32.ofInt (G 3))) from hx0 hX (i := 4) (by omega)) ?_
    refine V_cge mi_21_30 ⟨by omega, by omega⟩ ⟨by omega, by omega⟩ (fun q => ?_) (fun q => ?_)
    · exact absurd q (by omega)
    · have lb := loS_bd (G := G) (g := h + 1) (f := p) (G 3).toNat
      have ed : a = -1 ∧ moI G (h + 1) a = -1 ∨ ¬ a = -1 ∧ moI G (h + 1) a = loS G (h + 1) a.toNat (G 3).toNat := by
        unfold moI
        by_cases c : a = -1
        · exact Or.inl ⟨c, if_pos c⟩
        · exact Or.inr ⟨c, if_neg c⟩
      refine V_aload (v := ad 0) mi_21_33 (by simp [stL, lv_args, Value.category]) ?_
      refine V_gR mi_21_34 g0r5 (by omega) hG ?_
      refine V_aload (v := ad 0) mi_21_37 (by simp [stL, lv_args, Value.category]) ?_
      refine V_gR mi_21_38 g0r2 (by omega) hG ?_
      refine V_iload (v := Int32.ofInt ((p : Int))) mi_21_41 (by simp [stL, lv_args, Value.category]) ?_
      refine V_iload (v := Int32.ofInt ((h : Int))) mi_21_43 (by simp [stL, lv_args, Value.category]) ?_
      refine V_ipush mi_21_44 ?_
      refine V_ibin mi_21_45 (by omega) ?_
      rw [ib0]
      rw [show (h : Int) + (1) = ((h + 1 : Nat) : Int) by omega]
      refine V_cO (As := [.ref (ad 4), .int (Int32.ofInt ((p : Int))), .int (Int32.ofInt (((h + 1 : Nat) : Int)))]) (st := []) mi_21_46 (by omega) (by decide +kernel) (by decide +kernel) (by omega) g32o hG (lor_ct (f := p) (g := h + 1) hG hX hB hS (by omega) (by omega)) (by omega) (show 3 = mN 181 by decide +kernel) (by simp [Value.category]) ?_
      rintro r w1 ⟨e1, rfl⟩
      rw [e1]
      refine V_istore mi_21_49 ?_
      refine V_iload (v := Int32.ofInt (loS G (h + 1) p (G 3).toNat)) mi_21_51 (by simp [stL, lv_args, Value.category]) ?_
      refine V_iload (v := Int32.ofInt (moI G (h + 1) a)) mi_21_53 (by simp [stL, lv_args, Value.category]) ?_
      refine V_cle mi_21_54 ⟨by omega, by omega⟩ ⟨by omega, by omega⟩ (fun q2 => ?_) (fun q2 => ?_)
      · refine V_iinc (v := Int32.ofInt ((p : Int))) mi_21_63 (by simp [stL, lv_args, Value.category]) ?_
        rw [ia2]
        refine V_goto mi_21_66 ?_
        refine V_sub (lv' := [(0, .ref (ad 0)), (1, .int (Int32.ofInt ((h : Int)))), (2, .int (Int32.ofInt (a))), (3, .int (Int32.ofInt (moI G (h + 1) a))), (4, .int (Int32.ofInt (((p + 1 : Nat) : Int))))]) (fun q hq => ?_) ?_
        · simp only [List.mem_cons, List.not_mem_nil, or_false] at hq
          rcases hq with rfl | rfl | rfl | rfl | rfl <;> simp [stL, lv_args, Value.category]
        rw [wiS_n (fun k => by omega)] at kk
        exact wi_21 hG hX hB hS hh m (p + 1) a (by omega) ha kk
      · refine V_iload (v := Int32.ofInt (loS G (h + 1) p (G 3).toNat)) mi_21_57 (by simp [stL, lv_args, Value.category]) ?_
        refine V_istore mi_21_59 ?_
        refine V_iload (v := Int32.ofInt ((p : Int))) mi_21_60 (by simp [stL, lv_args, Value.category]) ?_
        refine V_istore mi_21_62 ?_
        refine V_iinc (v := Int32.ofInt ((p : Int))) mi_21_63 (by simp [stL, lv_args, Value.category]) ?_
        rw [ia2]
        refine V_goto mi_21_66 ?_
        rw [← moI_p]
        refine V_sub (lv' := [(0, .ref (ad 0)), (1, .int (Int32.ofInt ((h : Int)))), (2, .int (Int32.ofInt ((p : Int)))), (3, .int (Int32.ofInt (moI G (h + 1) (p : Int)))), (4, .int (Int32.ofInt (((p + 1 : Nat) : Int))))]) (fun q hq => ?_) ?_
        · simp only [List.mem_cons, List.not_mem_nil, or_false] at hq
          rcases hq with rfl | rfl | rfl | rfl | rfl <;> simp [stL, lv_args, Value.category]
        rw [wiS_y (by omega)] at kk
        exact wi_21 hG hX hB hS hh m (p + 1) (p : Int) (by omega) ⟨by omega, by omega⟩ kk
theorem wiX_ct {G : Nat → Int} (hG : GOK ad tys GG ws) (hX : HX 4 G ws) (hB : HB G) (hS : STO G ws) {h : Int} (hI : I32 h) : CT l D tys A 21 4 0 0 [.ref (ad 0), .int (Int32.ofInt (h))] ws (fun r w => w = ws ∧ r = some (.int (if 0 ≤ h ∧ h < G 2 then Int32.ofInt (wiS G (h.toNat + 1) (G 3).toNat 0 (-1)) else Int32.ofInt (-2)))) := by
  refine CT_of_V (by omega) (show (2 : Nat) ≤ mML 21 by decide +kernel) ?_
  have b3 := hB.b3
  have b2 := hB.b2
  refine V_aload (v := ad 0) mi_21_0 (by simp [stL, lv_args, Value.category]) ?_
  refine V_gR mi_21_1 g0r2 (by omega) hG ?_
  refine V_iload (v := Int32.ofInt (h)) mi_21_4 (by simp [stL, lv_args, Value.category]) ?_
  refine V_cO (As := [.int (Int32.ofInt (h))]) (st := []) mi_21_5 (by omega) (by decide +kernel) (by decide +kernel) (by omega) g4o hG (hho_ct hG hX hB hI) (by omega) (show 1 = mN 103 by decide +kernel) (by simp [Value.category]) ?_
  rintro r w1 ⟨rfl, rfl⟩
  refine V_bne mi_21_8  (fun c1 => ?_) (fun c1 => ?_)
  · have k1 := of_decide_eq_true c1
    obtain ⟨k, rfl⟩ := Int.eq_ofNat_of_zero_le k1.1
    refine V_ipush mi_21_14 ?_
    refine V_istore mi_21_15 ?_
    refine V_ipush mi_21_16 ?_
    refine V_istore mi_21_17 ?_
    refine V_ipush mi_21_18 ?_
    refine V_istore mi_21_19 ?_
    refine V_sub (lv' := [(0, .ref (ad 0)), (1, .int (Int32.ofInt (k : Int))), (2, .int (Int32.ofInt (-1))), (3, .int (Int32.ofInt (-1))), (4, .int (Int32.ofInt ((0 : Nat) : Int)))]) (fun q hq => ?_) ?_
    · simp only [List.mem_cons, List.not_mem_nil, or_false] at hq
      rcases hq with rfl | rfl | rfl | rfl | rfl <;> simp [stL, lv_args, Value.category]
    exact wi_21 hG hX hB hS (h := k) (by omega) (G 3).toNat 0 (-1) (by omega) ⟨by omega, by omega⟩ ⟨rfl, by rw [if_pos k1, Int.toNat_natCast]⟩
  · refine V_ipush mi_21_11 ?_
    exact V_retI mi_21_13 (fun h => absurd h (by decide +kernel)) ⟨rfl, by rw [if_neg (of_decide_eq_false c1)]⟩
theorem wim_19 {G : Nat → Int} {w0 : va_W} (hT : MT ad tys G w0 ws) (hW : W91 G ws) (hB : HB G) {h : Nat} {post : Option Value → va_W → Prop} (hh : (h : Int) < G 2) : ∀ (m p : Nat) (a : Int), ((p + m : Nat) : Int) = G 3 → (-1 ≤ a ∧ a ≤ 5) → (a = -1 ∨ a < (p : Int)) → post (some (.int (Int32.ofInt (wiS G (h + 1) m p a)))) ws → V l D tys A 263 9 0 0 post 0 0 19 [(0, .ref (ad 90)), (1, .int (Int32.ofInt ((h : Int)))), (2, .int (Int32.ofInt (a))), (3, .int (Int32.ofInt ((p : Int))))] [] ws
  | 0, p, a, hm, ha, hp, kk => by
    obtain ⟨s91, e91, -⟩ := g91s
    have b3 := hB.b3
    have b2 := hB.b2
    refine V_iload (v := Int32.ofInt ((p : Int))) mi_263_19 (by simp [stL, lv_args, Value.category]) ?_
    refine V_aload (v := ad 90) mi_263_20 (by simp [stL, lv_args, Value.category]) ?_
    refine V_getI mi_263_21 hT.1 (rref gr1m (by omega) hT.1) ?_
    refine V_ipush mi_263_24 ?_
    refine V_aldX (j := 3) mi_263_25 rfl hT.1 e91 (by omega) (by omega) (hW _ (by omega)) ?_
    refine V_cge mi_263_26 ⟨by omega, by omega⟩ ⟨by omega, by omega⟩ (fun q => ?_) (fun q => ?_)
    · refine V_iload (v := Int32.ofInt (a)) mi_263_57 (by simp [stL, lv_args, Value.category]) ?_
      exact V_retI mi_263_58 (fun h => absurd h (by decide +kernel)) kk
    · exact absurd q (by omega)
  | m + 1, p, a, hm, ha, hp, kk => by
    obtain ⟨s91, e91, -⟩ := g91s
    have b3 := hB.b3
    have b2 := hB.b2
    refine V_iload (v := Int32.ofInt ((p : Int))) mi_263_19 (by simp [stL, lv_args, Value.category]) ?_
    refine V_aload (v := ad 90) mi_263_20 (by simp [stL, lv_args, Value.category]) ?_
    refine V_getI mi_263_21 hT.1 (rref gr1m (by omega) hT.1) ?_
    refine V_ipush mi_263_24 ?_
    refine V_aldX (j := 3) mi_263_25 rfl hT.1 e91 (by omega) (by omega) (hW _ (by omega)) ?_
    refine V_cge mi_263_26 ⟨by omega, by omega⟩ ⟨by omega, by omega⟩ (fun q => ?_) (fun q => ?_)
    · exact absurd q (by omega)
    · have lb := loS_bd (G := G) (g := h + 1) (f := p) (G 3).toNat
      have la := loS_bd (G := G) (g := h + 1) (f := a.toNat) (G 3).toNat
      refine V_iload (v := Int32.ofInt (a)) mi_263_29 (by simp [stL, lv_args, Value.category]) ?_
      refine V_ipush mi_263_30 ?_
      refine V_ceq mi_263_31 ⟨by omega, by omega⟩ ⟨by omega, by omega⟩ (fun q2 => ?_) (fun q2 => ?_)
      · refine V_iload (v := Int32.ofInt ((p : Int))) mi_263_49 (by simp [stL, lv_args, Value.category]) ?_
        refine V_istore mi_263_50 ?_
        refine V_iinc (v := Int32.ofInt ((p : Int))) mi_263_51 (by simp [stL, lv_args, Value.category]) ?_
        rw [ia2]
        refine V_goto mi_263_54 ?_
        refine V_sub (lv' := [(0, .ref (ad 90)), (1, .int (Int32.ofInt ((h : Int)))), (2, .int (Int32.ofInt ((p : Int)))), (3, .int (Int32.ofInt (((p + 1 : Nat) : Int))))]) (fun q hq => ?_) ?_
        · simp only [List.mem_cons, List.not_mem_nil, or_false] at hq
          rcases hq with rfl | rfl | rfl | rfl <;> simp [stL, lv_args, Value.category]
        rw [wiS_y (Or.inl q2)] at kk
        exact wim_19 hT hW hB hh m (p + 1) (p : Int) (by omega) ⟨by omega, by omega⟩ (Or.inr (by omega)) kk
      · obtain ⟨n, rfl⟩ := Int.eq_ofNat_of_zero_le (show 0 ≤ a by omega)
        rw [Int.toNat_natCast] at la
        refine V_aload (v := ad 90) mi_263_34 (by simp [stL, lv_args, Value.category]) ?_
        refine V_iload (v := Int32.ofInt ((p : Int))) mi_263_35 (by simp [stL, lv_args, Value.category]) ?_
        refine V_iload (v := Int32.ofInt ((h : Int))) mi_263_36 (by simp [stL, lv_args, Value.category]) ?_
        refine V_callM (As := [.int (Int32.ofInt ((p : Int))), .int (Int32.ofInt ((h : Int)))]) (st := []) mi_263_37 (by omega) (by decide +kernel) (by decide +kernel) hT.1 (lom_ct (f := p) (h := h) hT hW hB (by omega) hh) (by omega) (show 2 = mN 261 by decide +kernel) (by simp [Value.category]) ?_
        rintro r w1 ⟨e1, rfl⟩
        rw [e1]
        refine V_aload (v := ad 90) mi_263_40 (by simp [stL, lv_args, Value.category]) ?_
        refine V_iload (v := Int32.ofInt ((n : Int))) mi_263_41 (by simp [stL, lv_args, Value.category]) ?_
        refine V_iload (v := Int32.ofInt ((h : Int))) mi_263_42 (by simp [stL, lv_args, Value.category]) ?_
        refine V_callM (As := [.int (Int32.ofInt ((n : Int))), .int (Int32.ofInt ((h : Int)))]) (st := [.int (Int32.ofInt (loS G (h + 1) p (G 3).toNat))]) mi_263_43 (by omega) (by decide +kernel) (by decide +kernel) hT.1 (lom_ct (f := n) (h := h) hT hW hB (by omega) hh) (by omega) (show 2 = mN 261 by decide +kernel) (by simp [Value.category]) ?_
        rintro r w2 ⟨e2, rfl⟩
        rw [e2]
        refine V_cle mi_263_46 ⟨by omega, by omega⟩ ⟨by omega, by omega⟩ (fun q3 => ?_) (fun q3 => ?_)
        · refine V_iinc (v := Int32.ofInt ((p : Int))) mi_263_51 (by simp [stL, lv_args, Value.category]) ?_
          rw [ia2]
          refine V_goto mi_263_54 ?_
          refine V_sub (lv' := [(0, .ref (ad 90)), (1, .int (Int32.ofInt ((h : Int)))), (2, .int (Int32.ofInt ((n : Int)))), (3, .int (Int32.ofInt (((p + 1 : Nat) : Int))))]) (fun q hq => ?_) ?_
          · simp only [List.mem_cons, List.not_mem_nil, or_false] at hq
            rcases hq with rfl | rfl | rfl | rfl <;> simp [stL, lv_args, Value.category]
          rw [wiS_n (fun k => by rw [Int.toNat_natCast] at k; omega)] at kk
          exact wim_19 hT hW hB hh m (p + 1) (n : Int) (by omega) ha (by omega) kk
        · refine V_iload (v := Int32.ofInt ((p : Int))) mi_263_49 (by simp [stL, lv_args, Value.category]) ?_
          refine V_istore mi_263_50 ?_
          refine V_iinc (v := Int32.ofInt ((p : Int))) mi_263_51 (by simp [stL, lv_args, Value.category]) ?_
          rw [ia2]
          refine V_goto mi_263_54 ?_
          refine V_sub (lv' := [(0, .ref (ad 90)), (1, .int (Int32.ofInt ((h : Int)))), (2, .int (Int32.ofInt ((p : Int)))), (3, .int (Int32.ofInt (((p + 1 : Nat) : Int))))]) (fun q hq => ?_) ?_
          · simp only [List.mem_cons, List.not_mem_nil, or_false] at hq
            rcases hq with rfl | rfl | rfl | rfl <;> simp [stL, lv_args, Value.category]
          rw [wiS_y (Or.inr (by rw [Int.toNat_natCast]; exact q3))] at kk
          exact wim_19 hT hW hB hh m (p + 1) (p : Int) (by omega) ⟨by omega, by omega⟩ (Or.inr (by omega)) kk
theorem wiM_ct {G : Nat → Int} (hG : GOK ad tys GG ws) (hW : W91 G ws) (hB : HB G) (wf : WF G) (h24 : rd ws 90 24 = some (.int (Int32.ofInt 0))) (h22 : rd ws 90 22 = some (.int (Int32.ofInt (-1)))) {h : Int} (hI : I32 h) : CT l D tys A 263 9 0 0 [.ref (ad 90), .int (Int32.ofInt (h))] ws (fun r w => (GOK ad tys GG w ∧ MTO ws w) ∧ r = some (.int (if 0 ≤ h ∧ h < G 2 then Int32.ofInt (wiS G (h.toNat + 1) (G 3).toNat 0 (-1)) else Int32.ofInt (-2)))) := by
  refine CT_of_V (by omega) (show (2 : Nat) ≤ mML 263 by decide +kernel) ?_
  have b3 := hB.b3
  have b2 := hB.b2
  refine V_aload (v := ad 90) mi_263_0 (by simp [stL, lv_args, Value.category]) ?_
  refine V_iload (v := Int32.ofInt (h)) mi_263_1 (by simp [stL, lv_args, Value.category]) ?_
  refine V_callM (As := [.int (Int32.ofInt (h))]) (st := []) mi_263_2 (by omega) (by decide +kernel) (by decide +kernel) hG (mho_ct hG hW hB hI) (by omega) (show 1 = mN 201 by decide +kernel) (by simp [Value.category]) ?_
  rintro r w1 ⟨rfl, rfl⟩
  refine V_bne mi_263_5  (fun c1 => ?_) (fun c1 => ?_)
  · have k1 := of_decide_eq_true c1
    obtain ⟨k, rfl⟩ := Int.eq_ofNat_of_zero_le k1.1
    refine V_aload (v := ad 90) mi_263_11 (by simp [stL, lv_args, Value.category]) ?_
    refine V_callM (As := []) (st := []) mi_263_12 (by omega) (by decide +kernel) (by decide +kernel) hG (gt_ct hB wf hG hW h24 h22) (by omega) (show 0 = mN 238 by decide +kernel) (by simp [Value.category]) ?_
    rintro r w4 ⟨rfl, T⟩
    refine V_ipush mi_263_15 ?_
    refine V_istore mi_263_16 ?_
    refine V_ipush mi_263_17 ?_
    refine V_istore mi_263_18 ?_
    refine V_sub (lv' := [(0, .ref (ad 90)), (1, .int (Int32.ofInt (k : Int))), (2, .int (Int32.ofInt (-1))), (3, .int (Int32.ofInt ((0 : Nat) : Int)))]) (fun q hq => ?_) ?_
    · simp only [List.mem_cons, List.not_mem_nil, or_false] at hq
      rcases hq with rfl | rfl | rfl | rfl <;> simp [stL, lv_args, Value.category]
    exact wim_19 T (mt_w T hW) hB (h := k) (by omega) (G 3).toNat 0 (-1) (by omega) ⟨by omega, by omega⟩ (Or.inl rfl) ⟨⟨T.1, T.2.2.2⟩, by rw [if_pos k1, Int.toNat_natCast]⟩
  · refine V_ipush mi_263_8 ?_
    exact V_retI mi_263_10 (fun h => absurd h (by decide +kernel)) ⟨⟨hG, fun _ _ _ _ => rfl⟩, by rw [if_neg (of_decide_eq_false c1)]⟩
theorem pairT_wisest (hAD : ∀ i : Nat, ad (1000 + i) = D.2 1000 i) (hG : GOK ad tys GG ws) (hR : RELW ws) (a1 : Int32) : PAIRT l D tys A ad 21 263 [.ref (ad 0), .int a1] [.ref (ad 90), .int a1] ws := by
  obtain ⟨G0, o0, x0, y0⟩ := hR.1.2.1
  obtain ⟨G, o, x, y, hb, wf, hS⟩ := aux_sto hR.2 x0 y0 o0 (hb_of hG y0 o0)
  have c1 := wiX_ct (l := l) (D := D) (A := A) hG x hb hS (i32b a1)
  have c2 := wiM_ct (l := l) (D := D) (A := A) hG y hb wf hR.2.2.2.2.2 hR.2.2.2.2.1 (i32b a1)
  simp only [oi] at c1 c2
  exact pairT_st hG hR (by omega) (by omega) c1 c2
end XSY
