section XSS
variable {l : Launch} {D : va_G} {tys : List (ClassId × FieldType)} {A : Nat → Prop} {ad : Nat → Nat} {ws : va_W}
theorem caI_bd {G : Nat → Int} {f o : Nat} {L : Int} : ∀ m t : Nat, caI G f o L m t = L ∨ caI G f o L m t = -1
  | 0, t => Or.inl rfl
  | m + 1, t => by
    unfold caI
    split
    · exact caI_bd m (t + 1)
    · exact Or.inr rfl
theorem laI_bd {G : Nat → Int} (hB : HB G) {f o h : Nat} : -5 ≤ laI G f o h ∧ laI G f o h < 24 := by
  have b2 := hB.b2
  unfold laI
  split
  · split
    · rcases caI_bd (G := G) (f := f) (o := o) (L := caL G f o h) (caL G f o h + 1 - h).toNat h with e | e
      · rw [e]
        omega
      · rw [e]
        omega
    · omega
  · omega
/-- the first hour from h on, the last hour below h, at which a call holds -/
def soI (G : Nat → Int) (f o : Nat) : Nat → Nat → Int
  | 0, _ => -1
  | m + 1, h => if laI G f o h < 0 then soI G f o m (h + 1) else (h : Int)
def ltI (G : Nat → Int) (f o : Nat) : Nat → Int
  | 0 => -1
  | h + 1 => if laI G f o h < 0 then ltI G f o h else (h : Int)
def clP (G : Nat → Int) (h f p : Nat) : Bool := !(Nat.beq p f) && decide (0 ≤ laI G p f h)
theorem clP_f {G : Nat → Int} {h f : Nat} : clP G h f f = false := by
  unfold clP
  rw [Nat.beq_refl]
  rfl
theorem clP_n {G : Nat → Int} {h f p : Nat} (n : p ≠ f) : clP G h f p = decide (0 ≤ laI G p f h) := by
  unfold clP
  rw [show Nat.beq p f = false from Bool.eq_false_iff.mpr (fun e => n (Nat.eq_of_beq_eq_true e))]
  rfl
theorem clX_ct {G : Nat → Int} (hG : GOK ad tys GG ws) (hX : HX 4 G ws) (hB : HB G) (hS : STO G ws) {f o h : Int} (fI : I32 f) (oI : I32 o) (hI : I32 h) : CT l D tys A 22 4 0 0 [.ref (ad 0), .int (Int32.ofInt (f)), .int (Int32.ofInt (o)), .int (Int32.ofInt (h))] ws (fun r w => w = ws ∧ r = some (.int (if ((0 ≤ f ∧ f < G 3) ∧ (0 ≤ o ∧ o < G 3) ∧ f ≠ o) ∧ 0 ≤ h ∧ h < G 2 then Int32.ofInt (laI G f.toNat o.toNat h.toNat) else Int32.ofInt (-2)))) := by
  refine CT_of_V (by omega) (show (4 : Nat) ≤ mML 22 by decide +kernel) ?_
  have b3 := hB.b3
  have b2 := hB.b2
  refine V_aload (v := ad 0) mi_22_0 (by simp [stL, lv_args, Value.category]) ?_
  refine V_iload (v := Int32.ofInt (f)) mi_22_1 (by simp [stL, lv_args, Value.category]) ?_
  refine V_iload (v := Int32.ofInt (o)) mi_22_2 (by simp [stL, lv_args, Value.category]) ?_
  refine V_cO (As := [.int (Int32.ofInt (f)), .int (Int32.ofInt (o))]) (st := []) mi_22_3 (by omega) (by decide +kernel) (by decide +kernel) (by omega) g0o hG (two_ct hG hX hB fI oI) (by omega) (show 2 = mN 74 by decide +kernel) (by simp [Value.category]) ?_
  rintro r w1 ⟨rfl, rfl⟩
  refine V_beq mi_22_6  (fun c1 => ?_) (fun c1 => ?_)
  · refine V_ipush mi_22_20 ?_
    exact V_retI mi_22_22 (fun h => absurd h (by decide +kernel)) ⟨rfl, by rw [if_neg (fun k => of_decide_eq_false c1 k.1)]⟩
  · refine V_aload (v := ad 0) mi_22_9 (by simp [stL, lv_args, Value.category]) ?_
    refine V_gR mi_22_10 g0r2 (by omega) hG ?_
    refine V_iload (v := Int32.ofInt (h)) mi_22_13 (by simp [stL, lv_args, Value.category]) ?_
    refine V_cO (As := [.int (Int32.ofInt (h))]) (st := []) mi_22_14 (by omega) (by decide +kernel) (by decide +kernel) (by omega) g4o hG (hho_ct hG hX hB hI) (by omega) (show 1 = mN 103 by decide +kernel) (by simp [Value.category]) ?_
    rintro r w2 ⟨rfl, rfl⟩
    refine V_bne mi_22_17  (fun c2 => ?_) (fun c2 => ?_)
    · have k1 := of_decide_eq_true c1
      have k2 := of_decide_eq_true c2
      obtain ⟨m, rfl⟩ := Int.eq_ofNat_of_zero_le k1.1.1
      obtain ⟨n, rfl⟩ := Int.eq_ofNat_of_zero_le k1.2.1.1
      obtain ⟨k, rfl⟩ := Int.eq_ofNat_of_zero_le k2.1
      refine V_aload (v := ad 0) mi_22_23 (by simp [stL, lv_args, Value.category]) ?_
      refine V_iload (v := Int32.ofInt ((m : Int))) mi_22_24 (by simp [stL, lv_args, Value.category]) ?_
      refine V_iload (v := Int32.ofInt ((n : Int))) mi_22_25 (by simp [stL, lv_args, Value.category]) ?_
      refine V_iload (v := Int32.ofInt ((k : Int))) mi_22_26 (by simp [stL, lv_args, Value.category]) ?_
      refine V_cO (As := [.int (Int32.ofInt ((m : Int))), .int (Int32.ofInt ((n : Int))), .int (Int32.ofInt ((k : Int)))]) (st := []) mi_22_27 (by omega) (by decide +kernel) (by decide +kernel) (by omega) g0o hG (laX_ct (f := m) (o := n) (h := k) hG hX hB hS (by omega) (by omega) (by omega)) (by omega) (show 3 = mN 26 by decide +kernel) (by simp [Value.category]) ?_
      rintro r w3 ⟨rfl, rfl⟩
      exact V_retI mi_22_30 (fun h => absurd h (by decide +kernel)) ⟨rfl, by rw [if_pos ⟨k1, k2⟩, Int.toNat_natCast, Int.toNat_natCast, Int.toNat_natCast]⟩
    · refine V_ipush mi_22_20 ?_
      exact V_retI mi_22_22 (fun h => absurd h (by decide +kernel)) ⟨rfl, by rw [if_neg (fun k => of_decide_eq_false c2 k.2)]⟩
theorem clM_ct {G : Nat → Int} (hG : GOK ad tys GG ws) (hW : W91 G ws) (hB : HB G) (wf : WF G) (h24 : rd ws 90 24 = some (.int (Int32.ofInt 0))) (h22 : rd ws 90 22 = some (.int (Int32.ofInt (-1)))) {f o h : Int} (fI : I32 f) (oI : I32 o) (hI : I32 h) : CT l D tys A 266 9 0 0 [.ref (ad 90), .int (Int32.ofInt (f)), .int (Int32.ofInt (o)), .int (Int32.ofInt (h))] ws (fun r w => (GOK ad tys GG w ∧ MTO ws w) ∧ r = some (.int (if ((0 ≤ f ∧ f < G 3) ∧ (0 ≤ o ∧ o < G 3) ∧ f ≠ o) ∧ 0 ≤ h ∧ h < G 2 then Int32.ofInt (laI G f.toNat o.toNat h.toNat) else Int32.ofInt (-2)))) := by
  refine CT_of_V (by omega) (show (4 : Nat) ≤ mML 266 by decide +kernel) ?_
  have b3 := hB.b3
  have b2 := hB.b2
  refine V_aload (v := ad 90) mi_266_0 (by simp [stL, lv_args, Value.category]) ?_
  refine V_iload (v := Int32.ofInt (f)) mi_266_1 (by simp [stL, lv_args, Value.category]) ?_
  refine V_iload (v := Int32.ofInt (o)) mi_266_2 (by simp [stL, lv_args, Value.category]) ?_
  refine V_callM (As := [.int (Int32.ofInt (f)), .int (Int32.ofInt (o))]) (st := []) mi_266_3 (by omega) (by decide +kernel) (by decide +kernel) hG (m2_ct hG hW hB fI oI) (by omega) (show 2 = mN 200 by decide +kernel) (by simp [Value.category]) ?_
  rintro r w1 ⟨rfl, rfl⟩
  refine V_beq mi_266_6  (fun c1 => ?_) (fun c1 => ?_)
  · refine V_ipush mi_266_17 ?_
    exact V_retI mi_266_19 (fun h => absurd h (by decide +kernel)) ⟨⟨hG, fun _ _ _ _ => rfl⟩, by rw [if_neg (fun k => of_decide_eq_false c1 k.1)]⟩
  · refine V_aload (v := ad 90) mi_266_9 (by simp [stL, lv_args, Value.category]) ?_
    refine V_iload (v := Int32.ofInt (h)) mi_266_10 (by simp [stL, lv_args, Value.category]) ?_
    refine V_callM (As := [.int (Int32.ofInt (h))]) (st := []) mi_266_11 (by omega) (by decide +kernel) (by decide +kernel) hG (mho_ct hG hW hB hI) (by omega) (show 1 = mN 201 by decide +kernel) (by simp [Value.category]) ?_
    rintro r w2 ⟨rfl, rfl⟩
    refine V_bne mi_266_14  (fun c2 => ?_) (fun c2 => ?_)
    · have k1 := of_decide_eq_true c1
      have k2 := of_decide_eq_true c2
      obtain ⟨m, rfl⟩ := Int.eq_ofNat_of_zero_le k1.1.1
      obtain ⟨n, rfl⟩ := Int.eq_ofNat_of_zero_le k1.2.1.1
      obtain ⟨k, rfl⟩ := Int.eq_ofNat_of_zero_le k2.1
      refine V_aload (v := ad 90) mi_266_20 (by simp [stL, lv_args, Value.category]) ?_
      refine V_callM (As := []) (st := []) mi_266_21 (by omega) (by decide +kernel) (by decide +kernel) hG (gt_ct hB wf hG hW h24 h22) (by omega) (show 0 = mN 238 by decide +kernel) (by simp [Value.category]) ?_
      rintro r w4 ⟨rfl, T⟩
      refine V_aload (v := ad 90) mi_266_24 (by simp [stL, lv_args, Value.category]) ?_
      refine V_iload (v := Int32.ofInt ((m : Int))) mi_266_25 (by simp [stL, lv_args, Value.category]) ?_
      refine V_iload (v := Int32.ofInt ((n : Int))) mi_266_26 (by simp [stL, lv_args, Value.category]) ?_
      refine V_iload (v := Int32.ofInt ((k : Int))) mi_266_27 (by simp [stL, lv_args, Value.category]) ?_
      refine V_callM (As := [.int (Int32.ofInt ((m : Int))), .int (Int32.ofInt ((n : Int))), .int (Int32.ofInt ((k : Int)))]) (st := []) mi_266_28 (by omega) (by decide +kernel) (by decide +kernel) T.1 (laM_ct (f := m) (o := n) (h := k) T (mt_w T hW) hB (by omega) (by omega) (by omega)) (by omega) (show 3 = mN 265 by decide +kernel) (by simp [Value.category]) ?_
      rintro r w3 ⟨rfl, rfl⟩
      exact V_retI mi_266_31 (fun h => absurd h (by decide +kernel)) ⟨⟨T.1, T.2.2.2⟩, by rw [if_pos ⟨k1, k2⟩, Int.toNat_natCast, Int.toNat_natCast, Int.toNat_natCast]⟩
    · refine V_ipush mi_266_17 ?_
      exact V_retI mi_266_19 (fun h => absurd h (by decide +kernel)) ⟨⟨hG, fun _ _ _ _ => rfl⟩, by rw [if_neg (fun k => of_decide_eq_false c2 k.2)]⟩
theorem pairT_call (hAD : ∀ i : Nat, ad (1000 + i) = D.2 1000 i) (hG : GOK ad tys GG ws) (hR : RELW ws) (a1 a2 a3 : Int32) : PAIRT l D tys A ad 22 266 [.ref (ad 0), .int a1, .int a2, .int a3] [.ref (ad 90), .int a1, .int a2, .int a3] ws := by
  obtain ⟨G0, o0, x0, y0⟩ := hR.1.2.1
  obtain ⟨G, o, x, y, hb, wf, hS⟩ := aux_sto hR.2 x0 y0 o0 (hb_of hG y0 o0)
  have c1 := clX_ct (l := l) (D := D) (A := A) hG x hb hS (i32b a1) (i32b a2) (i32b a3)
  have c2 := clM_ct (l := l) (D := D) (A := A) hG y hb wf hR.2.2.2.2.2 hR.2.2.2.2.1 (i32b a1) (i32b a2) (i32b a3)
  simp only [oi] at c1 c2
  exact pairT_st hG hR (by omega) (by omega) c1 c2
theorem so_14 {G : Nat → Int} (hG : GOK ad tys GG ws) (hX : HX 4 G ws) (hB : HB G) (hS : STO G ws) {f o : Nat} {post : Option Value → va_W → Prop} (hf : (f : Int) < G 3) (ho : (o : Int) < G 3) : ∀ (m h : Nat), ((h + m : Nat) : Int) = G 2 → post (some (.int (Int32.ofInt (soI G f o m h)))) ws → V l D tys A 23 4 0 0 post 0 0 14 [(0, .ref (ad 0)), (1, .int (Int32.ofInt ((f : Int)))), (2, .int (Int32.ofInt ((o : Int)))), (3, .int (Int32.ofInt ((h : Int))))] [] ws
  | 0, h, hm, kk => by
    have b2 := hB.b2
    refine V_iload (v := Int32.ofInt ((h : Int))) mi_23_14 (by simp [stL, lv_args, Value.category]) ?_
    refine V_aload (v := ad 0) mi_23_15 (by simp [stL, lv_args, Value.category]) ?_
    refine V_gR mi_23_16 g0r2 (by omega) hG ?_
    refine V_gO mi_23_19 g4o hG (show rd _ 4 3 = some (.int (Int32.ofInt (G 2))) from hx0 hX (i := 3) (by omega)) ?_
    refine V_cge mi_23_22 ⟨by omega, by omega⟩ ⟨by omega, by omega⟩ (fun q => ?_) (fun q => ?_)
    · refine V_ipush mi_23_43 ?_
      exact V_retI mi_23_44 (fun h => absurd h (by decide +kernel)) kk
    · exact absurd q (by omega)
  | m + 1, h, hm, kk => by
    have b2 := hB.b2
    refine V_iload (v := Int32.ofInt ((h : Int))) mi_23_14 (by simp [stL, lv_args, Value.category]) ?_
    refine V_aload (v := ad 0) mi_23_15 (by simp [stL, lv_args, Value.category]) ?_
    refine V_gR mi_23_16 g0r2 (by omega) hG ?_
    refine V_gO mi_23_19 g4o hG (show rd _ 4 3 = some (.int (Int32.ofInt (G 2))) from hx0 hX (i := 3) (by omega)) ?_
    refine V_cge mi_23_22 ⟨by omega, by omega⟩ ⟨by omega, by omega⟩ (fun q => ?_) (fun q => ?_)
    · exact absurd q (by omega)
    · have lb := laI_bd hB (f := f) (o := o) (h := h)
      refine V_aload (v := ad 0) mi_23_25 (by simp [stL, lv_args, Value.category]) ?_
      refine V_iload (v := Int32.ofInt ((f : Int))) mi_23_26 (by simp [stL, lv_args, Value.category]) ?_
      refine V_iload (v := Int32.ofInt ((o : Int))) mi_23_27 (by simp [stL, lv_args, Value.category]) ?_
      refine V_iload (v := Int32.ofInt ((h : Int))) mi_23_28 (by simp [stL, lv_args, Value.category]) ?_
      refine V_cO (As := [.int (Int32.ofInt ((f : Int))), .int (Int32.ofInt ((o : Int))), .int (Int32.ofInt ((h : Int)))]) (st := []) mi_23_29 (by omega) (by decide +kernel) (by decide +kernel) (by omega) g0o hG (laX_ct (f := f) (o := o) (h := h) hG hX hB hS hf ho (by omega)) (by omega) (show 3 = mN 26 by decide +kernel) (by simp [Value.category]) ?_
      rintro r w1 ⟨e1, rfl⟩
      rw [e1]
      refine V_zlt mi_23_32 ⟨by omega, by omega⟩ (fun q2 => ?_) (fun q2 => ?_)
      · refine V_iinc (v := Int32.ofInt ((h : Int))) mi_23_37 (by simp [stL, lv_args, Value.category]) ?_
        rw [ia2]
        refine V_goto mi_23_40 ?_
        refine V_sub (lv' := [(0, .ref (ad 0)), (1, .int (Int32.ofInt ((f : Int)))), (2, .int (Int32.ofInt ((o : Int)))), (3, .int (Int32.ofInt (((h + 1 : Nat) : Int))))]) (fun q hq => ?_) ?_
        · simp only [List.mem_cons, List.not_mem_nil, or_false] at hq
          rcases hq with rfl | rfl | rfl | rfl <;> simp [stL, lv_args, Value.category]
        rw [show soI G f o (m + 1) h = soI G f o m (h + 1) from if_pos q2] at kk
        exact so_14 hG hX hB hS hf ho m (h + 1) (by omega) kk
      · refine V_iload (v := Int32.ofInt ((h : Int))) mi_23_35 (by simp [stL, lv_args, Value.category]) ?_
        rw [show soI G f o (m + 1) h = (h : Int) from if_neg (by omega)] at kk
        exact V_retI mi_23_36 (fun h => absurd h (by decide +kernel)) kk
theorem soX_ct {G : Nat → Int} (hG : GOK ad tys GG ws) (hX : HX 4 G ws) (hB : HB G) (hS : STO G ws) {f o : Int} (fI : I32 f) (oI : I32 o) : CT l D tys A 23 4 0 0 [.ref (ad 0), .int (Int32.ofInt (f)), .int (Int32.ofInt (o))] ws (fun r w => w = ws ∧ r = some (.int (if (0 ≤ f ∧ f < G 3) ∧ (0 ≤ o ∧ o < G 3) ∧ f ≠ o then Int32.ofInt (soI G f.toNat o.toNat (G 2).toNat 0) else Int32.ofInt (-2)))) := by
  refine CT_of_V (by omega) (show (3 : Nat) ≤ mML 23 by decide +kernel) ?_
  have b3 := hB.b3
  have b2 := hB.b2
  refine V_aload (v := ad 0) mi_23_0 (by simp [stL, lv_args, Value.category]) ?_
  refine V_iload (v := Int32.ofInt (f)) mi_23_1 (by simp [stL, lv_args, Value.category]) ?_
  refine V_iload (v := Int32.ofInt (o)) mi_23_2 (by simp [stL, lv_args, Value.category]) ?_
  refine V_cO (As := [.int (Int32.ofInt (f)), .int (Int32.ofInt (o))]) (st := []) mi_23_3 (by omega) (by decide +kernel) (by decide +kernel) (by omega) g0o hG (two_ct hG hX hB fI oI) (by omega) (show 2 = mN 74 by decide +kernel) (by simp [Value.category]) ?_
  rintro r w1 ⟨rfl, rfl⟩
  refine V_bne mi_23_6  (fun c1 => ?_) (fun c1 => ?_)
  · have k1 := of_decide_eq_true c1
    obtain ⟨m, rfl⟩ := Int.eq_ofNat_of_zero_le k1.1.1
    obtain ⟨n, rfl⟩ := Int.eq_ofNat_of_zero_le k1.2.1.1
    refine V_ipush mi_23_12 ?_
    refine V_istore mi_23_13 ?_
    refine V_sub (lv' := [(0, .ref (ad 0)), (1, .int (Int32.ofInt (m : Int))), (2, .int (Int32.ofInt (n : Int))), (3, .int (Int32.ofInt ((0 : Nat) : Int)))]) (fun q hq => ?_) ?_
    · simp only [List.mem_cons, List.not_mem_nil, or_false] at hq
      rcases hq with rfl | rfl | rfl | rfl <;> simp [stL, lv_args, Value.category]
    exact so_14 hG hX hB hS (by omega) (by omega) (G 2).toNat 0 (by omega) ⟨rfl, by rw [if_pos k1, Int.toNat_natCast, Int.toNat_natCast]⟩
  · refine V_ipush mi_23_9 ?_
    exact V_retI mi_23_11 (fun h => absurd h (by decide +kernel)) ⟨rfl, by rw [if_neg (of_decide_eq_false c1)]⟩
theorem som_18 {G : Nat → Int} {w0 : va_W} (hT : MT ad tys G w0 ws) (hW : W91 G ws) (hB : HB G) {f o : Nat} {post : Option Value → va_W → Prop} (hf : f < 6) (ho : o < 6) : ∀ (m h : Nat), ((h + m : Nat) : Int) = G 2 → post (some (.int (Int32.ofInt (soI G f o m h)))) ws → V l D tys A 267 9 0 0 post 0 0 18 [(0, .ref (ad 90)), (1, .int (Int32.ofInt ((f : Int)))), (2, .int (Int32.ofInt ((o : Int)))), (3, .int (Int32.ofInt ((h : Int))))] [] ws
  | 0, h, hm, kk => by
    obtain ⟨s91, e91, -⟩ := g91s
    have b2 := hB.b2
    refine V_iload (v := Int32.ofInt ((h : Int))) mi_267_18 (by simp [stL, lv_args, Value.category]) ?_
    refine V_aload (v := ad 90) mi_267_19 (by simp [stL, lv_args, Value.category]) ?_
    refine V_getI mi_267_20 hT.1 (rref gr1m (by omega) hT.1) ?_
    refine V_ipush mi_267_23 ?_
    refine V_aldX (j := 2) mi_267_24 rfl hT.1 e91 (by omega) (by omega) (hW _ (by omega)) ?_
    refine V_cge mi_267_25 ⟨by omega, by omega⟩ ⟨by omega, by omega⟩ (fun q => ?_) (fun q => ?_)
    · refine V_ipush mi_267_46 ?_
      exact V_retI mi_267_47 (fun h => absurd h (by decide +kernel)) kk
    · exact absurd q (by omega)
  | m + 1, h, hm, kk => by
    obtain ⟨s91, e91, -⟩ := g91s
    have b2 := hB.b2
    refine V_iload (v := Int32.ofInt ((h : Int))) mi_267_18 (by simp [stL, lv_args, Value.category]) ?_
    refine V_aload (v := ad 90) mi_267_19 (by simp [stL, lv_args, Value.category]) ?_
    refine V_getI mi_267_20 hT.1 (rref gr1m (by omega) hT.1) ?_
    refine V_ipush mi_267_23 ?_
    refine V_aldX (j := 2) mi_267_24 rfl hT.1 e91 (by omega) (by omega) (hW _ (by omega)) ?_
    refine V_cge mi_267_25 ⟨by omega, by omega⟩ ⟨by omega, by omega⟩ (fun q => ?_) (fun q => ?_)
    · exact absurd q (by omega)
    · have lb := laI_bd hB (f := f) (o := o) (h := h)
      refine V_aload (v := ad 90) mi_267_28 (by simp [stL, lv_args, Value.category]) ?_
      refine V_iload (v := Int32.ofInt ((f : Int))) mi_267_29 (by simp [stL, lv_args, Value.category]) ?_
      refine V_iload (v := Int32.ofInt ((o : Int))) mi_267_30 (by simp [stL, lv_args, Value.category]) ?_
      refine V_iload (v := Int32.ofInt ((h : Int))) mi_267_31 (by simp [stL, lv_args, Value.category]) ?_
      refine V_callM (As := [.int (Int32.ofInt ((f : Int))), .int (Int32.ofInt ((o : Int))), .int (Int32.ofInt ((h : Int)))]) (st := []) mi_267_32 (by omega) (by decide +kernel) (by decide +kernel) hT.1 (laM_ct (f := f) (o := o) (h := h) hT hW hB hf ho (by omega)) (by omega) (show 3 = mN 265 by decide +kernel) (by simp [Value.category]) ?_
      rintro r w1 ⟨e1, rfl⟩
      rw [e1]
      refine V_zlt mi_267_35 ⟨by omega, by omega⟩ (fun q2 => ?_) (fun q2 => ?_)
      · refine V_iinc (v := Int32.ofInt ((h : Int))) mi_267_40 (by simp [stL, lv_args, Value.category]) ?_
        rw [ia2]
        refine V_goto mi_267_43 ?_
        refine V_sub (lv' := [(0, .ref (ad 90)), (1, .int (Int32.ofInt ((f : Int)))), (2, .int (Int32.ofInt ((o : Int)))), (3, .int (Int32.ofInt (((h + 1 : Nat) : Int))))]) (fun q hq => ?_) ?_
        · simp only [List.mem_cons, List.not_mem_nil, or_false] at hq
          rcases hq with rfl | rfl | rfl | rfl <;> simp [stL, lv_args, Value.category]
        rw [show soI G f o (m + 1) h = soI G f o m (h + 1) from if_pos q2] at kk
        exact som_18 hT hW hB hf ho m (h + 1) (by omega) kk
      · refine V_iload (v := Int32.ofInt ((h : Int))) mi_267_38 (by simp [stL, lv_args, Value.category]) ?_
        rw [show soI G f o (m + 1) h = (h : Int) from if_neg (by omega)] at kk
        exact V_retI mi_267_39 (fun h => absurd h (by decide +kernel)) kk
theorem soM_ct {G : Nat → Int} (hG : GOK ad tys GG ws) (hW : W91 G ws) (hB : HB G) (wf : WF G) (h24 : rd ws 90 24 = some (.int (Int32.ofInt 0))) (h22 : rd ws 90 22 = some (.int (Int32.ofInt (-1)))) {f o : Int} (fI : I32 f) (oI : I32 o) : CT l D tys A 267 9 0 0 [.ref (ad 90), .int (Int32.ofInt (f)), .int (Int32.ofInt (o))] ws (fun r w => (GOK ad tys GG w ∧ MTO ws w) ∧ r = some (.int (if (0 ≤ f ∧ f < G 3) ∧ (0 ≤ o ∧ o < G 3) ∧ f ≠ o then Int32.ofInt (soI G f.toNat o.toNat (G 2).toNat 0) else Int32.ofInt (-2)))) := by
  refine CT_of_V (by omega) (show (3 : Nat) ≤ mML 267 by decide +kernel) ?_
  have b3 := hB.b3
  have b2 := hB.b2
  refine V_aload (v := ad 90) mi_267_0 (by simp [stL, lv_args, Value.category]) ?_
  refine V_iload (v := Int32.ofInt (f)) mi_267_1 (by simp [stL, lv_args, Value.category]) ?_
  refine V_iload (v := Int32.ofInt (o)) mi_267_2 (by simp [stL, lv_args, Value.category]) ?_
  refine V_callM (As := [.int (Int32.ofInt (f)), .int (Int32.ofInt (o))]) (st := []) mi_267_3 (by omega) (by decide +kernel) (by decide +kernel) hG (m2_ct hG hW hB fI oI) (by omega) (show 2 = mN 200 by decide +kernel) (by simp [Value.category]) ?_
  rintro r w1 ⟨rfl, rfl⟩
  refine V_bne mi_267_6  (fun c1 => ?_) (fun c1 => ?_)
  · have k1 := of_decide_eq_true c1
    obtain ⟨m, rfl⟩ := Int.eq_ofNat_of_zero_le k1.1.1
    obtain ⟨n, rfl⟩ := Int.eq_ofNat_of_zero_le k1.2.1.1
    refine V_aload (v := ad 90) mi_267_12 (by simp [stL, lv_args, Value.category]) ?_
    refine V_callM (As := []) (st := []) mi_267_13 (by omega) (by decide +kernel) (by decide +kernel) hG (gt_ct hB wf hG hW h24 h22) (by omega) (show 0 = mN 238 by decide +kernel) (by simp [Value.category]) ?_
    rintro r w4 ⟨rfl, T⟩
    refine V_ipush mi_267_16 ?_
    refine V_istore mi_267_17 ?_
    refine V_sub (lv' := [(0, .ref (ad 90)), (1, .int (Int32.ofInt (m : Int))), (2, .int (Int32.ofInt (n : Int))), (3, .int (Int32.ofInt ((0 : Nat) : Int)))]) (fun q hq => ?_) ?_
    · simp only [List.mem_cons, List.not_mem_nil, or_false] at hq
      rcases hq with rfl | rfl | rfl | rfl <;> simp [stL, lv_args, Value.category]
    exact som_18 T (mt_w T hW) hB (by omega) (by omega) (G 2).toNat 0 (by omega) ⟨⟨T.1, T.2.2.2⟩, by rw [if_pos k1, Int.toNat_natCast, Int.toNat_natCast]⟩
  · refine V_ipush mi_267_9 ?_
    exact V_retI mi_267_11 (fun h => absurd h (by decide +kernel)) ⟨⟨hG, fun _ _ _ _ => rfl⟩, by rw [if_neg (of_decide_eq_false c1)]⟩
theorem pairT_soonest (hAD : ∀ i : Nat, ad (1000 + i) = D.2 1000 i) (hG : GOK ad tys GG ws) (hR : RELW ws) (a1 a2 : Int32) : PAIRT l D tys A ad 23 267 [.ref (ad 0), .int a1, .int a2] [.ref (ad 90), .int a1, .int a2] ws := by
  obtain ⟨G0, o0, x0, y0⟩ := hR.1.2.1
  obtain ⟨G, o, x, y, hb, wf, hS⟩ := aux_sto hR.2 x0 y0 o0 (hb_of hG y0 o0)
  have c1 := soX_ct (l := l) (D := D) (A := A) hG x hb hS (i32b a1) (i32b a2)
  have c2 := soM_ct (l := l) (D := D) (A := A) hG y hb wf hR.2.2.2.2.2 hR.2.2.2.2.1 (i32b a1) (i32b a2)
  simp only [oi] at c1 c2
  exact pairT_st hG hR (by omega) (by omega) c1 c2
end XSS
