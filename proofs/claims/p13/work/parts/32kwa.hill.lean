section XSL
variable {l : Launch} {D : va_G} {tys : List (ClassId × FieldType)} {A : Nat → Prop} {ad : Nat → Nat} {ws : va_W}
theorem sayT_no {G : Nat → Int} {h S : Nat} (w : ∀ s, s < S → sWhn G s ≠ h) : ∀ (m s : Nat) (T : TT), s + m = S → sayT G h m s T = T
  | 0, s, T, _ => rfl
  | m + 1, s, T, hm => by
    unfold sayT
    rw [if_neg (w s (by omega))]
    exact sayT_no w m (s + 1) T (by omega)
theorem tell_end {G : Nat → Int} (hB : HB G) (wf : WF G) : tellT G ((G 2).toNat + 1) = tellT G (G 2).toNat := by
  show sayT G (G 2).toNat (G 4).toNat 0 (tellT G (G 2).toNat) = _
  exact sayT_no (S := (G 4).toNat) (fun s hs => by have := WF_n hB wf s hs; omega) _ _ _ (by omega)
/-- the reference has told -/
noncomputable def MTO (w0 w : va_W) : Prop := ∀ c j, ¬ (98 ≤ c ∧ c ≤ 101) → ¬ (c = 90 ∧ (j = 18 ∨ j = 21)) → rd w c j = rd w0 c j
noncomputable def MT (ad : Nat → Nat) (tys : List (ClassId × FieldType)) (G : Nat → Int) (w0 w : va_W) : Prop := GOK ad tys GG w ∧ KNM G ((G 2).toNat + 1) w ∧ (rd w 90 18 = some (.int (tellT G (G 2).toNat).sd) ∧ (∀ i, i < 12 → rd w 100 i = some (.int (Int32.ofInt ((tellT G (G 2).toNat).hb i)))) ∧ ∀ i, i < 12 → rd w 101 i = some (.int (Int32.ofInt ((tellT G (G 2).toNat).lb i)))) ∧ MTO w0 w
theorem gt_ct {G : Nat → Int} (hB : HB G) (wf : WF G) (hG : GOK ad tys GG ws) (hW : W91 G ws) (h24 : rd ws 90 24 = some (.int (Int32.ofInt 0))) (h22 : rd ws 90 22 = some (.int (Int32.ofInt (-1)))) : CT l D tys A 238 8 0 0 [.ref (ad 90)] ws (fun r w => r = none ∧ MT ad tys G ws w) :=
  CT_post (gat_ct hB hG hW h24 h22) (fun r w h => by
    obtain ⟨e, T, k, o⟩ := h
    rw [tell_end hB wf] at T
    exact ⟨e, T.g, k, ⟨T.s, T.h, T.lr⟩, fun c j h1 h2 => o c j (by omega) (by omega) (by omega)⟩)
theorem pairT_st {kx km d1 d2 : Nat} {xs ms : List Value} {v : Int32} (hG : GOK ad tys GG ws) (hR : RELW ws) (h1 : d1 < 11) (h2 : d2 < 11) (c1 : CT l D tys A kx d1 0 0 xs ws (fun r w => w = ws ∧ r = some (.int v))) (c2 : CT l D tys A km d2 0 0 ms ws (fun r w => (GOK ad tys GG w ∧ MTO ws w) ∧ r = some (.int v))) : PAIRT l D tys A ad kx km xs ms ws := by
  refine ⟨v, fun w => w = ws, ⟨d1, h1, CT_post c1 (fun r w h => ?_)⟩, fun w hw K => ⟨d2, h2, ?_⟩⟩
  · obtain ⟨rfl, e⟩ := h
    exact ⟨e, hG, rfl⟩
  · subst K
    refine CT_post c2 (fun r w2 h => ?_)
    obtain ⟨⟨g, o⟩, e⟩ := h
    exact ⟨e, g, relh_keep hR.1 (fun c hc j => o c j (by omega) (by omega)) (fun j hj => o 90 j (by omega) (fun q => by
      obtain ⟨-, q⟩ := q
      rcases q with rfl | rfl
      · exact absurd hj (by unfold spK; decide)
      · exact absurd hj (by unfold spK; decide))), aux_keep hR.2 (fun c j hc => o c j (by omega) (by omega))⟩
theorem sdX_ct {G : Nat → Int} (hG : GOK ad tys GG ws) (hX : HX 4 G ws) (hB : HB G) (hS : STO G ws) {s : Int} (sI : I32 s) : CT l D tys A 12 2 0 0 [.ref (ad 0), .int (Int32.ofInt (s))] ws (fun r w => w = ws ∧ r = some (.int (if 0 ≤ s ∧ s < G 4 then ibF 5 (ibF 9 (tellT G (G 2).toNat).sd (Int32.ofInt s)) (Int32.ofInt 1) else Int32.ofInt (-2)))) := by
  refine CT_of_V (by omega) (show (2 : Nat) ≤ mML 12 by decide +kernel) ?_
  have b4 := hB.b4
  refine V_aload (v := ad 0) mi_12_0 (by simp [stL, lv_args, Value.category]) ?_
  refine V_gR mi_12_1 g0r2 (by omega) hG ?_
  refine V_iload (v := Int32.ofInt (s)) mi_12_4 (by simp [stL, lv_args, Value.category]) ?_
  refine V_cO (As := [.int (Int32.ofInt (s))]) (st := []) mi_12_5 (by omega) (by decide +kernel) (by decide +kernel) (by omega) g4o hG (hsa_ct hG hX hB sI) (by omega) (show 1 = mN 104 by decide +kernel) (by simp [Value.category]) ?_
  rintro r w1 ⟨rfl, rfl⟩
  refine V_bne mi_12_8  (fun c1 => ?_) (fun c1 => ?_)
  · have k1 := of_decide_eq_true c1
    refine V_aload (v := ad 0) mi_12_14 (by simp [stL, lv_args, Value.category]) ?_
    refine V_gR mi_12_15 g0r5 (by omega) hG ?_
    refine V_gO mi_12_18 g32o hG (hS.2.2.2.1) ?_
    refine V_iload (v := Int32.ofInt (s)) mi_12_21 (by simp [stL, lv_args, Value.category]) ?_
    refine V_ibin mi_12_22 (by omega) ?_
    refine V_ipush mi_12_23 ?_
    refine V_ibin mi_12_24 (by omega) ?_
    exact V_retI mi_12_25 (fun h => absurd h (by decide +kernel)) ⟨rfl, by rw [if_pos k1]⟩
  · refine V_ipush mi_12_11 ?_
    exact V_retI mi_12_13 (fun h => absurd h (by decide +kernel)) ⟨rfl, by rw [if_neg (of_decide_eq_false c1)]⟩
theorem sdM_ct {G : Nat → Int} (hG : GOK ad tys GG ws) (hW : W91 G ws) (hB : HB G) (wf : WF G) (h24 : rd ws 90 24 = some (.int (Int32.ofInt 0))) (h22 : rd ws 90 22 = some (.int (Int32.ofInt (-1)))) {s : Int} (sI : I32 s) : CT l D tys A 250 9 0 0 [.ref (ad 90), .int (Int32.ofInt (s))] ws (fun r w => (GOK ad tys GG w ∧ MTO ws w) ∧ r = some (.int (if 0 ≤ s ∧ s < G 4 then ibF 5 (ibF 9 (tellT G (G 2).toNat).sd (Int32.ofInt s)) (Int32.ofInt 1) else Int32.ofInt (-2)))) := by
  refine CT_of_V (by omega) (show (2 : Nat) ≤ mML 250 by decide +kernel) ?_
  have b4 := hB.b4
  refine V_aload (v := ad 90) mi_250_0 (by simp [stL, lv_args, Value.category]) ?_
  refine V_iload (v := Int32.ofInt (s)) mi_250_1 (by simp [stL, lv_args, Value.category]) ?_
  refine V_callM (As := [.int (Int32.ofInt (s))]) (st := []) mi_250_2 (by omega) (by decide +kernel) (by decide +kernel) hG (msa_ct hG hW hB sI) (by omega) (show 1 = mN 202 by decide +kernel) (by simp [Value.category]) ?_
  rintro r w1 ⟨rfl, rfl⟩
  refine V_bne mi_250_5  (fun c1 => ?_) (fun c1 => ?_)
  · have k1 := of_decide_eq_true c1
    refine V_aload (v := ad 90) mi_250_11 (by simp [stL, lv_args, Value.category]) ?_
    refine V_callM (As := []) (st := []) mi_250_12 (by omega) (by decide +kernel) (by decide +kernel) hG (gt_ct hB wf hG hW h24 h22) (by omega) (show 0 = mN 238 by decide +kernel) (by simp [Value.category]) ?_
    rintro r w4 ⟨rfl, T⟩
    refine V_aload (v := ad 90) mi_250_15 (by simp [stL, lv_args, Value.category]) ?_
    refine V_getI mi_250_16 T.1 (T.2.2.1.1) ?_
    refine V_iload (v := Int32.ofInt (s)) mi_250_19 (by simp [stL, lv_args, Value.category]) ?_
    refine V_stat (As := [.int ((tellT G (G 2).toNat).sd), .int (Int32.ofInt (s))]) (st := []) mi_250_20 (by omega) (bit_ct _ _ _) (by omega) (show 2 = mN 195 by decide +kernel) (by simp [Value.category]) ⟨Nat.le_refl _, Nat.le_refl _⟩ ?_
    rintro r w5 ⟨rfl, rfl⟩
    exact V_retI mi_250_23 (fun h => absurd h (by decide +kernel)) ⟨⟨T.1, T.2.2.2⟩, by rw [if_pos k1]⟩
  · refine V_ipush mi_250_8 ?_
    exact V_retI mi_250_10 (fun h => absurd h (by decide +kernel)) ⟨⟨hG, fun _ _ _ _ => rfl⟩, by rw [if_neg (of_decide_eq_false c1)]⟩
theorem pairT_said (hAD : ∀ i : Nat, ad (1000 + i) = D.2 1000 i) (hG : GOK ad tys GG ws) (hR : RELW ws) (a1 : Int32) : PAIRT l D tys A ad 12 250 [.ref (ad 0), .int a1] [.ref (ad 90), .int a1] ws := by
  obtain ⟨G0, o0, x0, y0⟩ := hR.1.2.1
  obtain ⟨G, o, x, y, hb, wf, hS⟩ := aux_sto hR.2 x0 y0 o0 (hb_of hG y0 o0)
  have c1 := sdX_ct (l := l) (D := D) (A := A) hG x hb hS (i32b a1)
  have c2 := sdM_ct (l := l) (D := D) (A := A) hG y hb wf hR.2.2.2.2.2 hR.2.2.2.2.1 (i32b a1)
  simp only [oi] at c1 c2
  exact pairT_st hG hR (by omega) (by omega) c1 c2
end XSL
