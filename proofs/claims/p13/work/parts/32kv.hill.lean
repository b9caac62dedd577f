section XSK
variable {l : Launch} {D : va_G} {tys : List (ClassId × FieldType)} {A : Nat → Prop} {ad : Nat → Nat} {ws : va_W}
noncomputable def HXPS (ad : Nat → Nat) (tys : List (ClassId × FieldType)) (x : TS × (Nat → Int) × (Nat → Int)) (w0 : va_W) (r : Option Value) (w : va_W) : Prop := HXP ad tys x w0 r w ∧ (STX w0 → STX w)
theorem hixxS_ct {n : Nat} {B : Nat → Int} {v0 : Int} (hAD : ∀ i : Nat, ad (1000 + i) = D.2 1000 i) (hG : GOK ad tys GG ws) (T : TXX ws n B) (v0I : I32 v0) : CT l D tys A 3 10 0 0 [.ref (ad 0)] ws (HXPS ad tys (hillX B n v0) ws) := by
  refine CT_of_V (by omega) (show (1 : Nat) ≤ mML 3 by decide +kernel) ?_
  refine V_aload (v := ad 0) mi_3_0 (by simp [stL, lv_args, Value.category]) ?_
  refine V_gR mi_3_1 g0r0 (by omega) hG ?_
  refine V_aload (v := ad 0) mi_3_4 (by simp [stL, lv_args, Value.category]) ?_
  refine V_gR mi_3_5 g0r3 (by omega) hG ?_
  refine V_cO (As := [.ref (ad 16)]) (st := []) mi_3_8 (by omega) (by decide +kernel) (by decide +kernel) (by omega) g1o hG (read_ct hG T v0I) (by omega) (show 1 = mN 133 by decide +kernel) (by simp [Value.category]) ?_
  rintro r w1 ⟨rfl, hA, hR⟩
  obtain ⟨-, -, -, F0, -⟩ := id hA
  have F3 := F0.2.2
  refine V_aload (v := ad 0) mi_3_11 (by simp [stL, lv_args, Value.category]) ?_
  refine V_gR mi_3_12 g0r1 (by omega) hA.1 ?_
  refine V_ipush mi_3_15 ?_
  refine V_pO mi_3_16 g2f1 (by omega) (by decide +kernel) (by decide +kernel) hA.1 (by rw [Int32.toInt_ofInt_of_le (by omega) (by omega)]; omega) (by rw [Int32.toInt_ofInt_of_le (by omega) (by omega)]; omega) (fun w2 G2 U2 => ?_)
  refine V_aload (v := ad 0) mi_3_19 (by simp [stL, lv_args, Value.category]) ?_
  refine V_gR mi_3_20 g0r0 (by omega) G2 ?_
  refine V_gO mi_3_23 g1o G2 ((upd_ne U2 (by omega)).trans F0.1) ?_
  refine V_zeq mi_3_26 ⟨by omega, by omega⟩ (fun q => ?_) (fun q => ?_)
  · obtain ⟨hX, -, -⟩ := hR.1 q
    refine V_aload (v := ad 0) mi_3_32 (by simp [stL, lv_args, Value.category]) ?_
    refine V_gR mi_3_33 g0r2 (by omega) G2 ?_
    refine V_aload (v := ad 0) mi_3_36 (by simp [stL, lv_args, Value.category]) ?_
    refine V_gR mi_3_37 g0r3 (by omega) G2 ?_
    refine V_cO (As := [.ref (ad 16)]) (st := []) mi_3_40 (by omega) (by decide +kernel) (by decide +kernel) (by omega) g4o G2 (cpf_ct G2 (HX_keep hX (fun c i h1 h2 => upd_ne U2 (by omega)))) (by omega) (show 1 = mN 100 by decide +kernel) (by simp [Value.category]) ?_
    rintro r w3 ⟨rfl, G3, hX3, o3⟩
    refine V_aload (v := ad 0) mi_3_43 (by simp [stL, lv_args, Value.category]) ?_
    obtain ⟨d5, k1, k2⟩ := set3_ct (l := l) (A := A) hAD G3
    refine V_cO (As := []) (st := []) mi_3_44 (by omega) (by decide +kernel) (by decide +kernel) (by omega) g0o G3 (k2) (by omega) (show 0 = mN 73 by decide +kernel) (by simp [Value.category]) ?_
    rintro r w4 ⟨r0, G4, S4, o4⟩
    subst r0
    have hX4 := HX_keep hX3 (fun c i h1 h2 => o4 c i (by omega))
    refine V_aload (v := ad 0) mi_3_47 (by simp [stL, lv_args, Value.category]) ?_
    refine V_gR mi_3_48 g0r2 (by omega) G4 ?_
    refine V_gO mi_3_51 g4o G4 (hx0 hX4 (i := 0) (by omega)) ?_
    refine V_retI mi_3_54 (fun q => absurd q (by decide +kernel)) ⟨⟨G4, fun c j hn => ?_, ?_, ?_, ?_, fun _ => ⟨rfl, hX4⟩, fun h => absurd q h⟩, fun _ => S4⟩
    · rw [o4 _ _ (by omega), o3 _ _ (by omega), upd_ne U2 (by omega)]
      exact hR.2 c j (by omega)
    · rw [o4 _ _ (by omega), o3 _ _ (by omega)]
      exact upd_eq U2
    · rw [o4 _ _ (by omega), o3 _ _ (by omega), upd_ne U2 (by omega)]
      exact F0.1
    · rw [o4 _ _ (by omega), o3 _ _ (by omega), upd_ne U2 (by omega)]
      exact F0.2.1
  · refine V_ipush mi_3_29 ?_
    refine V_retI mi_3_31 (fun q => absurd q (by decide +kernel)) ⟨⟨G2, fun c j hn => ?_, upd_eq U2, ?_, ?_, fun h => absurd h q, fun _ => ⟨rfl, fun c j hc => ?_⟩⟩, fun hS => STX_keep hS (fun c j hc => ?_)⟩
    · rw [upd_ne U2 (by omega)]
      exact hR.2 c j (by omega)
    · rw [upd_ne U2 (by omega)]
      exact F0.1
    · rw [upd_ne U2 (by omega)]
      exact F0.2.1
    · rw [upd_ne U2 (by omega)]
      exact hR.2 c j (by omega)
    · rw [upd_ne U2 (by omega)]
      exact hR.2 c j (by omega)
/-- an image, as a function of the world -/
noncomputable def imO (q : Nat) (w : va_W) (j : Nat) : Int := match rd w (54 + 12 * q + hxC j) (hxI j) with
  | some (.int z) => z.toInt
  | _ => 0
theorem imO_keep {q : Nat} {w w' : va_W} (o : ∀ c j, 54 + 12 * q ≤ c → c < 66 + 12 * q → rd w' c j = rd w c j) : imO q w' = imO q w := by
  funext j
  have := hxC_le j
  unfold imO
  rw [o _ _ (by omega) (by omega)]
theorem imO_eq {G : Nat → Int} {q : Nat} {w : va_W} (hX : HX (54 + 12 * q) G w) {j : Nat} (hj : j < 294) (h : I32 (G j)) : imO q w j = G j := by
  unfold imO
  rw [hX j hj]
  exact Int32.toInt_ofInt_of_le h.1 (by have := h.2; omega)
theorem WF_eq {G g : Nat → Int} (h : ∀ j, j < 294 → g j = G j) (h4 : G 4 ≤ 12) (w : WF G) : WF g := fun s hs => by
  rw [h 4 (by omega)] at hs
  rw [h (246 + 4 * s) (by omega), h (246 + 4 * s + 3) (by omega), h 3 (by omega), h 2 (by omega)]
  exact w s hs
theorem WF_up {G : Nat → Int} {j : Nat} {z : Int} (h : WF G) (h4 : G 4 ≤ 12) (hj : 6 ≤ j ∧ j < 246) : WF (updI G j z) := fun s hs => by
  rw [updI_ne (by omega)] at hs
  rw [updI_ne (by omega), updI_ne (by omega), updI_ne (by omega), updI_ne (by omega)]
  exact h s hs
theorem WF_uns {G : Nat → Int} (h : WF G) : WF (updI G 4 (G 4 - 1)) := fun s hs => by
  have e : updI G 4 (G 4 - 1) 4 = G 4 - 1 := if_pos rfl
  rw [e] at hs
  rw [updI_ne (by omega), updI_ne (by omega), updI_ne (by omega), updI_ne (by omega)]
  exact h s (by omega)
theorem WF_say {G : Nat → Int} {f o i h : Int} (w : WF G) (h0 : 0 ≤ G 4) (h4 : G 4 < 12) (ok : okSy G f o i h) : WF (sayG G f o i h) := fun s hs => by
  have e4 : sayG G f o i h 4 = G 4 + 1 := by unfold sayG; exact if_pos rfl
  have eo : ∀ j, j ≠ 4 → ¬ (246 + 4 * (G 4).toNat ≤ j ∧ j ≤ 246 + 4 * (G 4).toNat + 3) → sayG G f o i h j = G j := fun j h1 h2 => by
    unfold sayG
    rw [updI_ne h1, updI_ne (by omega), updI_ne (by omega), updI_ne (by omega), updI_ne (by omega)]
  rw [e4] at hs
  rw [eo 3 (by omega) (by omega), eo 2 (by omega) (by omega)]
  by_cases e : s = (G 4).toNat
  · have e0 : sayG G f o i h (246 + 4 * s) = f := by
      unfold sayG
      rw [e, updI_ne (by omega), updI_ne (by omega), updI_ne (by omega), updI_ne (by omega)]
      exact if_pos rfl
    have e3 : sayG G f o i h (246 + 4 * s + 3) = h := by
      unfold sayG
      rw [e, updI_ne (by omega)]
      exact if_pos rfl
    rw [e0, e3]
    exact ⟨ok.1.2, ok.2.2.2⟩
  · rw [eo _ (by omega) (by omega), eo _ (by omega) (by omega)]
    exact w s (by omega)
noncomputable def AUX (w : va_W) : Prop := STX w ∧ WF (hlO w) ∧ (∀ q, q < 3 → rd w 93 q = some (.int (bI true)) → WF (imO q w)) ∧ rd w 90 22 = some (.int (Int32.ofInt (-1))) ∧ rd w 90 24 = some (.int (Int32.ofInt 0))
noncomputable def RELW (w : va_W) : Prop := RELH w ∧ AUX w
theorem img3 {w0 w : va_W} (h : ∀ q, q < 3 → rd w0 93 q = some (.int (bI true)) → WF (imO q w0)) (o : ∀ c j, (54 ≤ c ∧ c ≤ 89) ∨ c = 93 → rd w c j = rd w0 c j) : ∀ q, q < 3 → rd w 93 q = some (.int (bI true)) → WF (imO q w) := fun q q3 e => by
  rw [imO_keep (w := w0) (fun c j h1 h2 => o c j (by omega))]
  exact h q q3 ((o _ _ (Or.inr rfl)).symm.trans e)
theorem aux_keep {w0 w : va_W} (h : AUX w0) (o : ∀ c j, (4 ≤ c ∧ c ≤ 15) ∨ (29 ≤ c ∧ c ≤ 35 ∧ c ≠ 31) ∨ (54 ≤ c ∧ c ≤ 89) ∨ c = 93 ∨ (c = 90 ∧ (j = 22 ∨ j = 24)) → rd w c j = rd w0 c j) : AUX w :=
  ⟨STX_keep h.1 (fun c j hc => o c j (by omega)), by rw [hlO_keep (w := w0) (fun c j h1 h2 => o c j (by omega))]; exact h.2.1, img3 h.2.2.1 (fun c j hc => o c j (by omega)), (o _ _ (by omega)).trans h.2.2.2.1, (o _ _ (by omega)).trans h.2.2.2.2⟩
theorem aux_wf {G : Nat → Int} {w : va_W} (h : AUX w) (hX : HX 4 G w) (hO : hOK G) (hB : HB G) : WF G :=
  WF_eq (G := hlO w) (fun j hj => (hlO_eq hX hj (hO j hj)).symm) (by rw [hlO_eq hX (by omega) (hO 4 (by omega))]; exact hB.b4.2) h.2.1
theorem wf_aux {G : Nat → Int} {w : va_W} (h : WF G) (hX : HX 4 G w) (hO : hOK G) (hB : HB G) : WF (hlO w) := WF_eq (fun j hj => hlO_eq hX hj (hO j hj)) hB.b4.2 h
/-- the story, by the hill that stands -/
theorem aux_sto {G : Nat → Int} {w : va_W} (h : AUX w) (hX : HX 4 G w) (hW : W91 G w) (hO : hOK G) (hB : HB G) : ∃ g : Nat → Int, hOK g ∧ HX 4 g w ∧ W91 g w ∧ HB g ∧ WF g ∧ STO g w := by
  have e : ∀ j, j < 294 → hlO w j = G j := fun j hj => hlO_eq hX hj (hO j hj)
  have hb : HB (hlO w) := ⟨by rw [e 0 (by omega)]; exact hB.b0, by rw [e 1 (by omega)]; exact hB.b1, by rw [e 2 (by omega)]; exact hB.b2, by rw [e 3 (by omega)]; exact hB.b3, by rw [e 4 (by omega)]; exact hB.b4, by rw [e 5 (by omega)]; exact hB.b5, fun f hf => by rw [e _ (by omega)]; exact hB.bl f hf, fun f hf k hk => by rw [e _ (by omega)]; exact hB.bn f hf k hk, fun f hf => by rw [e _ (by omega)]; exact hB.bs f hf, fun f hf => by rw [e _ (by omega)]; exact hB.bd f hf, fun f hf => by rw [e _ (by omega)]; exact hB.bf f hf, fun j hj => by rw [e _ (by omega)]; exact hB.bt j hj, fun j hj => by rw [e _ (by omega)]; exact hB.bp j hj, fun k hk => by rw [e _ (by omega), e _ (by omega), e _ (by omega), e _ (by omega)]; exact hB.by_ k hk⟩
  exact ⟨hlO w, fun j hj => by rw [e j hj]; exact hO j hj, hlO_X hX hO, fun j hj => by rw [e j hj]; exact hW j hj, hb, h.2.1, h.1 (hlO_X hX hO) hb h.2.1⟩
noncomputable def PAIRT (l : Launch) (D : va_G) (tys : List (ClassId × FieldType)) (A : Nat → Prop) (ad : Nat → Nat) (kx km : Nat) (xs ms : List Value) (ws : va_W) : Prop := ∃ v : Int32, ∃ MID : va_W → Prop, (∃ d', d' < 11 ∧ CT l D tys A kx d' 0 0 xs ws (fun r w => r = some (.int v) ∧ GOK ad tys GG w ∧ MID w)) ∧ ∀ w : va_W, GOK ad tys GG w → MID w → ∃ d', d' < 11 ∧ CT l D tys A km d' 0 0 ms w (fun r w2 => r = some (.int v) ∧ GOK ad tys GG w2 ∧ RELW w2)
theorem pairT_ro {kx km d1 d2 : Nat} {xs ms : List Value} {v : Int32} (hG : GOK ad tys GG ws) (hR : RELW ws) (h1 : d1 < 11) (h2 : d2 < 11) (c1 : CT l D tys A kx d1 0 0 xs ws (fun r w => w = ws ∧ r = some (.int v))) (c2 : CT l D tys A km d2 0 0 ms ws (fun r w => w = ws ∧ r = some (.int v))) : PAIRT l D tys A ad kx km xs ms ws := by
  refine ⟨v, fun w => w = ws, ⟨d1, h1, CT_post c1 (fun r w h => ?_)⟩, fun w hw K => ⟨d2, h2, ?_⟩⟩
  · obtain ⟨rfl, e⟩ := h
    exact ⟨e, hG, rfl⟩
  · subst K
    refine CT_post c2 (fun r w2 h => ?_)
    obtain ⟨rfl, e⟩ := h
    exact ⟨e, hw, hR⟩
theorem pairT_md {kx km d1 d2 : Nat} {xs ms : List Value} {v : Int32} {G G' : Nat → Int} (hR : RELW ws) (hW : W91 G ws) (hO : hOK G') (wf : HB G' → WF G') (h1 : d1 < 11) (h2 : d2 < 11) (c1 : CT l D tys A kx d1 0 0 xs ws (fun r w => GOK ad tys GG w ∧ XOT ws w ∧ r = some (.int v) ∧ HX 4 G' w)) (c2 : ∀ w : va_W, GOK ad tys GG w → W91 G w → CT l D tys A km d2 0 0 ms w (fun r w2 => GOK ad tys GG w2 ∧ MO w w2 ∧ r = some (.int v) ∧ W91 G' w2)) : PAIRT l D tys A ad kx km xs ms ws := by
  refine ⟨v, fun w => XOT ws w ∧ HX 4 G' w, ⟨d1, h1, CT_post c1 (fun r w h => ⟨h.2.2.1, h.1, h.2.1, h.2.2.2⟩)⟩, fun w hw K => ⟨d2, h2, CT_post (c2 w hw (fun j hj => (K.1.1 _ _ (by omega)).trans (hW j hj))) (fun r w2 h => ?_)⟩⟩
  obtain ⟨g1, g2, g3, g4⟩ := h
  have o : ∀ c j, ¬ ((4 ≤ c ∧ c ≤ 15) ∨ (29 ≤ c ∧ c ≤ 35)) → c ≠ 91 → rd w2 c j = rd ws c j := fun c j hc h9 => (g2 c j h9).trans (K.1.1 c j hc)
  have hX2 : HX 4 G' w2 := HX_keep K.2 (fun c i h1 h2 => g2 c i (by omega))
  have hb := hb_of g1 g4 hO
  refine ⟨g3, g1, ⟨relf_keep hR.1.1 (fun c hc j => o c j (by omega) (by omega)) (fun j _ => o 90 j (by omega) (by omega)), ⟨G', hO, hX2, g4⟩, imgs_keep hR.1.2.2 (o _ _ (by omega) (by omega)) (fun c h1 h2 j => o c j (by omega) (by omega)) (fun j => o _ _ (by omega) (by omega)) (fun j => o _ _ (by omega) (by omega))⟩, STX_keep (K.1.2 hR.2.1) (fun c j hc => g2 c j (by omega)), wf_aux (wf hb) hX2 hO hb, img3 hR.2.2.2.1 (fun c j hc => o c j (by omega) (by omega)), (o _ _ (by omega) (by omega)).trans hR.2.2.2.2.1, (o _ _ (by omega) (by omega)).trans hR.2.2.2.2.2⟩
theorem pairT_name (hAD : ∀ i : Nat, ad (1000 + i) = D.2 1000 i) (hG : GOK ad tys GG ws) (hR : RELW ws) (a1 a2 : Int32) : PAIRT l D tys A ad 5 243 [.ref (ad 0), .int a1, .int a2] [.ref (ad 90), .int a1, .int a2] ws := by
  obtain ⟨G, o, x, y⟩ := hR.1.2.1
  have c1 := nmX_ct (l := l) (D := D) (A := A) hG x (hb_of hG y o) (i32b a1) (i32b a2)
  have c2 := nmM_ct (l := l) (D := D) (A := A) hG y (hb_of hG y o) (i32b a1) (i32b a2)
  rw [oi, oi] at c1 c2
  exact pairT_ro hG hR (by omega) (by omega) c1 c2
theorem pairT_length (hAD : ∀ i : Nat, ad (1000 + i) = D.2 1000 i) (hG : GOK ad tys GG ws) (hR : RELW ws) (a1 : Int32) : PAIRT l D tys A ad 6 244 [.ref (ad 0), .int a1] [.ref (ad 90), .int a1] ws := by
  obtain ⟨G, o, x, y⟩ := hR.1.2.1
  have c1 := lnX_ct (l := l) (D := D) (A := A) hG x (hb_of hG y o) (i32b a1)
  have c2 := lnM_ct (l := l) (D := D) (A := A) hG y (hb_of hG y o) (i32b a1)
  rw [oi] at c1 c2
  exact pairT_ro hG hR (by omega) (by omega) c1 c2
theorem pairT_folk (hAD : ∀ i : Nat, ad (1000 + i) = D.2 1000 i) (hG : GOK ad tys GG ws) (hR : RELW ws) (a1 a2 : Int32) : PAIRT l D tys A ad 7 245 [.ref (ad 0), .int a1, .int a2] [.ref (ad 90), .int a1, .int a2] ws := by
  obtain ⟨G, o, x, y⟩ := hR.1.2.1
  have c1 := foX_ct (l := l) (D := D) (A := A) hG x (hb_of hG y o) (i32b a1) (i32b a2)
  have c2 := foM_ct (l := l) (D := D) (A := A) hG y (hb_of hG y o) (i32b a1) (i32b a2)
  rw [oi, oi] at c1 c2
  exact pairT_ro hG hR (by omega) (by omega) c1 c2
theorem pairT_place (hAD : ∀ i : Nat, ad (1000 + i) = D.2 1000 i) (hG : GOK ad tys GG ws) (hR : RELW ws) (a1 a2 : Int32) : PAIRT l D tys A ad 8 246 [.ref (ad 0), .int a1, .int a2] [.ref (ad 90), .int a1, .int a2] ws := by
  obtain ⟨G, o, x, y⟩ := hR.1.2.1
  have c1 := plX_ct (l := l) (D := D) (A := A) hG x (hb_of hG y o) (i32b a1) (i32b a2)
  have c2 := plM_ct (l := l) (D := D) (A := A) hG y (hb_of hG y o) (i32b a1) (i32b a2)
  rw [oi, oi] at c1 c2
  exact pairT_ro hG hR (by omega) (by omega) c1 c2
theorem pairT_saying (hAD : ∀ i : Nat, ad (1000 + i) = D.2 1000 i) (hG : GOK ad tys GG ws) (hR : RELW ws) (a1 a2 : Int32) : PAIRT l D tys A ad 9 247 [.ref (ad 0), .int a1, .int a2] [.ref (ad 90), .int a1, .int a2] ws := by
  obtain ⟨G, o, x, y⟩ := hR.1.2.1
  have c1 := syX_ct (l := l) (D := D) (A := A) hG x (hb_of hG y o) (i32b a1) (i32b a2)
  have c2 := syM_ct (l := l) (D := D) (A := A) hG y (hb_of hG y o) (i32b a1) (i32b a2)
  rw [oi, oi] at c1 c2
  exact pairT_ro hG hR (by omega) (by omega) c1 c2
theorem pairT_fault (hAD : ∀ i : Nat, ad (1000 + i) = D.2 1000 i) (hG : GOK ad tys GG ws) (hR : RELW ws) (a1 : Int32) : PAIRT l D tys A ad 4 221 [.ref (ad 0), .int a1] [.ref (ad 90), .int a1] ws := by
  obtain ⟨a, b, ⟨h1, h2⟩, h3, h4⟩ := hR.1.1.2
  exact pairT_ro hG hR (by omega) (by omega) (fltX_ct a1 hG h1 h2) (fltM_ct a1 hG h3 h4)
theorem pairT_say (hAD : ∀ i : Nat, ad (1000 + i) = D.2 1000 i) (hG : GOK ad tys GG ws) (hR : RELW ws) (a1 a2 a3 a4 : Int32) : PAIRT l D tys A ad 41 291 [.ref (ad 0), .int a1, .int a2, .int a3, .int a4] [.ref (ad 90), .int a1, .int a2, .int a3, .int a4] ws := by
  obtain ⟨G, o, x, y⟩ := hR.1.2.1
  have hb := hb_of hG y o
  have wf := aux_wf hR.2 x o hb
  have c1 := sayXS_ct (l := l) (D := D) (A := A) hAD hG x hb (i32b a1) (i32b a2) (i32b a3) (i32b a4)
  have c2 := fun (w : va_W) (hw : GOK ad tys GG w) (hy : W91 G w) => sayM_ct (l := l) (D := D) (A := A) hw hy hb (i32b a1) (i32b a2) (i32b a3) (i32b a4)
  simp only [oi] at c1 c2
  by_cases k : okSy G a1.toInt a2.toInt a3.toInt a4.toInt
  · by_cases e : G 4 = 12
    · exact pairT_md (G' := G) hR y o (fun _ => wf) (by omega) (by omega) (CT_post c1 (fun r w h => ⟨h.1, h.2.1, ((h.2.2.2 k).1 e).1, ((h.2.2.2 k).1 e).2⟩)) (fun w hw hy => CT_post (c2 w hw hy) (fun r w2 h => ⟨h.1, h.2.1, ((h.2.2.2 k).1 e).1, ((h.2.2.2 k).1 e).2⟩))
    · have e2 : G 4 < 12 := by have := hb.b4; omega
      have ob : hOK (sayG G a1.toInt a2.toInt a3.toInt a4.toInt) := hok_up (hok_up (hok_up (hok_up (hok_up o (i32b a1)) (i32b a2)) (i32b a3)) (i32b a4)) ⟨by have := hb.b4; omega, by omega⟩
      exact pairT_md (G' := sayG G a1.toInt a2.toInt a3.toInt a4.toInt) hR y ob (fun _ => WF_say wf hb.b4.1 e2 k) (by omega) (by omega) (CT_post c1 (fun r w h => ⟨h.1, h.2.1, ((h.2.2.2 k).2 e2).1, ((h.2.2.2 k).2 e2).2⟩)) (fun w hw hy => CT_post (c2 w hw hy) (fun r w2 h => ⟨h.1, h.2.1, ((h.2.2.2 k).2 e2).1, ((h.2.2.2 k).2 e2).2⟩))
  · exact pairT_md (G' := G) hR y o (fun _ => wf) (by omega) (by omega) (CT_post c1 (fun r w h => ⟨h.1, h.2.1, (h.2.2.1 k).1, (h.2.2.1 k).2⟩)) (fun w hw hy => CT_post (c2 w hw hy) (fun r w2 h => ⟨h.1, h.2.1, (h.2.2.1 k).1, (h.2.2.1 k).2⟩))
theorem pairT_unsay (hAD : ∀ i : Nat, ad (1000 + i) = D.2 1000 i) (hG : GOK ad tys GG ws) (hR : RELW ws) : PAIRT l D tys A ad 42 292 [.ref (ad 0)] [.ref (ad 90)] ws := by
  obtain ⟨G, o, x, y⟩ := hR.1.2.1
  have hb := hb_of hG y o
  have wf := aux_wf hR.2 x o hb
  have c1 := unsXS_ct (l := l) (D := D) (A := A) hAD hG x hb
  have c2 := fun (w : va_W) (hw : GOK ad tys GG w) (hy : W91 G w) => unsM_ct (l := l) (D := D) (A := A) hw hy hb
  by_cases k : 0 < G 5
  · by_cases e : G 4 = 0
    · exact pairT_md (G' := G) hR y o (fun _ => wf) (by omega) (by omega) (CT_post c1 (fun r w h => ⟨h.1, h.2.1, ((h.2.2.2 k).1 e).1, ((h.2.2.2 k).1 e).2⟩)) (fun w hw hy => CT_post (c2 w hw hy) (fun r w2 h => ⟨h.1, h.2.1, ((h.2.2.2 k).1 e).1, ((h.2.2.2 k).1 e).2⟩))
    · have e2 : 0 < G 4 := by have := hb.b4; omega
      have ob : hOK (updI G 4 (G 4 - 1)) := hok_up o ⟨by omega, by have := hb.b4; omega⟩
      exact pairT_md (G' := updI G 4 (G 4 - 1)) hR y ob (fun _ => WF_uns wf) (by omega) (by omega) (CT_post c1 (fun r w h => ⟨h.1, h.2.1, ((h.2.2.2 k).2 e2).1, ((h.2.2.2 k).2 e2).2⟩)) (fun w hw hy => CT_post (c2 w hw hy) (fun r w2 h => ⟨h.1, h.2.1, ((h.2.2.2 k).2 e2).1, ((h.2.2.2 k).2 e2).2⟩))
  · exact pairT_md (G' := G) hR y o (fun _ => wf) (by omega) (by omega) (CT_post c1 (fun r w h => ⟨h.1, h.2.1, (h.2.2.1 k).1, (h.2.2.1 k).2⟩)) (fun w hw hy => CT_post (c2 w hw hy) (fun r w2 h => ⟨h.1, h.2.1, (h.2.2.1 k).1, (h.2.2.1 k).2⟩))
theorem pairT_move (hAD : ∀ i : Nat, ad (1000 + i) = D.2 1000 i) (hG : GOK ad tys GG ws) (hR : RELW ws) (a1 a2 a3 : Int32) : PAIRT l D tys A ad 43 293 [.ref (ad 0), .int a1, .int a2, .int a3] [.ref (ad 90), .int a1, .int a2, .int a3] ws := by
  obtain ⟨G, o, x, y⟩ := hR.1.2.1
  have hb := hb_of hG y o
  have wf := aux_wf hR.2 x o hb
  have c1 := movXS_ct (l := l) (D := D) (A := A) hAD hG x hb (i32b a1) (i32b a2) (i32b a3)
  have c2 := fun (w : va_W) (hw : GOK ad tys GG w) (hy : W91 G w) => movM_ct (l := l) (D := D) (A := A) hw hy hb (i32b a1) (i32b a2) (i32b a3)
  simp only [oi] at c1 c2
  by_cases k : okMv G a1.toInt a2.toInt a3.toInt
  · exact pairT_md (G' := movG G a1.toInt a2.toInt a3.toInt) hR y (hok_up o (i32b a2)) (fun _ => WF_up wf hb.b4.2 ⟨by omega, by have := k.1; have := k.2.1; have := k.2.2; have := hb.b2; have := hb.b3; omega⟩) (by omega) (by omega) (CT_post c1 (fun r w h => ⟨h.1, h.2.1, (h.2.2.2 k).1, (h.2.2.2 k).2⟩)) (fun w hw hy => CT_post (c2 w hw hy) (fun r w2 h => ⟨h.1, h.2.1, (h.2.2.2 k).1, (h.2.2.2 k).2⟩))
  · exact pairT_md (G' := G) hR y o (fun _ => wf) (by omega) (by omega) (CT_post c1 (fun r w h => ⟨h.1, h.2.1, (h.2.2.1 k).1, (h.2.2.1 k).2⟩)) (fun w hw hy => CT_post (c2 w hw hy) (fun r w2 h => ⟨h.1, h.2.1, (h.2.2.1 k).1, (h.2.2.1 k).2⟩))
theorem pairT_teach (hAD : ∀ i : Nat, ad (1000 + i) = D.2 1000 i) (hG : GOK ad tys GG ws) (hR : RELW ws) (a1 a2 a3 a4 : Int32) : PAIRT l D tys A ad 44 294 [.ref (ad 0), .int a1, .int a2, .int a3, .int a4] [.ref (ad 90), .int a1, .int a2, .int a3, .int a4] ws := by
  obtain ⟨G, o, x, y⟩ := hR.1.2.1
  have hb := hb_of hG y o
  have wf := aux_wf hR.2 x o hb
  have c1 := teaXS_ct (l := l) (D := D) (A := A) hAD hG x hb (i32b a1) (i32b a2) (i32b a3) (i32b a4)
  have c2 := fun (w : va_W) (hw : GOK ad tys GG w) (hy : W91 G w) => teaM_ct (l := l) (D := D) (A := A) hw hy hb (i32b a1) (i32b a2) (i32b a3) (i32b a4)
  simp only [oi] at c1 c2
  by_cases k : okTe G a1.toInt a2.toInt a3.toInt a4.toInt
  · exact pairT_md (G' := teaG G a1.toInt a2.toInt a3.toInt a4.toInt) hR y (hok_up o (i32b _)) (fun _ => WF_up wf hb.b4.2 (by have := k.1; have := k.2.1; have := hb.b3; unfold teaJ; omega)) (by omega) (by omega) (CT_post c1 (fun r w h => ⟨h.1, h.2.1, (h.2.2.2 k).1, (h.2.2.2 k).2⟩)) (fun w hw hy => CT_post (c2 w hw hy) (fun r w2 h => ⟨h.1, h.2.1, (h.2.2.2 k).1, (h.2.2.2 k).2⟩))
  · exact pairT_md (G' := G) hR y o (fun _ => wf) (by omega) (by omega) (CT_post c1 (fun r w h => ⟨h.1, h.2.1, (h.2.2.1 k).1, (h.2.2.1 k).2⟩)) (fun w hw hy => CT_post (c2 w hw hy) (fun r w2 h => ⟨h.1, h.2.1, (h.2.2.1 k).1, (h.2.2.1 k).2⟩))
theorem imgs_newS {q z : Nat} {w0 w1 w2 : va_W} {G : Nat → Int} (q3 : q < 3) (z8 : z < 8) (hR : RELW w0) (o : hOK G) (hB : HB G) (hW : W91 G w0) (hX : HX 4 G w0) (hq : ∀ p, p < 3 → rd w0 93 p = some (.int (bI (z.testBit p))) ∧ (z.testBit p = true → IMG p w0)) (hx : (∀ c i, ¬ (54 + 12 * q ≤ c ∧ c ≤ 65 + 12 * q) → ¬ (c = 0 ∧ i = 12) → rd w1 c i = rd w0 c i) ∧ rd w1 0 12 = some (.int (Int32.ofInt ((z ||| 1 <<< q : Nat) : Int))) ∧ HX (54 + 12 * q) G w1) (hm : (∀ c j, ¬ (c = 92 ∧ 294 * q ≤ j ∧ j < 294 * q + 294) → ¬ (c = 93 ∧ j = q) → rd w2 c j = rd w1 c j) ∧ (∀ j, j < 294 → rd w2 92 (294 * q + j) = rd w1 91 j) ∧ rd w2 93 q = some (.int (Int32.ofInt 1))) : RELW w2 := by
  have r := imgs_new q3 z8 hR.1 o hW hX hq hx hm
  obtain ⟨x1, x2, x3⟩ := hx
  obtain ⟨m1, m2, m3⟩ := hm
  have oo : ∀ c j, ¬ (54 ≤ c ∧ c ≤ 89) → c ≠ 92 → c ≠ 93 → c ≠ 0 → rd w2 c j = rd w0 c j := fun c j h1 h2 h3 h4 => (m1 c j (by omega) (by omega)).trans (x1 c j (by omega) (by omega))
  have wf := aux_wf hR.2 hX o hB
  refine ⟨r, STX_keep hR.2.1 (fun c j hc => oo c j (by omega) (by omega) (by omega) (by omega)), by rw [hlO_keep (w := w0) (fun c j h1 h2 => oo c j (by omega) (by omega) (by omega) (by omega))]; exact hR.2.2.1, fun p p3 e => ?_, (oo _ _ (by omega) (by omega) (by omega) (by omega)).trans hR.2.2.2.2.1, (oo _ _ (by omega) (by omega) (by omega) (by omega)).trans hR.2.2.2.2.2⟩
  by_cases k : p = q
  · subst k
    exact WF_eq (fun j hj => imO_eq (HX_keep x3 (fun c i h1 h2 => m1 c i (by omega) (by omega))) hj (o j hj)) hB.b4.2 wf
  · rw [imO_keep (w := w0) (fun c j h1 h2 => (m1 c j (by omega) (by omega)).trans (x1 c j (by omega) (by omega)))]
    exact hR.2.2.2.1 p p3 (((m1 _ _ (by omega) (by omega)).trans (x1 _ _ (by omega) (by omega))).symm.trans e)
theorem pairT_image (hAD : ∀ i : Nat, ad (1000 + i) = D.2 1000 i) (hG : GOK ad tys GG ws) (hR : RELW ws) (a1 : Int32) : PAIRT l D tys A ad 67 196 [.ref (ad 0), .int a1] [.ref (ad 90), .int a1] ws := by
  obtain ⟨G, o, x, y⟩ := hR.1.2.1
  obtain ⟨z, z8, hz, hq⟩ := hR.1.2.2
  by_cases k : 0 ≤ a1.toInt ∧ a1.toInt ≤ 2
  · rcases three k with rfl | rfl | rfl
    · exact ⟨Int32.ofInt 0, _, ⟨2, by omega, CT_post (imgX_0 (l := l) (D := D) (A := A) z8 hG x hz) (fun r w h => ⟨h.1, h.2.1, h.2.2⟩)⟩, fun w hw K => ⟨4, by omega, CT_post (imgM_ct (q := 0) (by omega) hw) (fun r w2 h => ⟨h.1, h.2.1, imgs_newS (q := 0) (by omega) z8 hR o (hb_of hG y o) y x hq K h.2.2⟩)⟩⟩
    · exact ⟨Int32.ofInt 0, _, ⟨2, by omega, CT_post (imgX_1 (l := l) (D := D) (A := A) z8 hG x hz) (fun r w h => ⟨h.1, h.2.1, h.2.2⟩)⟩, fun w hw K => ⟨4, by omega, CT_post (imgM_ct (q := 1) (by omega) hw) (fun r w2 h => ⟨h.1, h.2.1, imgs_newS (q := 1) (by omega) z8 hR o (hb_of hG y o) y x hq K h.2.2⟩)⟩⟩
    · exact ⟨Int32.ofInt 0, _, ⟨2, by omega, CT_post (imgX_2 (l := l) (D := D) (A := A) z8 hG x hz) (fun r w h => ⟨h.1, h.2.1, h.2.2⟩)⟩, fun w hw K => ⟨4, by omega, CT_post (imgM_ct (q := 2) (by omega) hw) (fun r w2 h => ⟨h.1, h.2.1, imgs_newS (q := 2) (by omega) z8 hR o (hb_of hG y o) y x hq K h.2.2⟩)⟩⟩
  · have c1 := imgX_n (l := l) (D := D) (A := A) (i32b a1) k hG
    have c2 := imgM_n (l := l) (D := D) (A := A) (i32b a1) k hG
    rw [oi] at c1 c2
    exact pairT_ro hG hR (by omega) (by omega) c1 c2
theorem back_oneS {q z : Nat} {c1 : CT l D tys A 68 8 0 0 [.ref (ad 0), .int (Int32.ofInt (q : Int))] ws (fun r w => GOK ad tys GG w ∧ XOT ws w ∧ (z.testBit q = true → r = some (.int (Int32.ofInt 0)) ∧ ∀ G, HX (54 + 12 * q) G ws → HX 4 G w) ∧ (z.testBit q = false → r = some (.int (Int32.ofInt (-6))) ∧ w = ws))} (q3 : q < 3) (hG : GOK ad tys GG ws) (hR : RELW ws) (hq : rd ws 93 q = some (.int (bI (z.testBit q))) ∧ (z.testBit q = true → IMG q ws)) : PAIRT l D tys A ad 68 197 [.ref (ad 0), .int (Int32.ofInt (q : Int))] [.ref (ad 90), .int (Int32.ofInt (q : Int))] ws := by
  by_cases k : z.testBit q = true
  · obtain ⟨G, o, x, y⟩ := hq.2 k
    refine ⟨Int32.ofInt 0, fun w => XOT ws w ∧ HX 4 G w, ⟨8, by omega, CT_post c1 (fun r w h => ⟨(h.2.2.1 k).1, h.1, h.2.1, (h.2.2.1 k).2 G x⟩)⟩, fun w hw K => ⟨4, by omega, CT_post (bakM_ct (q := q) (b := z.testBit q) q3 hw ((K.1.1 _ _ (by omega)).trans hq.1)) (fun r w2 h => ?_)⟩⟩
    obtain ⟨g1, g2, g3, -⟩ := h
    have oo : ∀ c j, ¬ ((4 ≤ c ∧ c ≤ 15) ∨ (29 ≤ c ∧ c ≤ 35)) → c ≠ 91 → rd w2 c j = rd ws c j := fun c j hc h9 => (g2 c j h9).trans (K.1.1 c j hc)
    have hX2 : HX 4 G w2 := HX_keep K.2 (fun c i h1 h2 => g2 c i (by omega))
    have y2 : W91 G w2 := fun j hj => by
      rw [(g3 k).2 j hj, K.1.1 _ _ (by omega)]
      exact y j hj
    have hb := hb_of g1 y2 o
    have wf : WF G := WF_eq (G := imO q ws) (fun j hj => (imO_eq x hj (o j hj)).symm) (by rw [imO_eq x (by omega) (o 4 (by omega))]; exact hb.b4.2) (hR.2.2.2.1 q q3 (by rw [hq.1, k]))
    refine ⟨(g3 k).1, g1, ⟨relf_keep hR.1.1 (fun c hc j => oo c j (by omega) (by omega)) (fun j _ => oo 90 j (by omega) (by omega)), ⟨G, o, hX2, y2⟩, imgs_keep hR.1.2.2 (oo _ _ (by omega) (by omega)) (fun c h1 h2 j => oo c j (by omega) (by omega)) (fun j => oo _ _ (by omega) (by omega)) (fun j => oo _ _ (by omega) (by omega))⟩, STX_keep (K.1.2 hR.2.1) (fun c j hc => g2 c j (by omega)), wf_aux wf hX2 o hb, img3 hR.2.2.2.1 (fun c j hc => oo c j (by omega) (by omega)), (oo _ _ (by omega) (by omega)).trans hR.2.2.2.2.1, (oo _ _ (by omega) (by omega)).trans hR.2.2.2.2.2⟩
  · have k := Bool.eq_false_iff.mpr k
    refine pairT_ro (v := Int32.ofInt (-6)) hG hR (by omega) (by omega) (CT_post c1 (fun r w h => ⟨(h.2.2.2 k).2, (h.2.2.2 k).1⟩)) (CT_post (bakM_ct (q := q) (b := z.testBit q) q3 hG hq.1) (fun r w h => ⟨(h.2.2.2 k).2, (h.2.2.2 k).1⟩))
theorem back_XS {q z : Nat} {G0 : Nat → Int} {r : Option Value} {w : va_W} (h : GOK ad tys GG w ∧ XOT ws w ∧ (z.testBit q = true → r = some (.int (Int32.ofInt 0)) ∧ HX 4 G0 w) ∧ (z.testBit q = false → r = some (.int (Int32.ofInt (-6))) ∧ w = ws)) (h0 : z.testBit q = true → HX (54 + 12 * q) G0 ws) : GOK ad tys GG w ∧ XOT ws w ∧ (z.testBit q = true → r = some (.int (Int32.ofInt 0)) ∧ ∀ G, HX (54 + 12 * q) G ws → HX 4 G w) ∧ (z.testBit q = false → r = some (.int (Int32.ofInt (-6))) ∧ w = ws) := by
  refine ⟨h.1, h.2.1, fun k => ⟨(h.2.2.1 k).1, fun G hX j hj => ?_⟩, h.2.2.2⟩
  have e1 := h0 k j hj
  have e2 := hX j hj
  rw [(h.2.2.1 k).2 j hj, ← e1, e2]
theorem pairT_back (hAD : ∀ i : Nat, ad (1000 + i) = D.2 1000 i) (hG : GOK ad tys GG ws) (hR : RELW ws) (a1 : Int32) : PAIRT l D tys A ad 68 197 [.ref (ad 0), .int a1] [.ref (ad 90), .int a1] ws := by
  obtain ⟨z, z8, hz, hq⟩ := hR.1.2.2
  by_cases k : 0 ≤ a1.toInt ∧ a1.toInt ≤ 2
  · rcases three k with rfl | rfl | rfl
    · obtain ⟨G0, h0⟩ := img_some (hq 0 (by omega)).2
      exact back_oneS (q := 0) (z := z) (c1 := CT_post (bakXS_0 z8 hAD hG h0 hz) (fun r w h => back_XS h h0)) (by omega) hG hR (hq 0 (by omega))
    · obtain ⟨G0, h0⟩ := img_some (hq 1 (by omega)).2
      exact back_oneS (q := 1) (z := z) (c1 := CT_post (bakXS_1 z8 hAD hG h0 hz) (fun r w h => back_XS h h0)) (by omega) hG hR (hq 1 (by omega))
    · obtain ⟨G0, h0⟩ := img_some (hq 2 (by omega)).2
      exact back_oneS (q := 2) (z := z) (c1 := CT_post (bakXS_2 z8 hAD hG h0 hz) (fun r w h => back_XS h h0)) (by omega) hG hR (hq 2 (by omega))
  · have c1 := bakX_n (l := l) (D := D) (A := A) (i32b a1) k hG
    have c2 := bakM_n (l := l) (D := D) (A := A) (i32b a1) k hG
    rw [oi] at c1 c2
    exact pairT_ro hG hR (by omega) (by omega) c1 c2
theorem pairT_feed (hAD : ∀ i : Nat, ad (1000 + i) = D.2 1000 i) (hG : GOK ad tys GG ws) (hR : RELW ws) (a1 a2 a3 a4 a5 : Int32) : PAIRT l D tys A ad 1 210 [.ref (ad 0), .int a1, .int a2, .int a3, .int a4, .int a5] [.ref (ad 90), .int a1, .int a2, .int a3, .int a4, .int a5] ws := by
  obtain ⟨v, MID, k1, k2⟩ := two_feed (l := l) (D := D) (A := A) hG hR.1.1.1 a1 a2 a3 a4 a5
  refine ⟨v, fun w => MID w ∧ ∀ c j, c ≠ 2 → c ≠ 3 → rd w c j = rd ws c j, ⟨2, by omega, CT_post k1 (fun r w h => ⟨h.1, h.2.1, h.2.2.1, h.2.2.2⟩)⟩, fun w hw K => ⟨1, by omega, CT_post (k2 w hw K.1) (fun r w2 h => ?_)⟩⟩
  obtain ⟨g1, g2, g3, g4⟩ := h
  have oo : ∀ c j, c ≠ 2 → c ≠ 3 → c ≠ 94 → c ≠ 95 → ¬ (c = 90 ∧ j = 5) → rd w2 c j = rd ws c j := fun c j h2 h3 h4 h5 h6 => (g4 c j h4 h5 h6).trans (K.2 c j h2 h3)
  exact ⟨g1, g2, ⟨⟨g3, flt_keep hR.1.1.2 (fun j => oo _ _ (by omega) (by omega) (by omega) (by omega) (by omega)) (oo _ _ (by omega) (by omega) (by omega) (by omega) (by omega)) (oo _ _ (by omega) (by omega) (by omega) (by omega) (by omega))⟩, hil_keep hR.1.2.1 (fun c h1 h2 j => oo c j (by omega) (by omega) (by omega) (by omega) (by omega)) (fun j => oo _ _ (by omega) (by omega) (by omega) (by omega) (by omega)), imgs_keep hR.1.2.2 (oo _ _ (by omega) (by omega) (by omega) (by omega) (by omega)) (fun c h1 h2 j => oo c j (by omega) (by omega) (by omega) (by omega) (by omega)) (fun j => oo _ _ (by omega) (by omega) (by omega) (by omega) (by omega)) (fun j => oo _ _ (by omega) (by omega) (by omega) (by omega) (by omega))⟩, aux_keep hR.2 (fun c j hc => oo c j (by omega) (by omega) (by omega) (by omega) (by omega))⟩
theorem pairT_end (hAD : ∀ i : Nat, ad (1000 + i) = D.2 1000 i) (hG : GOK ad tys GG ws) (hR : RELW ws) (a1 : Int32) : PAIRT l D tys A ad 2 211 [.ref (ad 0), .int a1] [.ref (ad 90), .int a1] ws := by
  obtain ⟨v, MID, k1, k2⟩ := two_end (l := l) (D := D) (A := A) hG hR.1.1.1 a1
  refine ⟨v, fun w => MID w ∧ ∀ c j, c ≠ 2 → rd w c j = rd ws c j, ⟨0, by omega, CT_post k1 (fun r w h => ⟨h.1, h.2.1, h.2.2.1, h.2.2.2⟩)⟩, fun w hw K => ⟨1, by omega, CT_post (k2 w hw K.1) (fun r w2 h => ?_)⟩⟩
  obtain ⟨g1, g2, g3, g4⟩ := h
  have oo : ∀ c j, c ≠ 2 → ¬ (c = 90 ∧ j = 5) → rd w2 c j = rd ws c j := fun c j h2 h6 => (g4 c j h6).trans (K.2 c j h2)
  exact ⟨g1, g2, ⟨⟨g3, flt_keep hR.1.1.2 (fun j => oo _ _ (by omega) (by omega)) (oo _ _ (by omega) (by omega)) (oo _ _ (by omega) (by omega))⟩, hil_keep hR.1.2.1 (fun c h1 h2 j => oo c j (by omega) (by omega)) (fun j => oo _ _ (by omega) (by omega)), imgs_keep hR.1.2.2 (oo _ _ (by omega) (by omega)) (fun c h1 h2 j => oo c j (by omega) (by omega)) (fun j => oo _ _ (by omega) (by omega)) (fun j => oo _ _ (by omega) (by omega))⟩, aux_keep hR.2 (fun c j hc => oo c j (by omega) (by omega))⟩
theorem pairT_hill (hAD : ∀ i : Nat, ad (1000 + i) = D.2 1000 i) (hG : GOK ad tys GG ws) (hR : RELW ws) : PAIRT l D tys A ad 3 233 [.ref (ad 0)] [.ref (ad 90)] ws := by
  obtain ⟨n, B, h0, ⟨h1, h2⟩, h3, h4⟩ := hR.1.1.1
  obtain ⟨v0, hv, v1, v2⟩ := celO hG g90f11 (by omega)
  have c1 := hixxS_ct (l := l) (A := A) hAD hG ⟨h1, h0, h2⟩ ⟨v1, v2⟩
  have c2 : ∀ w : va_W, GOK ad tys GG w → HXo ws w → CT l D tys A 233 10 0 0 [.ref (ad 90)] w (HMP ad tys (hillX B n v0) w) := fun w hw K => himx_ct hw h0 ((K _ _ (by omega)).trans h3) (TB_ne h4 (fun j => K _ _ (by omega))) ((K _ _ (by omega)).trans hv) ⟨v1, v2⟩
  refine ⟨if (hillX B n v0).1.2.1 = 0 then Int32.ofInt ((hillX B n v0).2.1 5) else Int32.ofInt (-4), fun w => HXo ws w ∧ rd w 2 1 = some (.int (Int32.ofInt 0)) ∧ (rd w 1 1 = some (.int (Int32.ofInt (hillX B n v0).1.2.1)) ∧ rd w 1 2 = some (.int (Int32.ofInt (hillX B n v0).1.2.2))) ∧ ((hillX B n v0).1.2.1 = 0 → HX 4 (endG (hillX B n v0)) w) ∧ (¬ (hillX B n v0).1.2.1 = 0 → ∀ c j, 4 ≤ c ∧ c ≤ 15 → rd w c j = rd ws c j) ∧ (STX ws → STX w), ⟨10, by omega, CT_post c1 (fun r w h => ?_)⟩, fun w hw K => ⟨10, by omega, CT_post (c2 w hw K.1) (fun r w2 h => ?_)⟩⟩
  · obtain ⟨⟨g1, g2, g3, g4, g5, g6, g7⟩, g8⟩ := h
    refine ⟨?_, g1, g2, g3, ⟨g4, g5⟩, fun q => (g6 q).2, fun q c j hc => (g7 q).2 c j (Or.inl hc), g8⟩
    split
    · next q => exact (g6 q).1
    · next q => exact (g7 q).1
  · obtain ⟨g1, g2, g3, g4, g5, g6, g7⟩ := h
    obtain ⟨K1, K2, K3, K4, K5, K6⟩ := K
    have oo : ∀ c j, ¬ ((c = 2 ∧ 1 ≤ j ∧ j ≤ 5) ∨ (c = 1 ∧ 1 ≤ j ∧ j ≤ 2) ∨ (4 ≤ c ∧ c ≤ 27) ∨ (29 ≤ c ∧ c ≤ 35)) → c ≠ 91 → c ≠ 96 → c ≠ 97 → c ≠ 90 → rd w2 c j = rd ws c j := fun c j a b e f g => (g2 c j b e f (by omega)).trans (K1 c j a)
    refine ⟨?_, g1, ⟨⟨⟨0, B, by omega, ⟨(g2 _ _ (by omega) (by omega) (by omega) (by omega)).trans K2, fun k hk => absurd hk (by omega)⟩, g3, fun k hk => absurd hk (by omega)⟩, _, _, ⟨(g2 _ _ (by omega) (by omega) (by omega) (by omega)).trans K3.1, (g2 _ _ (by omega) (by omega) (by omega) (by omega)).trans K3.2⟩, g4, g5⟩, ?_, imgs_keep hR.1.2.2 (oo _ _ (by omega) (by omega) (by omega) (by omega) (by omega)) (fun c h1 h2 j => oo c j (by omega) (by omega) (by omega) (by omega) (by omega)) (fun j => oo _ _ (by omega) (by omega) (by omega) (by omega) (by omega)) (fun j => oo _ _ (by omega) (by omega) (by omega) (by omega) (by omega))⟩, STX_keep (K6 hR.2.1) (fun c j hc => g2 _ _ (by omega) (by omega) (by omega) (by omega)), ?_, img3 hR.2.2.2.1 (fun c j hc => oo c j (by omega) (by omega) (by omega) (by omega) (by omega)), (g2 _ _ (by omega) (by omega) (by omega) (by omega)).trans ((K1 _ _ (by omega)).trans hR.2.2.2.2.1), (g2 _ _ (by omega) (by omega) (by omega) (by omega)).trans ((K1 _ _ (by omega)).trans hR.2.2.2.2.2)⟩
    · split
      · next q => exact (g6 q).1
      · next q => exact (g7 q).1
    · by_cases q : (hillX B n v0).1.2.1 = 0
      · obtain ⟨-, f1, f2, f3⟩ := g6 q
        exact ⟨endG (hillX B n v0), endG_ok f1 f2, HX_keep (K4 q) (fun c i h1 h2 => g2 _ _ (by omega) (by omega) (by omega) (by omega)), f3⟩
      · refine hil_keep hR.1.2.1 (fun c h1 h2 j => (g2 _ _ (by omega) (by omega) (by omega) (by omega)).trans (K5 q c j ⟨h1, h2⟩)) (fun j => ((g7 q).2 j).trans (K1 _ _ (by omega)))
    · by_cases q : (hillX B n v0).1.2.1 = 0
      · obtain ⟨-, f1, f2, f3⟩ := g6 q
        exact wf_aux (WF_hill q) (HX_keep (K4 q) (fun c i h1 h2 => g2 _ _ (by omega) (by omega) (by omega) (by omega))) (endG_ok f1 f2) (hb_of g1 f3 (endG_ok f1 f2))
      · rw [hlO_keep (w := ws) (fun c j h1 h2 => (g2 _ _ (by omega) (by omega) (by omega) (by omega)).trans (K5 q c j ⟨h1, h2⟩))]
        exact hR.2.2.1
end XSK
