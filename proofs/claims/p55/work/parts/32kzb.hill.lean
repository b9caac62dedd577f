section XWB
variable {l : Launch} {D : va_G} {tys : List (ClassId × FieldType)} {A : Nat → Prop} {ad : Nat → Nat} {ws : va_W}
noncomputable def WN (G : Nat → Int) : Prop := WF G ∧ WP G
theorem WN_eq {G g : Nat → Int} (h : ∀ j, j < 294 → g j = G j) (h4 : G 4 ≤ 12) (w : WN G) : WN g := ⟨WF_eq h h4 w.1, WP_same w.2 (fun i hi => h i (by omega))⟩
theorem WN_up {G : Nat → Int} {j : Nat} {z : Int} (h : WN G) (h4 : G 4 ≤ 12) (hj : 48 ≤ j ∧ j < 246) : WN (updI G j z) := ⟨WF_up h.1 h4 ⟨by omega, hj.2⟩, WP_same h.2 (fun i hi => updI_ne (by omega))⟩
theorem WN_uns {G : Nat → Int} (h : WN G) : WN (updI G 4 (G 4 - 1)) := ⟨WF_uns h.1, WP_same h.2 (fun i hi => updI_ne (by omega))⟩
theorem WN_say {G : Nat → Int} {f o i h : Int} (w : WN G) (h0 : 0 ≤ G 4) (h4 : G 4 < 12) (ok : okSy G f o i h) : WN (sayG G f o i h) := ⟨WF_say w.1 h0 h4 ok, WP_same w.2 (fun j hj => by
  unfold sayG
  rw [updI_ne (by omega), updI_ne (by omega), updI_ne (by omega), updI_ne (by omega), updI_ne (by omega)])⟩
theorem WN_hill {B : Nat → Int} {n : Nat} {v0 : Int} (g : (hillX B n v0).1.2.1 = 0) : WN (endG (hillX B n v0)) := ⟨WF_hill g, WP_hill g⟩
noncomputable def AUN (w : va_W) : Prop := STX w ∧ WN (hlO w) ∧ (∀ q, q < 3 → rd w 93 q = some (.int (bI true)) → WN (imO q w)) ∧ rd w 90 22 = some (.int (Int32.ofInt (-1))) ∧ rd w 90 24 = some (.int (Int32.ofInt 0))
noncomputable def RELN (w : va_W) : Prop := RELH w ∧ AUN w
theorem img3N {w0 w : va_W} (h : ∀ q, q < 3 → rd w0 93 q = some (.int (bI true)) → WN (imO q w0)) (o : ∀ c j, (54 ≤ c ∧ c ≤ 89) ∨ c = 93 → rd w c j = rd w0 c j) : ∀ q, q < 3 → rd w 93 q = some (.int (bI true)) → WN (imO q w) := fun q q3 e => by
  rw [imO_keep (w := w0) (fun c j h1 h2 => o c j (by omega))]
  exact h q q3 ((o _ _ (Or.inr rfl)).symm.trans e)
theorem aun_keep {w0 w : va_W} (h : AUN w0) (o : ∀ c j, (4 ≤ c ∧ c ≤ 15) ∨ (29 ≤ c ∧ c ≤ 35 ∧ c ≠ 31) ∨ (54 ≤ c ∧ c ≤ 89) ∨ c = 93 ∨ (c = 90 ∧ (j = 22 ∨ j = 24)) → rd w c j = rd w0 c j) : AUN w :=
  ⟨STX_keep h.1 (fun c j hc => o c j (by omega)), by rw [hlO_keep (w := w0) (fun c j h1 h2 => o c j (by omega))]; exact h.2.1, img3N h.2.2.1 (fun c j hc => o c j (by omega)), (o _ _ (by omega)).trans h.2.2.2.1, (o _ _ (by omega)).trans h.2.2.2.2⟩
theorem aun_wf {G : Nat → Int} {w : va_W} (h : AUN w) (hX : HX 4 G w) (hO : hOK G) (hB : HB G) : WN G :=
  WN_eq (G := hlO w) (fun j hj => (hlO_eq hX hj (hO j hj)).symm) (by rw [hlO_eq hX (by omega) (hO 4 (by omega))]; exact hB.b4.2) h.2.1
theorem wn_aux {G : Nat → Int} {w : va_W} (h : WN G) (hX : HX 4 G w) (hO : hOK G) (hB : HB G) : WN (hlO w) := WN_eq (fun j hj => hlO_eq hX hj (hO j hj)) hB.b4.2 h
/-- the story, by the hill that stands -/
theorem aun_sto {G : Nat → Int} {w : va_W} (h : AUN w) (hX : HX 4 G w) (hW : W91 G w) (hO : hOK G) (hB : HB G) : ∃ g : Nat → Int, hOK g ∧ HX 4 g w ∧ W91 g w ∧ HB g ∧ WN g ∧ STO g w := by
  have e : ∀ j, j < 294 → hlO w j = G j := fun j hj => hlO_eq hX hj (hO j hj)
  have hb : HB (hlO w) := ⟨by rw [e 0 (by omega)]; exact hB.b0, by rw [e 1 (by omega)]; exact hB.b1, by rw [e 2 (by omega)]; exact hB.b2, by rw [e 3 (by omega)]; exact hB.b3, by rw [e 4 (by omega)]; exact hB.b4, by rw [e 5 (by omega)]; exact hB.b5, fun f hf => by rw [e _ (by omega)]; exact hB.bl f hf, fun f hf k hk => by rw [e _ (by omega)]; exact hB.bn f hf k hk, fun f hf => by rw [e _ (by omega)]; exact hB.bs f hf, fun f hf => by rw [e _ (by omega)]; exact hB.bd f hf, fun f hf => by rw [e _ (by omega)]; exact hB.bf f hf, fun j hj => by rw [e _ (by omega)]; exact hB.bt j hj, fun j hj => by rw [e _ (by omega)]; exact hB.bp j hj, fun k hk => by rw [e _ (by omega), e _ (by omega), e _ (by omega), e _ (by omega)]; exact hB.by_ k hk⟩
  exact ⟨hlO w, fun j hj => by rw [e j hj]; exact hO j hj, hlO_X hX hO, fun j hj => by rw [e j hj]; exact hW j hj, hb, h.2.1, h.1 (hlO_X hX hO) hb h.2.1.1⟩
noncomputable def PAIRN (l : Launch) (D : va_G) (tys : List (ClassId × FieldType)) (A : Nat → Prop) (ad : Nat → Nat) (kx km : Nat) (xs ms : List Value) (ws : va_W) : Prop := ∃ v : Int32, ∃ MID : va_W → Prop, (∃ d', d' < 11 ∧ CT l D tys A kx d' 0 0 xs ws (fun r w => r = some (.int v) ∧ GOK ad tys GG w ∧ MID w)) ∧ ∀ w : va_W, GOK ad tys GG w → MID w → ∃ d', d' < 11 ∧ CT l D tys A km d' 0 0 ms w (fun r w2 => r = some (.int v) ∧ GOK ad tys GG w2 ∧ RELN w2)
theorem pairN_ro {kx km d1 d2 : Nat} {xs ms : List Value} {v : Int32} (hG : GOK ad tys GG ws) (hR : RELN ws) (h1 : d1 < 11) (h2 : d2 < 11) (c1 : CT l D tys A kx d1 0 0 xs ws (fun r w => w = ws ∧ r = some (.int v))) (c2 : CT l D tys A km d2 0 0 ms ws (fun r w => w = ws ∧ r = some (.int v))) : PAIRN l D tys A ad kx km xs ms ws := by
  refine ⟨v, fun w => w = ws, ⟨d1, h1, CT_post c1 (fun r w h => ?_)⟩, fun w hw K => ⟨d2, h2, ?_⟩⟩
  · obtain ⟨rfl, e⟩ := h
    exact ⟨e, hG, rfl⟩
  · subst K
    refine CT_post c2 (fun r w2 h => ?_)
    obtain ⟨rfl, e⟩ := h
    exact ⟨e, hw, hR⟩
theorem pairN_md {kx km d1 d2 : Nat} {xs ms : List Value} {v : Int32} {G G' : Nat → Int} (hR : RELN ws) (hW : W91 G ws) (hO : hOK G') (wf : HB G' → WN G') (h1 : d1 < 11) (h2 : d2 < 11) (c1 : CT l D tys A kx d1 0 0 xs ws (fun r w => GOK ad tys GG w ∧ XOT ws w ∧ r = some (.int v) ∧ HX 4 G' w)) (c2 : ∀ w : va_W, GOK ad tys GG w → W91 G w → CT l D tys A km d2 0 0 ms w (fun r w2 => GOK ad tys GG w2 ∧ MO w w2 ∧ r = some (.int v) ∧ W91 G' w2)) : PAIRN l D tys A ad kx km xs ms ws := by
  refine ⟨v, fun w => XOT ws w ∧ HX 4 G' w, ⟨d1, h1, CT_post c1 (fun r w h => ⟨h.2.2.1, h.1, h.2.1, h.2.2.2⟩)⟩, fun w hw K => ⟨d2, h2, CT_post (c2 w hw (fun j hj => (K.1.1 _ _ (by omega)).trans (hW j hj))) (fun r w2 h => ?_)⟩⟩
  obtain ⟨g1, g2, g3, g4⟩ := h
  have o : ∀ c j, ¬ ((4 ≤ c ∧ c ≤ 15) ∨ (29 ≤ c ∧ c ≤ 35)) → c ≠ 91 → rd w2 c j = rd ws c j := fun c j hc h9 => (g2 c j h9).trans (K.1.1 c j hc)
  have hX2 : HX 4 G' w2 := HX_keep K.2 (fun c i h1 h2 => g2 c i (by omega))
  have hb := hb_of g1 g4 hO
  refine ⟨g3, g1, ⟨relf_keep hR.1.1 (fun c hc j => o c j (by omega) (by omega)) (fun j _ => o 90 j (by omega) (by omega)), ⟨G', hO, hX2, g4⟩, imgs_keep hR.1.2.2 (o _ _ (by omega) (by omega)) (fun c h1 h2 j => o c j (by omega) (by omega)) (fun j => o _ _ (by omega) (by omega)) (fun j => o _ _ (by omega) (by omega))⟩, STX_keep (K.1.2 hR.2.1) (fun c j hc => g2 c j (by omega)), wn_aux (wf hb) hX2 hO hb, img3N hR.2.2.2.1 (fun c j hc => o c j (by omega) (by omega)), (o _ _ (by omega) (by omega)).trans hR.2.2.2.2.1, (o _ _ (by omega) (by omega)).trans hR.2.2.2.2.2⟩
theorem pairN_name (hAD : ∀ i : Nat, ad (1000 + i) = D.2 1000 i) (hG : GOK ad tys GG ws) (hR : RELN ws) (a1 a2 : Int32) : PAIRN l D tys A ad 5 243 [.ref (ad 0), .int a1, .int a2] [.ref (ad 90), .int a1, .int a2] ws := by
  obtain ⟨G, o, x, y⟩ := hR.1.2.1
  have c1 := nmX_ct (l := l) (D := D) (A := A) hG x (hb_of hG y o) (i32b a1) (i32b a2)
  have c2 := nmM_ct (l := l) (D := D) (A := A) hG y (hb_of hG y o) (i32b a1) (i32b a2)
  rw [oi, oi] at c1 c2
  exact pairN_ro hG hR (by omega) (by omega) c1 c2
theorem pairN_length (hAD : ∀ i : Nat, ad (1000 + i) = D.2 1000 i) (hG : GOK ad tys GG ws) (hR : RELN ws) (a1 : Int32) : PAIRN l D tys A ad 6 244 [.ref (ad 0), .int a1] [.ref (ad 90), .int a1] ws := by
  obtain ⟨G, o, x, y⟩ := hR.1.2.1
  have c1 := lnX_ct (l := l) (D := D) (A := A) hG x (hb_of hG y o) (i32b a1)
  have c2 := lnM_ct (l := l) (D := D) (A := A) hG y (hb_of hG y o) (i32b a1)
  rw [oi] at c1 c2
  exact pairN_ro hG hR (by omega) (by omega) c1 c2
theorem pairN_folk (hAD : ∀ i : Nat, ad (1000 + i) = D.2 1000 i) (hG : GOK ad tys GG ws) (hR : RELN ws) (a1 a2 : Int32) : PAIRN l D tys A ad 7 245 [.ref (ad 0), .int a1, .int a2] [.ref (ad 90), .int a1, .int a2] ws := by
  obtain ⟨G, o, x, y⟩ := hR.1.2.1
  have c1 := foX_ct (l := l) (D := D) (A := A) hG x (hb_of hG y o) (i32b a1) (i32b a2)
  have c2 := foM_ct (l := l) (D := D) (A := A) hG y (hb_of hG y o) (i32b a1) (i32b a2)
  rw [oi, oi] at c1 c2
  exact pairN_ro hG hR (by omega) (by omega) c1 c2
theorem pairN_place (hAD : ∀ i : Nat, ad (1000 + i) = D.2 1000 i) (hG : GOK ad tys GG ws) (hR : RELN ws) (a1 a2 : Int32) : PAIRN l D tys A ad 8 246 [.ref (ad 0), .int a1, .int a2] [.ref (ad 90), .int a1, .int a2] ws := by
  obtain ⟨G, o, x, y⟩ := hR.1.2.1
  have c1 := plX_ct (l := l) (D := D) (A := A) hG x (hb_of hG y o) (i32b a1) (i32b a2)
  have c2 := plM_ct (l := l) (D := D) (A := A) hG y (hb_of hG y o) (i32b a1) (i32b a2)
  rw [oi, oi] at c1 c2
  exact pairN_ro hG hR (by omega) (by omega) c1 c2
theorem pairN_saying (hAD : ∀ i : Nat, ad (1000 + i) = D.2 1000 i) (hG : GOK ad tys GG ws) (hR : RELN ws) (a1 a2 : Int32) : PAIRN l D tys A ad 9 247 [.ref (ad 0), .int a1, .int a2] [.ref (ad 90), .int a1, .int a2] ws := by
  obtain ⟨G, o, x, y⟩ := hR.1.2.1
  have c1 := syX_ct (l := l) (D := D) (A := A) hG x (hb_of hG y o) (i32b a1) (i32b a2)
  have c2 := syM_ct (l := l) (D := D) (A := A) hG y (hb_of hG y o) (i32b a1) (i32b a2)
  rw [oi, oi] at c1 c2
  exact pairN_ro hG hR (by omega) (by omega) c1 c2
theorem pairN_fault (hAD : ∀ i : Nat, ad (1000 + i) = D.2 1000 i) (hG : GOK ad tys GG ws) (hR : RELN ws) (a1 : Int32) : PAIRN l D tys A ad 4 221 [.ref (ad 0), .int a1] [.ref (ad 90), .int a1] ws := by
  obtain ⟨a, b, ⟨h1, h2⟩, h3, h4⟩ := hR.1.1.2
  exact pairN_ro hG hR (by omega) (by omega) (fltX_ct a1 hG h1 h2) (fltM_ct a1 hG h3 h4)
theorem pairN_say (hAD : ∀ i : Nat, ad (1000 + i) = D.2 1000 i) (hG : GOK ad tys GG ws) (hR : RELN ws) (a1 a2 a3 a4 : Int32) : PAIRN l D tys A ad 41 291 [.ref (ad 0), .int a1, .int a2, .int a3, .int a4] [.ref (ad 90), .int a1, .int a2, .int a3, .int a4] ws := by
  obtain ⟨G, o, x, y⟩ := hR.1.2.1
  have hb := hb_of hG y o
  have wf := aun_wf hR.2 x o hb
  have c1 := sayXS_ct (l := l) (D := D) (A := A) hAD hG x hb (i32b a1) (i32b a2) (i32b a3) (i32b a4)
  have c2 := fun (w : va_W) (hw : GOK ad tys GG w) (hy : W91 G w) => sayM_ct (l := l) (D := D) (A := A) hw hy hb (i32b a1) (i32b a2) (i32b a3) (i32b a4)
  simp only [oi] at c1 c2
  by_cases k : okSy G a1.toInt a2.toInt a3.toInt a4.toInt
  · by_cases e : G 4 = 12
    · exact pairN_md (G' := G) hR y o (fun _ => wf) (by omega) (by omega) (CT_post c1 (fun r w h => ⟨h.1, h.2.1, ((h.2.2.2 k).1 e).1, ((h.2.2.2 k).1 e).2⟩)) (fun w hw hy => CT_post (c2 w hw hy) (fun r w2 h => ⟨h.1, h.2.1, ((h.2.2.2 k).1 e).1, ((h.2.2.2 k).1 e).2⟩))
    · have e2 : G 4 < 12 := by have := hb.b4; omega
      have ob : hOK (sayG G a1.toInt a2.toInt a3.toInt a4.toInt) := hok_up (hok_up (hok_up (hok_up (hok_up o (i32b a1)) (i32b a2)) (i32b a3)) (i32b a4)) ⟨by have := hb.b4; omega, by omega⟩
      exact pairN_md (G' := sayG G a1.toInt a2.toInt a3.toInt a4.toInt) hR y ob (fun _ => WN_say wf hb.b4.1 e2 k) (by omega) (by omega) (CT_post c1 (fun r w h => ⟨h.1, h.2.1, ((h.2.2.2 k).2 e2).1, ((h.2.2.2 k).2 e2).2⟩)) (fun w hw hy => CT_post (c2 w hw hy) (fun r w2 h => ⟨h.1, h.2.1, ((h.2.2.2 k).2 e2).1, ((h.2.2.2 k).2 e2).2⟩))
  · exact pairN_md (G' := G) hR y o (fun _ => wf) (by omega) (by omega) (CT_post c1 (fun r w h => ⟨h.1, h.2.1, (h.2.2.1 k).1, (h.2.2.1 k).2⟩)) (fun w hw hy => CT_post (c2 w hw hy) (fun r w2 h => ⟨h.1, h.2.1, (h.2.2.1 k).1, (h.2.2.1 k).2⟩))
theorem pairN_unsay (hAD : ∀ i : Nat, ad (1000 + i) = D.2 1000 i) (hG : GOK ad tys GG ws) (hR : RELN ws) : PAIRN l D tys A ad 42 292 [.ref (ad 0)] [.ref (ad 90)] ws := by
  obtain ⟨G, o, x, y⟩ := hR.1.2.1
  have hb := hb_of hG y o
  have wf := aun_wf hR.2 x o hb
  have c1 := unsXS_ct (l := l) (D := D) (A := A) hAD hG x hb
  have c2 := fun (w : va_W) (hw : GOK ad tys GG w) (hy : W91 G w) => unsM_ct (l := l) (D := D) (A := A) hw hy hb
  by_cases k : 0 < G 5
  · by_cases e : G 4 = 0
    · exact pairN_md (G' := G) hR y o (fun _ => wf) (by omega) (by omega) (CT_post c1 (fun r w h => ⟨h.1, h.2.1, ((h.2.2.2 k).1 e).1, ((h.2.2.2 k).1 e).2⟩)) (fun w hw hy => CT_post (c2 w hw hy) (fun r w2 h => ⟨h.1, h.2.1, ((h.2.2.2 k).1 e).1, ((h.2.2.2 k).1 e).2⟩))
    · have e2 : 0 < G 4 := by have := hb.b4; omega
      have ob : hOK (updI G 4 (G 4 - 1)) := hok_up o ⟨by omega, by have := hb.b4; omega⟩
      exact pairN_md (G' := updI G 4 (G 4 - 1)) hR y ob (fun _ => WN_uns wf) (by omega) (by omega) (CT_post c1 (fun r w h => ⟨h.1, h.2.1, ((h.2.2.2 k).2 e2).1, ((h.2.2.2 k).2 e2).2⟩)) (fun w hw hy => CT_post (c2 w hw hy) (fun r w2 h => ⟨h.1, h.2.1, ((h.2.2.2 k).2 e2).1, ((h.2.2.2 k).2 e2).2⟩))
  · exact pairN_md (G' := G) hR y o (fun _ => wf) (by omega) (by omega) (CT_post c1 (fun r w h => ⟨h.1, h.2.1, (h.2.2.1 k).1, (h.2.2.1 k).2⟩)) (fun w hw hy => CT_post (c2 w hw hy) (fun r w2 h => ⟨h.1, h.2.1, (h.2.2.1 k).1, (h.2.2.1 k).2⟩))
theorem pairN_move (hAD : ∀ i : Nat, ad (1000 + i) = D.2 1000 i) (hG : GOK ad tys GG ws) (hR : RELN ws) (a1 a2 a3 : Int32) : PAIRN l D tys A ad 43 293 [.ref (ad 0), .int a1, .int a2, .int a3] [.ref (ad 90), .int a1, .int a2, .int a3] ws := by
  obtain ⟨G, o, x, y⟩ := hR.1.2.1
  have hb := hb_of hG y o
  have wf := aun_wf hR.2 x o hb
  have c1 := movXS_ct (l := l) (D := D) (A := A) hAD hG x hb (i32b a1) (i32b a2) (i32b a3)
  have c2 := fun (w : va_W) (hw : GOK ad tys GG w) (hy : W91 G w) => movM_ct (l := l) (D := D) (A := A) hw hy hb (i32b a1) (i32b a2) (i32b a3)
  simp only [oi] at c1 c2
  by_cases k : okMv G a1.toInt a2.toInt a3.toInt
  · exact pairN_md (G' := movG G a1.toInt a2.toInt a3.toInt) hR y (hok_up o (i32b a2)) (fun _ => WN_up wf hb.b4.2 ⟨by omega, by have := k.1; have := k.2.1; have := k.2.2; have := hb.b2; have := hb.b3; omega⟩) (by omega) (by omega) (CT_post c1 (fun r w h => ⟨h.1, h.2.1, (h.2.2.2 k).1, (h.2.2.2 k).2⟩)) (fun w hw hy => CT_post (c2 w hw hy) (fun r w2 h => ⟨h.1, h.2.1, (h.2.2.2 k).1, (h.2.2.2 k).2⟩))
  · exact pairN_md (G' := G) hR y o (fun _ => wf) (by omega) (by omega) (CT_post c1 (fun r w h => ⟨h.1, h.2.1, (h.2.2.1 k).1, (h.2.2.1 k).2⟩)) (fun w hw hy => CT_post (c2 w hw hy) (fun r w2 h => ⟨h.1, h.2.1, (h.2.2.1 k).1, (h.2.2.1 k).2⟩))
theorem pairN_teach (hAD : ∀ i : Nat, ad (1000 + i) = D.2 1000 i) (hG : GOK ad tys GG ws) (hR : RELN ws) (a1 a2 a3 a4 : Int32) : PAIRN l D tys A ad 44 294 [.ref (ad 0), .int a1, .int a2, .int a3, .int a4] [.ref (ad 90), .int a1, .int a2, .int a3, .int a4] ws := by
  obtain ⟨G, o, x, y⟩ := hR.1.2.1
  have hb := hb_of hG y o
  have wf := aun_wf hR.2 x o hb
  have c1 := teaXS_ct (l := l) (D := D) (A := A) hAD hG x hb (i32b a1) (i32b a2) (i32b a3) (i32b a4)
  have c2 := fun (w : va_W) (hw : GOK ad tys GG w) (hy : W91 G w) => teaM_ct (l := l) (D := D) (A := A) hw hy hb (i32b a1) (i32b a2) (i32b a3) (i32b a4)
  simp only [oi] at c1 c2
  by_cases k : okTe G a1.toInt a2.toInt a3.toInt a4.toInt
  · exact pairN_md (G' := teaG G a1.toInt a2.toInt a3.toInt a4.toInt) hR y (hok_up o (i32b _)) (fun _ => WN_up wf hb.b4.2 (by have := k.1; have := k.2.1; have := hb.b3; unfold teaJ; omega)) (by omega) (by omega) (CT_post c1 (fun r w h => ⟨h.1, h.2.1, (h.2.2.2 k).1, (h.2.2.2 k).2⟩)) (fun w hw hy => CT_post (c2 w hw hy) (fun r w2 h => ⟨h.1, h.2.1, (h.2.2.2 k).1, (h.2.2.2 k).2⟩))
  · exact pairN_md (G' := G) hR y o (fun _ => wf) (by omega) (by omega) (CT_post c1 (fun r w h => ⟨h.1, h.2.1, (h.2.2.1 k).1, (h.2.2.1 k).2⟩)) (fun w hw hy => CT_post (c2 w hw hy) (fun r w2 h => ⟨h.1, h.2.1, (h.2.2.1 k).1, (h.2.2.1 k).2⟩))
theorem imgs_newN {q z : Nat} {w0 w1 w2 : va_W} {G : Nat → Int} (q3 : q < 3) (z8 : z < 8) (hR : RELN w0) (o : hOK G) (hB : HB G) (hW : W91 G w0) (hX : HX 4 G w0) (hq : ∀ p, p < 3 → rd w0 93 p = some (.int (bI (z.testBit p))) ∧ (z.testBit p = true → IMG p w0)) (hx : (∀ c i, ¬ (54 + 12 * q ≤ c ∧ c ≤ 65 + 12 * q) → ¬ (c = 0 ∧ i = 12) → rd w1 c i = rd w0 c i) ∧ rd w1 0 12 = some (.int (Int32.ofInt ((z ||| 1 <<< q : Nat) : Int))) ∧ HX (54 + 12 * q) G w1) (hm : (∀ c j, ¬ (c = 92 ∧ 294 * q ≤ j ∧ j < 294 * q + 294) → ¬ (c = 93 ∧ j = q) → rd w2 c j = rd w1 c j) ∧ (∀ j, j < 294 → rd w2 92 (294 * q + j) = rd w1 91 j) ∧ rd w2 93 q = some (.int (Int32.ofInt 1))) : RELN w2 := by
  have r := imgs_new q3 z8 hR.1 o hW hX hq hx hm
  obtain ⟨x1, x2, x3⟩ := hx
  obtain ⟨m1, m2, m3⟩ := hm
  have oo : ∀ c j, ¬ (54 ≤ c ∧ c ≤ 89) → c ≠ 92 → c ≠ 93 → c ≠ 0 → rd w2 c j = rd w0 c j := fun c j h1 h2 h3 h4 => (m1 c j (by omega) (by omega)).trans (x1 c j (by omega) (by omega))
  have wf := aun_wf hR.2 hX o hB
  refine ⟨r, STX_keep hR.2.1 (fun c j hc => oo c j (by omega) (by omega) (by omega) (by omega)), by rw [hlO_keep (w := w0) (fun c j h1 h2 => oo c j (by omega) (by omega) (by omega) (by omega))]; exact hR.2.2.1, fun p p3 e => ?_, (oo _ _ (by omega) (by omega) (by omega) (by omega)).trans hR.2.2.2.2.1, (oo _ _ (by omega) (by omega) (by omega) (by omega)).trans hR.2.2.2.2.2⟩
  by_cases k : p = q
  · subst k
    exact WN_eq (fun j hj => imO_eq (HX_keep x3 (fun c i h1 h2 => m1 c i (by omega) (by omega))) hj (o j hj)) hB.b4.2 wf
  · rw [imO_keep (w := w0) (fun c j h1 h2 => (m1 c j (by omega) (by omega)).trans (x1 c j (by omega) (by omega)))]
    exact hR.2.2.2.1 p p3 (((m1 _ _ (by omega) (by omega)).trans (x1 _ _ (by omega) (by omega))).symm.trans e)
theorem pairN_image (hAD : ∀ i : Nat, ad (1000 + i) = D.2 1000 i) (hG : GOK ad tys GG ws) (hR : RELN ws) (a1 : Int32) : PAIRN l D tys A ad 67 196 [.ref (ad 0), .int a1] [.ref (ad 90), .int a1] ws := by
  obtain ⟨G, o, x, y⟩ := hR.1.2.1
  obtain ⟨z, z8, hz, hq⟩ := hR.1.2.2
  by_cases k : 0 ≤ a1.toInt ∧ a1.toInt ≤ 2
  · rcases three k with rfl | rfl | rfl
    · exact ⟨Int32.ofInt 0, _, ⟨2, by omega, CT_post (imgX_0 (l := l) (D := D) (A := A) z8 hG x hz) (fun r w h => ⟨h.1, h.2.1, h.2.2⟩)⟩, fun w hw K => ⟨4, by omega, CT_post (imgM_ct (q := 0) (by omega) hw) (fun r w2 h => ⟨h.1, h.2.1, imgs_newN (q := 0) (by omega) z8 hR o (hb_of hG y o) y x hq K h.2.2⟩)⟩⟩
    · exact ⟨Int32.ofInt 0, _, ⟨2, by omega, CT_post (imgX_1 (l := l) (D := D) (A := A) z8 hG x hz) (fun r w h => ⟨h.1, h.2.1, h.2.2⟩)⟩, fun w hw K => ⟨4, by omega, CT_post (imgM_ct (q := 1) (by omega) hw) (fun r w2 h => ⟨h.1, h.2.1, imgs_newN (q := 1) (by omega) z8 hR o (hb_of hG y o) y x hq K h.2.2⟩)⟩⟩
    · exact ⟨Int32.ofInt 0, _, ⟨2, by omega, CT_post (imgX_2 (l := l) (D := D) (A := A) z8 hG x hz) (fun r w h => ⟨h.1, h.2.1, h.2.2⟩)⟩, fun w hw K => ⟨4, by omega, CT_post (imgM_ct (q := 2) (by omega) hw) (fun r w2 h => ⟨h.1, h.2.1, imgs_newN (q := 2) (by omega) z8 hR o (hb_of hG y o) y x hq K h.2.2⟩)⟩⟩
  · have c1 := imgX_n (l := l) (D := D) (A := A) (i32b a1) k hG
    have c2 := imgM_n (l := l) (D := D) (A := A) (i32b a1) k hG
    rw [oi] at c1 c2
    exact pairN_ro hG hR (by omega) (by omega) c1 c2
theorem back_oneN {q z : Nat} {c1 : CT l D tys A 68 8 0 0 [.ref (ad 0), .int (Int32.ofInt (q : Int))] ws (fun r w => GOK ad tys GG w ∧ XOT ws w ∧ (z.testBit q = true → r = some (.int (Int32.ofInt 0)) ∧ ∀ G, HX (54 + 12 * q) G ws → HX 4 G w) ∧ (z.testBit q = false → r = some (.int (Int32.ofInt (-6))) ∧ w = ws))} (q3 : q < 3) (hG : GOK ad tys GG ws) (hR : RELN ws) (hq : rd ws 93 q = some (.int (bI (z.testBit q))) ∧ (z.testBit q = true → IMG q ws)) : PAIRN l D tys A ad 68 197 [.ref (ad 0), .int (Int32.ofInt (q : Int))] [.ref (ad 90), .int (Int32.ofInt (q : Int))] ws := by
  by_cases k : z.testBit q = true
  · obtain ⟨G, o, x, y⟩ := hq.2 k
    refine ⟨Int32.ofInt 0, fun w => XOT ws w ∧ HX 4 G w, ⟨8, by omega, CT_post c1 (fun r w h => ⟨(h.2.2.1 k).1, h.1, h.2.1, (h.2.2.1 k).2 G x⟩)⟩, fun w hw K => ⟨4, by omega, CT_post (bakM_ct (q := q) (b := z.testBit q) q3 hw ((K.1.1 _ _ (by omega)).trans hq.1)) (fun r w2 h => ?_)⟩⟩
    obtain ⟨g1, g2, g3, -⟩ := h
    have oo : ∀ c j, ¬ ((4 ≤ c ∧ c ≤ 15) ∨ (29 ≤ c ∧ c ≤ 35)) → c ≠ 91 → rd w2 c j = rd ws c j := fun c j hc h9 => (g2 c j h9).trans (K.1.1 c j hc)
    have hX2 : HX 4 G w2 := HX_keep K.2 (fun c i h1 h2 => g2 c i (by omega))
    have y2 : W91 G w2 := fun j hj => by
      rw [(g3 k).2 j hj, K.1.1 _ _ (by omega)]
      exact y j hj
    have hb := hb_of g1 y2 o
    have wf : WN G := WN_eq (G := imO q ws) (fun j hj => (imO_eq x hj (o j hj)).symm) (by rw [imO_eq x (by omega) (o 4 (by omega))]; exact hb.b4.2) (hR.2.2.2.1 q q3 (by rw [hq.1, k]))
    refine ⟨(g3 k).1, g1, ⟨relf_keep hR.1.1 (fun c hc j => oo c j (by omega) (by omega)) (fun j _ => oo 90 j (by omega) (by omega)), ⟨G, o, hX2, y2⟩, imgs_keep hR.1.2.2 (oo _ _ (by omega) (by omega)) (fun c h1 h2 j => oo c j (by omega) (by omega)) (fun j => oo _ _ (by omega) (by omega)) (fun j => oo _ _ (by omega) (by omega))⟩, STX_keep (K.1.2 hR.2.1) (fun c j hc => g2 c j (by omega)), wn_aux wf hX2 o hb, img3N hR.2.2.2.1 (fun c j hc => oo c j (by omega) (by omega)), (oo _ _ (by omega) (by omega)).trans hR.2.2.2.2.1, (oo _ _ (by omega) (by omega)).trans hR.2.2.2.2.2⟩
  · have k := Bool.eq_false_iff.mpr k
    refine pairN_ro (v := Int32.ofInt (-6)) hG hR (by omega) (by omega) (CT_post c1 (fun r w h => ⟨(h.2.2.2 k).2, (h.2.2.2 k).1⟩)) (CT_post (bakM_ct (q := q) (b := z.testBit q) q3 hG hq.1) (fun r w h => ⟨(h.2.2.2 k).2, (h.2.2.2 k).1⟩))
theorem pairN_back (hAD : ∀ i : Nat, ad (1000 + i) = D.2 1000 i) (hG : GOK ad tys GG ws) (hR : RELN ws) (a1 : Int32) : PAIRN l D tys A ad 68 197 [.ref (ad 0), .int a1] [.ref (ad 90), .int a1] ws := by
  obtain ⟨z, z8, hz, hq⟩ := hR.1.2.2
  by_cases k : 0 ≤ a1.toInt ∧ a1.toInt ≤ 2
  · rcases three k with rfl | rfl | rfl
    · obtain ⟨G0, h0⟩ := img_some (hq 0 (by omega)).2
      exact back_oneN (q := 0) (z := z) (c1 := CT_post (bakXS_0 z8 hAD hG h0 hz) (fun r w h => back_XS h h0)) (by omega) hG hR (hq 0 (by omega))
    · obtain ⟨G0, h0⟩ := img_some (hq 1 (by omega)).2
      exact back_oneN (q := 1) (z := z) (c1 := CT_post (bakXS_1 z8 hAD hG h0 hz) (fun r w h => back_XS h h0)) (by omega) hG hR (hq 1 (by omega))
    · obtain ⟨G0, h0⟩ := img_some (hq 2 (by omega)).2
      exact back_oneN (q := 2) (z := z) (c1 := CT_post (bakXS_2 z8 hAD hG h0 hz) (fun r w h => back_XS h h0)) (by omega) hG hR (hq 2 (by omega))
  · have c1 := bakX_n (l := l) (D := D) (A := A) (i32b a1) k hG
    have c2 := bakM_n (l := l) (D := D) (A := A) (i32b a1) k hG
    rw [oi] at c1 c2
    exact pairN_ro hG hR (by omega) (by omega) c1 c2
theorem pairN_feed (hAD : ∀ i : Nat, ad (1000 + i) = D.2 1000 i) (hG : GOK ad tys GG ws) (hR : RELN ws) (a1 a2 a3 a4 a5 : Int32) : PAIRN l D tys A ad 1 210 [.ref (ad 0), .int a1, .int a2, .int a3, .int a4, .int a5] [.ref (ad 90), .int a1, .int a2, .int a3, .int a4, .int a5] ws := by
  obtain ⟨v, MID, k1, k2⟩ := two_feed (l := l) (D := D) (A := A) hG hR.1.1.1 a1 a2 a3 a4 a5
  refine ⟨v, fun w => MID w ∧ ∀ c j, c ≠ 2 → c ≠ 3 → rd w c j = rd ws c j, ⟨2, by omega, CT_post k1 (fun r w h => ⟨h.1, h.2.1, h.2.2.1, h.2.2.2⟩)⟩, fun w hw K => ⟨1, by omega, CT_post (k2 w hw K.1) (fun r w2 h => ?_)⟩⟩
  obtain ⟨g1, g2, g3, g4⟩ := h
  have oo : ∀ c j, c ≠ 2 → c ≠ 3 → c ≠ 94 → c ≠ 95 → ¬ (c = 90 ∧ j = 5) → rd w2 c j = rd ws c j := fun c j h2 h3 h4 h5 h6 => (g4 c j h4 h5 h6).trans (K.2 c j h2 h3)
  exact ⟨g1, g2, ⟨⟨g3, flt_keep hR.1.1.2 (fun j => oo _ _ (by omega) (by omega) (by omega) (by omega) (by omega)) (oo _ _ (by omega) (by omega) (by omega) (by omega) (by omega)) (oo _ _ (by omega) (by omega) (by omega) (by omega) (by omega))⟩, hil_keep hR.1.2.1 (fun c h1 h2 j => oo c j (by omega) (by omega) (by omega) (by omega) (by omega)) (fun j => oo _ _ (by omega) (by omega) (by omega) (by omega) (by omega)), imgs_keep hR.1.2.2 (oo _ _ (by omega) (by omega) (by omega) (by omega) (by omega)) (fun c h1 h2 j => oo c j (by omega) (by omega) (by omega) (by omega) (by omega)) (fun j => oo _ _ (by omega) (by omega) (by omega) (by omega) (by omega)) (fun j => oo _ _ (by omega) (by omega) (by omega) (by omega) (by omega))⟩, aun_keep hR.2 (fun c j hc => oo c j (by omega) (by omega) (by omega) (by omega) (by omega))⟩
theorem pairN_end (hAD : ∀ i : Nat, ad (1000 + i) = D.2 1000 i) (hG : GOK ad tys GG ws) (hR : RELN ws) (a1 : Int32) : PAIRN l D tys A ad 2 211 [.ref (ad 0), .int a1] [.ref (ad 90), .int a1] ws := by
  obtain ⟨v, MID, k1, k2⟩ := two_end (l := l) (D := D) (A := A) hG hR.1.1.1 a1
  refine ⟨v, fun w => MID w ∧ ∀ c j, c ≠ 2 → rd w c j = rd ws c j, ⟨0, by omega, CT_post k1 (fun r w h => ⟨h.1, h.2.1, h.2.2.1, h.2.2.2⟩)⟩, fun w hw K => ⟨1, by omega, CT_post (k2 w hw K.1) (fun r w2 h => ?_)⟩⟩
  obtain ⟨g1, g2, g3, g4⟩ := h
  have oo : ∀ c j, c ≠ 2 → ¬ (c = 90 ∧ j = 5) → rd w2 c j = rd ws c j := fun c j h2 h6 => (g4 c j h6).trans (K.2 c j h2)
  exact ⟨g1, g2, ⟨⟨g3, flt_keep hR.1.1.2 (fun j => oo _ _ (by omega) (by omega)) (oo _ _ (by omega) (by omega)) (oo _ _ (by omega) (by omega))⟩, hil_keep hR.1.2.1 (fun c h1 h2 j => oo c j (by omega) (by omega)) (fun j => oo _ _ (by omega) (by omega)), imgs_keep hR.1.2.2 (oo _ _ (by omega) (by omega)) (fun c h1 h2 j => oo c j (by omega) (by omega)) (fun j => oo _ _ (by omega) (by omega)) (fun j => oo _ _ (by omega) (by omega))⟩, aun_keep hR.2 (fun c j hc => oo c j (by omega) (by omega))⟩
theorem pairN_hill (hAD : ∀ i : Nat, ad (1000 + i) = D.2 1000 i) (hG : GOK ad tys GG ws) (hR : RELN ws) : PAIRN l D tys A ad 3 233 [.ref (ad 0)] [.ref (ad 90)] ws := by
  obtain ⟨n, B, h0, ⟨h1, h2⟩, h3, h4⟩ := hR.1.1.1
  obtain ⟨v0, hv, v1, v2⟩ := celO hG g90f11 (by omega)
  have c1 := hixxS_ct (l := l) (A := A) hAD hG ⟨h1, h0, h2⟩ ⟨v1, v2⟩
  have c2 : ∀ w : va_W, GOK ad tys GG w → HXo ws w → CT l D tys A 233 10 0 0 [.ref (ad 90)] w (HMP ad tys (hillX B n v0) w) := fun w hw K => himx_ct hw h0 ((K _ _ (by omega)).trans h3) (TB_ne h4 (fun j => K _ _ (by omega))) ((K _ _ (by omega)).trans hv) ⟨v1, v2⟩
  refine ⟨if (hillX B n v0).1.2.1 = 0 then Int32.ofInt ((hillX B n v0).2.1 5) else Int32.ofInt (-4), fun w => HXo ws w ∧ rd w 2 1 = some (.int (Int32.ofInt 0)) ∧ (rd w 1 1 = some (.int (Int32.ofInt (hillX B n v0).1.2.1)) ∧ rd w 1 2 = some (.int (Int32.ofInt (hillX B n v0).1.2.2))) ∧ ((hillX B n v0).1.2.1 = 0 → HX 4 (endG (hillX B n v0)) w) ∧ (¬ (hillX B n v0).1.2.1 = 0 → ∀ c j, 4 ≤ c ∧ c ≤ 15 → rd w c j = rd ws c j) ∧ (STX ws → STX w), ⟨10, by omega, CT_post c1 (fun r w h => ?_)⟩, fun w hw K => ⟨10, by omega, CT_post (c2 w hw K.1) (fun r w2 h => ?_)⟩⟩
  · obtain ⟨⟨g1, g2, g3, g4, g5, g6, g7⟩, g8⟩ := h
    refine ⟨?_, g1, g2, g3, ⟨g4, g5⟩, fun q => (g6 q).2, fun q c j hc => (g7 q).2 c j (Or.inl hc), g8⟩
    split
    · next q => exact (g6 q).1
    · next q => exact (g7 q).1
  · obtain ⟨g1, g2, g3, g4, g5, g6, g7⟩ := h
    obtain ⟨K1, K2, K3, K4, K5, K6⟩ := K
    have oo : ∀ c j, ¬ ((c = 2 ∧ 1 ≤ j ∧ j ≤ 5) ∨ (c = 1 ∧ 1 ≤ j ∧ j ≤ 2) ∨ (4 ≤ c ∧ c ≤ 27) ∨ (29 ≤ c ∧ c ≤ 35)) → c ≠ 91 → c ≠ 96 → c ≠ 97 → c ≠ 90 → rd w2 c j = rd ws c j := fun c j a b e f g => (g2 c j b e f (by omega)).trans (K1 c j a)
    refine ⟨?_, g1, ⟨⟨⟨0, B, by omega, ⟨(g2 _ _ (by omega) (by omega) (by omega) (by omega)).trans K2, fun k hk => absurd hk (by omega)⟩, g3, fun k hk => absurd hk (by omega)⟩, _, _, ⟨(g2 _ _ (by omega) (by omega) (by omega) (by omega)).trans K3.1, (g2 _ _ (by omega) (by omega) (by omega) (by omega)).trans K3.2⟩, g4, g5⟩, ?_, imgs_keep hR.1.2.2 (oo _ _ (by omega) (by omega) (by omega) (by omega) (by omega)) (fun c h1 h2 j => oo c j (by omega) (by omega) (by omega) (by omega) (by omega)) (fun j => oo _ _ (by omega) (by omega) (by omega) (by omega) (by omega)) (fun j => oo _ _ (by omega) (by omega) (by omega) (by omega) (by omega))⟩, STX_keep (K6 hR.2.1) (fun c j hc => g2 _ _ (by omega) (by omega) (by omega) (by omega)), ?_, img3N hR.2.2.2.1 (fun c j hc => oo c j (by omega) (by omega) (by omega) (by omega) (by omega)), (g2 _ _ (by omega) (by omega) (by omega) (by omega)).trans ((K1 _ _ (by omega)).trans hR.2.2.2.2.1), (g2 _ _ (by omega) (by omega) (by omega) (by omega)).trans ((K1 _ _ (by omega)).trans hR.2.2.2.2.2)⟩
    · split
      · next q => exact (g6 q).1
      · next q => exact (g7 q).1
    · by_cases q : (hillX B n v0).1.2.1 = 0
      · obtain ⟨-, f1, f2, f3⟩ := g6 q
        exact ⟨endG (hillX B n v0), endG_ok f1 f2, HX_keep (K4 q) (fun c i h1 h2 => g2 _ _ (by omega) (by omega) (by omega) (by omega)), f3⟩
      · refine hil_keep hR.1.2.1 (fun c h1 h2 j => (g2 _ _ (by omega) (by omega) (by omega) (by omega)).trans (K5 q c j ⟨h1, h2⟩)) (fun j => ((g7 q).2 j).trans (K1 _ _ (by omega)))
    · by_cases q : (hillX B n v0).1.2.1 = 0
      · obtain ⟨-, f1, f2, f3⟩ := g6 q
        exact wn_aux (WN_hill q) (HX_keep (K4 q) (fun c i h1 h2 => g2 _ _ (by omega) (by omega) (by omega) (by omega))) (endG_ok f1 f2) (hb_of g1 f3 (endG_ok f1 f2))
      · rw [hlO_keep (w := ws) (fun c j h1 h2 => (g2 _ _ (by omega) (by omega) (by omega) (by omega)).trans (K5 q c j ⟨h1, h2⟩))]
        exact hR.2.2.1
end XWB
