section XHE
variable {l : Launch} {D : va_G} {tys : List (ClassId × FieldType)} {A : Nat → Prop} {ad : Nat → Nat} {ws : va_W}
/-- the same hill stands on both sides; the same images are kept -/
noncomputable def HIL (w : va_W) : Prop := ∃ G : Nat → Int, hOK G ∧ HX 4 G w ∧ W91 G w
noncomputable def IMG (q : Nat) (w : va_W) : Prop := ∃ G : Nat → Int, hOK G ∧ HX (54 + 12 * q) G w ∧ ∀ j, j < 294 → rd w 92 (294 * q + j) = some (.int (Int32.ofInt (G j)))
noncomputable def IMGS (w : va_W) : Prop := ∃ z : Nat, z < 8 ∧ rd w 0 12 = some (.int (Int32.ofInt (z : Int))) ∧ ∀ q, q < 3 → rd w 93 q = some (.int (bI (z.testBit q))) ∧ (z.testBit q = true → IMG q w)
noncomputable def RELH (w : va_W) : Prop := (TAPE w ∧ FLT w) ∧ HIL w ∧ IMGS w
theorem hil_keep {w0 w : va_W} (h : HIL w0) (k : ∀ c, 4 ≤ c → c ≤ 15 → ∀ j, rd w c j = rd w0 c j) (k2 : ∀ j, rd w 91 j = rd w0 91 j) : HIL w := by
  obtain ⟨G, o, x, y⟩ := h
  exact ⟨G, o, HX_keep x (fun c i h1 h2 => k c h1 (by omega) i), fun j hj => (k2 j).trans (y j hj)⟩
theorem img_keep {q : Nat} {w0 w : va_W} (h : IMG q w0) (k : ∀ c, 54 + 12 * q ≤ c → c < 66 + 12 * q → ∀ j, rd w c j = rd w0 c j) (k2 : ∀ j, 294 * q ≤ j → j < 294 * q + 294 → rd w 92 j = rd w0 92 j) : IMG q w := by
  obtain ⟨G, o, x, y⟩ := h
  exact ⟨G, o, HX_keep x (fun c i h1 h2 => k c h1 (by omega) i), fun j hj => (k2 _ (by omega) (by omega)).trans (y j hj)⟩
theorem imgs_keep {w0 w : va_W} (h : IMGS w0) (k0 : rd w 0 12 = rd w0 0 12) (k : ∀ c, 54 ≤ c → c ≤ 89 → ∀ j, rd w c j = rd w0 c j) (k2 : ∀ j, rd w 92 j = rd w0 92 j) (k3 : ∀ j, rd w 93 j = rd w0 93 j) : IMGS w := by
  obtain ⟨z, z8, hz, hq⟩ := h
  exact ⟨z, z8, k0.trans hz, fun q q3 => ⟨(k3 q).trans (hq q q3).1, fun hb => img_keep ((hq q q3).2 hb) (fun c h1 h2 => k c (by omega) (by omega)) (fun j _ _ => k2 j)⟩⟩
theorem relh_keep {w0 w : va_W} (h : RELH w0) (k : ∀ c, c ≤ 15 ∨ (54 ≤ c ∧ c ≤ 89) ∨ (91 ≤ c ∧ c ≤ 94) → ∀ j, rd w c j = rd w0 c j) (k2 : ∀ j, spK j → rd w 90 j = rd w0 90 j) : RELH w :=
  ⟨relf_keep h.1 (fun c hc j => k c (by omega) j) k2, hil_keep h.2.1 (fun c h1 h2 => k c (by omega)) (k 91 (by omega)), imgs_keep h.2.2 (k 0 (by omega) 12) (fun c h1 h2 => k c (by omega)) (k 92 (by omega)) (k 93 (by omega))⟩
/-- what a pair of answers shows -/
noncomputable def PAIRH (l : Launch) (D : va_G) (tys : List (ClassId × FieldType)) (A : Nat → Prop) (ad : Nat → Nat) (kx km : Nat) (xs ms : List Value) (ws : va_W) : Prop := ∃ v : Int32, ∃ MID : va_W → Prop, (∃ d', d' < 11 ∧ CT l D tys A kx d' 0 0 xs ws (fun r w => r = some (.int v) ∧ GOK ad tys GG w ∧ MID w)) ∧ ∀ w : va_W, GOK ad tys GG w → MID w → ∃ d', d' < 11 ∧ CT l D tys A km d' 0 0 ms w (fun r w2 => r = some (.int v) ∧ GOK ad tys GG w2 ∧ RELH w2)
/-- both sides look only -/
theorem pair_ro {kx km d1 d2 : Nat} {xs ms : List Value} {v : Int32} (hG : GOK ad tys GG ws) (hR : RELH ws) (h1 : d1 < 11) (h2 : d2 < 11) (c1 : CT l D tys A kx d1 0 0 xs ws (fun r w => w = ws ∧ r = some (.int v))) (c2 : CT l D tys A km d2 0 0 ms ws (fun r w => w = ws ∧ r = some (.int v))) : PAIRH l D tys A ad kx km xs ms ws := by
  refine ⟨v, fun w => w = ws, ⟨d1, h1, CT_post c1 (fun r w h => ?_)⟩, fun w hw K => ⟨d2, h2, ?_⟩⟩
  · obtain ⟨rfl, e⟩ := h
    exact ⟨e, hG, rfl⟩
  · subst K
    refine CT_post c2 (fun r w2 h => ?_)
    obtain ⟨rfl, e⟩ := h
    exact ⟨e, hw, hR⟩
/-- both sides change their hill alike -/
theorem pair_md {kx km d1 d2 : Nat} {xs ms : List Value} {v : Int32} {G G' : Nat → Int} (hR : RELH ws) (hW : W91 G ws) (hO : hOK G') (h1 : d1 < 11) (h2 : d2 < 11) (c1 : CT l D tys A kx d1 0 0 xs ws (fun r w => GOK ad tys GG w ∧ XO ws w ∧ r = some (.int v) ∧ HX 4 G' w)) (c2 : ∀ w : va_W, GOK ad tys GG w → W91 G w → CT l D tys A km d2 0 0 ms w (fun r w2 => GOK ad tys GG w2 ∧ MO w w2 ∧ r = some (.int v) ∧ W91 G' w2)) : PAIRH l D tys A ad kx km xs ms ws := by
  refine ⟨v, fun w => XO ws w ∧ HX 4 G' w, ⟨d1, h1, CT_post c1 (fun r w h => ⟨h.2.2.1, h.1, h.2.1, h.2.2.2⟩)⟩, fun w hw K => ⟨d2, h2, CT_post (c2 w hw (fun j hj => (K.1 _ _ (by omega)).trans (hW j hj))) (fun r w2 h => ?_)⟩⟩
  obtain ⟨g1, g2, g3, g4⟩ := h
  have o : ∀ c j, ¬ ((4 ≤ c ∧ c ≤ 15) ∨ (29 ≤ c ∧ c ≤ 35)) → c ≠ 91 → rd w2 c j = rd ws c j := fun c j hc h9 => (g2 c j h9).trans (K.1 c j hc)
  exact ⟨g3, g1, relf_keep hR.1 (fun c hc j => o c j (by omega) (by omega)) (fun j _ => o 90 j (by omega) (by omega)), ⟨G', hO, HX_keep K.2 (fun c i h1 h2 => g2 c i (by omega)), g4⟩, imgs_keep hR.2.2 (o _ _ (by omega) (by omega)) (fun c h1 h2 j => o c j (by omega) (by omega)) (fun j => o _ _ (by omega) (by omega)) (fun j => o _ _ (by omega) (by omega))⟩
theorem oi (a : Int32) : Int32.ofInt a.toInt = a := Int32.ofInt_toInt a
theorem pairH_name (hAD : ∀ i : Nat, ad (1000 + i) = D.2 1000 i) (hG : GOK ad tys GG ws) (hR : RELH ws) (a1 a2 : Int32) : PAIRH l D tys A ad 5 243 [.ref (ad 0), .int a1, .int a2] [.ref (ad 90), .int a1, .int a2] ws := by
  obtain ⟨G, o, x, y⟩ := hR.2.1
  have c1 := nmX_ct (l := l) (D := D) (A := A) hG x (hb_of hG y o) (i32b a1) (i32b a2)
  have c2 := nmM_ct (l := l) (D := D) (A := A) hG y (hb_of hG y o) (i32b a1) (i32b a2)
  rw [oi, oi] at c1 c2
  exact pair_ro hG hR (by omega) (by omega) c1 c2
theorem pairH_length (hAD : ∀ i : Nat, ad (1000 + i) = D.2 1000 i) (hG : GOK ad tys GG ws) (hR : RELH ws) (a1 : Int32) : PAIRH l D tys A ad 6 244 [.ref (ad 0), .int a1] [.ref (ad 90), .int a1] ws := by
  obtain ⟨G, o, x, y⟩ := hR.2.1
  have c1 := lnX_ct (l := l) (D := D) (A := A) hG x (hb_of hG y o) (i32b a1)
  have c2 := lnM_ct (l := l) (D := D) (A := A) hG y (hb_of hG y o) (i32b a1)
  rw [oi] at c1 c2
  exact pair_ro hG hR (by omega) (by omega) c1 c2
theorem pairH_folk (hAD : ∀ i : Nat, ad (1000 + i) = D.2 1000 i) (hG : GOK ad tys GG ws) (hR : RELH ws) (a1 a2 : Int32) : PAIRH l D tys A ad 7 245 [.ref (ad 0), .int a1, .int a2] [.ref (ad 90), .int a1, .int a2] ws := by
  obtain ⟨G, o, x, y⟩ := hR.2.1
  have c1 := foX_ct (l := l) (D := D) (A := A) hG x (hb_of hG y o) (i32b a1) (i32b a2)
  have c2 := foM_ct (l := l) (D := D) (A := A) hG y (hb_of hG y o) (i32b a1) (i32b a2)
  rw [oi, oi] at c1 c2
  exact pair_ro hG hR (by omega) (by omega) c1 c2
theorem pairH_place (hAD : ∀ i : Nat, ad (1000 + i) = D.2 1000 i) (hG : GOK ad tys GG ws) (hR : RELH ws) (a1 a2 : Int32) : PAIRH l D tys A ad 8 246 [.ref (ad 0), .int a1, .int a2] [.ref (ad 90), .int a1, .int a2] ws := by
  obtain ⟨G, o, x, y⟩ := hR.2.1
  have c1 := plX_ct (l := l) (D := D) (A := A) hG x (hb_of hG y o) (i32b a1) (i32b a2)
  have c2 := plM_ct (l := l) (D := D) (A := A) hG y (hb_of hG y o) (i32b a1) (i32b a2)
  rw [oi, oi] at c1 c2
  exact pair_ro hG hR (by omega) (by omega) c1 c2
theorem pairH_saying (hAD : ∀ i : Nat, ad (1000 + i) = D.2 1000 i) (hG : GOK ad tys GG ws) (hR : RELH ws) (a1 a2 : Int32) : PAIRH l D tys A ad 9 247 [.ref (ad 0), .int a1, .int a2] [.ref (ad 90), .int a1, .int a2] ws := by
  obtain ⟨G, o, x, y⟩ := hR.2.1
  have c1 := syX_ct (l := l) (D := D) (A := A) hG x (hb_of hG y o) (i32b a1) (i32b a2)
  have c2 := syM_ct (l := l) (D := D) (A := A) hG y (hb_of hG y o) (i32b a1) (i32b a2)
  rw [oi, oi] at c1 c2
  exact pair_ro hG hR (by omega) (by omega) c1 c2
theorem pairH_fault (hAD : ∀ i : Nat, ad (1000 + i) = D.2 1000 i) (hG : GOK ad tys GG ws) (hR : RELH ws) (a1 : Int32) : PAIRH l D tys A ad 4 221 [.ref (ad 0), .int a1] [.ref (ad 90), .int a1] ws := by
  obtain ⟨a, b, ⟨h1, h2⟩, h3, h4⟩ := hR.1.2
  exact pair_ro hG hR (by omega) (by omega) (fltX_ct a1 hG h1 h2) (fltM_ct a1 hG h3 h4)
theorem pairH_say (hAD : ∀ i : Nat, ad (1000 + i) = D.2 1000 i) (hG : GOK ad tys GG ws) (hR : RELH ws) (a1 a2 a3 a4 : Int32) : PAIRH l D tys A ad 41 291 [.ref (ad 0), .int a1, .int a2, .int a3, .int a4] [.ref (ad 90), .int a1, .int a2, .int a3, .int a4] ws := by
  obtain ⟨G, o, x, y⟩ := hR.2.1
  have hb := hb_of hG y o
  have c1 := sayX_ct (l := l) (D := D) (A := A) hAD hG x hb (i32b a1) (i32b a2) (i32b a3) (i32b a4)
  have c2 := fun (w : va_W) (hw : GOK ad tys GG w) (hy : W91 G w) => sayM_ct (l := l) (D := D) (A := A) hw hy hb (i32b a1) (i32b a2) (i32b a3) (i32b a4)
  simp only [oi] at c1 c2
  by_cases k : okSy G a1.toInt a2.toInt a3.toInt a4.toInt
  · by_cases e : G 4 = 12
    · exact pair_md (G' := G) hR y o (by omega) (by omega) (CT_post c1 (fun r w h => ⟨h.1, h.2.1, ((h.2.2.2 k).1 e).1, ((h.2.2.2 k).1 e).2⟩)) (fun w hw hy => CT_post (c2 w hw hy) (fun r w2 h => ⟨h.1, h.2.1, ((h.2.2.2 k).1 e).1, ((h.2.2.2 k).1 e).2⟩))
    · have e2 : G 4 < 12 := by have := hb.b4; omega
      have ob : hOK (sayG G a1.toInt a2.toInt a3.toInt a4.toInt) := hok_up (hok_up (hok_up (hok_up (hok_up o (i32b a1)) (i32b a2)) (i32b a3)) (i32b a4)) ⟨by have := hb.b4; omega, by omega⟩
      exact pair_md (G' := sayG G a1.toInt a2.toInt a3.toInt a4.toInt) hR y ob (by omega) (by omega) (CT_post c1 (fun r w h => ⟨h.1, h.2.1, ((h.2.2.2 k).2 e2).1, ((h.2.2.2 k).2 e2).2⟩)) (fun w hw hy => CT_post (c2 w hw hy) (fun r w2 h => ⟨h.1, h.2.1, ((h.2.2.2 k).2 e2).1, ((h.2.2.2 k).2 e2).2⟩))
  · exact pair_md (G' := G) hR y o (by omega) (by omega) (CT_post c1 (fun r w h => ⟨h.1, h.2.1, (h.2.2.1 k).1, (h.2.2.1 k).2⟩)) (fun w hw hy => CT_post (c2 w hw hy) (fun r w2 h => ⟨h.1, h.2.1, (h.2.2.1 k).1, (h.2.2.1 k).2⟩))
theorem pairH_unsay (hAD : ∀ i : Nat, ad (1000 + i) = D.2 1000 i) (hG : GOK ad tys GG ws) (hR : RELH ws) : PAIRH l D tys A ad 42 292 [.ref (ad 0)] [.ref (ad 90)] ws := by
  obtain ⟨G, o, x, y⟩ := hR.2.1
  have hb := hb_of hG y o
  have c1 := unsX_ct (l := l) (D := D) (A := A) hAD hG x hb
  have c2 := fun (w : va_W) (hw : GOK ad tys GG w) (hy : W91 G w) => unsM_ct (l := l) (D := D) (A := A) hw hy hb
  by_cases k : 0 < G 5
  · by_cases e : G 4 = 0
    · exact pair_md (G' := G) hR y o (by omega) (by omega) (CT_post c1 (fun r w h => ⟨h.1, h.2.1, ((h.2.2.2 k).1 e).1, ((h.2.2.2 k).1 e).2⟩)) (fun w hw hy => CT_post (c2 w hw hy) (fun r w2 h => ⟨h.1, h.2.1, ((h.2.2.2 k).1 e).1, ((h.2.2.2 k).1 e).2⟩))
    · have e2 : 0 < G 4 := by have := hb.b4; omega
      have ob : hOK (updI G 4 (G 4 - 1)) := hok_up o ⟨by omega, by have := hb.b4; omega⟩
      exact pair_md (G' := updI G 4 (G 4 - 1)) hR y ob (by omega) (by omega) (CT_post c1 (fun r w h => ⟨h.1, h.2.1, ((h.2.2.2 k).2 e2).1, ((h.2.2.2 k).2 e2).2⟩)) (fun w hw hy => CT_post (c2 w hw hy) (fun r w2 h => ⟨h.1, h.2.1, ((h.2.2.2 k).2 e2).1, ((h.2.2.2 k).2 e2).2⟩))
  · exact pair_md (G' := G) hR y o (by omega) (by omega) (CT_post c1 (fun r w h => ⟨h.1, h.2.1, (h.2.2.1 k).1, (h.2.2.1 k).2⟩)) (fun w hw hy => CT_post (c2 w hw hy) (fun r w2 h => ⟨h.1, h.2.1, (h.2.2.1 k).1, (h.2.2.1 k).2⟩))
theorem pairH_move (hAD : ∀ i : Nat, ad (1000 + i) = D.2 1000 i) (hG : GOK ad tys GG ws) (hR : RELH ws) (a1 a2 a3 : Int32) : PAIRH l D tys A ad 43 293 [.ref (ad 0), .int a1, .int a2, .int a3] [.ref (ad 90), .int a1, .int a2, .int a3] ws := by
  obtain ⟨G, o, x, y⟩ := hR.2.1
  have hb := hb_of hG y o
  have c1 := movX_ct (l := l) (D := D) (A := A) hAD hG x hb (i32b a1) (i32b a2) (i32b a3)
  have c2 := fun (w : va_W) (hw : GOK ad tys GG w) (hy : W91 G w) => movM_ct (l := l) (D := D) (A := A) hw hy hb (i32b a1) (i32b a2) (i32b a3)
  simp only [oi] at c1 c2
  by_cases k : okMv G a1.toInt a2.toInt a3.toInt
  · exact pair_md (G' := movG G a1.toInt a2.toInt a3.toInt) hR y (hok_up o (i32b a2)) (by omega) (by omega) (CT_post c1 (fun r w h => ⟨h.1, h.2.1, (h.2.2.2 k).1, (h.2.2.2 k).2⟩)) (fun w hw hy => CT_post (c2 w hw hy) (fun r w2 h => ⟨h.1, h.2.1, (h.2.2.2 k).1, (h.2.2.2 k).2⟩))
  · exact pair_md (G' := G) hR y o (by omega) (by omega) (CT_post c1 (fun r w h => ⟨h.1, h.2.1, (h.2.2.1 k).1, (h.2.2.1 k).2⟩)) (fun w hw hy => CT_post (c2 w hw hy) (fun r w2 h => ⟨h.1, h.2.1, (h.2.2.1 k).1, (h.2.2.1 k).2⟩))
theorem pairH_teach (hAD : ∀ i : Nat, ad (1000 + i) = D.2 1000 i) (hG : GOK ad tys GG ws) (hR : RELH ws) (a1 a2 a3 a4 : Int32) : PAIRH l D tys A ad 44 294 [.ref (ad 0), .int a1, .int a2, .int a3, .int a4] [.ref (ad 90), .int a1, .int a2, .int a3, .int a4] ws := by
  obtain ⟨G, o, x, y⟩ := hR.2.1
  have hb := hb_of hG y o
  have c1 := teaX_ct (l := l) (D := D) (A := A) hAD hG x hb (i32b a1) (i32b a2) (i32b a3) (i32b a4)
  have c2 := fun (w : va_W) (hw : GOK ad tys GG w) (hy : W91 G w) => teaM_ct (l := l) (D := D) (A := A) hw hy hb (i32b a1) (i32b a2) (i32b a3) (i32b a4)
  simp only [oi] at c1 c2
  by_cases k : okTe G a1.toInt a2.toInt a3.toInt a4.toInt
  · exact pair_md (G' := teaG G a1.toInt a2.toInt a3.toInt a4.toInt) hR y (hok_up o (i32b _)) (by omega) (by omega) (CT_post c1 (fun r w h => ⟨h.1, h.2.1, (h.2.2.2 k).1, (h.2.2.2 k).2⟩)) (fun w hw hy => CT_post (c2 w hw hy) (fun r w2 h => ⟨h.1, h.2.1, (h.2.2.2 k).1, (h.2.2.2 k).2⟩))
  · exact pair_md (G' := G) hR y o (by omega) (by omega) (CT_post c1 (fun r w h => ⟨h.1, h.2.1, (h.2.2.1 k).1, (h.2.2.1 k).2⟩)) (fun w hw hy => CT_post (c2 w hw hy) (fun r w2 h => ⟨h.1, h.2.1, (h.2.2.1 k).1, (h.2.2.1 k).2⟩))
theorem three {a : Int32} (h : 0 ≤ a.toInt ∧ a.toInt ≤ 2) : a = Int32.ofInt 0 ∨ a = Int32.ofInt 1 ∨ a = Int32.ofInt 2 := by
  rcases (show a.toInt = 0 ∨ a.toInt = 1 ∨ a.toInt = 2 by omega) with e | e | e
  · exact Or.inl (by rw [← oi a, e])
  · exact Or.inr (Or.inl (by rw [← oi a, e]))
  · exact Or.inr (Or.inr (by rw [← oi a, e]))
theorem imgs_new {q z : Nat} {w0 w1 w2 : va_W} {G : Nat → Int} (q3 : q < 3) (z8 : z < 8) (hR : RELH w0) (o : hOK G) (hW : W91 G w0) (hX : HX 4 G w0) (hq : ∀ p, p < 3 → rd w0 93 p = some (.int (bI (z.testBit p))) ∧ (z.testBit p = true → IMG p w0)) (hx : (∀ c i, ¬ (54 + 12 * q ≤ c ∧ c ≤ 65 + 12 * q) → ¬ (c = 0 ∧ i = 12) → rd w1 c i = rd w0 c i) ∧ rd w1 0 12 = some (.int (Int32.ofInt ((z ||| 1 <<< q : Nat) : Int))) ∧ HX (54 + 12 * q) G w1) (hm : (∀ c j, ¬ (c = 92 ∧ 294 * q ≤ j ∧ j < 294 * q + 294) → ¬ (c = 93 ∧ j = q) → rd w2 c j = rd w1 c j) ∧ (∀ j, j < 294 → rd w2 92 (294 * q + j) = rd w1 91 j) ∧ rd w2 93 q = some (.int (Int32.ofInt 1))) : RELH w2 := by
  obtain ⟨x1, x2, x3⟩ := hx
  obtain ⟨m1, m2, m3⟩ := hm
  obtain ⟨-, k2, -, k4⟩ := kep_k z8 q3
  have oo : ∀ c j, ¬ (54 ≤ c ∧ c ≤ 89) → c ≠ 92 → c ≠ 93 → c ≠ 0 → rd w2 c j = rd w0 c j := fun c j h1 h2 h3 h4 => (m1 c j (by omega) (by omega)).trans (x1 c j (by omega) (by omega))
  refine ⟨relf_keep hR.1 (fun c hc j => oo c j (by omega) (by omega) (by omega) (by omega)) (fun j _ => oo _ _ (by omega) (by omega) (by omega) (by omega)), hil_keep hR.2.1 (fun c h1 h2 j => oo c j (by omega) (by omega) (by omega) (by omega)) (fun j => oo _ _ (by omega) (by omega) (by omega) (by omega)), z ||| 1 <<< q, k2, (m1 _ _ (by omega) (by omega)).trans x2, fun p p3 => ?_⟩
  rw [k4 p p3]
  by_cases e : p = q
  · subst e
    rw [Nat.beq_refl, Bool.or_true]
    refine ⟨m3, fun _ => ⟨G, o, HX_keep x3 (fun c i h1 h2 => m1 c i (by omega) (by omega)), fun j hj => ?_⟩⟩
    rw [m2 j hj, x1 _ _ (by omega) (by omega)]
    exact hW j hj
  · have eb : Nat.beq p q = false := by
      cases h : Nat.beq p q
      · rfl
      · exact absurd (Nat.eq_of_beq_eq_true h) e
    rw [eb, Bool.or_false]
    refine ⟨(m1 _ _ (by omega) (by omega)).trans ((x1 _ _ (by omega) (by omega)).trans (hq p p3).1), fun hb => img_keep ((hq p p3).2 hb) (fun c h1 h2 j => (m1 c j (by omega) (by omega)).trans (x1 c j (by omega) (by omega))) (fun j h1 h2 => (m1 _ _ (by omega) (by omega)).trans (x1 _ _ (by omega) (by omega)))⟩
theorem pairH_image (hAD : ∀ i : Nat, ad (1000 + i) = D.2 1000 i) (hG : GOK ad tys GG ws) (hR : RELH ws) (a1 : Int32) : PAIRH l D tys A ad 67 196 [.ref (ad 0), .int a1] [.ref (ad 90), .int a1] ws := by
  obtain ⟨G, o, x, y⟩ := hR.2.1
  obtain ⟨z, z8, hz, hq⟩ := hR.2.2
  by_cases k : 0 ≤ a1.toInt ∧ a1.toInt ≤ 2
  · rcases three k with rfl | rfl | rfl
    · exact ⟨Int32.ofInt 0, _, ⟨2, by omega, CT_post (imgX_0 (l := l) (D := D) (A := A) z8 hG x hz) (fun r w h => ⟨h.1, h.2.1, h.2.2⟩)⟩, fun w hw K => ⟨4, by omega, CT_post (imgM_ct (q := 0) (by omega) hw) (fun r w2 h => ⟨h.1, h.2.1, imgs_new (q := 0) (by omega) z8 hR o y x hq K h.2.2⟩)⟩⟩
    · exact ⟨Int32.ofInt 0, _, ⟨2, by omega, CT_post (imgX_1 (l := l) (D := D) (A := A) z8 hG x hz) (fun r w h => ⟨h.1, h.2.1, h.2.2⟩)⟩, fun w hw K => ⟨4, by omega, CT_post (imgM_ct (q := 1) (by omega) hw) (fun r w2 h => ⟨h.1, h.2.1, imgs_new (q := 1) (by omega) z8 hR o y x hq K h.2.2⟩)⟩⟩
    · exact ⟨Int32.ofInt 0, _, ⟨2, by omega, CT_post (imgX_2 (l := l) (D := D) (A := A) z8 hG x hz) (fun r w h => ⟨h.1, h.2.1, h.2.2⟩)⟩, fun w hw K => ⟨4, by omega, CT_post (imgM_ct (q := 2) (by omega) hw) (fun r w2 h => ⟨h.1, h.2.1, imgs_new (q := 2) (by omega) z8 hR o y x hq K h.2.2⟩)⟩⟩
  · have c1 := imgX_n (l := l) (D := D) (A := A) (i32b a1) k hG
    have c2 := imgM_n (l := l) (D := D) (A := A) (i32b a1) k hG
    rw [oi] at c1 c2
    exact pair_ro hG hR (by omega) (by omega) c1 c2
theorem back_one {q z : Nat} {c1 : CT l D tys A 68 8 0 0 [.ref (ad 0), .int (Int32.ofInt (q : Int))] ws (fun r w => GOK ad tys GG w ∧ XO ws w ∧ (z.testBit q = true → r = some (.int (Int32.ofInt 0)) ∧ ∀ G, HX (54 + 12 * q) G ws → HX 4 G w) ∧ (z.testBit q = false → r = some (.int (Int32.ofInt (-6))) ∧ w = ws))} (q3 : q < 3) (hG : GOK ad tys GG ws) (hR : RELH ws) (hq : rd ws 93 q = some (.int (bI (z.testBit q))) ∧ (z.testBit q = true → IMG q ws)) : PAIRH l D tys A ad 68 197 [.ref (ad 0), .int (Int32.ofInt (q : Int))] [.ref (ad 90), .int (Int32.ofInt (q : Int))] ws := by
  by_cases k : z.testBit q = true
  · obtain ⟨G, o, x, y⟩ := hq.2 k
    refine ⟨Int32.ofInt 0, fun w => XO ws w ∧ HX 4 G w, ⟨8, by omega, CT_post c1 (fun r w h => ⟨(h.2.2.1 k).1, h.1, h.2.1, (h.2.2.1 k).2 G x⟩)⟩, fun w hw K => ⟨4, by omega, CT_post (bakM_ct (q := q) (b := z.testBit q) q3 hw ((K.1 _ _ (by omega)).trans hq.1)) (fun r w2 h => ?_)⟩⟩
    obtain ⟨g1, g2, g3, -⟩ := h
    have oo : ∀ c j, ¬ ((4 ≤ c ∧ c ≤ 15) ∨ (29 ≤ c ∧ c ≤ 35)) → c ≠ 91 → rd w2 c j = rd ws c j := fun c j hc h9 => (g2 c j h9).trans (K.1 c j hc)
    refine ⟨(g3 k).1, g1, relf_keep hR.1 (fun c hc j => oo c j (by omega) (by omega)) (fun j _ => oo 90 j (by omega) (by omega)), ⟨G, o, HX_keep K.2 (fun c i h1 h2 => g2 c i (by omega)), fun j hj => ?_⟩, imgs_keep hR.2.2 (oo _ _ (by omega) (by omega)) (fun c h1 h2 j => oo c j (by omega) (by omega)) (fun j => oo _ _ (by omega) (by omega)) (fun j => oo _ _ (by omega) (by omega))⟩
    rw [(g3 k).2 j hj, K.1 _ _ (by omega)]
    exact y j hj
  · have k := Bool.eq_false_iff.mpr k
    refine pair_ro (v := Int32.ofInt (-6)) hG hR (by omega) (by omega) (CT_post c1 (fun r w h => ⟨(h.2.2.2 k).2, (h.2.2.2 k).1⟩)) (CT_post (bakM_ct (q := q) (b := z.testBit q) q3 hG hq.1) (fun r w h => ⟨(h.2.2.2 k).2, (h.2.2.2 k).1⟩))
theorem back_X {q z : Nat} {G0 : Nat → Int} {r : Option Value} {w : va_W} (h : GOK ad tys GG w ∧ XO ws w ∧ (z.testBit q = true → r = some (.int (Int32.ofInt 0)) ∧ HX 4 G0 w) ∧ (z.testBit q = false → r = some (.int (Int32.ofInt (-6))) ∧ w = ws)) (h0 : z.testBit q = true → HX (54 + 12 * q) G0 ws) : GOK ad tys GG w ∧ XO ws w ∧ (z.testBit q = true → r = some (.int (Int32.ofInt 0)) ∧ ∀ G, HX (54 + 12 * q) G ws → HX 4 G w) ∧ (z.testBit q = false → r = some (.int (Int32.ofInt (-6))) ∧ w = ws) := by
  refine ⟨h.1, h.2.1, fun k => ⟨(h.2.2.1 k).1, fun G hX j hj => ?_⟩, h.2.2.2⟩
  have e1 := h0 k j hj
  have e2 := hX j hj
  rw [(h.2.2.1 k).2 j hj, ← e1, e2]
theorem img_some {q z : Nat} {w : va_W} (h : z.testBit q = true → IMG q w) : ∃ G0 : Nat → Int, z.testBit q = true → HX (54 + 12 * q) G0 w := by
  by_cases k : z.testBit q = true
  · obtain ⟨G, o, x, y⟩ := h k
    exact ⟨G, fun _ => x⟩
  · exact ⟨fun _ => 0, fun q => absurd q k⟩
theorem pairH_back (hAD : ∀ i : Nat, ad (1000 + i) = D.2 1000 i) (hG : GOK ad tys GG ws) (hR : RELH ws) (a1 : Int32) : PAIRH l D tys A ad 68 197 [.ref (ad 0), .int a1] [.ref (ad 90), .int a1] ws := by
  obtain ⟨z, z8, hz, hq⟩ := hR.2.2
  by_cases k : 0 ≤ a1.toInt ∧ a1.toInt ≤ 2
  · rcases three k with rfl | rfl | rfl
    · obtain ⟨G0, h0⟩ := img_some (hq 0 (by omega)).2
      exact back_one (q := 0) (z := z) (c1 := CT_post (bakX_0 z8 hAD hG h0 hz) (fun r w h => back_X h h0)) (by omega) hG hR (hq 0 (by omega))
    · obtain ⟨G0, h0⟩ := img_some (hq 1 (by omega)).2
      exact back_one (q := 1) (z := z) (c1 := CT_post (bakX_1 z8 hAD hG h0 hz) (fun r w h => back_X h h0)) (by omega) hG hR (hq 1 (by omega))
    · obtain ⟨G0, h0⟩ := img_some (hq 2 (by omega)).2
      exact back_one (q := 2) (z := z) (c1 := CT_post (bakX_2 z8 hAD hG h0 hz) (fun r w h => back_X h h0)) (by omega) hG hR (hq 2 (by omega))
  · have c1 := bakX_n (l := l) (D := D) (A := A) (i32b a1) k hG
    have c2 := bakM_n (l := l) (D := D) (A := A) (i32b a1) k hG
    rw [oi] at c1 c2
    exact pair_ro hG hR (by omega) (by omega) c1 c2
theorem pairH_feed (hAD : ∀ i : Nat, ad (1000 + i) = D.2 1000 i) (hG : GOK ad tys GG ws) (hR : RELH ws) (a1 a2 a3 a4 a5 : Int32) : PAIRH l D tys A ad 1 210 [.ref (ad 0), .int a1, .int a2, .int a3, .int a4, .int a5] [.ref (ad 90), .int a1, .int a2, .int a3, .int a4, .int a5] ws := by
  obtain ⟨v, MID, k1, k2⟩ := two_feed (l := l) (D := D) (A := A) hG hR.1.1 a1 a2 a3 a4 a5
  refine ⟨v, fun w => MID w ∧ ∀ c j, c ≠ 2 → c ≠ 3 → rd w c j = rd ws c j, ⟨2, by omega, CT_post k1 (fun r w h => ⟨h.1, h.2.1, h.2.2.1, h.2.2.2⟩)⟩, fun w hw K => ⟨1, by omega, CT_post (k2 w hw K.1) (fun r w2 h => ?_)⟩⟩
  obtain ⟨g1, g2, g3, g4⟩ := h
  have oo : ∀ c j, c ≠ 2 → c ≠ 3 → c ≠ 94 → c ≠ 95 → ¬ (c = 90 ∧ j = 5) → rd w2 c j = rd ws c j := fun c j h2 h3 h4 h5 h6 => (g4 c j h4 h5 h6).trans (K.2 c j h2 h3)
  exact ⟨g1, g2, ⟨g3, flt_keep hR.1.2 (fun j => oo _ _ (by omega) (by omega) (by omega) (by omega) (by omega)) (oo _ _ (by omega) (by omega) (by omega) (by omega) (by omega)) (oo _ _ (by omega) (by omega) (by omega) (by omega) (by omega))⟩, hil_keep hR.2.1 (fun c h1 h2 j => oo c j (by omega) (by omega) (by omega) (by omega) (by omega)) (fun j => oo _ _ (by omega) (by omega) (by omega) (by omega) (by omega)), imgs_keep hR.2.2 (oo _ _ (by omega) (by omega) (by omega) (by omega) (by omega)) (fun c h1 h2 j => oo c j (by omega) (by omega) (by omega) (by omega) (by omega)) (fun j => oo _ _ (by omega) (by omega) (by omega) (by omega) (by omega)) (fun j => oo _ _ (by omega) (by omega) (by omega) (by omega) (by omega))⟩
theorem pairH_end (hAD : ∀ i : Nat, ad (1000 + i) = D.2 1000 i) (hG : GOK ad tys GG ws) (hR : RELH ws) (a1 : Int32) : PAIRH l D tys A ad 2 211 [.ref (ad 0), .int a1] [.ref (ad 90), .int a1] ws := by
  obtain ⟨v, MID, k1, k2⟩ := two_end (l := l) (D := D) (A := A) hG hR.1.1 a1
  refine ⟨v, fun w => MID w ∧ ∀ c j, c ≠ 2 → rd w c j = rd ws c j, ⟨0, by omega, CT_post k1 (fun r w h => ⟨h.1, h.2.1, h.2.2.1, h.2.2.2⟩)⟩, fun w hw K => ⟨1, by omega, CT_post (k2 w hw K.1) (fun r w2 h => ?_)⟩⟩
  obtain ⟨g1, g2, g3, g4⟩ := h
  have oo : ∀ c j, c ≠ 2 → ¬ (c = 90 ∧ j = 5) → rd w2 c j = rd ws c j := fun c j h2 h6 => (g4 c j h6).trans (K.2 c j h2)
  exact ⟨g1, g2, ⟨g3, flt_keep hR.1.2 (fun j => oo _ _ (by omega) (by omega)) (oo _ _ (by omega) (by omega)) (oo _ _ (by omega) (by omega))⟩, hil_keep hR.2.1 (fun c h1 h2 j => oo c j (by omega) (by omega)) (fun j => oo _ _ (by omega) (by omega)), imgs_keep hR.2.2 (oo _ _ (by omega) (by omega)) (fun c h1 h2 j => oo c j (by omega) (by omega)) (fun j => oo _ _ (by omega) (by omega)) (fun j => oo _ _ (by omega) (by omega))⟩
theorem endG_ok {x : TS × (Nat → Int) × (Nat → Int)} (h1 : frB x.2.1) (h2 : tdOK x.2.2) : hOK (endG x) := fun j hj => by
  unfold endG fx
  split
  · next q =>
    have b := sprV_bd h2 (f := (j - 102) / 24) (by omega) (m := (j - 102) % 24 + 1) (by omega)
    unfold sprT
    exact ⟨by omega, by omega⟩
  · have := h1 j hj
    exact ⟨by omega, by omega⟩
theorem pairH_hill (hAD : ∀ i : Nat, ad (1000 + i) = D.2 1000 i) (hG : GOK ad tys GG ws) (hR : RELH ws) : PAIRH l D tys A ad 3 233 [.ref (ad 0)] [.ref (ad 90)] ws := by
  obtain ⟨n, B, h0, ⟨h1, h2⟩, h3, h4⟩ := hR.1.1
  obtain ⟨v0, hv, v1, v2⟩ := celO hG g90f11 (by omega)
  have c1 := hixx_ct (l := l) (A := A) hAD hG ⟨h1, h0, h2⟩ ⟨v1, v2⟩
  have c2 : ∀ w : va_W, GOK ad tys GG w → HXo ws w → CT l D tys A 233 10 0 0 [.ref (ad 90)] w (HMP ad tys (hillX B n v0) w) := fun w hw K => himx_ct hw h0 ((K _ _ (by omega)).trans h3) (TB_ne h4 (fun j => K _ _ (by omega))) ((K _ _ (by omega)).trans hv) ⟨v1, v2⟩
  refine ⟨if (hillX B n v0).1.2.1 = 0 then Int32.ofInt ((hillX B n v0).2.1 5) else Int32.ofInt (-4), fun w => HXo ws w ∧ rd w 2 1 = some (.int (Int32.ofInt 0)) ∧ (rd w 1 1 = some (.int (Int32.ofInt (hillX B n v0).1.2.1)) ∧ rd w 1 2 = some (.int (Int32.ofInt (hillX B n v0).1.2.2))) ∧ ((hillX B n v0).1.2.1 = 0 → HX 4 (endG (hillX B n v0)) w) ∧ (¬ (hillX B n v0).1.2.1 = 0 → ∀ c j, 4 ≤ c ∧ c ≤ 15 → rd w c j = rd ws c j), ⟨10, by omega, CT_post c1 (fun r w h => ?_)⟩, fun w hw K => ⟨10, by omega, CT_post (c2 w hw K.1) (fun r w2 h => ?_)⟩⟩
  · obtain ⟨g1, g2, g3, g4, g5, g6, g7⟩ := h
    refine ⟨?_, g1, g2, g3, ⟨g4, g5⟩, fun q => (g6 q).2, fun q c j hc => (g7 q).2 c j (Or.inl hc)⟩
    split
    · next q => exact (g6 q).1
    · next q => exact (g7 q).1
  · obtain ⟨g1, g2, g3, g4, g5, g6, g7⟩ := h
    obtain ⟨K1, K2, K3, K4, K5⟩ := K
    have oo : ∀ c j, ¬ ((c = 2 ∧ 1 ≤ j ∧ j ≤ 5) ∨ (c = 1 ∧ 1 ≤ j ∧ j ≤ 2) ∨ (4 ≤ c ∧ c ≤ 27) ∨ (29 ≤ c ∧ c ≤ 35)) → c ≠ 91 → c ≠ 96 → c ≠ 97 → c ≠ 90 → rd w2 c j = rd ws c j := fun c j a b e f g => (g2 c j b e f (by omega)).trans (K1 c j a)
    refine ⟨?_, g1, ⟨⟨0, B, by omega, ⟨(g2 _ _ (by omega) (by omega) (by omega) (by omega)).trans K2, fun k hk => absurd hk (by omega)⟩, g3, fun k hk => absurd hk (by omega)⟩, _, _, ⟨(g2 _ _ (by omega) (by omega) (by omega) (by omega)).trans K3.1, (g2 _ _ (by omega) (by omega) (by omega) (by omega)).trans K3.2⟩, g4, g5⟩, ?_, imgs_keep hR.2.2 (oo _ _ (by omega) (by omega) (by omega) (by omega) (by omega)) (fun c h1 h2 j => oo c j (by omega) (by omega) (by omega) (by omega) (by omega)) (fun j => oo _ _ (by omega) (by omega) (by omega) (by omega) (by omega)) (fun j => oo _ _ (by omega) (by omega) (by omega) (by omega) (by omega))⟩
    · split
      · next q => exact (g6 q).1
      · next q => exact (g7 q).1
    · by_cases q : (hillX B n v0).1.2.1 = 0
      · obtain ⟨-, f1, f2, f3⟩ := g6 q
        exact ⟨endG (hillX B n v0), endG_ok f1 f2, HX_keep (K4 q) (fun c i h1 h2 => g2 _ _ (by omega) (by omega) (by omega) (by omega)), f3⟩
      · refine hil_keep hR.2.1 (fun c h1 h2 j => (g2 _ _ (by omega) (by omega) (by omega) (by omega)).trans (K5 q c j ⟨h1, h2⟩)) (fun j => ((g7 q).2 j).trans (K1 _ _ (by omega)))
end XHE
