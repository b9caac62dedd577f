section
section XHE
variable {l : Launch} {D : va_G} {tys : List (ClassId × FieldType)} {A : Nat → Prop} {ad : Nat → Nat} {ws : va_W}
/-- the same hill stands on both sides; the same images are kept -/
noncomputable def HIL (w : va_W) : Prop := ∃ G : Nat → Int, hOK G ∧ HX 4 G w ∧ W91 G w
noncomputable def IMG (q : Nat) (w : va_W) : Prop := ∃ G : Nat → Int, hOK G ∧ HX (54 + 12 * q) G w ∧ ∀ j, j < 294 → rd w 92 (294 * q + j) = some (.int (Int32.ofInt (G j)))
noncomputable def IMGS (w : va_W) : Prop := ∃ z : Nat, z < 8 ∧ rd w 0 12 = some (.int (Int32.ofInt (z : Int))) ∧ ∀ q, q < 3 → rd w 93 q = some (.int (bI (z.testBit q))) ∧ (z.testBit q = true → IMG q w)
noncomputable def RELH (w : va_W) : Prop := (TAPE w ∧ FLT w) ∧ HIL w ∧ IMGS w
theorem hil_keep {w0 w : va_W} (h : HIL w0) (k : ∀ c, 4 ≤ c → c ≤ 15 → ∀ j, rd w c j = rd w0 c j) (k2 : ∀ j, rd w 91 j = rd w0 91 j) : HIL w := by
  obtain ⟨G, o, x, y⟩ := h
  exact ⟨G, o, HX_keep x (fun c i h1 h2 => k c h1 (by omega) i), fun j hj => (k2 j).trans (y j hj)⟩
theorem img_keep {q : Nat} {w0 w : va_W} (h : IMG q w0) (k : ∀ c, 54 + 12 * q ≤ c → c < 66 + 12 * q → ∀ j, rd w c j = rd w0 c j) (k2 : ∀ j, 294 * q ≤ j → j < 294 * q + 294 → rd w 92 j = rd w0 92 j) : IMG q w := by
  obtain ⟨G, o, x, y⟩ := h
  exact ⟨G, o, HX_keep x (fun c i h1 h2 => k c h1 (by omega) i), fun j hj => (k2 _ (by omega) (by omega)).trans (y j hj)⟩
theorem imgs_keep {w0 w : va_W} (h : IMGS w0) (k0 : rd w 0 12 = rd w0 0 12) (k : ∀ c, 54 ≤ c → c ≤ 89 → ∀ j, rd w c j = rd w0 c j) (k2 : ∀ j, rd w 92 j = rd w0 92 j) (k3 : ∀ j, rd w 93 j = rd w0 93 j) : IMGS w := by
  obtain ⟨z, z8, hz, hq⟩ := h
  exact ⟨z, z8, k0.trans hz, fun q q3 => ⟨(k3 q).trans (hq q q3).1, fun hb => img_keep ((hq q q3).2 hb) (fun c h1 h2 => k c (by omega) (by omega)) (fun j _ _ => k2 j)⟩⟩
theorem relh_keep {w0 w : va_W} (h : RELH w0) (k : ∀ c, c ≤ 15 ∨ (54 ≤ c ∧ c ≤ 89) ∨ (91 ≤ c ∧ c ≤ 94) → ∀ j, rd w c j = rd w0 c j) (k2 : ∀ j, spK j → rd w 90 j = rd w0 90 j) : RELH w :=
  ⟨relf_keep h.1 (fun c hc j => k c (by omega) j) k2, hil_keep h.2.1 (fun c h1 h2 => k c (by omega)) (k 91 (by omega)), imgs_keep h.2.2 (k 0 (by omega) 12) (fun c h1 h2 => k c (by omega)) (k 92 (by omega)) (k 93 (by omega))⟩
/-- what a pair of answers shows -/
noncomputable def PAIRH (l : Launch) (D : va_G) (tys : List (ClassId × FieldType)) (A : Nat → Prop) (ad : Nat → Nat) (kx km : Nat) (xs ms : List Value) (ws : va_W) : Prop := ∃ v : Int32, ∃ MID : va_W → Prop, (∃ d', d' < 11 ∧ CT l D tys A kx d' 0 0 xs ws (fun r w => r = some (.int v) ∧ GOK ad tys GG w ∧ MID w)) ∧ ∀ w : va_W, GOK ad tys GG w → MID w → ∃ d', d' < 11 ∧ CT l D tys A km d' 0 0 ms w (fun r w2 => r = some (.int v) ∧ GOK ad tys GG w2 ∧ RELH w2)
/-- both sides look only -/
theorem pair_ro {kx km d1 d2 : Nat} {xs ms : List Value} {v : Int32} (hG : GOK ad tys GG ws) (hR : RELH ws) (h1 : d1 < 11) (h2 : d2 < 11) (c1 : CT l D tys A kx d1 0 0 xs ws (fun r w => w = ws ∧ r = some (.int v))) (c2 : CT l D tys A km d2 0 0 ms ws (fun r w => w = ws ∧ r = some (.int v))) : PAIRH l D tys A ad kx km xs ms ws := by
  refine ⟨v, fun w => w = ws, ⟨d1, h1, CT_post c1 (fun r w h => ?_)⟩, fun w hw K => ⟨d2, h2, ?_⟩⟩
  · obtain ⟨rfl, e⟩ := h
    exact ⟨e, hG, rfl⟩
  · subst K
    refine CT_post c2 (fun r w2 h => ?_)
    obtain ⟨rfl, e⟩ := h
    exact ⟨e, hw, hR⟩
/-- both sides change their hill alike -/
theorem pair_md {kx km d1 d2 : Nat} {xs ms : List Value} {v : Int32} {G G' : Nat → Int} (hR : RELH ws) (hW : W91 G ws) (hO : hOK G') (h1 : d1 < 11) (h2 : d2 < 11) (c1 : CT l D tys A kx d1 0 0 xs ws (fun r w => GOK ad tys GG w ∧ XO ws w ∧ r = some (.int v) ∧ HX 4 G' w)) (c2 : ∀ w : va_W, GOK ad tys GG w → W91 G w → CT l D tys A km d2 0 0 ms w (fun r w2 => GOK ad tys GG w2 ∧ MO w w2 ∧ r = some (.int v) ∧ W91 G' w2)) : PAIRH l D tys A ad kx km xs ms ws := by
  refine ⟨v, fun w => XO ws w ∧ HX 4 G' w, ⟨d1, h1, CT_post c1 (fun r w h => ⟨h.2.2.1, h.1, h.2.1, h.2.2.2⟩)⟩, fun w hw K => ⟨d2, h2, CT_post (c2 w hw (fun j hj => (K.1 _ _ (by omega)).trans (hW j hj))) (fun r w2 h => ?_)⟩⟩
  obtain ⟨g1, g2, g3, g4⟩ := h
  have o : ∀ c j, ¬ ((4 ≤ c ∧ c ≤ 15) ∨ (29 ≤ c ∧ c ≤ 35)) → c ≠ 91 → rd w2 c j = rd ws c j := fun c j hc h9 => (g2 c j h9).trans (K.1 c j hc)
  exact ⟨g3, g1, relf_keep hR.1 (fun c hc j => o c j (by omega) (by omega)) (fun j _ => o 90 j (by omega) (by omega)), ⟨G', hO, HX_keep K.2 (fun c i h1 h2 => g2 c i (by omega)), g4⟩, imgs_keep hR.2.2 (o _ _ (by omega) (by omega)) (fun c h1 h2 j => o c j (by omega) (by omega)) (fun j => o _ _ (by omega) (by omega)) (fun j => o _ _ (by omega) (by omega))⟩
theorem oi (a : Int32) : Int32.ofInt a.toInt = a := Int32.ofInt_toInt a
theorem pairH_name (hAD : ∀ i : Nat, ad (1000 + i) = D.2 1000 i) (hG : GOK ad tys GG ws) (hR : RELH ws) (a1 a2 : Int32) : PAIRH l D tys A ad 5 243 [.ref (ad 0), .int a1, .int a2] [.ref (ad 90), .int a1, .int a2] ws := by
  obtain ⟨G, o, x, y⟩ := hR.2.1
  have c1 := nmX_ct (l := l) (D := D) (A := A) hG x (hb_of hG y o) (i32b a1) (i32b a2)
  have c2 := nmM_ct (l := l) (D := D) (A := A) hG y (hb_of hG y o) (i32b a1) (i32b a2)
  rw [oi, oi] at c1 c2
  exact pair_ro hG hR (by omega) (by omega) c1 c2
theorem pairH_length (hAD : ∀ i : Nat, ad (1000 + i) = D.2 1000 i) (hG : GOK ad tys GG ws) (hR : RELH ws) (a1 : Int32) : PAIRH l D tys A ad 6 244 [.ref (ad 0), .int a1] [.ref (ad 90), .int a1] ws := by
  obtain ⟨G, o, x, y⟩ := hR.2.1
  have c1 := lnX_ct (l := l) (D := D) (A := A) hG x (hb_of hG y o) (i32b a1)
  have c2 := lnM_ct (l := l) (D := D) (A := A) hG y (hb_of hG y o) (i32b a1)
  rw [oi] at c1 c2
  exact pair_ro hG hR (by omega) (by omega) c1 c2
theorem pairH_folk (hAD : ∀ i : Nat, ad (1000 + i) = D.2 1000 i) (hG : GOK ad tys GG ws) (hR : RELH ws) (a1 a2 : Int32) : PAIRH l D tys A ad 7 245 [.ref (ad 0), .int a1, .int a2] [.ref (ad 90), .int a1, .int a2] ws := by
  obtain ⟨G, o, x, y⟩ := hR.2.1
  have c1 := foX_ct (l := l) (D := D) (A := A) hG x (hb_of hG y o) (i32b a1) (i32b a2)
  have c2 := foM_ct (l := l) (D := D) (A := A) hG y (hb_of hG y o) (i32b a1) (i32b a2)
  rw [oi, oi] at c1 c2
  exact pair_ro hG hR (by omega) (by omega) c1 c2
theorem pairH_place (hAD : ∀ i : Nat, ad (1000 + i) = D.2 1000 i) (hG : GOK ad tys GG ws) (hR : RELH ws) (a1 a2 : Int32) : PAIRH l D tys A ad 8 246 [.ref (ad 0), .int a1, .int a2] [.ref (ad 90), .int a1, .int a2] ws := by
  obtain ⟨G, o, x, y⟩ := hR.2.1
  have c1 := plX_ct (l := l) (D := D) (A := A) hG x (hb_of hG y o) (i32b a1) (i32b a2)
  have c2 := plM_ct (l := l) (D := D) (A := A) hG y (hb_of hG y o) (i32b a1) (i32b a2)
  rw [oi, oi] at c1 c2
  exact pair_ro hG hR (by omega) (by omega) c1 c2
theorem pairH_saying (hAD : ∀ i : Nat, ad (1000 + i) = D.2 1000 i) (hG : GOK ad tys GG ws) (hR : RELH ws) (a1 a2 : Int32) : PAIRH l D tys A ad 9 247 [.ref (ad 0), .int a1, .int a2] [.ref (ad 90), .int a1, .int a2] ws := by
  obtain ⟨G, o, x, y⟩ := hR.2.1
  have c1 := syX_ct (l := l) (D := D) (A := A) hG x (hb_of hG y o) (i32b a1) (i32b a2)
  have c2 := syM_ct (l := l) (D := D) (A := A) hG y (hb_of hG y o) (i32b a1) (i32b a2)
  rw [oi, oi] at c1 c2
  exact pair_ro hG hR (by omega) (by omega) c1 c2
theorem pairH_fault (hAD : ∀ i : Nat, ad (1000 + i) = D.2 1000 i) (hG : GOK ad tys GG ws) (hR : RELH ws) (a1 : Int32) : PAIRH l D tys A ad 4 221 [.ref (ad 0), .int a1] [.ref (ad 90), .int a1] ws := by
  obtain ⟨a, b, ⟨h1, h2⟩, h3, h4⟩ := hR.1.2
  exact pair_ro hG hR (by omega) (by omega) (fltX_ct a1 hG h1 h2) (fltM_ct a1 hG h3 h4)
theorem pairH_say (hAD : ∀ i : Nat, ad (1000 + i) = D.2 1000 i) (hG : GOK ad tys GG ws) (hR : RELH ws) (a1 a2 a3 a4 : Int32) : PAIRH l D tys A ad 41 291 [.ref (ad 0), .int a1, .int a2, .int a3, .int a4] [.ref (ad 90), .int a1, .int a2, .int a3, .int a4] ws := by
  obtain ⟨G, o, x, y⟩ := hR.2.1
  have hb := hb_of hG y o
  have c1 := sayX_ct (l := l) (D := D) (A := A) hAD hG x hb (i32b a1) (i32b a2) (i32b a3) (i32b a4)
  have c2 := fun (w : va_W) (hw : GOK ad tys GG w) (hy : W91 G w) => sayM_ct (l := l) (D := D) (A := A) hw hy hb (i32b a1) (i32b a2) (i32b a3) (i32b a4)
  simp only [oi] at c1 c2
  by_cases k : okSy G a1.toInt a2.toInt a3.toInt a4.toInt
  · by_cases e : G 4 = 12
    · exact pair_md (G' := G) hR y o (by omega) (by omega) (CT_post c1 (fun r w h => ⟨h.1, h.2.1, ((h.2.2.2 k).1 e).1, ((h.2.2.2 k).1 e).2⟩)) (fun w hw hy => CT_post (c2 w hw hy) (fun r w2 h => ⟨h.1, h.2.1, ((h.2.2.2 k).1 e).1, ((h.2.2.2 k).1 e).2⟩))
    · have e2 : G 4 < 12 := by have := hb.b4; omega
      have ob : hOK (sayG G a1.toInt a2.toInt a3.toInt a4.toInt) := hok_up (hok_up (hok_up (hok_up (hok_up o (i32b a1)) (i32b a2)) (i32b a3)) (i32b a4)) ⟨by have := hb.b4; omega, by omega⟩
      exact pair_md (G' := sayG G a1.toInt a2.toInt a3.toInt a4.toInt) hR y ob (by omega) (by omega) (CT_post c1 (fun r w h => ⟨h.1, h.2.1, ((h.2.2.2 k).2 e2).1, ((h.2.2.2 k).2 e2).2⟩)) (fun w hw hy => CT_post (c2 w hw hy) (fun r w2 h => ⟨h.1, h.2.1, ((h.2.2.2 k).2 e2).1, ((h.2.2.2 k).2 e2).2⟩))
  · exact pair_md (G' := G) hR y o (by omega) (by omega) (CT_post c1 (fun r w h => ⟨h.1, h.2.1, (h.2.2.1 k).1, (h.2.2.1 k).2⟩)) (fun w hw hy => CT_post (c2 w hw hy) (fun r w2 h => ⟨h.1, h.2.1, (h.2.2.1 k).1, (h.2.2.1 k).2⟩))
theorem pairH_unsay (hAD : ∀ i : Nat, ad (1000 + i) = D.2 1000 i) (hG : GOK ad tys GG ws) (hR : RELH ws) : PAIRH l D tys A ad 42 292 [.ref (ad 0)] [.ref (ad 90)] ws := by
  obtain ⟨G, o, x, y⟩ := hR.2.1
  have hb := hb_of hG y o
  have c1 := unsX_ct (l := l) (D := D) (A := A) hAD hG x hb
  have c2 := fun (w : va_W) (hw : GOK ad tys GG w) (hy : W91 G w) => unsM_ct (l := l) (D := D) (A := A) hw hy hb
  by_cases k : 0 < G 5
  · by_cases e : G 4 = 0
    · exact pair_md (G' := G) hR y o (by omega) (by omega) (CT_post c1 (fun r w h => ⟨h.1, h.2.1, ((h.2.2.2 k).1 e).1, ((h.2.2.2 k).1 e).2⟩)) (fun w hw hy => CT_post (c2 w hw hy) (fun r w2 h => ⟨h.1, h.2.1, ((h.2.2.2 k).1 e).1, ((h.2.2.2 k).1 e).2⟩))
    · have e2 : 0 < G 4 := by have := hb.b4; omega
      have ob : hOK (updI G 4 (G 4 - 1)) := hok_up o ⟨by omega, by have := hb.b4; omega⟩
      exact pair_md (G' := updI G 4 (G 4 - 1)) hR y ob (by omega) (by omega) (CT_post c1 (fun r w h => ⟨h.1, h.2.1, ((h.2.2.2 k).2 e2).1, ((h.2.2.2 k).2 e2).2⟩)) (fun w hw hy => CT_post (c2 w hw hy) (fun r w2 h => ⟨h.1, h.2.1, ((h.2.2.2 k).2 e2).1, ((h.2.2.2 k).2 e2).2⟩))
  · exact pair_md (G' := G) hR y o (by omega) (by omega) (CT_post c1 (fun r w h => ⟨h.1, h.2.1, (h.2.2.1 k).1, (h.2.2.1 k).2⟩)) (fun w hw hy => CT_post (c2 w hw hy) (fun r w2 h => ⟨h.1, h.2.1, (h.2.2.1 k).1, (h.2.2.1 k).2⟩))
theorem pairH_move (hAD : ∀ i : Nat, ad (1000 + i) = D.2 1000 i) (hG : GOK ad tys GG ws) (hR : RELH ws) (a1 a2 a3 : Int32) : PAIRH l D tys A ad 43 293 [.ref (ad 0), .int a1, .int a2, .int a3] [.ref (ad 90), .int a1, .int a2, .int a3] ws := by
  obtain ⟨G, o, x, y⟩ := hR.2.1
  have hb := hb_of hG y o
  have c1 := movX_ct (l := l) (D := D) (A := A) hAD hG x hb (i32b a1) (i32b a2) (i32b a3)
  have c2 := fun (w : va_W) (hw : GOK ad tys GG w) (hy : W91 G w) => movM_ct (l := l) (D := D) (A := A) hw hy hb (i32b a1) (i32b a2) (i32b a3)
  simp only [oi] at c1 c2
  by_cases k : okMv G a1.toInt a2.toInt a3.toInt
  · exact pair_md (G' := movG G a1.toInt a2.toInt a3.toInt) hR y (hok_up o (i32b a2)) (by omega) (by omega) (CT_post c1 (fun r w h => ⟨h.1, h.2.1, (h.2.2.2 k).1, (h.2.2.2 k).2⟩)) (fun w hw hy => CT_post (c2 w hw hy) (fun r w2 h => ⟨h.1, h.2.1, (h.2.2.2 k).1, (h.2.2.2 k).2⟩))
  · exact pair_md (G' := G) hR y o (by omega) (by omega) (CT_post c1 (fun r w h => ⟨h.1, h.2.1, (h.2.2.1 k).1, (h.2.2.1 k).2⟩)) (fun w hw hy => CT_post (c2 w hw hy) (fun r w2 h => ⟨h.1, h.2.1, (h.2.2.1 k).1, (h.2.2.1 k).2⟩))
theorem pairH_teach (hAD : ∀ i : Nat, ad (1000 + i) = D.2 1000 i) (hG : GOK ad tys GG ws) (hR : RELH ws) (a1 a2 a3 a4 : Int32) : PAIRH l D tys A ad 44 294 [.ref (ad 0), .int a1, .int a2, .int a3, .int a4] [.ref (ad 90), .int a1, .int a2, .int a3, .int a4] ws := by
  obtain ⟨G, o, x, y⟩ := hR.2.1
  have hb := hb_of hG y o
  have c1 := teaX_ct (l := l) (D := D) (A := A) hAD hG x hb (i32b a1) (i32b a2) (i32b a3) (i32b a4)
  have c2 := fun (w : va_W) (hw : GOK ad tys GG w) (hy : W91 G w) => teaM_ct (l := l) (D := D) (A := A) hw hy hb (i32b a1) (i32b a2) (i32b a3) (i32b a4)
  simp only [oi] at c1 c2
  by_cases k : okTe G a1.toInt a2.toInt a3.toInt a4.toInt
  · exact pair_md (G' := teaG G a1.toInt a2.toInt a3.toInt a4.toInt) hR y (hok_up o (i32b _)) (by omega) (by omega) (CT_post c1 (fun r w h => ⟨h.1, h.2.1, (h.2.2.2 k).1, (h.2.2.2 k).2⟩)) (fun w hw hy => CT_post (c2 w hw hy) (fun r w2 h => ⟨h.1, h.2.1, (h.2.2.2 k).1, (h.2.2.2 k).2⟩))
  · exact pair_md (G' := G) hR y o (by omega) (by omega) (CT_post c1 (fun r w h => ⟨h.1, h.2.1, (h.2.2.1 k).1, (h.2.2.1 k).2⟩)) (fun w hw hy => CT_post (c2 w hw hy) (fun r w2 h => ⟨h.1, h.2.1, (h.2.2.1 k).1, (h.2.2.1 k).2⟩))
theorem three {a : Int32} (h : 0 ≤ a.toInt ∧ a.toInt ≤ 2) : a = Int32.ofInt 0 ∨ a = Int32.ofInt 1 ∨ a = Int32.ofInt 2 := by
  rcases (show a.toInt = 0 ∨ a.toInt = 1 ∨ a.toInt = 2 by omega) with e | e | e
  · exact Or.inl (by rw [← oi a, e])
  · exact Or.inr (Or.inl (by rw [← oi a, e]))
  · exact Or.inr (Or.inr (by rw [← oi a, e]))
theorem imgs_new {q z : Nat} {w0 w1 w2 : va_W} {G : Nat → Int} (q3 : q < 3) (z8 : z < 8) (hR : RELH w0) (o : hOK G) (hW : W91 G w0) (hX : HX 4 G w0) (hq : ∀ p, p < 3 → rd w0 93 p = some (.int (bI (z.testBit p))) ∧ (z.testBit p = true → IMG p w0)) (hx : (∀ c i, ¬ (54 + 12 * q ≤ c ∧ c ≤ 65 + 12 * q) → ¬ (c = 0 ∧ i = 12) → rd w1 c i = rd w0 c i) ∧ rd w1 0 12 = some (.int (Int32.ofInt ((z ||| 1 <<< q : Nat) : Int))) ∧ HX (54 + 12 * q) G w1) (hm : (∀ c j, ¬ (c = 92 ∧ 294 * q ≤ j ∧ j < 294 * q + 294) → ¬ (c = 93 ∧ j = q) → rd w2 c j = rd w1 c j) ∧ (∀ j, j < 294 → rd w2 92 (294 * q + j) = rd w1 91 j) ∧ rd w2 93 q = some (.int (Int32.ofInt 1))) : RELH w2 := by
  obtain ⟨x1, x2, x3⟩ := hx
  obtain ⟨m1, m2, m3⟩ := hm
  obtain ⟨-, k2, -, k4⟩ := kep_k z8 q3
  have oo : ∀ c j, ¬ (54 ≤ c ∧ c ≤ 89) → c ≠ 92 → c ≠ 93 → c ≠ 0 → rd w2 c j = rd w0 c j := fun c j h1 h2 h3 h4 => (m1 c j (by omega) (by omega)).trans (x1 c j (by omega) (by omega))
  refine ⟨relf_keep hR.1 (fun c hc j => oo c j (by omega) (by omega) (by omega) (by omega)) (fun j _ => oo _ _ (by omega) (by omega) (by omega) (by omega)), hil_keep hR.2.1 (fun c h1 h2 j => oo c j (by omega) (by omega) (by omega) (by omega)) (fun j => oo _ _ (by omega) (by omega) (by omega) (by omega)), z ||| 1 <<< q, k2, (m1 _ _ (by omega) (by omega)).trans x2, fun p p3 => ?_⟩
  rw [k4 p p3]
  by_cases e : p = q
  · subst e
    rw [Nat.beq_refl, Bool.or_true]
    refine ⟨m3, fun _ => ⟨G, o, HX_keep x3 (fun c i h1 h2 => m1 c i (by omega) (by omega)), fun j hj => ?_⟩⟩
    rw [m2 j hj, x1 _ _ (by omega) (by omega)]
    exact hW j hj
  · have eb : Nat.beq p q = false := by
      cases h : Nat.beq p q
      · rfl
      · exact absurd (Nat.eq_of_beq_eq_true h) e
    rw [eb, Bool.or_false]
    refine ⟨(m1 _ _ (by omega) (by omega)).trans ((x1 _ _ (by omega) (by omega)).trans (hq p p3).1), fun hb => img_keep ((hq p p3).2 hb) (fun c h1 h2 j => (m1 c j (by omega) (by omega)).trans (x1 c j (by omega) (by omega))) (fun j h1 h2 => (m1 _ _ (by omega) (by omega)).trans (x1 _ _ (by omega) (by omega)))⟩
theorem pairH_image (hAD : ∀ i : Nat, ad (1000 + i) = D.2 1000 i) (hG : GOK ad tys GG ws) (hR : RELH ws) (a1 : Int32) : PAIRH l D tys A ad 67 196 [.ref (ad 0), .int a1] [.ref (ad 90), .int a1] ws := by
  obtain ⟨G, o, x, y⟩ := hR.2.1
  obtain ⟨z, z8, hz, hq⟩ := hR.2.2
  by_cases k : 0 ≤ a1.toInt ∧ a1.toInt ≤ 2
  · rcases three k with rfl | rfl | rfl
    · exact ⟨Int32.ofInt 0, _, ⟨2, by omega, CT_post (imgX_0 (l := l) (D := D) (A := A) z8 hG x hz) (fun r w h => ⟨h.1, h.2.1, h.2.2⟩)⟩, fun w hw K => ⟨4, by omega, CT_post (imgM_ct (q := 0) (by omega) hw) (fun r w2 h => ⟨h.1, h.2.1, imgs_new (q := 0) (by omega) z8 hR o y x hq K h.2.2⟩)⟩⟩
    · exact ⟨Int32.ofInt 0, _, ⟨2, by omega, CT_post (imgX_1 (l := l) (D := D) (A := A) z8 hG x hz) (fun r w h => ⟨h.1, h.2.1, h.2.2⟩)⟩, fun w hw K => ⟨4, by omega, CT_post (imgM_ct (q := 1) (by omega) hw) (fun r w2 h => ⟨h.1, h.2.1, imgs_new (q := 1) (by omega) z8 hR o y x hq K h.2.2⟩)⟩⟩
    · exact ⟨Int32.ofInt 0, _, ⟨2, by omega, CT_post (imgX_2 (l := l) (D := D) (A := A) z8 hG x hz) (fun r w h => ⟨h.1, h.2.1, h.2.2⟩)⟩, fun w hw K => ⟨4, by omega, CT_post (imgM_ct (q := 2) (by omega) hw) (fun r w2 h => ⟨h.1, h.2.1, imgs_new (q := 2) (by omega) z8 hR o y x hq K h.2.2⟩)⟩⟩
  · have c1 := imgX_n (l := l) (D := D) (A := A) (i32b a1) k hG
    have c2 := imgM_n (l := l) (D := D) (A := A) (i32b a1) k hG
    rw [oi] at c1 c2
    exact pair_ro hG hR (by omega) (by omega) c1 c2
theorem back_one {q z : Nat} {c1 : CT l D tys A 68 8 0 0 [.ref (ad 0), .int (Int32.ofInt (q : Int))] ws (fun r w => GOK ad tys GG w ∧ XO ws w ∧ (z.testBit q = true → r = some (.int (Int32.ofInt 0)) ∧ ∀ G, HX (54 + 12 * q) G ws → HX 4 G w) ∧ (z.testBit q = false → r = some (.int (Int32.ofInt (-6))) ∧ w = ws))} (q3 : q < 3) (hG : GOK ad tys GG ws) (hR : RELH ws) (hq : rd ws 93 q = some (.int (bI (z.testBit q))) ∧ (z.testBit q = true → IMG q ws)) : PAIRH l D tys A ad 68 197 [.ref (ad 0), .int (Int32.ofInt (q : Int))] [.ref (ad 90), .int (Int32.ofInt (q : Int))] ws := by
  by_cases k : z.testBit q = true
  · obtain ⟨G, o, x, y⟩ := hq.2 k
    refine ⟨Int32.ofInt 0, fun w => XO ws w ∧ HX 4 G w, ⟨8, by omega, CT_post c1 (fun r w h => ⟨(h.2.2.1 k).1, h.1, h.2.1, (h.2.2.1 k).2 G x⟩)⟩, fun w hw K => ⟨4, by omega, CT_post (bakM_ct (q := q) (b := z.testBit q) q3 hw ((K.1 _ _ (by omega)).trans hq.1)) (fun r w2 h => ?_)⟩⟩
    obtain ⟨g1, g2, g3, -⟩ := h
    have oo : ∀ c j, ¬ ((4 ≤ c ∧ c ≤ 15) ∨ (29 ≤ c ∧ c ≤ 35)) → c ≠ 91 → rd w2 c j = rd ws c j := fun c j hc h9 => (g2 c j h9).trans (K.1 c j hc)
    refine ⟨(g3 k).1, g1, relf_keep hR.1 (fun c hc j => oo c j (by omega) (by omega)) (fun j _ => oo 90 j (by omega) (by omega)), ⟨G, o, HX_keep K.2 (fun c i h1 h2 => g2 c i (by omega)), fun j hj => ?_⟩, imgs_keep hR.2.2 (oo _ _ (by omega) (by omega)) (fun c h1 h2 j => oo c j (by omega) (by omega)) (fun j => oo _ _ (by omega) (by omega)) (fun j => oo _ _ (by omega) (by omega))⟩
    rw [(g3 k).2 j hj, K.1 _ _ (by omega)]
    exact y j hj
  · have k := Bool.eq_false_iff.mpr k
    refine pair_ro (v := Int32.ofInt (-6)) hG hR (by omega) (by omega) (CT_post c1 (fun r w h => ⟨(h.2.2.2 k).2, (h.2.2.2 k).1⟩)) (CT_post (bakM_ct (q := q) (b := z.testBit q) q3 hG hq.1) (fun r w h => ⟨(h.2.2.2 k).2, (h.2.2.2 k).1⟩))
theorem back_X {q z : Nat} {G0 : Nat → Int} {r : Option Value} {w : va_W} (h : GOK ad tys GG w ∧ XO ws w ∧ (z.testBit q = true → r = some (.int (Int32.ofInt 0)) ∧ HX 4 G0 w) ∧ (z.testBit q = false → r = some (.int (Int32.ofInt (-6))) ∧ w = ws)) (h0 : z.testBit q = true → HX (54 + 12 * q) G0 ws) : GOK ad tys GG w ∧ XO ws w ∧ (z.testBit q = true → r = some (.int (Int32.ofInt 0)) ∧ ∀ G, HX (54 + 12 * q) G ws → HX 4 G w) ∧ (z.testBit q = false → r = some (.int (Int32.ofInt (-6))) ∧ w = ws) := by
  refine ⟨h.1, h.2.1, fun k => ⟨(h.2.2.1 k).1, fun G hX j hj => ?_⟩, h.2.2.2⟩
  have e1 := h0 k j hj
  have e2 := hX j hj
  rw [(h.2.2.1 k).2 j hj, ← e1, e2]
theorem img_some {q z : Nat} {w : va_W} (h : z.testBit q = true → IMG q w) : ∃ G0 : Nat → Int, z.testBit q = true → HX (54 + 12 * q) G0 w := by
  by_cases k : z.testBit q = true
  · obtain ⟨G, o, x, y⟩ := h k
    exact ⟨G, fun _ => x⟩
  · exact ⟨fun _ => 0, fun q => absurd q k⟩
theorem pairH_back (hAD : ∀ i : Nat, ad (1000 + i) = D.2 1000 i) (hG : GOK ad tys GG ws) (hR : RELH ws) (a1 : Int32) : PAIRH l D tys A ad 68 197 [.ref (ad 0), .int a1] [.ref (ad 90), .int a1] ws := by
  obtain ⟨z, z8, hz, hq⟩ := hR.2.2
  by_cases k : 0 ≤ a1.toInt ∧ a1.toInt ≤ 2
  · rcases three k with rfl | rfl | rfl
    · obtain ⟨G0, h0⟩ := img_some (hq 0 (by omega)).2
      exact back_one (q := 0) (z := z) (c1 := CT_post (bakX_0 z8 hAD hG h0 hz) (fun r w h => back_X h h0)) (by omega) hG hR (hq 0 (by omega))
    · obtain ⟨G0, h0⟩ := img_some (hq 1 (by omega)).2
      exact back_one (q := 1) (z := z) (c1 := CT_post (bakX_1 z8 hAD hG h0 hz) (fun r w h => back_X h h0)) (by omega) hG hR (hq 1 (by omega))
    · obtain ⟨G0, h0⟩ := img_some (hq 2 (by omega)).2
      exact back_one (q := 2) (z := z) (c1 := CT_post (bakX_2 z8 hAD hG h0 hz) (fun r w h => back_X h h0)) (by omega) hG hR (hq 2 (by omega))
  · have c1 := bakX_n (l := l) (D := D) (A := A) (i32b a1) k hG
    have c2 := bakM_n (l := l) (D := D) (A := A) (i32b a1) k hG
    rw [oi] at c1 c2
    exact pair_ro hG hR (by omega) (by omega) c1 c2
theorem pairH_feed (hAD : ∀ i : Nat, ad (1000 + i) = D.2 1000 i) (hG : GOK ad tys GG ws) (hR : RELH ws) (a1 a2 a3 a4 a5 : Int32) : PAIRH l D tys A ad 1 210 [.ref (ad 0), .int a1, .int a2, .int a3, .int a4, .int a5] [.ref (ad 90), .int a1, .int a2, .int a3, .int a4, .int a5] ws := by
  obtain ⟨v, MID, k1, k2⟩ := two_feed (l := l) (D := D) (A := A) hG hR.1.1 a1 a2 a3 a4 a5
  refine ⟨v, fun w => MID w ∧ ∀ c j, c ≠ 2 → c ≠ 3 → rd w c j = rd ws c j, ⟨2, by omega, CT_post k1 (fun r w h => ⟨h.1, h.2.1, h.2.2.1, h.2.2.2⟩)⟩, fun w hw K => ⟨1, by omega, CT_post (k2 w hw K.1) (fun r w2 h => ?_)⟩⟩
  obtain ⟨g1, g2, g3, g4⟩ := h
  have oo : ∀ c j, c ≠ 2 → c ≠ 3 → c ≠ 94 → c ≠ 95 → ¬ (c = 90 ∧ j = 5) → rd w2 c j = rd ws c j := fun c j h2 h3 h4 h5 h6 => (g4 c j h4 h5 h6).trans (K.2 c j h2 h3)
  exact ⟨g1, g2, ⟨g3, flt_keep hR.1.2 (fun j => oo _ _ (by omega) (by omega) (by omega) (by omega) (by omega)) (oo _ _ (by omega) (by omega) (by omega) (by omega) (by omega)) (oo _ _ (by omega) (by omega) (by omega) (by omega) (by omega))⟩, hil_keep hR.2.1 (fun c h1 h2 j => oo c j (by omega) (by omega) (by omega) (by omega) (by omega)) (fun j => oo _ _ (by omega) (by omega) (by omega) (by omega) (by omega)), imgs_keep hR.2.2 (oo _ _ (by omega) (by omega) (by omega) (by omega) (by omega)) (fun c h1 h2 j => oo c j (by omega) (by omega) (by omega) (by omega) (by omega)) (fun j => oo _ _ (by omega) (by omega) (by omega) (by omega) (by omega)) (fun j => oo _ _ (by omega) (by omega) (by omega) (by omega) (by omega))⟩
theorem pairH_end (hAD : ∀ i : Nat, ad (1000 + i) = D.2 1000 i) (hG : GOK ad tys GG ws) (hR : RELH ws) (a1 : Int32) : PAIRH l D tys A ad 2 211 [.ref (ad 0), .int a1] [.ref (ad 90), .int a1] ws := by
  obtain ⟨v, MID, k1, k2⟩ := two_end (l := l) (D := D) (A := A) hG hR.1.1 a1
  refine ⟨v, fun w => MID w ∧ ∀ c j, c ≠ 2 → rd w c j = rd ws c j, ⟨0, by omega, CT_post k1 (fun r w h => ⟨h.1, h.2.1, h.2.2.1, h.2.2.2⟩)⟩, fun w hw K => ⟨1, by omega, CT_post (k2 w hw K.1) (fun r w2 h => ?_)⟩⟩
  obtain ⟨g1, g2, g3, g4⟩ := h
  have oo : ∀ c j, c ≠ 2 → ¬ (c = 90 ∧ j = 5) → rd w2 c j = rd ws c j := fun c j h2 h6 => (g4 c j h6).trans (K.2 c j h2)
  exact ⟨g1, g2, ⟨g3, flt_keep hR.1.2 (fun j => oo _ _ (by omega) (by omega)) (oo _ _ (by omega) (by omega)) (oo _ _ (by omega) (by omega))⟩, hil_keep hR.2.1 (fun c h1 h2 j => oo c j (by omega) (by omega)) (fun j => oo _ _ (by omega) (by omega)), imgs_keep hR.2.2 (oo _ _ (by omega) (by omega)) (fun c h1 h2 j => oo c j (by omega) (by omega)) (fun j => oo _ _ (by omega) (by omega)) (fun j => oo _ _ (by omega) (by omega))⟩
theorem endG_ok {x : TS × (Nat → Int) × (Nat → Int)} (h1 : frB x.2.1) (h2 : tdOK x.2.2) : hOK (endG x) := fun j hj => by
  unfold endG fx
  split
  · next q =>
    have b := sprV_bd h2 (f := (j - 102) / 24) (by omega) (m := (j - 102) % 24 + 1) (by omega)
    unfold sprT
    exact ⟨by omega, by omega⟩
  · have := h1 j hj
    exact ⟨by omega, by omega⟩
theorem pairH_hill (hAD : ∀ i : Nat, ad (1000 + i) = D.2 1000 i) (hG : GOK ad tys GG ws) (hR : RELH ws) : PAIRH l D tys A ad 3 233 [.ref (ad 0)] [.ref (ad 90)] ws := by
  obtain ⟨n, B, h0, ⟨h1, h2⟩, h3, h4⟩ := hR.1.1
  obtain ⟨v0, hv, v1, v2⟩ := celO hG g90f11 (by omega)
  have c1 := hixx_ct (l := l) (A := A) hAD hG ⟨h1, h0, h2⟩ ⟨v1, v2⟩
  have c2 : ∀ w : va_W, GOK ad tys GG w → HXo ws w → CT l D tys A 233 10 0 0 [.ref (ad 90)] w (HMP ad tys (hillX B n v0) w) := fun w hw K => himx_ct hw h0 ((K _ _ (by omega)).trans h3) (TB_ne h4 (fun j => K _ _ (by omega))) ((K _ _ (by omega)).trans hv) ⟨v1, v2⟩
  refine ⟨if (hillX B n v0).1.2.1 = 0 then Int32.ofInt ((hillX B n v0).2.1 5) else Int32.ofInt (-4), fun w => HXo ws w ∧ rd w 2 1 = some (.int (Int32.ofInt 0)) ∧ (rd w 1 1 = some (.int (Int32.ofInt (hillX B n v0).1.2.1)) ∧ rd w 1 2 = some (.int (Int32.ofInt (hillX B n v0).1.2.2))) ∧ ((hillX B n v0).1.2.1 = 0 → HX 4 (endG (hillX B n v0)) w) ∧ (¬ (hillX B n v0).1.2.1 = 0 → ∀ c j, 4 ≤ c ∧ c ≤ 15 → rd w c j = rd ws c j), ⟨10, by omega, CT_post c1 (fun r w h => ?_)⟩, fun w hw K => ⟨10, by omega, CT_post (c2 w hw K.1) (fun r w2 h => ?_)⟩⟩
  · obtain ⟨g1, g2, g3, g4, g5, g6, g7⟩ := h
    refine ⟨?_, g1, g2, g3, ⟨g4, g5⟩, fun q => (g6 q).2, fun q c j hc => (g7 q).2 c j (Or.inl hc)⟩
    split
    · next q => exact (g6 q).1
    · next q => exact (g7 q).1
  · obtain ⟨g1, g2, g3, g4, g5, g6, g7⟩ := h
    obtain ⟨K1, K2, K3, K4, K5⟩ := K
    have oo : ∀ c j, ¬ ((c = 2 ∧ 1 ≤ j ∧ j ≤ 5) ∨ (c = 1 ∧ 1 ≤ j ∧ j ≤ 2) ∨ (4 ≤ c ∧ c ≤ 27) ∨ (29 ≤ c ∧ c ≤ 35)) → c ≠ 91 → c ≠ 96 → c ≠ 97 → c ≠ 90 → rd w2 c j = rd ws c j := fun c j a b e f g => (g2 c j b e f (by omega)).trans (K1 c j a)
    refine ⟨?_, g1, ⟨⟨0, B, by omega, ⟨(g2 _ _ (by omega) (by omega) (by omega) (by omega)).trans K2, fun k hk => absurd hk (by omega)⟩, g3, fun k hk => absurd hk (by omega)⟩, _, _, ⟨(g2 _ _ (by omega) (by omega) (by omega) (by omega)).trans K3.1, (g2 _ _ (by omega) (by omega) (by omega) (by omega)).trans K3.2⟩, g4, g5⟩, ?_, imgs_keep hR.2.2 (oo _ _ (by omega) (by omega) (by omega) (by omega) (by omega)) (fun c h1 h2 j => oo c j (by omega) (by omega) (by omega) (by omega) (by omega)) (fun j => oo _ _ (by omega) (by omega) (by omega) (by omega) (by omega)) (fun j => oo _ _ (by omega) (by omega) (by omega) (by omega) (by omega))⟩
    · split
      · next q => exact (g6 q).1
      · next q => exact (g7 q).1
    · by_cases q : (hillX B n v0).1.2.1 = 0
      · obtain ⟨-, f1, f2, f3⟩ := g6 q
        exact ⟨endG (hillX B n v0), endG_ok f1 f2, HX_keep (K4 q) (fun c i h1 h2 => g2 _ _ (by omega) (by omega) (by omega) (by omega)), f3⟩
      · refine hil_keep hR.2.1 (fun c h1 h2 j => (g2 _ _ (by omega) (by omega) (by omega) (by omega)).trans (K5 q c j ⟨h1, h2⟩)) (fun j => ((g7 q).2 j).trans (K1 _ _ (by omega)))
end XHE
end
section
section XHF
variable {l : Launch} {D : va_G} {tys : List (ClassId × FieldType)} {A : Nat → Prop} {ad : Nat → Nat} {ws : va_W}
/-- bits of those from i on, m of them, that P holds of -/
noncomputable def orS (P : Nat → Bool) : Nat → Nat → Int32 → Int32
  | 0, _, s => s
  | m + 1, i, s => orS P m (i + 1) (if P i = true then ibF 6 s (ibF 8 (Int32.ofInt 1) (Int32.ofInt (i : Int))) else s)
theorem or0 (s : Int32) : ibF 6 s (Int32.ofInt 0) = s := by
  show s ||| 0 = s
  exact Int32.or_zero
/-- syllables alike from i on -/
noncomputable def eqR (G : Nat → Int) (a b : Nat) : Nat → Nat → Bool
  | 0, _ => true
  | m + 1, i => decide (G (7 + 7 * a + i) = G (7 + 7 * b + i)) && eqR G a b m (i + 1)
noncomputable def begS (G : Nat → Int) (a b : Nat) : Bool := decide (G (6 + 7 * a) ≤ G (6 + 7 * b)) && eqR G a b (G (6 + 7 * a)).toNat 0
theorem eqR_comm {G : Nat → Int} {a b : Nat} : ∀ {m i : Nat}, eqR G a b m i = eqR G b a m i
  | 0, i => rfl
  | m + 1, i => by
    unfold eqR
    rw [eqR_comm, show decide (G (7 + 7 * a + i) = G (7 + 7 * b + i)) = decide (G (7 + 7 * b + i) = G (7 + 7 * a + i)) from decide_eq_decide.mpr ⟨fun h => h.symm, fun h => h.symm⟩]
/-- both begin with each other: as long, and the one begins with the other -/
theorem beg_both {G : Nat → Int} {a b : Nat} : (begS G a b && begS G b a) = (decide (G (6 + 7 * a) = G (6 + 7 * b)) && begS G a b) := by
  unfold begS
  by_cases e : G (6 + 7 * a) = G (6 + 7 * b)
  · rw [← e, eqR_comm (a := b) (b := a), decide_eq_true (Int.le_refl _), decide_eq_true rfl, Bool.true_and, Bool.true_and, Bool.and_self]
  · rw [decide_eq_false e, Bool.false_and]
    by_cases h : G (6 + 7 * a) ≤ G (6 + 7 * b)
    · rw [show decide (G (6 + 7 * b) ≤ G (6 + 7 * a)) = false from decide_eq_false (by omega), Bool.false_and, Bool.and_false]
    · rw [decide_eq_false h, Bool.false_and, Bool.false_and]
theorem beX_17 {G : Nat → Int} (hG : GOK ad tys GG ws) (hX : HX 4 G ws) (hB : HB G) {a b : Nat} (ha : a < 6) (hb : b < 6) (hl : G (6 + 7 * a) ≤ G (6 + 7 * b)) : ∀ (m i : Nat), ((i + m : Nat) : Int) = G (6 + 7 * a) → V l D tys A 114 2 0 0 (fun r w => w = ws ∧ r = some (.int (bI (eqR G a b m i)))) 0 0 17 [(0, .ref (ad 4)), (1, .int (Int32.ofInt (a : Int))), (2, .int (Int32.ofInt (b : Int))), (3, .int (Int32.ofInt (i : Int)))] [] ws
  | 0, i, hm => by
    have bla := hB.bl a ha
    refine V_iload (v := Int32.ofInt ((i : Int))) mi_114_17 (by simp [stL, lv_args, Value.category]) ?_
    refine V_aload (v := ad 4) mi_114_18 (by simp [stL, lv_args, Value.category]) ?_
    refine V_iload (v := Int32.ofInt ((a : Int))) mi_114_19 (by simp [stL, lv_args, Value.category]) ?_
    refine V_cO (As := [.int (Int32.ofInt ((a : Int)))]) (st := [.int (Int32.ofInt ((i : Int)))]) mi_114_20 (by omega) (by decide +kernel) (by decide +kernel) (by omega) g4o hG (hle_ct (f := a) hG hX hB ha) (by omega) (show 1 = mN 106 by decide +kernel) (by simp [Value.category]) ?_
    rintro r w1 ⟨rfl, rfl⟩
    refine V_cge mi_114_23 ⟨by omega, by omega⟩ ⟨by omega, by omega⟩ (fun q => ?_) (fun q => ?_)
    · refine V_ipush mi_114_49 ?_
      exact V_retI mi_114_50 (fun _ => by decide) ⟨rfl, rfl⟩
    · exact absurd q (by omega)
  | m + 1, i, hm => by
    have bla := hB.bl a ha
    have blb := hB.bl b hb
    refine V_iload (v := Int32.ofInt ((i : Int))) mi_114_17 (by simp [stL, lv_args, Value.category]) ?_
    refine V_aload (v := ad 4) mi_114_18 (by simp [stL, lv_args, Value.category]) ?_
    refine V_iload (v := Int32.ofInt ((a : Int))) mi_114_19 (by simp [stL, lv_args, Value.category]) ?_
    refine V_cO (As := [.int (Int32.ofInt ((a : Int)))]) (st := [.int (Int32.ofInt ((i : Int)))]) mi_114_20 (by omega) (by decide +kernel) (by decide +kernel) (by omega) g4o hG (hle_ct (f := a) hG hX hB ha) (by omega) (show 1 = mN 106 by decide +kernel) (by simp [Value.category]) ?_
    rintro r w1 ⟨e1, rfl⟩
    rw [e1]
    refine V_cge mi_114_23 ⟨by omega, by omega⟩ ⟨by omega, by omega⟩ (fun q => ?_) (fun q => ?_)
    · exact absurd q (by omega)
    · refine V_aload (v := ad 4) mi_114_26 (by simp [stL, lv_args, Value.category]) ?_
      refine V_iload (v := Int32.ofInt ((a : Int))) mi_114_27 (by simp [stL, lv_args, Value.category]) ?_
      refine V_iload (v := Int32.ofInt ((i : Int))) mi_114_28 (by simp [stL, lv_args, Value.category]) ?_
      refine V_cO (As := [.int (Int32.ofInt ((a : Int))), .int (Int32.ofInt ((i : Int)))]) (st := []) mi_114_29 (by omega) (by decide +kernel) (by decide +kernel) (by omega) g4o hG (hsl_ct (o := a) (i := i) hG hX hB ha (by omega)) (by omega) (show 2 = mN 107 by decide +kernel) (by simp [Value.category]) ?_
      rintro r w2 ⟨e2, rfl⟩
      rw [e2]
      refine V_aload (v := ad 4) mi_114_32 (by simp [stL, lv_args, Value.category]) ?_
      refine V_iload (v := Int32.ofInt ((b : Int))) mi_114_33 (by simp [stL, lv_args, Value.category]) ?_
      refine V_iload (v := Int32.ofInt ((i : Int))) mi_114_34 (by simp [stL, lv_args, Value.category]) ?_
      refine V_cO (As := [.int (Int32.ofInt ((b : Int))), .int (Int32.ofInt ((i : Int)))]) (st := [.int (Int32.ofInt (G (7 + 7 * a + i)))]) mi_114_35 (by omega) (by decide +kernel) (by decide +kernel) (by omega) g4o hG (hsl_ct (o := b) (i := i) hG hX hB hb (by omega)) (by omega) (show 2 = mN 107 by decide +kernel) (by simp [Value.category]) ?_
      rintro r w3 ⟨e3, rfl⟩
      rw [e3]
      have na := hB.bn a ha i (by omega)
      have nb := hB.bn b hb i (by omega)
      refine V_ceq mi_114_38 ⟨by omega, by omega⟩ ⟨by omega, by omega⟩ (fun q2 => ?_) (fun q2 => ?_)
      · refine V_iinc (v := Int32.ofInt ((i : Int))) mi_114_43 (by simp [stL, lv_args, Value.category]) ?_
        rw [ia2]
        refine V_goto mi_114_46 ?_
        refine V_sub (lv' := [(0, .ref (ad 4)), (1, .int (Int32.ofInt (a : Int))), (2, .int (Int32.ofInt (b : Int))), (3, .int (Int32.ofInt ((i + 1 : Nat) : Int)))]) (fun q hq => ?_) (V_post (fun r w h => ?_) (beX_17 hG hX hB ha hb hl m (i + 1) (by omega)))
        · simp only [List.mem_cons, List.not_mem_nil, or_false] at hq
          rcases hq with rfl | rfl | rfl | rfl <;> simp [stL, lv_args, Value.category]
        · unfold eqR
          rw [decide_eq_true q2, Bool.true_and]
          exact h
      · refine V_ipush mi_114_41 ?_
        refine V_retI mi_114_42 (fun _ => by decide) ⟨rfl, ?_⟩
        unfold eqR
        rw [decide_eq_false q2, Bool.false_and]
        rfl
theorem beX_ct {G : Nat → Int} (hG : GOK ad tys GG ws) (hX : HX 4 G ws) (hB : HB G) {a b : Nat} (ha : a < 6) (hb : b < 6) : CT l D tys A 114 2 0 0 [.ref (ad 4), .int (Int32.ofInt ((a : Int))), .int (Int32.ofInt ((b : Int)))] ws (fun r w => w = ws ∧ r = some (.int (bI (begS G a b)))) := by
  refine CT_of_V (by omega) (show (3 : Nat) ≤ mML 114 by decide +kernel) ?_
  have bla := hB.bl a ha
  have blb := hB.bl b hb
  refine V_aload (v := ad 4) mi_114_0 (by simp [stL, lv_args, Value.category]) ?_
  refine V_iload (v := Int32.ofInt ((a : Int))) mi_114_1 (by simp [stL, lv_args, Value.category]) ?_
  refine V_cO (As := [.int (Int32.ofInt ((a : Int)))]) (st := []) mi_114_2 (by omega) (by decide +kernel) (by decide +kernel) (by omega) g4o hG (hle_ct (f := a) hG hX hB ha) (by omega) (show 1 = mN 106 by decide +kernel) (by simp [Value.category]) ?_
  rintro r w1 ⟨rfl, rfl⟩
  refine V_aload (v := ad 4) mi_114_5 (by simp [stL, lv_args, Value.category]) ?_
  refine V_iload (v := Int32.ofInt ((b : Int))) mi_114_6 (by simp [stL, lv_args, Value.category]) ?_
  refine V_cO (As := [.int (Int32.ofInt ((b : Int)))]) (st := [.int (Int32.ofInt (G (6 + 7 * a)))]) mi_114_7 (by omega) (by decide +kernel) (by decide +kernel) (by omega) g4o hG (hle_ct (f := b) hG hX hB hb) (by omega) (show 1 = mN 106 by decide +kernel) (by simp [Value.category]) ?_
  rintro r w2 ⟨rfl, rfl⟩
  refine V_cle mi_114_10 ⟨by omega, by omega⟩ ⟨by omega, by omega⟩ (fun q => ?_) (fun q => ?_)
  · refine V_ipush mi_114_15 ?_
    refine V_istore mi_114_16 ?_
    refine V_sub (lv' := [(0, .ref (ad 4)), (1, .int (Int32.ofInt (a : Int))), (2, .int (Int32.ofInt (b : Int))), (3, .int (Int32.ofInt ((0 : Nat) : Int)))]) (fun q hq => ?_) (V_post (fun r w h => ?_) (beX_17 hG hX hB ha hb q (G (6 + 7 * a)).toNat 0 (by rw [Nat.zero_add, Int.toNat_of_nonneg (by omega)])))
    · simp only [List.mem_cons, List.not_mem_nil, or_false] at hq
      rcases hq with rfl | rfl | rfl | rfl <;> simp [stL, lv_args, Value.category]
    · unfold begS
      rw [decide_eq_true q, Bool.true_and]
      exact h
  · refine V_ipush mi_114_13 ?_
    refine V_retI mi_114_14 (fun _ => by decide) ⟨rfl, ?_⟩
    unfold begS
    rw [decide_eq_false (by omega), Bool.false_and]
    rfl
theorem beM_17 {G : Nat → Int} (hG : GOK ad tys GG ws) (hW : W91 G ws) (hB : HB G) {a b : Nat} (ha : a < 6) (hb : b < 6) (hl : G (6 + 7 * a) ≤ G (6 + 7 * b)) : ∀ (m i : Nat), ((i + m : Nat) : Int) = G (6 + 7 * a) → V l D tys A 272 2 0 0 (fun r w => w = ws ∧ r = some (.int (bI (eqR G a b m i)))) 0 0 17 [(0, .ref (ad 90)), (1, .int (Int32.ofInt (a : Int))), (2, .int (Int32.ofInt (b : Int))), (3, .int (Int32.ofInt (i : Int)))] [] ws
  | 0, i, hm => by
    have bla := hB.bl a ha
    refine V_iload (v := Int32.ofInt ((i : Int))) mi_272_17 (by simp [stL, lv_args, Value.category]) ?_
    refine V_aload (v := ad 90) mi_272_18 (by simp [stL, lv_args, Value.category]) ?_
    refine V_iload (v := Int32.ofInt ((a : Int))) mi_272_19 (by simp [stL, lv_args, Value.category]) ?_
    refine V_callM (As := [.int (Int32.ofInt ((a : Int)))]) (st := [.int (Int32.ofInt ((i : Int)))]) mi_272_20 (by omega) (by decide +kernel) (by decide +kernel) hG (mle_ct (f := a) hG hW hB ha) (by omega) (show 1 = mN 204 by decide +kernel) (by simp [Value.category]) ?_
    rintro r w1 ⟨rfl, rfl⟩
    refine V_cge mi_272_23 ⟨by omega, by omega⟩ ⟨by omega, by omega⟩ (fun q => ?_) (fun q => ?_)
    · refine V_ipush mi_272_49 ?_
      exact V_retI mi_272_50 (fun _ => by decide) ⟨rfl, rfl⟩
    · exact absurd q (by omega)
  | m + 1, i, hm => by
    have bla := hB.bl a ha
    have blb := hB.bl b hb
    refine V_iload (v := Int32.ofInt ((i : Int))) mi_272_17 (by simp [stL, lv_args, Value.category]) ?_
    refine V_aload (v := ad 90) mi_272_18 (by simp [stL, lv_args, Value.category]) ?_
    refine V_iload (v := Int32.ofInt ((a : Int))) mi_272_19 (by simp [stL, lv_args, Value.category]) ?_
    refine V_callM (As := [.int (Int32.ofInt ((a : Int)))]) (st := [.int (Int32.ofInt ((i : Int)))]) mi_272_20 (by omega) (by decide +kernel) (by decide +kernel) hG (mle_ct (f := a) hG hW hB ha) (by omega) (show 1 = mN 204 by decide +kernel) (by simp [Value.category]) ?_
    rintro r w1 ⟨e1, rfl⟩
    rw [e1]
    refine V_cge mi_272_23 ⟨by omega, by omega⟩ ⟨by omega, by omega⟩ (fun q => ?_) (fun q => ?_)
    · exact absurd q (by omega)
    · refine V_aload (v := ad 90) mi_272_26 (by simp [stL, lv_args, Value.category]) ?_
      refine V_iload (v := Int32.ofInt ((a : Int))) mi_272_27 (by simp [stL, lv_args, Value.category]) ?_
      refine V_iload (v := Int32.ofInt ((i : Int))) mi_272_28 (by simp [stL, lv_args, Value.category]) ?_
      refine V_callM (As := [.int (Int32.ofInt ((a : Int))), .int (Int32.ofInt ((i : Int)))]) (st := []) mi_272_29 (by omega) (by decide +kernel) (by decide +kernel) hG (msl_ct (o := a) (i := i) hG hW hB ha (by omega)) (by omega) (show 2 = mN 205 by decide +kernel) (by simp [Value.category]) ?_
      rintro r w2 ⟨e2, rfl⟩
      rw [e2]
      refine V_aload (v := ad 90) mi_272_32 (by simp [stL, lv_args, Value.category]) ?_
      refine V_iload (v := Int32.ofInt ((b : Int))) mi_272_33 (by simp [stL, lv_args, Value.category]) ?_
      refine V_iload (v := Int32.ofInt ((i : Int))) mi_272_34 (by simp [stL, lv_args, Value.category]) ?_
      refine V_callM (As := [.int (Int32.ofInt ((b : Int))), .int (Int32.ofInt ((i : Int)))]) (st := [.int (Int32.ofInt (G (7 + 7 * a + i)))]) mi_272_35 (by omega) (by decide +kernel) (by decide +kernel) hG (msl_ct (o := b) (i := i) hG hW hB hb (by omega)) (by omega) (show 2 = mN 205 by decide +kernel) (by simp [Value.category]) ?_
      rintro r w3 ⟨e3, rfl⟩
      rw [e3]
      have na := hB.bn a ha i (by omega)
      have nb := hB.bn b hb i (by omega)
      refine V_ceq mi_272_38 ⟨by omega, by omega⟩ ⟨by omega, by omega⟩ (fun q2 => ?_) (fun q2 => ?_)
      · refine V_iinc (v := Int32.ofInt ((i : Int))) mi_272_43 (by simp [stL, lv_args, Value.category]) ?_
        rw [ia2]
        refine V_goto mi_272_46 ?_
        refine V_sub (lv' := [(0, .ref (ad 90)), (1, .int (Int32.ofInt (a : Int))), (2, .int (Int32.ofInt (b : Int))), (3, .int (Int32.ofInt ((i + 1 : Nat) : Int)))]) (fun q hq => ?_) (V_post (fun r w h => ?_) (beM_17 hG hW hB ha hb hl m (i + 1) (by omega)))
        · simp only [List.mem_cons, List.not_mem_nil, or_false] at hq
          rcases hq with rfl | rfl | rfl | rfl <;> simp [stL, lv_args, Value.category]
        · unfold eqR
          rw [decide_eq_true q2, Bool.true_and]
          exact h
      · refine V_ipush mi_272_41 ?_
        refine V_retI mi_272_42 (fun _ => by decide) ⟨rfl, ?_⟩
        unfold eqR
        rw [decide_eq_false q2, Bool.false_and]
        rfl
theorem beM_ct {G : Nat → Int} (hG : GOK ad tys GG ws) (hW : W91 G ws) (hB : HB G) {a b : Nat} (ha : a < 6) (hb : b < 6) : CT l D tys A 272 2 0 0 [.ref (ad 90), .int (Int32.ofInt ((a : Int))), .int (Int32.ofInt ((b : Int)))] ws (fun r w => w = ws ∧ r = some (.int (bI (begS G a b)))) := by
  refine CT_of_V (by omega) (show (3 : Nat) ≤ mML 272 by decide +kernel) ?_
  have bla := hB.bl a ha
  have blb := hB.bl b hb
  refine V_aload (v := ad 90) mi_272_0 (by simp [stL, lv_args, Value.category]) ?_
  refine V_iload (v := Int32.ofInt ((a : Int))) mi_272_1 (by simp [stL, lv_args, Value.category]) ?_
  refine V_callM (As := [.int (Int32.ofInt ((a : Int)))]) (st := []) mi_272_2 (by omega) (by decide +kernel) (by decide +kernel) hG (mle_ct (f := a) hG hW hB ha) (by omega) (show 1 = mN 204 by decide +kernel) (by simp [Value.category]) ?_
  rintro r w1 ⟨rfl, rfl⟩
  refine V_aload (v := ad 90) mi_272_5 (by simp [stL, lv_args, Value.category]) ?_
  refine V_iload (v := Int32.ofInt ((b : Int))) mi_272_6 (by simp [stL, lv_args, Value.category]) ?_
  refine V_callM (As := [.int (Int32.ofInt ((b : Int)))]) (st := [.int (Int32.ofInt (G (6 + 7 * a)))]) mi_272_7 (by omega) (by decide +kernel) (by decide +kernel) hG (mle_ct (f := b) hG hW hB hb) (by omega) (show 1 = mN 204 by decide +kernel) (by simp [Value.category]) ?_
  rintro r w2 ⟨rfl, rfl⟩
  refine V_cle mi_272_10 ⟨by omega, by omega⟩ ⟨by omega, by omega⟩ (fun q => ?_) (fun q => ?_)
  · refine V_ipush mi_272_15 ?_
    refine V_istore mi_272_16 ?_
    refine V_sub (lv' := [(0, .ref (ad 90)), (1, .int (Int32.ofInt (a : Int))), (2, .int (Int32.ofInt (b : Int))), (3, .int (Int32.ofInt ((0 : Nat) : Int)))]) (fun q hq => ?_) (V_post (fun r w h => ?_) (beM_17 hG hW hB ha hb q (G (6 + 7 * a)).toNat 0 (by rw [Nat.zero_add, Int.toNat_of_nonneg (by omega)])))
    · simp only [List.mem_cons, List.not_mem_nil, or_false] at hq
      rcases hq with rfl | rfl | rfl | rfl <;> simp [stL, lv_args, Value.category]
    · unfold begS
      rw [decide_eq_true q, Bool.true_and]
      exact h
  · refine V_ipush mi_272_13 ?_
    refine V_retI mi_272_14 (fun _ => by decide) ⟨rfl, ?_⟩
    unfold begS
    rw [decide_eq_false (by omega), Bool.false_and]
    rfl
noncomputable def meP (G : Nat → Int) (f o h : Nat) : Bool := decide (G (102 + (24 * f + h)) = G (102 + (24 * o + h)))
noncomputable def metV (G : Nat → Int) (f o : Int) : Int32 := if (0 ≤ f ∧ f < G 3) ∧ (0 ≤ o ∧ o < G 3) ∧ f ≠ o then orS (meP G f.toNat o.toNat) (G 2).toNat 0 (Int32.ofInt 0) else Int32.ofInt (-2)
theorem mmt_ct {G : Nat → Int} (hG : GOK ad tys GG ws) (hW : W91 G ws) (hB : HB G) {f o h : Nat} (hf : f < 6) (ho : o < 6) (hh : h < 24) : CT l D tys A 264 1 0 0 [.ref (ad 90), .int (Int32.ofInt ((f : Int))), .int (Int32.ofInt ((o : Int))), .int (Int32.ofInt ((h : Int)))] ws (fun r w => w = ws ∧ r = some (.int (bI (meP G f o h)))) := by
  refine CT_of_V (by omega) (show (4 : Nat) ≤ mML 264 by decide +kernel) ?_
  refine V_aload (v := ad 90) mi_264_0 (by simp [stL, lv_args, Value.category]) ?_
  refine V_iload (v := Int32.ofInt ((f : Int))) mi_264_1 (by simp [stL, lv_args, Value.category]) ?_
  refine V_iload (v := Int32.ofInt ((h : Int))) mi_264_2 (by simp [stL, lv_args, Value.category]) ?_
  refine V_callM (As := [.int (Int32.ofInt ((f : Int))), .int (Int32.ofInt ((h : Int)))]) (st := []) mi_264_3 (by omega) (by decide +kernel) (by decide +kernel) hG (mpl_ct (f := f) (h := h) hG hW hB hf hh) (by omega) (show 2 = mN 207 by decide +kernel) (by simp [Value.category]) ?_
  rintro r w1 ⟨rfl, rfl⟩
  refine V_aload (v := ad 90) mi_264_6 (by simp [stL, lv_args, Value.category]) ?_
  refine V_iload (v := Int32.ofInt ((o : Int))) mi_264_7 (by simp [stL, lv_args, Value.category]) ?_
  refine V_iload (v := Int32.ofInt ((h : Int))) mi_264_8 (by simp [stL, lv_args, Value.category]) ?_
  refine V_callM (As := [.int (Int32.ofInt ((o : Int))), .int (Int32.ofInt ((h : Int)))]) (st := [.int (Int32.ofInt (G (102 + (24 * f + h))))]) mi_264_9 (by omega) (by decide +kernel) (by decide +kernel) hG (mpl_ct (f := o) (h := h) hG hW hB ho hh) (by omega) (show 2 = mN 207 by decide +kernel) (by simp [Value.category]) ?_
  rintro r w2 ⟨rfl, rfl⟩
  have p1 := hB.bp (24 * f + h) (by omega)
  have p2 := hB.bp (24 * o + h) (by omega)
  refine V_cne mi_264_12 ⟨by omega, by omega⟩ ⟨by omega, by omega⟩ (fun q => ?_) (fun q => ?_)
  · refine V_ipush mi_264_19 ?_
    refine V_retI mi_264_20 (fun _ => by decide) ⟨rfl, ?_⟩
    unfold meP
    rw [decide_eq_false q]
    rfl
  · refine V_ipush mi_264_15 ?_
    refine V_goto mi_264_16 ?_
    refine V_retI mi_264_20 (fun _ => by decide) ⟨rfl, ?_⟩
    unfold meP
    rw [decide_eq_true q]
    rfl
theorem metX_l {G : Nat → Int} (hG : GOK ad tys GG ws) (hX : HX 4 G ws) (hB : HB G) {f o : Nat} (hf : (f : Int) < G 3) (ho : (o : Int) < G 3) : ∀ (m i : Nat) (s : Int32), ((i + m : Nat) : Int) = G 2 → V l D tys A 27 4 0 0 (fun r w => w = ws ∧ r = some (.int (orS (meP G f o) m i s))) 0 0 17 [(0, .ref (ad 0)), (1, .int (Int32.ofInt (f : Int))), (2, .int (Int32.ofInt (o : Int))), (3, .int s), (4, .int (Int32.ofInt (i : Int)))] [] ws
  | 0, i, s, hm => by
    have bb := hB.b2
    refine V_iload (v := Int32.ofInt ((i : Int))) mi_27_17 (by simp [stL, lv_args, Value.category]) ?_
    refine V_aload (v := ad 0) mi_27_19 (by simp [stL, lv_args, Value.category]) ?_
    refine V_gR mi_27_20 g0r2 (by omega) hG ?_
    refine V_gO mi_27_23 g4o hG (show rd _ 4 3 = some (.int (Int32.ofInt (G 2))) from hx0 hX (i := 3) (by omega)) ?_
    refine V_cge mi_27_26 ⟨by omega, by omega⟩ ⟨by omega, by omega⟩ (fun q => ?_) (fun q => ?_)
    · refine V_iload (v := s) mi_27_65 (by simp [stL, lv_args, Value.category]) ?_
      exact V_retI mi_27_66 (fun h => absurd h (by decide +kernel)) ⟨rfl, rfl⟩
    · exact absurd q (by omega)
  | m + 1, i, s, hm => by
    have bb := hB.b2
    refine V_iload (v := Int32.ofInt ((i : Int))) mi_27_17 (by simp [stL, lv_args, Value.category]) ?_
    refine V_aload (v := ad 0) mi_27_19 (by simp [stL, lv_args, Value.category]) ?_
    refine V_gR mi_27_20 g0r2 (by omega) hG ?_
    refine V_gO mi_27_23 g4o hG (show rd _ 4 3 = some (.int (Int32.ofInt (G 2))) from hx0 hX (i := 3) (by omega)) ?_
    refine V_cge mi_27_26 ⟨by omega, by omega⟩ ⟨by omega, by omega⟩ (fun q => ?_) (fun q => ?_)
    · exact absurd q (by omega)
    · refine V_aload (v := ad 0) mi_27_29 (by simp [stL, lv_args, Value.category]) ?_
      refine V_gR mi_27_30 g0r2 (by omega) hG ?_
      refine V_iload (v := Int32.ofInt ((f : Int))) mi_27_33 (by simp [stL, lv_args, Value.category]) ?_
      refine V_iload (v := Int32.ofInt ((i : Int))) mi_27_34 (by simp [stL, lv_args, Value.category]) ?_
      refine V_cO (As := [.int (Int32.ofInt ((f : Int))), .int (Int32.ofInt ((i : Int)))]) (st := []) mi_27_36 (by omega) (by decide +kernel) (by decide +kernel) (by omega) g4o hG (hpl_ct (f := f) (h := i) hG hX hB (by omega) (by omega)) (by omega) (show 2 = mN 110 by decide +kernel) (by simp [Value.category]) ?_
      rintro r w2 ⟨e2, rfl⟩
      rw [e2]
      refine V_aload (v := ad 0) mi_27_39 (by simp [stL, lv_args, Value.category]) ?_
      refine V_gR mi_27_40 g0r2 (by omega) hG ?_
      refine V_iload (v := Int32.ofInt ((o : Int))) mi_27_43 (by simp [stL, lv_args, Value.category]) ?_
      refine V_iload (v := Int32.ofInt ((i : Int))) mi_27_44 (by simp [stL, lv_args, Value.category]) ?_
      refine V_cO (As := [.int (Int32.ofInt ((o : Int))), .int (Int32.ofInt ((i : Int)))]) (st := [.int (Int32.ofInt (G (102 + (24 * f + i))))]) mi_27_46 (by omega) (by decide +kernel) (by decide +kernel) (by omega) g4o hG (hpl_ct (f := o) (h := i) hG hX hB (by omega) (by omega)) (by omega) (show 2 = mN 110 by decide +kernel) (by simp [Value.category]) ?_
      rintro r w3 ⟨e3, rfl⟩
      rw [e3]
      have b3 := hB.b3
      have p1 := hB.bp (24 * f + i) (by omega)
      have p2 := hB.bp (24 * o + i) (by omega)
      refine V_cne mi_27_49 ⟨by omega, by omega⟩ ⟨by omega, by omega⟩ (fun q2 => ?_) (fun q2 => ?_)
      · refine V_iinc (v := Int32.ofInt ((i : Int))) mi_27_59 (by simp [stL, lv_args, Value.category]) ?_
        rw [ia2]
        refine V_goto mi_27_62 ?_
        refine V_sub (lv' := [(0, .ref (ad 0)), (1, .int (Int32.ofInt (f : Int))), (2, .int (Int32.ofInt (o : Int))), (3, .int (s)), (4, .int (Int32.ofInt ((i + 1 : Nat) : Int)))]) (fun q hq => ?_) (V_post (fun r w h => ?_) (metX_l hG hX hB hf ho m (i + 1) (s) (by omega)))
        · simp only [List.mem_cons, List.not_mem_nil, or_false] at hq
          rcases hq with rfl | rfl | rfl | rfl | rfl <;> simp [stL, lv_args, Value.category]
        · unfold orS
          rw [show meP G f o i = false from decide_eq_false q2, if_neg Bool.false_ne_true]
          exact h
      · refine V_iload (v := s) mi_27_52 (by simp [stL, lv_args, Value.category]) ?_
        refine V_ipush mi_27_53 ?_
        refine V_iload (v := Int32.ofInt ((i : Int))) mi_27_54 (by simp [stL, lv_args, Value.category]) ?_
        refine V_ibin mi_27_56 (by omega) ?_
        refine V_ibin mi_27_57 (by omega) ?_
        refine V_istore mi_27_58 ?_
        refine V_iinc (v := Int32.ofInt ((i : Int))) mi_27_59 (by simp [stL, lv_args, Value.category]) ?_
        rw [ia2]
        refine V_goto mi_27_62 ?_
        refine V_sub (lv' := [(0, .ref (ad 0)), (1, .int (Int32.ofInt (f : Int))), (2, .int (Int32.ofInt (o : Int))), (3, .int (ibF 6 s (ibF 8 (Int32.ofInt 1) (Int32.ofInt (i : Int))))), (4, .int (Int32.ofInt ((i + 1 : Nat) : Int)))]) (fun q hq => ?_) (V_post (fun r w h => ?_) (metX_l hG hX hB hf ho m (i + 1) (ibF 6 s (ibF 8 (Int32.ofInt 1) (Int32.ofInt (i : Int)))) (by omega)))
        · simp only [List.mem_cons, List.not_mem_nil, or_false] at hq
          rcases hq with rfl | rfl | rfl | rfl | rfl <;> simp [stL, lv_args, Value.category]
        · unfold orS
          rw [show meP G f o i = true from decide_eq_true q2, if_pos rfl]
          exact h
theorem metX_ct {G : Nat → Int} (hG : GOK ad tys GG ws) (hX : HX 4 G ws) (hB : HB G) {f o : Int} (fI : I32 f) (oI : I32 o) : CT l D tys A 27 4 0 0 [.ref (ad 0), .int (Int32.ofInt (f)), .int (Int32.ofInt (o))] ws (fun r w => w = ws ∧ r = some (.int (metV G f o))) := by
  refine CT_of_V (by omega) (show (3 : Nat) ≤ mML 27 by decide +kernel) ?_
  refine V_aload (v := ad 0) mi_27_0 (by simp [stL, lv_args, Value.category]) ?_
  refine V_iload (v := Int32.ofInt (f)) mi_27_1 (by simp [stL, lv_args, Value.category]) ?_
  refine V_iload (v := Int32.ofInt (o)) mi_27_2 (by simp [stL, lv_args, Value.category]) ?_
  refine V_cO (As := [.int (Int32.ofInt (f)), .int (Int32.ofInt (o))]) (st := []) mi_27_3 (by omega) (by decide +kernel) (by decide +kernel) (by omega) g0o hG (x2_ct hG hX hB fI oI) (by omega) (show 2 = mN 74 by decide +kernel) (by simp [Value.category]) ?_
  rintro r w1 ⟨rfl, rfl⟩
  refine V_bne mi_27_6  (fun c1 => ?_) (fun c1 => ?_)
  · have c2 := of_decide_eq_true c1
    have b3 := hB.b3
    have bb := hB.b2
    obtain ⟨m, rfl⟩ := Int.eq_ofNat_of_zero_le c2.1.1
    obtain ⟨n, rfl⟩ := Int.eq_ofNat_of_zero_le c2.2.1.1
    refine V_ipush mi_27_12 ?_
    refine V_istore mi_27_13 ?_
    refine V_ipush mi_27_14 ?_
    refine V_istore mi_27_15 ?_
    refine V_sub (lv' := [(0, .ref (ad 0)), (1, .int (Int32.ofInt (m : Int))), (2, .int (Int32.ofInt (n : Int))), (3, .int (Int32.ofInt 0)), (4, .int (Int32.ofInt ((0 : Nat) : Int)))]) (fun q hq => ?_) (V_post (fun r w h => ?_) (metX_l hG hX hB c2.1.2 c2.2.1.2 (G 2).toNat 0 (Int32.ofInt 0) (by rw [Nat.zero_add, Int.toNat_of_nonneg (by omega)])))
    · simp only [List.mem_cons, List.not_mem_nil, or_false] at hq
      rcases hq with rfl | rfl | rfl | rfl | rfl <;> simp [stL, lv_args, Value.category]
    · unfold metV
      rw [Int.toNat_natCast, Int.toNat_natCast, if_pos c2]
      exact h
  · refine V_ipush mi_27_9 ?_
    refine V_retI mi_27_11 (fun h => absurd h (by decide +kernel)) ⟨rfl, ?_⟩
    unfold metV
    rw [if_neg (of_decide_eq_false c1)]
theorem metM_l {G : Nat → Int} (hG : GOK ad tys GG ws) (hW : W91 G ws) (hB : HB G) {f o : Nat} (hf : (f : Int) < G 3) (ho : (o : Int) < G 3) : ∀ (m i : Nat) (s : Int32), ((i + m : Nat) : Int) = G 2 → V l D tys A 270 4 0 0 (fun r w => w = ws ∧ r = some (.int (orS (meP G f o) m i s))) 0 0 17 [(0, .ref (ad 90)), (1, .int (Int32.ofInt (f : Int))), (2, .int (Int32.ofInt (o : Int))), (3, .int s), (4, .int (Int32.ofInt (i : Int)))] [] ws
  | 0, i, s, hm => by
    obtain ⟨s91, e91, -⟩ := g91s
    have bb := hB.b2
    refine V_iload (v := Int32.ofInt ((i : Int))) mi_270_17 (by simp [stL, lv_args, Value.category]) ?_
    refine V_aload (v := ad 90) mi_270_19 (by simp [stL, lv_args, Value.category]) ?_
    refine V_getI mi_270_20 hG (rref gr1m (by omega) hG) ?_
    refine V_ipush mi_270_23 ?_
    refine V_aldX (j := 2) mi_270_24 rfl hG e91 (by omega) (by omega) (hW _ (by omega)) ?_
    refine V_cge mi_270_25 ⟨by omega, by omega⟩ ⟨by omega, by omega⟩ (fun q => ?_) (fun q => ?_)
    · refine V_iload (v := s) mi_270_56 (by simp [stL, lv_args, Value.category]) ?_
      exact V_retI mi_270_57 (fun h => absurd h (by decide +kernel)) ⟨rfl, rfl⟩
    · exact absurd q (by omega)
  | m + 1, i, s, hm => by
    obtain ⟨s91, e91, -⟩ := g91s
    have bb := hB.b2
    refine V_iload (v := Int32.ofInt ((i : Int))) mi_270_17 (by simp [stL, lv_args, Value.category]) ?_
    refine V_aload (v := ad 90) mi_270_19 (by simp [stL, lv_args, Value.category]) ?_
    refine V_getI mi_270_20 hG (rref gr1m (by omega) hG) ?_
    refine V_ipush mi_270_23 ?_
    refine V_aldX (j := 2) mi_270_24 rfl hG e91 (by omega) (by omega) (hW _ (by omega)) ?_
    refine V_cge mi_270_25 ⟨by omega, by omega⟩ ⟨by omega, by omega⟩ (fun q => ?_) (fun q => ?_)
    · exact absurd q (by omega)
    · have b3 := hB.b3
      refine V_iload (v := s) mi_270_28 (by simp [stL, lv_args, Value.category]) ?_
      refine V_aload (v := ad 90) mi_270_29 (by simp [stL, lv_args, Value.category]) ?_
      refine V_iload (v := Int32.ofInt ((f : Int))) mi_270_30 (by simp [stL, lv_args, Value.category]) ?_
      refine V_iload (v := Int32.ofInt ((o : Int))) mi_270_31 (by simp [stL, lv_args, Value.category]) ?_
      refine V_iload (v := Int32.ofInt ((i : Int))) mi_270_32 (by simp [stL, lv_args, Value.category]) ?_
      refine V_callM (As := [.int (Int32.ofInt ((f : Int))), .int (Int32.ofInt ((o : Int))), .int (Int32.ofInt ((i : Int)))]) (st := [.int (s)]) mi_270_34 (by omega) (by decide +kernel) (by decide +kernel) hG (mmt_ct (f := f) (o := o) (h := i) hG hW hB (by omega) (by omega) (by omega)) (by omega) (show 3 = mN 264 by decide +kernel) (by simp [Value.category]) ?_
      rintro r w2 ⟨e2, rfl⟩
      rw [e2]
      refine V_beq mi_270_37  (fun q2 => ?_) (fun q2 => ?_)
      · refine V_ipush mi_270_47 ?_
        refine V_ibin mi_270_48 (by omega) ?_
        rw [or0]
        refine V_istore mi_270_49 ?_
        refine V_iinc (v := Int32.ofInt ((i : Int))) mi_270_50 (by simp [stL, lv_args, Value.category]) ?_
        rw [ia2]
        refine V_goto mi_270_53 ?_
        refine V_sub (lv' := [(0, .ref (ad 90)), (1, .int (Int32.ofInt (f : Int))), (2, .int (Int32.ofInt (o : Int))), (3, .int (s)), (4, .int (Int32.ofInt ((i + 1 : Nat) : Int)))]) (fun q hq => ?_) (V_post (fun r w h => ?_) (metM_l hG hW hB hf ho m (i + 1) (s) (by omega)))
        · simp only [List.mem_cons, List.not_mem_nil, or_false] at hq
          rcases hq with rfl | rfl | rfl | rfl | rfl <;> simp [stL, lv_args, Value.category]
        · unfold orS
          rw [q2, if_neg Bool.false_ne_true]
          exact h
      · refine V_ipush mi_270_40 ?_
        refine V_iload (v := Int32.ofInt ((i : Int))) mi_270_41 (by simp [stL, lv_args, Value.category]) ?_
        refine V_ibin mi_270_43 (by omega) ?_
        refine V_goto mi_270_44 ?_
        refine V_ibin mi_270_48 (by omega) ?_
        refine V_istore mi_270_49 ?_
        refine V_iinc (v := Int32.ofInt ((i : Int))) mi_270_50 (by simp [stL, lv_args, Value.category]) ?_
        rw [ia2]
        refine V_goto mi_270_53 ?_
        refine V_sub (lv' := [(0, .ref (ad 90)), (1, .int (Int32.ofInt (f : Int))), (2, .int (Int32.ofInt (o : Int))), (3, .int (ibF 6 s (ibF 8 (Int32.ofInt 1) (Int32.ofInt (i : Int))))), (4, .int (Int32.ofInt ((i + 1 : Nat) : Int)))]) (fun q hq => ?_) (V_post (fun r w h => ?_) (metM_l hG hW hB hf ho m (i + 1) (ibF 6 s (ibF 8 (Int32.ofInt 1) (Int32.ofInt (i : Int)))) (by omega)))
        · simp only [List.mem_cons, List.not_mem_nil, or_false] at hq
          rcases hq with rfl | rfl | rfl | rfl | rfl <;> simp [stL, lv_args, Value.category]
        · unfold orS
          rw [q2, if_pos rfl]
          exact h
theorem metM_ct {G : Nat → Int} (hG : GOK ad tys GG ws) (hW : W91 G ws) (hB : HB G) {f o : Int} (fI : I32 f) (oI : I32 o) : CT l D tys A 270 4 0 0 [.ref (ad 90), .int (Int32.ofInt (f)), .int (Int32.ofInt (o))] ws (fun r w => w = ws ∧ r = some (.int (metV G f o))) := by
  refine CT_of_V (by omega) (show (3 : Nat) ≤ mML 270 by decide +kernel) ?_
  refine V_aload (v := ad 90) mi_270_0 (by simp [stL, lv_args, Value.category]) ?_
  refine V_iload (v := Int32.ofInt (f)) mi_270_1 (by simp [stL, lv_args, Value.category]) ?_
  refine V_iload (v := Int32.ofInt (o)) mi_270_2 (by simp [stL, lv_args, Value.category]) ?_
  refine V_callM (As := [.int (Int32.ofInt (f)), .int (Int32.ofInt (o))]) (st := []) mi_270_3 (by omega) (by decide +kernel) (by decide +kernel) hG (m2_ct hG hW hB fI oI) (by omega) (show 2 = mN 200 by decide +kernel) (by simp [Value.category]) ?_
  rintro r w1 ⟨rfl, rfl⟩
  refine V_bne mi_270_6  (fun c1 => ?_) (fun c1 => ?_)
  · have c2 := of_decide_eq_true c1
    have b3 := hB.b3
    have bb := hB.b2
    obtain ⟨m, rfl⟩ := Int.eq_ofNat_of_zero_le c2.1.1
    obtain ⟨n, rfl⟩ := Int.eq_ofNat_of_zero_le c2.2.1.1
    refine V_ipush mi_270_12 ?_
    refine V_istore mi_270_13 ?_
    refine V_ipush mi_270_14 ?_
    refine V_istore mi_270_15 ?_
    refine V_sub (lv' := [(0, .ref (ad 90)), (1, .int (Int32.ofInt (m : Int))), (2, .int (Int32.ofInt (n : Int))), (3, .int (Int32.ofInt 0)), (4, .int (Int32.ofInt ((0 : Nat) : Int)))]) (fun q hq => ?_) (V_post (fun r w h => ?_) (metM_l hG hW hB c2.1.2 c2.2.1.2 (G 2).toNat 0 (Int32.ofInt 0) (by rw [Nat.zero_add, Int.toNat_of_nonneg (by omega)])))
    · simp only [List.mem_cons, List.not_mem_nil, or_false] at hq
      rcases hq with rfl | rfl | rfl | rfl | rfl <;> simp [stL, lv_args, Value.category]
    · unfold metV
      rw [Int.toNat_natCast, Int.toNat_natCast, if_pos c2]
      exact h
  · refine V_ipush mi_270_9 ?_
    refine V_retI mi_270_11 (fun h => absurd h (by decide +kernel)) ⟨rfl, ?_⟩
    unfold metV
    rw [if_neg (of_decide_eq_false c1)]
noncomputable def obeV (G : Nat → Int) (f : Int) : Int32 := if 0 ≤ f ∧ f < G 3 then orS (fun o => begS G o f.toNat) (G 3).toNat 0 (Int32.ofInt 0) else Int32.ofInt (-2)
theorem obeX_l {G : Nat → Int} (hG : GOK ad tys GG ws) (hX : HX 4 G ws) (hB : HB G) {f : Nat} (hf : (f : Int) < G 3) : ∀ (m i : Nat) (s : Int32), ((i + m : Nat) : Int) = G 3 → V l D tys A 29 4 0 0 (fun r w => w = ws ∧ r = some (.int (orS (fun o => begS G o f) m i s))) 0 0 18 [(0, .ref (ad 0)), (1, .int (Int32.ofInt (f : Int))), (2, .int s), (3, .int (Int32.ofInt (i : Int)))] [] ws
  | 0, i, s, hm => by
    have bb := hB.b3
    refine V_iload (v := Int32.ofInt ((i : Int))) mi_29_18 (by simp [stL, lv_args, Value.category]) ?_
    refine V_aload (v := ad 0) mi_29_19 (by simp [stL, lv_args, Value.category]) ?_
    refine V_gR mi_29_20 g0r2 (by omega) hG ?_
    refine V_gO mi_29_23 g4o hG (show rd _ 4 4 = some (.int (Int32.ofInt (G 3))) from hx0 hX (i := 4) (by omega)) ?_
    refine V_cge mi_29_26 ⟨by omega, by omega⟩ ⟨by omega, by omega⟩ (fun q => ?_) (fun q => ?_)
    · refine V_iload (v := s) mi_29_53 (by simp [stL, lv_args, Value.category]) ?_
      exact V_retI mi_29_54 (fun h => absurd h (by decide +kernel)) ⟨rfl, rfl⟩
    · exact absurd q (by omega)
  | m + 1, i, s, hm => by
    have bb := hB.b3
    refine V_iload (v := Int32.ofInt ((i : Int))) mi_29_18 (by simp [stL, lv_args, Value.category]) ?_
    refine V_aload (v := ad 0) mi_29_19 (by simp [stL, lv_args, Value.category]) ?_
    refine V_gR mi_29_20 g0r2 (by omega) hG ?_
    refine V_gO mi_29_23 g4o hG (show rd _ 4 4 = some (.int (Int32.ofInt (G 3))) from hx0 hX (i := 4) (by omega)) ?_
    refine V_cge mi_29_26 ⟨by omega, by omega⟩ ⟨by omega, by omega⟩ (fun q => ?_) (fun q => ?_)
    · exact absurd q (by omega)
    · refine V_aload (v := ad 0) mi_29_29 (by simp [stL, lv_args, Value.category]) ?_
      refine V_gR mi_29_30 g0r2 (by omega) hG ?_
      refine V_iload (v := Int32.ofInt ((i : Int))) mi_29_33 (by simp [stL, lv_args, Value.category]) ?_
      refine V_iload (v := Int32.ofInt ((f : Int))) mi_29_34 (by simp [stL, lv_args, Value.category]) ?_
      refine V_cO (As := [.int (Int32.ofInt ((i : Int))), .int (Int32.ofInt ((f : Int)))]) (st := []) mi_29_35 (by omega) (by decide +kernel) (by decide +kernel) (by omega) g4o hG (beX_ct (a := i) (b := f) hG hX hB (by omega) (by omega)) (by omega) (show 2 = mN 114 by decide +kernel) (by simp [Value.category]) ?_
      rintro r w2 ⟨e2, rfl⟩
      rw [e2]
      refine V_beq mi_29_38  (fun q2 => ?_) (fun q2 => ?_)
      · refine V_iinc (v := Int32.ofInt ((i : Int))) mi_29_47 (by simp [stL, lv_args, Value.category]) ?_
        rw [ia2]
        refine V_goto mi_29_50 ?_
        refine V_sub (lv' := [(0, .ref (ad 0)), (1, .int (Int32.ofInt (f : Int))), (2, .int (s)), (3, .int (Int32.ofInt ((i + 1 : Nat) : Int)))]) (fun q hq => ?_) (V_post (fun r w h => ?_) (obeX_l hG hX hB hf m (i + 1) (s) (by omega)))
        · simp only [List.mem_cons, List.not_mem_nil, or_false] at hq
          rcases hq with rfl | rfl | rfl | rfl <;> simp [stL, lv_args, Value.category]
        · unfold orS
          rw [show begS G i f = false from q2, if_neg Bool.false_ne_true]
          exact h
      · refine V_iload (v := s) mi_29_41 (by simp [stL, lv_args, Value.category]) ?_
        refine V_ipush mi_29_42 ?_
        refine V_iload (v := Int32.ofInt ((i : Int))) mi_29_43 (by simp [stL, lv_args, Value.category]) ?_
        refine V_ibin mi_29_44 (by omega) ?_
        refine V_ibin mi_29_45 (by omega) ?_
        refine V_istore mi_29_46 ?_
        refine V_iinc (v := Int32.ofInt ((i : Int))) mi_29_47 (by simp [stL, lv_args, Value.category]) ?_
        rw [ia2]
        refine V_goto mi_29_50 ?_
        refine V_sub (lv' := [(0, .ref (ad 0)), (1, .int (Int32.ofInt (f : Int))), (2, .int (ibF 6 s (ibF 8 (Int32.ofInt 1) (Int32.ofInt (i : Int))))), (3, .int (Int32.ofInt ((i + 1 : Nat) : Int)))]) (fun q hq => ?_) (V_post (fun r w h => ?_) (obeX_l hG hX hB hf m (i + 1) (ibF 6 s (ibF 8 (Int32.ofInt 1) (Int32.ofInt (i : Int)))) (by omega)))
        · simp only [List.mem_cons, List.not_mem_nil, or_false] at hq
          rcases hq with rfl | rfl | rfl | rfl <;> simp [stL, lv_args, Value.category]
        · unfold orS
          rw [show begS G i f = true from q2, if_pos rfl]
          exact h
theorem obeX_ct {G : Nat → Int} (hG : GOK ad tys GG ws) (hX : HX 4 G ws) (hB : HB G) {f : Int} (fI : I32 f) : CT l D tys A 29 4 0 0 [.ref (ad 0), .int (Int32.ofInt (f))] ws (fun r w => w = ws ∧ r = some (.int (obeV G f))) := by
  refine CT_of_V (by omega) (show (2 : Nat) ≤ mML 29 by decide +kernel) ?_
  refine V_aload (v := ad 0) mi_29_0 (by simp [stL, lv_args, Value.category]) ?_
  refine V_gR mi_29_1 g0r2 (by omega) hG ?_
  refine V_iload (v := Int32.ofInt (f)) mi_29_4 (by simp [stL, lv_args, Value.category]) ?_
  refine V_cO (As := [.int (Int32.ofInt (f))]) (st := []) mi_29_5 (by omega) (by decide +kernel) (by decide +kernel) (by omega) g4o hG (hfk_ct hG hX hB fI) (by omega) (show 1 = mN 102 by decide +kernel) (by simp [Value.category]) ?_
  rintro r w1 ⟨rfl, rfl⟩
  refine V_bne mi_29_8  (fun c1 => ?_) (fun c1 => ?_)
  · have c2 := of_decide_eq_true c1
    have b3 := hB.b3
    have bb := hB.b3
    obtain ⟨m, rfl⟩ := Int.eq_ofNat_of_zero_le c2.1
    refine V_ipush mi_29_14 ?_
    refine V_istore mi_29_15 ?_
    refine V_ipush mi_29_16 ?_
    refine V_istore mi_29_17 ?_
    refine V_sub (lv' := [(0, .ref (ad 0)), (1, .int (Int32.ofInt (m : Int))), (2, .int (Int32.ofInt 0)), (3, .int (Int32.ofInt ((0 : Nat) : Int)))]) (fun q hq => ?_) (V_post (fun r w h => ?_) (obeX_l hG hX hB c2.2 (G 3).toNat 0 (Int32.ofInt 0) (by rw [Nat.zero_add, Int.toNat_of_nonneg (by omega)])))
    · simp only [List.mem_cons, List.not_mem_nil, or_false] at hq
      rcases hq with rfl | rfl | rfl | rfl <;> simp [stL, lv_args, Value.category]
    · unfold obeV
      rw [Int.toNat_natCast, if_pos c2]
      exact h
  · refine V_ipush mi_29_11 ?_
    refine V_retI mi_29_13 (fun h => absurd h (by decide +kernel)) ⟨rfl, ?_⟩
    unfold obeV
    rw [if_neg (of_decide_eq_false c1)]
theorem obeM_l {G : Nat → Int} (hG : GOK ad tys GG ws) (hW : W91 G ws) (hB : HB G) {f : Nat} (hf : (f : Int) < G 3) : ∀ (m i : Nat) (s : Int32), ((i + m : Nat) : Int) = G 3 → V l D tys A 273 4 0 0 (fun r w => w = ws ∧ r = some (.int (orS (fun o => begS G o f) m i s))) 0 0 15 [(0, .ref (ad 90)), (1, .int (Int32.ofInt (f : Int))), (2, .int s), (3, .int (Int32.ofInt (i : Int)))] [] ws
  | 0, i, s, hm => by
    obtain ⟨s91, e91, -⟩ := g91s
    have bb := hB.b3
    refine V_iload (v := Int32.ofInt ((i : Int))) mi_273_15 (by simp [stL, lv_args, Value.category]) ?_
    refine V_aload (v := ad 90) mi_273_16 (by simp [stL, lv_args, Value.category]) ?_
    refine V_getI mi_273_17 hG (rref gr1m (by omega) hG) ?_
    refine V_ipush mi_273_20 ?_
    refine V_aldX (j := 3) mi_273_21 rfl hG e91 (by omega) (by omega) (hW _ (by omega)) ?_
    refine V_cge mi_273_22 ⟨by omega, by omega⟩ ⟨by omega, by omega⟩ (fun q => ?_) (fun q => ?_)
    · refine V_iload (v := s) mi_273_50 (by simp [stL, lv_args, Value.category]) ?_
      exact V_retI mi_273_51 (fun h => absurd h (by decide +kernel)) ⟨rfl, rfl⟩
    · exact absurd q (by omega)
  | m + 1, i, s, hm => by
    obtain ⟨s91, e91, -⟩ := g91s
    have bb := hB.b3
    refine V_iload (v := Int32.ofInt ((i : Int))) mi_273_15 (by simp [stL, lv_args, Value.category]) ?_
    refine V_aload (v := ad 90) mi_273_16 (by simp [stL, lv_args, Value.category]) ?_
    refine V_getI mi_273_17 hG (rref gr1m (by omega) hG) ?_
    refine V_ipush mi_273_20 ?_
    refine V_aldX (j := 3) mi_273_21 rfl hG e91 (by omega) (by omega) (hW _ (by omega)) ?_
    refine V_cge mi_273_22 ⟨by omega, by omega⟩ ⟨by omega, by omega⟩ (fun q => ?_) (fun q => ?_)
    · exact absurd q (by omega)
    · refine V_iload (v := s) mi_273_25 (by simp [stL, lv_args, Value.category]) ?_
      refine V_aload (v := ad 90) mi_273_26 (by simp [stL, lv_args, Value.category]) ?_
      refine V_iload (v := Int32.ofInt ((i : Int))) mi_273_27 (by simp [stL, lv_args, Value.category]) ?_
      refine V_iload (v := Int32.ofInt ((f : Int))) mi_273_28 (by simp [stL, lv_args, Value.category]) ?_
      refine V_callM (As := [.int (Int32.ofInt ((i : Int))), .int (Int32.ofInt ((f : Int)))]) (st := [.int (s)]) mi_273_29 (by omega) (by decide +kernel) (by decide +kernel) hG (beM_ct (a := i) (b := f) hG hW hB (by omega) (by omega)) (by omega) (show 2 = mN 272 by decide +kernel) (by simp [Value.category]) ?_
      rintro r w2 ⟨e2, rfl⟩
      rw [e2]
      refine V_beq mi_273_32  (fun q2 => ?_) (fun q2 => ?_)
      · refine V_ipush mi_273_41 ?_
        refine V_ibin mi_273_42 (by omega) ?_
        rw [or0]
        refine V_istore mi_273_43 ?_
        refine V_iinc (v := Int32.ofInt ((i : Int))) mi_273_44 (by simp [stL, lv_args, Value.category]) ?_
        rw [ia2]
        refine V_goto mi_273_47 ?_
        refine V_sub (lv' := [(0, .ref (ad 90)), (1, .int (Int32.ofInt (f : Int))), (2, .int (s)), (3, .int (Int32.ofInt ((i + 1 : Nat) : Int)))]) (fun q hq => ?_) (V_post (fun r w h => ?_) (obeM_l hG hW hB hf m (i + 1) (s) (by omega)))
        · simp only [List.mem_cons, List.not_mem_nil, or_false] at hq
          rcases hq with rfl | rfl | rfl | rfl <;> simp [stL, lv_args, Value.category]
        · unfold orS
          rw [show begS G i f = false from q2, if_neg Bool.false_ne_true]
          exact h
      · refine V_ipush mi_273_35 ?_
        refine V_iload (v := Int32.ofInt ((i : Int))) mi_273_36 (by simp [stL, lv_args, Value.category]) ?_
        refine V_ibin mi_273_37 (by omega) ?_
        refine V_goto mi_273_38 ?_
        refine V_ibin mi_273_42 (by omega) ?_
        refine V_istore mi_273_43 ?_
        refine V_iinc (v := Int32.ofInt ((i : Int))) mi_273_44 (by simp [stL, lv_args, Value.category]) ?_
        rw [ia2]
        refine V_goto mi_273_47 ?_
        refine V_sub (lv' := [(0, .ref (ad 90)), (1, .int (Int32.ofInt (f : Int))), (2, .int (ibF 6 s (ibF 8 (Int32.ofInt 1) (Int32.ofInt (i : Int))))), (3, .int (Int32.ofInt ((i + 1 : Nat) : Int)))]) (fun q hq => ?_) (V_post (fun r w h => ?_) (obeM_l hG hW hB hf m (i + 1) (ibF 6 s (ibF 8 (Int32.ofInt 1) (Int32.ofInt (i : Int)))) (by omega)))
        · simp only [List.mem_cons, List.not_mem_nil, or_false] at hq
          rcases hq with rfl | rfl | rfl | rfl <;> simp [stL, lv_args, Value.category]
        · unfold orS
          rw [show begS G i f = true from q2, if_pos rfl]
          exact h
theorem obeM_ct {G : Nat → Int} (hG : GOK ad tys GG ws) (hW : W91 G ws) (hB : HB G) {f : Int} (fI : I32 f) : CT l D tys A 273 4 0 0 [.ref (ad 90), .int (Int32.ofInt (f))] ws (fun r w => w = ws ∧ r = some (.int (obeV G f))) := by
  refine CT_of_V (by omega) (show (2 : Nat) ≤ mML 273 by decide +kernel) ?_
  refine V_aload (v := ad 90) mi_273_0 (by simp [stL, lv_args, Value.category]) ?_
  refine V_iload (v := Int32.ofInt (f)) mi_273_1 (by simp [stL, lv_args, Value.category]) ?_
  refine V_callM (As := [.int (Int32.ofInt (f))]) (st := []) mi_273_2 (by omega) (by decide +kernel) (by decide +kernel) hG (mfk_ct hG hW hB fI) (by omega) (show 1 = mN 199 by decide +kernel) (by simp [Value.category]) ?_
  rintro r w1 ⟨rfl, rfl⟩
  refine V_bne mi_273_5  (fun c1 => ?_) (fun c1 => ?_)
  · have c2 := of_decide_eq_true c1
    have b3 := hB.b3
    have bb := hB.b3
    obtain ⟨m, rfl⟩ := Int.eq_ofNat_of_zero_le c2.1
    refine V_ipush mi_273_11 ?_
    refine V_istore mi_273_12 ?_
    refine V_ipush mi_273_13 ?_
    refine V_istore mi_273_14 ?_
    refine V_sub (lv' := [(0, .ref (ad 90)), (1, .int (Int32.ofInt (m : Int))), (2, .int (Int32.ofInt 0)), (3, .int (Int32.ofInt ((0 : Nat) : Int)))]) (fun q hq => ?_) (V_post (fun r w h => ?_) (obeM_l hG hW hB c2.2 (G 3).toNat 0 (Int32.ofInt 0) (by rw [Nat.zero_add, Int.toNat_of_nonneg (by omega)])))
    · simp only [List.mem_cons, List.not_mem_nil, or_false] at hq
      rcases hq with rfl | rfl | rfl | rfl <;> simp [stL, lv_args, Value.category]
    · unfold obeV
      rw [Int.toNat_natCast, if_pos c2]
      exact h
  · refine V_ipush mi_273_8 ?_
    refine V_retI mi_273_10 (fun h => absurd h (by decide +kernel)) ⟨rfl, ?_⟩
    unfold obeV
    rw [if_neg (of_decide_eq_false c1)]
noncomputable def namV (G : Nat → Int) (f : Int) : Int32 := if 0 ≤ f ∧ f < G 3 then orS (fun o => !(Nat.beq o f.toNat) && (begS G o f.toNat && begS G f.toNat o)) (G 3).toNat 0 (Int32.ofInt 0) else Int32.ofInt (-2)
theorem nb_t {a b : Nat} (h : (a : Int) = (b : Int)) : (!(Nat.beq a b)) = false := by
  rw [show a = b by omega, Nat.beq_refl]; rfl
theorem nb_f {a b : Nat} (h : ¬ (a : Int) = (b : Int)) : (!(Nat.beq a b)) = true := by
  cases e : Nat.beq a b
  · rfl
  · exact absurd (by rw [Nat.eq_of_beq_eq_true e]) h
theorem namX_l {G : Nat → Int} (hG : GOK ad tys GG ws) (hX : HX 4 G ws) (hB : HB G) {f : Nat} (hf : (f : Int) < G 3) : ∀ (m i : Nat) (s : Int32), ((i + m : Nat) : Int) = G 3 → V l D tys A 30 4 0 0 (fun r w => w = ws ∧ r = some (.int (orS (fun o => !(Nat.beq o f) && (begS G o f && begS G f o)) m i s))) 0 0 18 [(0, .ref (ad 0)), (1, .int (Int32.ofInt (f : Int))), (2, .int s), (3, .int (Int32.ofInt (i : Int)))] [] ws
  | 0, i, s, hm => by
    have bb := hB.b3
    refine V_iload (v := Int32.ofInt ((i : Int))) mi_30_18 (by simp [stL, lv_args, Value.category]) ?_
    refine V_aload (v := ad 0) mi_30_19 (by simp [stL, lv_args, Value.category]) ?_
    refine V_gR mi_30_20 g0r2 (by omega) hG ?_
    refine V_gO mi_30_23 g4o hG (show rd _ 4 4 = some (.int (Int32.ofInt (G 3))) from hx0 hX (i := 4) (by omega)) ?_
    refine V_cge mi_30_26 ⟨by omega, by omega⟩ ⟨by omega, by omega⟩ (fun q => ?_) (fun q => ?_)
    · refine V_iload (v := s) mi_30_70 (by simp [stL, lv_args, Value.category]) ?_
      exact V_retI mi_30_71 (fun h => absurd h (by decide +kernel)) ⟨rfl, rfl⟩
    · exact absurd q (by omega)
  | m + 1, i, s, hm => by
    have bb := hB.b3
    refine V_iload (v := Int32.ofInt ((i : Int))) mi_30_18 (by simp [stL, lv_args, Value.category]) ?_
    refine V_aload (v := ad 0) mi_30_19 (by simp [stL, lv_args, Value.category]) ?_
    refine V_gR mi_30_20 g0r2 (by omega) hG ?_
    refine V_gO mi_30_23 g4o hG (show rd _ 4 4 = some (.int (Int32.ofInt (G 3))) from hx0 hX (i := 4) (by omega)) ?_
    refine V_cge mi_30_26 ⟨by omega, by omega⟩ ⟨by omega, by omega⟩ (fun q => ?_) (fun q => ?_)
    · exact absurd q (by omega)
    · refine V_iload (v := Int32.ofInt ((i : Int))) mi_30_29 (by simp [stL, lv_args, Value.category]) ?_
      refine V_iload (v := Int32.ofInt ((f : Int))) mi_30_30 (by simp [stL, lv_args, Value.category]) ?_
      refine V_ceq mi_30_31 ⟨by omega, by omega⟩ ⟨by omega, by omega⟩ (fun q2 => ?_) (fun q2 => ?_)
      · refine V_iinc (v := Int32.ofInt ((i : Int))) mi_30_64 (by simp [stL, lv_args, Value.category]) ?_
        rw [ia2]
        refine V_goto mi_30_67 ?_
        refine V_sub (lv' := [(0, .ref (ad 0)), (1, .int (Int32.ofInt (f : Int))), (2, .int (s)), (3, .int (Int32.ofInt ((i + 1 : Nat) : Int)))]) (fun q hq => ?_) (V_post (fun r w h => ?_) (namX_l hG hX hB hf m (i + 1) (s) (by omega)))
        · simp only [List.mem_cons, List.not_mem_nil, or_false] at hq
          rcases hq with rfl | rfl | rfl | rfl <;> simp [stL, lv_args, Value.category]
        · unfold orS
          rw [show (!(Nat.beq i f) && (begS G i f && begS G f i)) = false by rw [nb_t q2, Bool.false_and], if_neg Bool.false_ne_true]
          exact h
      · refine V_aload (v := ad 0) mi_30_34 (by simp [stL, lv_args, Value.category]) ?_
        refine V_gR mi_30_35 g0r2 (by omega) hG ?_
        refine V_iload (v := Int32.ofInt ((i : Int))) mi_30_38 (by simp [stL, lv_args, Value.category]) ?_
        refine V_iload (v := Int32.ofInt ((f : Int))) mi_30_39 (by simp [stL, lv_args, Value.category]) ?_
        refine V_cO (As := [.int (Int32.ofInt ((i : Int))), .int (Int32.ofInt ((f : Int)))]) (st := []) mi_30_40 (by omega) (by decide +kernel) (by decide +kernel) (by omega) g4o hG (beX_ct (a := i) (b := f) hG hX hB (by omega) (by omega)) (by omega) (show 2 = mN 114 by decide +kernel) (by simp [Value.category]) ?_
        rintro r w2 ⟨e2, rfl⟩
        rw [e2]
        refine V_beq mi_30_43  (fun q3 => ?_) (fun q3 => ?_)
        · refine V_iinc (v := Int32.ofInt ((i : Int))) mi_30_64 (by simp [stL, lv_args, Value.category]) ?_
          rw [ia2]
          refine V_goto mi_30_67 ?_
          refine V_sub (lv' := [(0, .ref (ad 0)), (1, .int (Int32.ofInt (f : Int))), (2, .int (s)), (3, .int (Int32.ofInt ((i + 1 : Nat) : Int)))]) (fun q hq => ?_) (V_post (fun r w h => ?_) (namX_l hG hX hB hf m (i + 1) (s) (by omega)))
          · simp only [List.mem_cons, List.not_mem_nil, or_false] at hq
            rcases hq with rfl | rfl | rfl | rfl <;> simp [stL, lv_args, Value.category]
          · unfold orS
            rw [show (!(Nat.beq i f) && (begS G i f && begS G f i)) = false by rw [nb_f q2, q3]; rfl, if_neg Bool.false_ne_true]
            exact h
        · refine V_aload (v := ad 0) mi_30_46 (by simp [stL, lv_args, Value.category]) ?_
          refine V_gR mi_30_47 g0r2 (by omega) hG ?_
          refine V_iload (v := Int32.ofInt ((f : Int))) mi_30_50 (by simp [stL, lv_args, Value.category]) ?_
          refine V_iload (v := Int32.ofInt ((i : Int))) mi_30_51 (by simp [stL, lv_args, Value.category]) ?_
          refine V_cO (As := [.int (Int32.ofInt ((f : Int))), .int (Int32.ofInt ((i : Int)))]) (st := []) mi_30_52 (by omega) (by decide +kernel) (by decide +kernel) (by omega) g4o hG (beX_ct (a := f) (b := i) hG hX hB (by omega) (by omega)) (by omega) (show 2 = mN 114 by decide +kernel) (by simp [Value.category]) ?_
          rintro r w3 ⟨e3, rfl⟩
          rw [e3]
          refine V_beq mi_30_55  (fun q4 => ?_) (fun q4 => ?_)
          · refine V_iinc (v := Int32.ofInt ((i : Int))) mi_30_64 (by simp [stL, lv_args, Value.category]) ?_
            rw [ia2]
            refine V_goto mi_30_67 ?_
            refine V_sub (lv' := [(0, .ref (ad 0)), (1, .int (Int32.ofInt (f : Int))), (2, .int (s)), (3, .int (Int32.ofInt ((i + 1 : Nat) : Int)))]) (fun q hq => ?_) (V_post (fun r w h => ?_) (namX_l hG hX hB hf m (i + 1) (s) (by omega)))
            · simp only [List.mem_cons, List.not_mem_nil, or_false] at hq
              rcases hq with rfl | rfl | rfl | rfl <;> simp [stL, lv_args, Value.category]
            · unfold orS
              rw [show (!(Nat.beq i f) && (begS G i f && begS G f i)) = false by rw [nb_f q2, q3, q4]; rfl, if_neg Bool.false_ne_true]
              exact h
          · refine V_iload (v := s) mi_30_58 (by simp [stL, lv_args, Value.category]) ?_
            refine V_ipush mi_30_59 ?_
            refine V_iload (v := Int32.ofInt ((i : Int))) mi_30_60 (by simp [stL, lv_args, Value.category]) ?_
            refine V_ibin mi_30_61 (by omega) ?_
            refine V_ibin mi_30_62 (by omega) ?_
            refine V_istore mi_30_63 ?_
            refine V_iinc (v := Int32.ofInt ((i : Int))) mi_30_64 (by simp [stL, lv_args, Value.category]) ?_
            rw [ia2]
            refine V_goto mi_30_67 ?_
            refine V_sub (lv' := [(0, .ref (ad 0)), (1, .int (Int32.ofInt (f : Int))), (2, .int (ibF 6 s (ibF 8 (Int32.ofInt 1) (Int32.ofInt (i : Int))))), (3, .int (Int32.ofInt ((i + 1 : Nat) : Int)))]) (fun q hq => ?_) (V_post (fun r w h => ?_) (namX_l hG hX hB hf m (i + 1) (ibF 6 s (ibF 8 (Int32.ofInt 1) (Int32.ofInt (i : Int)))) (by omega)))
            · simp only [List.mem_cons, List.not_mem_nil, or_false] at hq
              rcases hq with rfl | rfl | rfl | rfl <;> simp [stL, lv_args, Value.category]
            · unfold orS
              rw [show (!(Nat.beq i f) && (begS G i f && begS G f i)) = true by rw [nb_f q2, q3, q4]; rfl, if_pos rfl]
              exact h
theorem namX_ct {G : Nat → Int} (hG : GOK ad tys GG ws) (hX : HX 4 G ws) (hB : HB G) {f : Int} (fI : I32 f) : CT l D tys A 30 4 0 0 [.ref (ad 0), .int (Int32.ofInt (f))] ws (fun r w => w = ws ∧ r = some (.int (namV G f))) := by
  refine CT_of_V (by omega) (show (2 : Nat) ≤ mML 30 by decide +kernel) ?_
  refine V_aload (v := ad 0) mi_30_0 (by simp [stL, lv_args, Value.category]) ?_
  refine V_gR mi_30_1 g0r2 (by omega) hG ?_
  refine V_iload (v := Int32.ofInt (f)) mi_30_4 (by simp [stL, lv_args, Value.category]) ?_
  refine V_cO (As := [.int (Int32.ofInt (f))]) (st := []) mi_30_5 (by omega) (by decide +kernel) (by decide +kernel) (by omega) g4o hG (hfk_ct hG hX hB fI) (by omega) (show 1 = mN 102 by decide +kernel) (by simp [Value.category]) ?_
  rintro r w1 ⟨rfl, rfl⟩
  refine V_bne mi_30_8  (fun c1 => ?_) (fun c1 => ?_)
  · have c2 := of_decide_eq_true c1
    have b3 := hB.b3
    have bb := hB.b3
    obtain ⟨m, rfl⟩ := Int.eq_ofNat_of_zero_le c2.1
    refine V_ipush mi_30_14 ?_
    refine V_istore mi_30_15 ?_
    refine V_ipush mi_30_16 ?_
    refine V_istore mi_30_17 ?_
    refine V_sub (lv' := [(0, .ref (ad 0)), (1, .int (Int32.ofInt (m : Int))), (2, .int (Int32.ofInt 0)), (3, .int (Int32.ofInt ((0 : Nat) : Int)))]) (fun q hq => ?_) (V_post (fun r w h => ?_) (namX_l hG hX hB c2.2 (G 3).toNat 0 (Int32.ofInt 0) (by rw [Nat.zero_add, Int.toNat_of_nonneg (by omega)])))
    · simp only [List.mem_cons, List.not_mem_nil, or_false] at hq
      rcases hq with rfl | rfl | rfl | rfl <;> simp [stL, lv_args, Value.category]
    · unfold namV
      rw [Int.toNat_natCast, if_pos c2]
      exact h
  · refine V_ipush mi_30_11 ?_
    refine V_retI mi_30_13 (fun h => absurd h (by decide +kernel)) ⟨rfl, ?_⟩
    unfold namV
    rw [if_neg (of_decide_eq_false c1)]
theorem namM_l {G : Nat → Int} (hG : GOK ad tys GG ws) (hW : W91 G ws) (hB : HB G) {f : Nat} (hf : (f : Int) < G 3) : ∀ (m i : Nat) (s : Int32), ((i + m : Nat) : Int) = G 3 → V l D tys A 274 4 0 0 (fun r w => w = ws ∧ r = some (.int (orS (fun o => !(Nat.beq o f) && (begS G o f && begS G f o)) m i s))) 0 0 15 [(0, .ref (ad 90)), (1, .int (Int32.ofInt (f : Int))), (2, .int s), (3, .int (Int32.ofInt (i : Int)))] [] ws
  | 0, i, s, hm => by
    obtain ⟨s91, e91, -⟩ := g91s
    have bb := hB.b3
    refine V_iload (v := Int32.ofInt ((i : Int))) mi_274_15 (by simp [stL, lv_args, Value.category]) ?_
    refine V_aload (v := ad 90) mi_274_16 (by simp [stL, lv_args, Value.category]) ?_
    refine V_getI mi_274_17 hG (rref gr1m (by omega) hG) ?_
    refine V_ipush mi_274_20 ?_
    refine V_aldX (j := 3) mi_274_21 rfl hG e91 (by omega) (by omega) (hW _ (by omega)) ?_
    refine V_cge mi_274_22 ⟨by omega, by omega⟩ ⟨by omega, by omega⟩ (fun q => ?_) (fun q => ?_)
    · refine V_iload (v := s) mi_274_68 (by simp [stL, lv_args, Value.category]) ?_
      exact V_retI mi_274_69 (fun h => absurd h (by decide +kernel)) ⟨rfl, rfl⟩
    · exact absurd q (by omega)
  | m + 1, i, s, hm => by
    obtain ⟨s91, e91, -⟩ := g91s
    have bb := hB.b3
    refine V_iload (v := Int32.ofInt ((i : Int))) mi_274_15 (by simp [stL, lv_args, Value.category]) ?_
    refine V_aload (v := ad 90) mi_274_16 (by simp [stL, lv_args, Value.category]) ?_
    refine V_getI mi_274_17 hG (rref gr1m (by omega) hG) ?_
    refine V_ipush mi_274_20 ?_
    refine V_aldX (j := 3) mi_274_21 rfl hG e91 (by omega) (by omega) (hW _ (by omega)) ?_
    refine V_cge mi_274_22 ⟨by omega, by omega⟩ ⟨by omega, by omega⟩ (fun q => ?_) (fun q => ?_)
    · exact absurd q (by omega)
    · have bli := hB.bl i (by omega)
      have blf := hB.bl f (by omega)
      refine V_iload (v := s) mi_274_25 (by simp [stL, lv_args, Value.category]) ?_
      refine V_iload (v := Int32.ofInt ((i : Int))) mi_274_26 (by simp [stL, lv_args, Value.category]) ?_
      refine V_iload (v := Int32.ofInt ((f : Int))) mi_274_27 (by simp [stL, lv_args, Value.category]) ?_
      refine V_ceq mi_274_28 ⟨by omega, by omega⟩ ⟨by omega, by omega⟩ (fun q2 => ?_) (fun q2 => ?_)
      · refine V_ipush mi_274_59 ?_
        refine V_ibin mi_274_60 (by omega) ?_
        rw [or0]
        refine V_istore mi_274_61 ?_
        refine V_iinc (v := Int32.ofInt ((i : Int))) mi_274_62 (by simp [stL, lv_args, Value.category]) ?_
        rw [ia2]
        refine V_goto mi_274_65 ?_
        refine V_sub (lv' := [(0, .ref (ad 90)), (1, .int (Int32.ofInt (f : Int))), (2, .int (s)), (3, .int (Int32.ofInt ((i + 1 : Nat) : Int)))]) (fun q hq => ?_) (V_post (fun r w h => ?_) (namM_l hG hW hB hf m (i + 1) (s) (by omega)))
        · simp only [List.mem_cons, List.not_mem_nil, or_false] at hq
          rcases hq with rfl | rfl | rfl | rfl <;> simp [stL, lv_args, Value.category]
        · unfold orS
          rw [show (!(Nat.beq i f) && (begS G i f && begS G f i)) = false by rw [nb_t q2, Bool.false_and], if_neg Bool.false_ne_true]
          exact h
      · refine V_aload (v := ad 90) mi_274_31 (by simp [stL, lv_args, Value.category]) ?_
        refine V_iload (v := Int32.ofInt ((i : Int))) mi_274_32 (by simp [stL, lv_args, Value.category]) ?_
        refine V_callM (As := [.int (Int32.ofInt ((i : Int)))]) (st := [.int (s)]) mi_274_33 (by omega) (by decide +kernel) (by decide +kernel) hG (mle_ct (f := i) hG hW hB (by omega)) (by omega) (show 1 = mN 204 by decide +kernel) (by simp [Value.category]) ?_
        rintro r w2 ⟨e2, rfl⟩
        rw [e2]
        refine V_aload (v := ad 90) mi_274_36 (by simp [stL, lv_args, Value.category]) ?_
        refine V_iload (v := Int32.ofInt ((f : Int))) mi_274_37 (by simp [stL, lv_args, Value.category]) ?_
        refine V_callM (As := [.int (Int32.ofInt ((f : Int)))]) (st := [.int (Int32.ofInt (G (6 + 7 * i))), .int (s)]) mi_274_38 (by omega) (by decide +kernel) (by decide +kernel) hG (mle_ct (f := f) hG hW hB (by omega)) (by omega) (show 1 = mN 204 by decide +kernel) (by simp [Value.category]) ?_
        rintro r w3 ⟨e3, rfl⟩
        rw [e3]
        refine V_cne mi_274_41 ⟨by omega, by omega⟩ ⟨by omega, by omega⟩ (fun q3 => ?_) (fun q3 => ?_)
        · refine V_ipush mi_274_59 ?_
          refine V_ibin mi_274_60 (by omega) ?_
          rw [or0]
          refine V_istore mi_274_61 ?_
          refine V_iinc (v := Int32.ofInt ((i : Int))) mi_274_62 (by simp [stL, lv_args, Value.category]) ?_
          rw [ia2]
          refine V_goto mi_274_65 ?_
          refine V_sub (lv' := [(0, .ref (ad 90)), (1, .int (Int32.ofInt (f : Int))), (2, .int (s)), (3, .int (Int32.ofInt ((i + 1 : Nat) : Int)))]) (fun q hq => ?_) (V_post (fun r w h => ?_) (namM_l hG hW hB hf m (i + 1) (s) (by omega)))
          · simp only [List.mem_cons, List.not_mem_nil, or_false] at hq
            rcases hq with rfl | rfl | rfl | rfl <;> simp [stL, lv_args, Value.category]
          · unfold orS
            rw [show (!(Nat.beq i f) && (begS G i f && begS G f i)) = false by rw [beg_both, decide_eq_false q3, Bool.false_and, Bool.and_false], if_neg Bool.false_ne_true]
            exact h
        · refine V_aload (v := ad 90) mi_274_44 (by simp [stL, lv_args, Value.category]) ?_
          refine V_iload (v := Int32.ofInt ((i : Int))) mi_274_45 (by simp [stL, lv_args, Value.category]) ?_
          refine V_iload (v := Int32.ofInt ((f : Int))) mi_274_46 (by simp [stL, lv_args, Value.category]) ?_
          refine V_callM (As := [.int (Int32.ofInt ((i : Int))), .int (Int32.ofInt ((f : Int)))]) (st := [.int (s)]) mi_274_47 (by omega) (by decide +kernel) (by decide +kernel) hG (beM_ct (a := i) (b := f) hG hW hB (by omega) (by omega)) (by omega) (show 2 = mN 272 by decide +kernel) (by simp [Value.category]) ?_
          rintro r w4 ⟨e4, rfl⟩
          rw [e4]
          refine V_beq mi_274_50  (fun q4 => ?_) (fun q4 => ?_)
          · refine V_ipush mi_274_59 ?_
            refine V_ibin mi_274_60 (by omega) ?_
            rw [or0]
            refine V_istore mi_274_61 ?_
            refine V_iinc (v := Int32.ofInt ((i : Int))) mi_274_62 (by simp [stL, lv_args, Value.category]) ?_
            rw [ia2]
            refine V_goto mi_274_65 ?_
            refine V_sub (lv' := [(0, .ref (ad 90)), (1, .int (Int32.ofInt (f : Int))), (2, .int (s)), (3, .int (Int32.ofInt ((i + 1 : Nat) : Int)))]) (fun q hq => ?_) (V_post (fun r w h => ?_) (namM_l hG hW hB hf m (i + 1) (s) (by omega)))
            · simp only [List.mem_cons, List.not_mem_nil, or_false] at hq
              rcases hq with rfl | rfl | rfl | rfl <;> simp [stL, lv_args, Value.category]
            · unfold orS
              rw [show (!(Nat.beq i f) && (begS G i f && begS G f i)) = false by rw [q4, Bool.false_and, Bool.and_false], if_neg Bool.false_ne_true]
              exact h
          · refine V_ipush mi_274_53 ?_
            refine V_iload (v := Int32.ofInt ((i : Int))) mi_274_54 (by simp [stL, lv_args, Value.category]) ?_
            refine V_ibin mi_274_55 (by omega) ?_
            refine V_goto mi_274_56 ?_
            refine V_ibin mi_274_60 (by omega) ?_
            refine V_istore mi_274_61 ?_
            refine V_iinc (v := Int32.ofInt ((i : Int))) mi_274_62 (by simp [stL, lv_args, Value.category]) ?_
            rw [ia2]
            refine V_goto mi_274_65 ?_
            refine V_sub (lv' := [(0, .ref (ad 90)), (1, .int (Int32.ofInt (f : Int))), (2, .int (ibF 6 s (ibF 8 (Int32.ofInt 1) (Int32.ofInt (i : Int))))), (3, .int (Int32.ofInt ((i + 1 : Nat) : Int)))]) (fun q hq => ?_) (V_post (fun r w h => ?_) (namM_l hG hW hB hf m (i + 1) (ibF 6 s (ibF 8 (Int32.ofInt 1) (Int32.ofInt (i : Int)))) (by omega)))
            · simp only [List.mem_cons, List.not_mem_nil, or_false] at hq
              rcases hq with rfl | rfl | rfl | rfl <;> simp [stL, lv_args, Value.category]
            · unfold orS
              rw [show (!(Nat.beq i f) && (begS G i f && begS G f i)) = true by rw [beg_both, nb_f q2, decide_eq_true q3, q4]; rfl, if_pos rfl]
              exact h
theorem namM_ct {G : Nat → Int} (hG : GOK ad tys GG ws) (hW : W91 G ws) (hB : HB G) {f : Int} (fI : I32 f) : CT l D tys A 274 4 0 0 [.ref (ad 90), .int (Int32.ofInt (f))] ws (fun r w => w = ws ∧ r = some (.int (namV G f))) := by
  refine CT_of_V (by omega) (show (2 : Nat) ≤ mML 274 by decide +kernel) ?_
  refine V_aload (v := ad 90) mi_274_0 (by simp [stL, lv_args, Value.category]) ?_
  refine V_iload (v := Int32.ofInt (f)) mi_274_1 (by simp [stL, lv_args, Value.category]) ?_
  refine V_callM (As := [.int (Int32.ofInt (f))]) (st := []) mi_274_2 (by omega) (by decide +kernel) (by decide +kernel) hG (mfk_ct hG hW hB fI) (by omega) (show 1 = mN 199 by decide +kernel) (by simp [Value.category]) ?_
  rintro r w1 ⟨rfl, rfl⟩
  refine V_bne mi_274_5  (fun c1 => ?_) (fun c1 => ?_)
  · have c2 := of_decide_eq_true c1
    have b3 := hB.b3
    have bb := hB.b3
    obtain ⟨m, rfl⟩ := Int.eq_ofNat_of_zero_le c2.1
    refine V_ipush mi_274_11 ?_
    refine V_istore mi_274_12 ?_
    refine V_ipush mi_274_13 ?_
    refine V_istore mi_274_14 ?_
    refine V_sub (lv' := [(0, .ref (ad 90)), (1, .int (Int32.ofInt (m : Int))), (2, .int (Int32.ofInt 0)), (3, .int (Int32.ofInt ((0 : Nat) : Int)))]) (fun q hq => ?_) (V_post (fun r w h => ?_) (namM_l hG hW hB c2.2 (G 3).toNat 0 (Int32.ofInt 0) (by rw [Nat.zero_add, Int.toNat_of_nonneg (by omega)])))
    · simp only [List.mem_cons, List.not_mem_nil, or_false] at hq
      rcases hq with rfl | rfl | rfl | rfl <;> simp [stL, lv_args, Value.category]
    · unfold namV
      rw [Int.toNat_natCast, if_pos c2]
      exact h
  · refine V_ipush mi_274_8 ?_
    refine V_retI mi_274_10 (fun h => absurd h (by decide +kernel)) ⟨rfl, ?_⟩
    unfold namV
    rw [if_neg (of_decide_eq_false c1)]
noncomputable def claV (G : Nat → Int) (f : Int) : Int32 := if 0 ≤ f ∧ f < G 3 then orS (fun o => !(Nat.beq o f.toNat) && (begS G o f.toNat || begS G f.toNat o)) (G 3).toNat 0 (Int32.ofInt 0) else Int32.ofInt (-2)
theorem claX_l {G : Nat → Int} (hG : GOK ad tys GG ws) (hX : HX 4 G ws) (hB : HB G) {f : Nat} (hf : (f : Int) < G 3) : ∀ (m i : Nat) (s : Int32), ((i + m : Nat) : Int) = G 3 → V l D tys A 31 4 0 0 (fun r w => w = ws ∧ r = some (.int (orS (fun o => !(Nat.beq o f) && (begS G o f || begS G f o)) m i s))) 0 0 18 [(0, .ref (ad 0)), (1, .int (Int32.ofInt (f : Int))), (2, .int s), (3, .int (Int32.ofInt (i : Int)))] [] ws
  | 0, i, s, hm => by
    have bb := hB.b3
    refine V_iload (v := Int32.ofInt ((i : Int))) mi_31_18 (by simp [stL, lv_args, Value.category]) ?_
    refine V_aload (v := ad 0) mi_31_19 (by simp [stL, lv_args, Value.category]) ?_
    refine V_gR mi_31_20 g0r2 (by omega) hG ?_
    refine V_gO mi_31_23 g4o hG (show rd _ 4 4 = some (.int (Int32.ofInt (G 3))) from hx0 hX (i := 4) (by omega)) ?_
    refine V_cge mi_31_26 ⟨by omega, by omega⟩ ⟨by omega, by omega⟩ (fun q => ?_) (fun q => ?_)
    · refine V_iload (v := s) mi_31_70 (by simp [stL, lv_args, Value.category]) ?_
      exact V_retI mi_31_71 (fun h => absurd h (by decide +kernel)) ⟨rfl, rfl⟩
    · exact absurd q (by omega)
  | m + 1, i, s, hm => by
    have bb := hB.b3
    refine V_iload (v := Int32.ofInt ((i : Int))) mi_31_18 (by simp [stL, lv_args, Value.category]) ?_
    refine V_aload (v := ad 0) mi_31_19 (by simp [stL, lv_args, Value.category]) ?_
    refine V_gR mi_31_20 g0r2 (by omega) hG ?_
    refine V_gO mi_31_23 g4o hG (show rd _ 4 4 = some (.int (Int32.ofInt (G 3))) from hx0 hX (i := 4) (by omega)) ?_
    refine V_cge mi_31_26 ⟨by omega, by omega⟩ ⟨by omega, by omega⟩ (fun q => ?_) (fun q => ?_)
    · exact absurd q (by omega)
    · refine V_iload (v := Int32.ofInt ((i : Int))) mi_31_29 (by simp [stL, lv_args, Value.category]) ?_
      refine V_iload (v := Int32.ofInt ((f : Int))) mi_31_30 (by simp [stL, lv_args, Value.category]) ?_
      refine V_ceq mi_31_31 ⟨by omega, by omega⟩ ⟨by omega, by omega⟩ (fun q2 => ?_) (fun q2 => ?_)
      · refine V_iinc (v := Int32.ofInt ((i : Int))) mi_31_64 (by simp [stL, lv_args, Value.category]) ?_
        rw [ia2]
        refine V_goto mi_31_67 ?_
        refine V_sub (lv' := [(0, .ref (ad 0)), (1, .int (Int32.ofInt (f : Int))), (2, .int (s)), (3, .int (Int32.ofInt ((i + 1 : Nat) : Int)))]) (fun q hq => ?_) (V_post (fun r w h => ?_) (claX_l hG hX hB hf m (i + 1) (s) (by omega)))
        · simp only [List.mem_cons, List.not_mem_nil, or_false] at hq
          rcases hq with rfl | rfl | rfl | rfl <;> simp [stL, lv_args, Value.category]
        · unfold orS
          rw [show (!(Nat.beq i f) && (begS G i f || begS G f i)) = false by rw [nb_t q2, Bool.false_and], if_neg Bool.false_ne_true]
          exact h
      · refine V_aload (v := ad 0) mi_31_34 (by simp [stL, lv_args, Value.category]) ?_
        refine V_gR mi_31_35 g0r2 (by omega) hG ?_
        refine V_iload (v := Int32.ofInt ((i : Int))) mi_31_38 (by simp [stL, lv_args, Value.category]) ?_
        refine V_iload (v := Int32.ofInt ((f : Int))) mi_31_39 (by simp [stL, lv_args, Value.category]) ?_
        refine V_cO (As := [.int (Int32.ofInt ((i : Int))), .int (Int32.ofInt ((f : Int)))]) (st := []) mi_31_40 (by omega) (by decide +kernel) (by decide +kernel) (by omega) g4o hG (beX_ct (a := i) (b := f) hG hX hB (by omega) (by omega)) (by omega) (show 2 = mN 114 by decide +kernel) (by simp [Value.category]) ?_
        rintro r w2 ⟨e2, rfl⟩
        rw [e2]
        refine V_bne mi_31_43  (fun q3 => ?_) (fun q3 => ?_)
        · refine V_iload (v := s) mi_31_58 (by simp [stL, lv_args, Value.category]) ?_
          refine V_ipush mi_31_59 ?_
          refine V_iload (v := Int32.ofInt ((i : Int))) mi_31_60 (by simp [stL, lv_args, Value.category]) ?_
          refine V_ibin mi_31_61 (by omega) ?_
          refine V_ibin mi_31_62 (by omega) ?_
          refine V_istore mi_31_63 ?_
          refine V_iinc (v := Int32.ofInt ((i : Int))) mi_31_64 (by simp [stL, lv_args, Value.category]) ?_
          rw [ia2]
          refine V_goto mi_31_67 ?_
          refine V_sub (lv' := [(0, .ref (ad 0)), (1, .int (Int32.ofInt (f : Int))), (2, .int (ibF 6 s (ibF 8 (Int32.ofInt 1) (Int32.ofInt (i : Int))))), (3, .int (Int32.ofInt ((i + 1 : Nat) : Int)))]) (fun q hq => ?_) (V_post (fun r w h => ?_) (claX_l hG hX hB hf m (i + 1) (ibF 6 s (ibF 8 (Int32.ofInt 1) (Int32.ofInt (i : Int)))) (by omega)))
          · simp only [List.mem_cons, List.not_mem_nil, or_false] at hq
            rcases hq with rfl | rfl | rfl | rfl <;> simp [stL, lv_args, Value.category]
          · unfold orS
            rw [show (!(Nat.beq i f) && (begS G i f || begS G f i)) = true by rw [nb_f q2, q3]; rfl, if_pos rfl]
            exact h
        · refine V_aload (v := ad 0) mi_31_46 (by simp [stL, lv_args, Value.category]) ?_
          refine V_gR mi_31_47 g0r2 (by omega) hG ?_
          refine V_iload (v := Int32.ofInt ((f : Int))) mi_31_50 (by simp [stL, lv_args, Value.category]) ?_
          refine V_iload (v := Int32.ofInt ((i : Int))) mi_31_51 (by simp [stL, lv_args, Value.category]) ?_
          refine V_cO (As := [.int (Int32.ofInt ((f : Int))), .int (Int32.ofInt ((i : Int)))]) (st := []) mi_31_52 (by omega) (by decide +kernel) (by decide +kernel) (by omega) g4o hG (beX_ct (a := f) (b := i) hG hX hB (by omega) (by omega)) (by omega) (show 2 = mN 114 by decide +kernel) (by simp [Value.category]) ?_
          rintro r w3 ⟨e3, rfl⟩
          rw [e3]
          refine V_beq mi_31_55  (fun q4 => ?_) (fun q4 => ?_)
          · refine V_iinc (v := Int32.ofInt ((i : Int))) mi_31_64 (by simp [stL, lv_args, Value.category]) ?_
            rw [ia2]
            refine V_goto mi_31_67 ?_
            refine V_sub (lv' := [(0, .ref (ad 0)), (1, .int (Int32.ofInt (f : Int))), (2, .int (s)), (3, .int (Int32.ofInt ((i + 1 : Nat) : Int)))]) (fun q hq => ?_) (V_post (fun r w h => ?_) (claX_l hG hX hB hf m (i + 1) (s) (by omega)))
            · simp only [List.mem_cons, List.not_mem_nil, or_false] at hq
              rcases hq with rfl | rfl | rfl | rfl <;> simp [stL, lv_args, Value.category]
            · unfold orS
              rw [show (!(Nat.beq i f) && (begS G i f || begS G f i)) = false by rw [nb_f q2, q3, q4]; rfl, if_neg Bool.false_ne_true]
              exact h
          · refine V_iload (v := s) mi_31_58 (by simp [stL, lv_args, Value.category]) ?_
            refine V_ipush mi_31_59 ?_
            refine V_iload (v := Int32.ofInt ((i : Int))) mi_31_60 (by simp [stL, lv_args, Value.category]) ?_
            refine V_ibin mi_31_61 (by omega) ?_
            refine V_ibin mi_31_62 (by omega) ?_
            refine V_istore mi_31_63 ?_
            refine V_iinc (v := Int32.ofInt ((i : Int))) mi_31_64 (by simp [stL, lv_args, Value.category]) ?_
            rw [ia2]
            refine V_goto mi_31_67 ?_
            refine V_sub (lv' := [(0, .ref (ad 0)), (1, .int (Int32.ofInt (f : Int))), (2, .int (ibF 6 s (ibF 8 (Int32.ofInt 1) (Int32.ofInt (i : Int))))), (3, .int (Int32.ofInt ((i + 1 : Nat) : Int)))]) (fun q hq => ?_) (V_post (fun r w h => ?_) (claX_l hG hX hB hf m (i + 1) (ibF 6 s (ibF 8 (Int32.ofInt 1) (Int32.ofInt (i : Int)))) (by omega)))
            · simp only [List.mem_cons, List.not_mem_nil, or_false] at hq
              rcases hq with rfl | rfl | rfl | rfl <;> simp [stL, lv_args, Value.category]
            · unfold orS
              rw [show (!(Nat.beq i f) && (begS G i f || begS G f i)) = true by rw [nb_f q2, q3, q4]; rfl, if_pos rfl]
              exact h
theorem claX_ct {G : Nat → Int} (hG : GOK ad tys GG ws) (hX : HX 4 G ws) (hB : HB G) {f : Int} (fI : I32 f) : CT l D tys A 31 4 0 0 [.ref (ad 0), .int (Int32.ofInt (f))] ws (fun r w => w = ws ∧ r = some (.int (claV G f))) := by
  refine CT_of_V (by omega) (show (2 : Nat) ≤ mML 31 by decide +kernel) ?_
  refine V_aload (v := ad 0) mi_31_0 (by simp [stL, lv_args, Value.category]) ?_
  refine V_gR mi_31_1 g0r2 (by omega) hG ?_
  refine V_iload (v := Int32.ofInt (f)) mi_31_4 (by simp [stL, lv_args, Value.category]) ?_
  refine V_cO (As := [.int (Int32.ofInt (f))]) (st := []) mi_31_5 (by omega) (by decide +kernel) (by decide +kernel) (by omega) g4o hG (hfk_ct hG hX hB fI) (by omega) (show 1 = mN 102 by decide +kernel) (by simp [Value.category]) ?_
  rintro r w1 ⟨rfl, rfl⟩
  refine V_bne mi_31_8  (fun c1 => ?_) (fun c1 => ?_)
  · have c2 := of_decide_eq_true c1
    have b3 := hB.b3
    have bb := hB.b3
    obtain ⟨m, rfl⟩ := Int.eq_ofNat_of_zero_le c2.1
    refine V_ipush mi_31_14 ?_
    refine V_istore mi_31_15 ?_
    refine V_ipush mi_31_16 ?_
    refine V_istore mi_31_17 ?_
    refine V_sub (lv' := [(0, .ref (ad 0)), (1, .int (Int32.ofInt (m : Int))), (2, .int (Int32.ofInt 0)), (3, .int (Int32.ofInt ((0 : Nat) : Int)))]) (fun q hq => ?_) (V_post (fun r w h => ?_) (claX_l hG hX hB c2.2 (G 3).toNat 0 (Int32.ofInt 0) (by rw [Nat.zero_add, Int.toNat_of_nonneg (by omega)])))
    · simp only [List.mem_cons, List.not_mem_nil, or_false] at hq
      rcases hq with rfl | rfl | rfl | rfl <;> simp [stL, lv_args, Value.category]
    · unfold claV
      rw [Int.toNat_natCast, if_pos c2]
      exact h
  · refine V_ipush mi_31_11 ?_
    refine V_retI mi_31_13 (fun h => absurd h (by decide +kernel)) ⟨rfl, ?_⟩
    unfold claV
    rw [if_neg (of_decide_eq_false c1)]
theorem claM_l {G : Nat → Int} (hG : GOK ad tys GG ws) (hW : W91 G ws) (hB : HB G) {f : Nat} (hf : (f : Int) < G 3) : ∀ (m i : Nat) (s : Int32), ((i + m : Nat) : Int) = G 3 → V l D tys A 275 4 0 0 (fun r w => w = ws ∧ r = some (.int (orS (fun o => !(Nat.beq o f) && (begS G o f || begS G f o)) m i s))) 0 0 15 [(0, .ref (ad 90)), (1, .int (Int32.ofInt (f : Int))), (2, .int s), (3, .int (Int32.ofInt (i : Int)))] [] ws
  | 0, i, s, hm => by
    obtain ⟨s91, e91, -⟩ := g91s
    have bb := hB.b3
    refine V_iload (v := Int32.ofInt ((i : Int))) mi_275_15 (by simp [stL, lv_args, Value.category]) ?_
    refine V_aload (v := ad 90) mi_275_16 (by simp [stL, lv_args, Value.category]) ?_
    refine V_getI mi_275_17 hG (rref gr1m (by omega) hG) ?_
    refine V_ipush mi_275_20 ?_
    refine V_aldX (j := 3) mi_275_21 rfl hG e91 (by omega) (by omega) (hW _ (by omega)) ?_
    refine V_cge mi_275_22 ⟨by omega, by omega⟩ ⟨by omega, by omega⟩ (fun q => ?_) (fun q => ?_)
    · refine V_iload (v := s) mi_275_64 (by simp [stL, lv_args, Value.category]) ?_
      exact V_retI mi_275_65 (fun h => absurd h (by decide +kernel)) ⟨rfl, rfl⟩
    · exact absurd q (by omega)
  | m + 1, i, s, hm => by
    obtain ⟨s91, e91, -⟩ := g91s
    have bb := hB.b3
    refine V_iload (v := Int32.ofInt ((i : Int))) mi_275_15 (by simp [stL, lv_args, Value.category]) ?_
    refine V_aload (v := ad 90) mi_275_16 (by simp [stL, lv_args, Value.category]) ?_
    refine V_getI mi_275_17 hG (rref gr1m (by omega) hG) ?_
    refine V_ipush mi_275_20 ?_
    refine V_aldX (j := 3) mi_275_21 rfl hG e91 (by omega) (by omega) (hW _ (by omega)) ?_
    refine V_cge mi_275_22 ⟨by omega, by omega⟩ ⟨by omega, by omega⟩ (fun q => ?_) (fun q => ?_)
    · exact absurd q (by omega)
    · refine V_iload (v := s) mi_275_25 (by simp [stL, lv_args, Value.category]) ?_
      refine V_iload (v := Int32.ofInt ((i : Int))) mi_275_26 (by simp [stL, lv_args, Value.category]) ?_
      refine V_iload (v := Int32.ofInt ((f : Int))) mi_275_27 (by simp [stL, lv_args, Value.category]) ?_
      refine V_ceq mi_275_28 ⟨by omega, by omega⟩ ⟨by omega, by omega⟩ (fun q2 => ?_) (fun q2 => ?_)
      · refine V_ipush mi_275_55 ?_
        refine V_ibin mi_275_56 (by omega) ?_
        rw [or0]
        refine V_istore mi_275_57 ?_
        refine V_iinc (v := Int32.ofInt ((i : Int))) mi_275_58 (by simp [stL, lv_args, Value.category]) ?_
        rw [ia2]
        refine V_goto mi_275_61 ?_
        refine V_sub (lv' := [(0, .ref (ad 90)), (1, .int (Int32.ofInt (f : Int))), (2, .int (s)), (3, .int (Int32.ofInt ((i + 1 : Nat) : Int)))]) (fun q hq => ?_) (V_post (fun r w h => ?_) (claM_l hG hW hB hf m (i + 1) (s) (by omega)))
        · simp only [List.mem_cons, List.not_mem_nil, or_false] at hq
          rcases hq with rfl | rfl | rfl | rfl <;> simp [stL, lv_args, Value.category]
        · unfold orS
          rw [show (!(Nat.beq i f) && (begS G i f || begS G f i)) = false by rw [nb_t q2, Bool.false_and], if_neg Bool.false_ne_true]
          exact h
      · refine V_aload (v := ad 90) mi_275_31 (by simp [stL, lv_args, Value.category]) ?_
        refine V_iload (v := Int32.ofInt ((i : Int))) mi_275_32 (by simp [stL, lv_args, Value.category]) ?_
        refine V_iload (v := Int32.ofInt ((f : Int))) mi_275_33 (by simp [stL, lv_args, Value.category]) ?_
        refine V_callM (As := [.int (Int32.ofInt ((i : Int))), .int (Int32.ofInt ((f : Int)))]) (st := [.int (s)]) mi_275_34 (by omega) (by decide +kernel) (by decide +kernel) hG (beM_ct (a := i) (b := f) hG hW hB (by omega) (by omega)) (by omega) (show 2 = mN 272 by decide +kernel) (by simp [Value.category]) ?_
        rintro r w2 ⟨e2, rfl⟩
        rw [e2]
        refine V_bne mi_275_37  (fun q3 => ?_) (fun q3 => ?_)
        · refine V_ipush mi_275_49 ?_
          refine V_iload (v := Int32.ofInt ((i : Int))) mi_275_50 (by simp [stL, lv_args, Value.category]) ?_
          refine V_ibin mi_275_51 (by omega) ?_
          refine V_goto mi_275_52 ?_
          refine V_ibin mi_275_56 (by omega) ?_
          refine V_istore mi_275_57 ?_
          refine V_iinc (v := Int32.ofInt ((i : Int))) mi_275_58 (by simp [stL, lv_args, Value.category]) ?_
          rw [ia2]
          refine V_goto mi_275_61 ?_
          refine V_sub (lv' := [(0, .ref (ad 90)), (1, .int (Int32.ofInt (f : Int))), (2, .int (ibF 6 s (ibF 8 (Int32.ofInt 1) (Int32.ofInt (i : Int))))), (3, .int (Int32.ofInt ((i + 1 : Nat) : Int)))]) (fun q hq => ?_) (V_post (fun r w h => ?_) (claM_l hG hW hB hf m (i + 1) (ibF 6 s (ibF 8 (Int32.ofInt 1) (Int32.ofInt (i : Int)))) (by omega)))
          · simp only [List.mem_cons, List.not_mem_nil, or_false] at hq
            rcases hq with rfl | rfl | rfl | rfl <;> simp [stL, lv_args, Value.category]
          · unfold orS
            rw [show (!(Nat.beq i f) && (begS G i f || begS G f i)) = true by rw [nb_f q2, q3]; rfl, if_pos rfl]
            exact h
        · refine V_aload (v := ad 90) mi_275_40 (by simp [stL, lv_args, Value.category]) ?_
          refine V_iload (v := Int32.ofInt ((f : Int))) mi_275_41 (by simp [stL, lv_args, Value.category]) ?_
          refine V_iload (v := Int32.ofInt ((i : Int))) mi_275_42 (by simp [stL, lv_args, Value.category]) ?_
          refine V_callM (As := [.int (Int32.ofInt ((f : Int))), .int (Int32.ofInt ((i : Int)))]) (st := [.int (s)]) mi_275_43 (by omega) (by decide +kernel) (by decide +kernel) hG (beM_ct (a := f) (b := i) hG hW hB (by omega) (by omega)) (by omega) (show 2 = mN 272 by decide +kernel) (by simp [Value.category]) ?_
          rintro r w3 ⟨e3, rfl⟩
          rw [e3]
          refine V_beq mi_275_46  (fun q4 => ?_) (fun q4 => ?_)
          · refine V_ipush mi_275_55 ?_
            refine V_ibin mi_275_56 (by omega) ?_
            rw [or0]
            refine V_istore mi_275_57 ?_
            refine V_iinc (v := Int32.ofInt ((i : Int))) mi_275_58 (by simp [stL, lv_args, Value.category]) ?_
            rw [ia2]
            refine V_goto mi_275_61 ?_
            refine V_sub (lv' := [(0, .ref (ad 90)), (1, .int (Int32.ofInt (f : Int))), (2, .int (s)), (3, .int (Int32.ofInt ((i + 1 : Nat) : Int)))]) (fun q hq => ?_) (V_post (fun r w h => ?_) (claM_l hG hW hB hf m (i + 1) (s) (by omega)))
            · simp only [List.mem_cons, List.not_mem_nil, or_false] at hq
              rcases hq with rfl | rfl | rfl | rfl <;> simp [stL, lv_args, Value.category]
            · unfold orS
              rw [show (!(Nat.beq i f) && (begS G i f || begS G f i)) = false by rw [nb_f q2, q3, q4]; rfl, if_neg Bool.false_ne_true]
              exact h
          · refine V_ipush mi_275_49 ?_
            refine V_iload (v := Int32.ofInt ((i : Int))) mi_275_50 (by simp [stL, lv_args, Value.category]) ?_
            refine V_ibin mi_275_51 (by omega) ?_
            refine V_goto mi_275_52 ?_
            refine V_ibin mi_275_56 (by omega) ?_
            refine V_istore mi_275_57 ?_
            refine V_iinc (v := Int32.ofInt ((i : Int))) mi_275_58 (by simp [stL, lv_args, Value.category]) ?_
            rw [ia2]
            refine V_goto mi_275_61 ?_
            refine V_sub (lv' := [(0, .ref (ad 90)), (1, .int (Int32.ofInt (f : Int))), (2, .int (ibF 6 s (ibF 8 (Int32.ofInt 1) (Int32.ofInt (i : Int))))), (3, .int (Int32.ofInt ((i + 1 : Nat) : Int)))]) (fun q hq => ?_) (V_post (fun r w h => ?_) (claM_l hG hW hB hf m (i + 1) (ibF 6 s (ibF 8 (Int32.ofInt 1) (Int32.ofInt (i : Int)))) (by omega)))
            · simp only [List.mem_cons, List.not_mem_nil, or_false] at hq
              rcases hq with rfl | rfl | rfl | rfl <;> simp [stL, lv_args, Value.category]
            · unfold orS
              rw [show (!(Nat.beq i f) && (begS G i f || begS G f i)) = true by rw [nb_f q2, q3, q4]; rfl, if_pos rfl]
              exact h
theorem claM_ct {G : Nat → Int} (hG : GOK ad tys GG ws) (hW : W91 G ws) (hB : HB G) {f : Int} (fI : I32 f) : CT l D tys A 275 4 0 0 [.ref (ad 90), .int (Int32.ofInt (f))] ws (fun r w => w = ws ∧ r = some (.int (claV G f))) := by
  refine CT_of_V (by omega) (show (2 : Nat) ≤ mML 275 by decide +kernel) ?_
  refine V_aload (v := ad 90) mi_275_0 (by simp [stL, lv_args, Value.category]) ?_
  refine V_iload (v := Int32.ofInt (f)) mi_275_1 (by simp [stL, lv_args, Value.category]) ?_
  refine V_callM (As := [.int (Int32.ofInt (f))]) (st := []) mi_275_2 (by omega) (by decide +kernel) (by decide +kernel) hG (mfk_ct hG hW hB fI) (by omega) (show 1 = mN 199 by decide +kernel) (by simp [Value.category]) ?_
  rintro r w1 ⟨rfl, rfl⟩
  refine V_bne mi_275_5  (fun c1 => ?_) (fun c1 => ?_)
  · have c2 := of_decide_eq_true c1
    have b3 := hB.b3
    have bb := hB.b3
    obtain ⟨m, rfl⟩ := Int.eq_ofNat_of_zero_le c2.1
    refine V_ipush mi_275_11 ?_
    refine V_istore mi_275_12 ?_
    refine V_ipush mi_275_13 ?_
    refine V_istore mi_275_14 ?_
    refine V_sub (lv' := [(0, .ref (ad 90)), (1, .int (Int32.ofInt (m : Int))), (2, .int (Int32.ofInt 0)), (3, .int (Int32.ofInt ((0 : Nat) : Int)))]) (fun q hq => ?_) (V_post (fun r w h => ?_) (claM_l hG hW hB c2.2 (G 3).toNat 0 (Int32.ofInt 0) (by rw [Nat.zero_add, Int.toNat_of_nonneg (by omega)])))
    · simp only [List.mem_cons, List.not_mem_nil, or_false] at hq
      rcases hq with rfl | rfl | rfl | rfl <;> simp [stL, lv_args, Value.category]
    · unfold claV
      rw [Int.toNat_natCast, if_pos c2]
      exact h
  · refine V_ipush mi_275_8 ?_
    refine V_retI mi_275_10 (fun h => absurd h (by decide +kernel)) ⟨rfl, ?_⟩
    unfold claV
    rw [if_neg (of_decide_eq_false c1)]
theorem pairH_met (hAD : ∀ i : Nat, ad (1000 + i) = D.2 1000 i) (hG : GOK ad tys GG ws) (hR : RELH ws) (a1 a2 : Int32) : PAIRH l D tys A ad 27 270 [.ref (ad 0), .int a1, .int a2] [.ref (ad 90), .int a1, .int a2] ws := by
  obtain ⟨G, o, x, y⟩ := hR.2.1
  have c1 := metX_ct (l := l) (D := D) (A := A) hG x (hb_of hG y o) (i32b a1) (i32b a2)
  have c2 := metM_ct (l := l) (D := D) (A := A) hG y (hb_of hG y o) (i32b a1) (i32b a2)
  rw [oi, oi] at c1 c2
  exact pair_ro hG hR (by omega) (by omega) c1 c2
theorem pairH_obey (hAD : ∀ i : Nat, ad (1000 + i) = D.2 1000 i) (hG : GOK ad tys GG ws) (hR : RELH ws) (a1 : Int32) : PAIRH l D tys A ad 29 273 [.ref (ad 0), .int a1] [.ref (ad 90), .int a1] ws := by
  obtain ⟨G, o, x, y⟩ := hR.2.1
  have c1 := obeX_ct (l := l) (D := D) (A := A) hG x (hb_of hG y o) (i32b a1)
  have c2 := obeM_ct (l := l) (D := D) (A := A) hG y (hb_of hG y o) (i32b a1)
  rw [oi] at c1 c2
  exact pair_ro hG hR (by omega) (by omega) c1 c2
theorem pairH_namesakes (hAD : ∀ i : Nat, ad (1000 + i) = D.2 1000 i) (hG : GOK ad tys GG ws) (hR : RELH ws) (a1 : Int32) : PAIRH l D tys A ad 30 274 [.ref (ad 0), .int a1] [.ref (ad 90), .int a1] ws := by
  obtain ⟨G, o, x, y⟩ := hR.2.1
  have c1 := namX_ct (l := l) (D := D) (A := A) hG x (hb_of hG y o) (i32b a1)
  have c2 := namM_ct (l := l) (D := D) (A := A) hG y (hb_of hG y o) (i32b a1)
  rw [oi] at c1 c2
  exact pair_ro hG hR (by omega) (by omega) c1 c2
theorem pairH_clash (hAD : ∀ i : Nat, ad (1000 + i) = D.2 1000 i) (hG : GOK ad tys GG ws) (hR : RELH ws) (a1 : Int32) : PAIRH l D tys A ad 31 275 [.ref (ad 0), .int a1] [.ref (ad 90), .int a1] ws := by
  obtain ⟨G, o, x, y⟩ := hR.2.1
  have c1 := claX_ct (l := l) (D := D) (A := A) hG x (hb_of hG y o) (i32b a1)
  have c2 := claM_ct (l := l) (D := D) (A := A) hG y (hb_of hG y o) (i32b a1)
  rw [oi] at c1 c2
  exact pair_ro hG hR (by omega) (by omega) c1 c2
end XHF
end
