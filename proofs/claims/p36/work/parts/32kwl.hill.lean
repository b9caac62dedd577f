section XSZ
variable {l : Launch} {D : va_G} {tys : List (ClassId × FieldType)} {A : Nat → Prop} {ad : Nat → Nat} {ws : va_W}
theorem pairT_met (hAD : ∀ i : Nat, ad (1000 + i) = D.2 1000 i) (hG : GOK ad tys GG ws) (hR : RELW ws) (a1 a2 : Int32) : PAIRT l D tys A ad 27 270 [.ref (ad 0), .int a1, .int a2] [.ref (ad 90), .int a1, .int a2] ws := by
  obtain ⟨G, o, x, y⟩ := hR.1.2.1
  have c1 := metX_ct (l := l) (D := D) (A := A) hG x (hb_of hG y o) (i32b a1) (i32b a2)
  have c2 := metM_ct (l := l) (D := D) (A := A) hG y (hb_of hG y o) (i32b a1) (i32b a2)
  rw [oi, oi] at c1 c2
  exact pairT_ro hG hR (by omega) (by omega) c1 c2
theorem pairT_obey (hAD : ∀ i : Nat, ad (1000 + i) = D.2 1000 i) (hG : GOK ad tys GG ws) (hR : RELW ws) (a1 : Int32) : PAIRT l D tys A ad 29 273 [.ref (ad 0), .int a1] [.ref (ad 90), .int a1] ws := by
  obtain ⟨G, o, x, y⟩ := hR.1.2.1
  have c1 := obeX_ct (l := l) (D := D) (A := A) hG x (hb_of hG y o) (i32b a1)
  have c2 := obeM_ct (l := l) (D := D) (A := A) hG y (hb_of hG y o) (i32b a1)
  rw [oi] at c1 c2
  exact pairT_ro hG hR (by omega) (by omega) c1 c2
theorem pairT_namesakes (hAD : ∀ i : Nat, ad (1000 + i) = D.2 1000 i) (hG : GOK ad tys GG ws) (hR : RELW ws) (a1 : Int32) : PAIRT l D tys A ad 30 274 [.ref (ad 0), .int a1] [.ref (ad 90), .int a1] ws := by
  obtain ⟨G, o, x, y⟩ := hR.1.2.1
  have c1 := namX_ct (l := l) (D := D) (A := A) hG x (hb_of hG y o) (i32b a1)
  have c2 := namM_ct (l := l) (D := D) (A := A) hG y (hb_of hG y o) (i32b a1)
  rw [oi] at c1 c2
  exact pairT_ro hG hR (by omega) (by omega) c1 c2
theorem pairT_clash (hAD : ∀ i : Nat, ad (1000 + i) = D.2 1000 i) (hG : GOK ad tys GG ws) (hR : RELW ws) (a1 : Int32) : PAIRT l D tys A ad 31 275 [.ref (ad 0), .int a1] [.ref (ad 90), .int a1] ws := by
  obtain ⟨G, o, x, y⟩ := hR.1.2.1
  have c1 := claX_ct (l := l) (D := D) (A := A) hG x (hb_of hG y o) (i32b a1)
  have c2 := claM_ct (l := l) (D := D) (A := A) hG y (hb_of hG y o) (i32b a1)
  rw [oi] at c1 c2
  exact pairT_ro hG hR (by omega) (by omega) c1 c2
end XSZ
