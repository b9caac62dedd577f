section
section XHE
variable {l : Launch} {D : va_G} {tys : List (ClassId × FieldType)} {A : Nat → Prop} {ad : Nat → Nat} {ws : va_W}
/-- the same hill stands on both sides; the same images are kept -/
noncomputable def HIL (w : va_W) : Prop := ∃ G : Nat → Int, hOK G ∧ HX 4 G w ∧ W91 G w
noncomputable def IMG (q : Nat) (w : va_W) : Prop := ∃ G : Nat → Int, hOK G ∧ HX (54 + 12 * q) G w ∧ ∀ j, j < 294 → rd w 92 (294 * q + j) = some (.int (Int32.ofInt (G j)))
noncomputable def IMGS (w : va_W) : Prop := ∃ z : Nat, z < 8 ∧ rd w 0 12 = some (.int (Int32.ofInt (z : Int))) ∧ ∀ q, q < 3 → rd w 93 q = some (.int (bI (z.testBit q))) ∧ (z.testBit q = true → IMG q w)
noncomputable def RELH (w : va_W) : Prop := (TAPE w ∧ FLT w) ∧ HIL w ∧ IMGS w
theorem hil_keep {w0 w : va_W} (h : HIL w0) (k : ∀ c, 4 ≤ c → c ≤ 15 → ∀ j, rd w c j = rd w0 c j) (k2 : ∀ j, rd w 91 j = rd w0 91 j) : HIL w := by
  obtain ⟨G, o, x, y⟩ := h
  exact ⟨G, o, HX_keep x (fun c i h1 h2 => k c h1 (by omega) i), fun j hj => (k2 j).trans (y j hj)⟩
theorem img_keep {q : Nat} {w0 w : va_W} (h : IMG q w0) (k : ∀ c, 54 + 12 * q ≤ c → c < 66 + 12 * q → ∀ j, rd w c j = rd w0 c j) (k2 : ∀ j, 294 * q ≤ j → j < 294 * q + 294 → rd w 92 j = rd w0 92 j) : IMG q w := by
  obtain ⟨G, o, x, y⟩ := h
  exact ⟨G, o, HX_keep x (fun c i h1 h2 => k c h1 (by omega) i), fun j hj => (k2 _ (by omega) (by omega)).trans (y j hj)⟩
theorem imgs_keep {w0 w : va_W} (h : IMGS w0) (k0 : rd w 0 12 = rd w0 0 12) (k : ∀ c, 54 ≤ c → c ≤ 89 → ∀ j, rd w c j = rd w0 c j) (k2 : ∀ j, rd w 92 j = rd w0 92 j) (k3 : ∀ j, rd w 93 j = rd w0 93 j) : IMGS w := by
  obtain ⟨z, z8, hz, hq⟩ := h
  exact ⟨z, z8, k0.trans hz, fun q q3 => ⟨(k3 q).trans (hq q q3).1, fun hb => img_keep ((hq q q3).2 hb) (fun c h1 h2 => k c (by omega) (by omega)) (fun j _ _ => k2 j)⟩⟩
theorem relh_keep {w0 w : va_W} (h : RELH w0) (k : ∀ c, c ≤ 15 ∨ (54 ≤ c ∧ c ≤ 89) ∨ (91 ≤ c ∧ c ≤ 94) → ∀ j, rd w c j = rd w0 c j) (k2 : ∀ j, spK j → rd w 90 j = rd w0 90 j) : RELH w :=
  ⟨relf_keep h.1 (fun c hc j => k c (by omega) j) k2, hil_keep h.2.1 (fun c h1 h2 => k c (by omega)) (k 91 (by omega)), imgs_keep h.2.2 (k 0 (by omega) 12) (fun c h1 h2 => k c (by omega)) (k 92 (by omega)) (k 93 (by omega))⟩
theorem oi (a : Int32) : Int32.ofInt a.toInt = a := Int32.ofInt_toInt a
theorem three {a : Int32} (h : 0 ≤ a.toInt ∧ a.toInt ≤ 2) : a = Int32.ofInt 0 ∨ a = Int32.ofInt 1 ∨ a = Int32.ofInt 2 := by
  rcases (show a.toInt = 0 ∨ a.toInt = 1 ∨ a.toInt = 2 by omega) with e | e | e
  · exact Or.inl (by rw [← oi a, e])
  · exact Or.inr (Or.inl (by rw [← oi a, e]))
  · exact Or.inr (Or.inr (by rw [← oi a, e]))
theorem imgs_new {q z : Nat} {w0 w1 w2 : va_W} {G : Nat → Int} (q3 : q < 3) (z8 : z < 8) (hR : RELH w0) (o : hOK G) (hW : W91 G w0) (hX : HX 4 G w0) (hq : ∀ p, p < 3 → rd w0 93 p = some (.int (bI (z.testBit p))) ∧ (z.testBit p = true → IMG p w0)) (hx : (∀ c i, ¬ (54 + 12 * q ≤ c ∧ c ≤ 65 + 12 * q) → ¬ (c = 0 ∧ i = 12) → rd w1 c i = rd w0 c i) ∧ rd w1 0 12 = some (.int (Int32.ofInt ((z ||| 1 <<< q : Nat) : Int))) ∧ HX (54 + 12 * q) G w1) (hm : (∀ c j, ¬ (c = 92 ∧ 294 * q ≤ j ∧ j < 294 * q + 294) → ¬ (c = 93 ∧ j = q) → rd w2 c j = rd w1 c j) ∧ (∀ j, j < 294 → rd w2 92 (294 * q + j) = rd w1 91 j) ∧ rd w2 93 q = some (.int (Int32.ofInt 1))) : RELH w2 := by
  obtain ⟨x1, x2, x3⟩ := hx
  obtain ⟨m1, m2, m3⟩ := hm
  obtain ⟨-, k2, -, k4⟩ := kep_k z8 q3
  have oo : ∀ c j, ¬ (54 ≤ c ∧ c ≤ 89) → c ≠ 92 → c ≠ 93 → c ≠ 0 → rd w2 c j = rd w0 c j := fun c j h1 h2 h3 h4 => (m1 c j (by omega) (by omega)).trans (x1 c j (by omega) (by omega))
  refine ⟨relf_keep hR.1 (fun c hc j => oo c j (by omega) (by omega) (by omega) (by omega)) (fun j _ => oo _ _ (by omega) (by omega) (by omega) (by omega)), hil_keep hR.2.1 (fun c h1 h2 j => oo c j (by omega) (by omega) (by omega) (by omega)) (fun j => oo _ _ (by omega) (by omega) (by omega) (by omega)), z ||| 1 <<< q, k2, (m1 _ _ (by omega) (by omega)).trans x2, fun p p3 => ?_⟩
  rw [k4 p p3]
  by_cases e : p = q
  · subst e
    rw [Nat.beq_refl, Bool.or_true]
    refine ⟨m3, fun _ => ⟨G, o, HX_keep x3 (fun c i h1 h2 => m1 c i (by omega) (by omega)), fun j hj => ?_⟩⟩
    rw [m2 j hj, x1 _ _ (by omega) (by omega)]
    exact hW j hj
  · have eb : Nat.beq p q = false := by
      cases h : Nat.beq p q
      · rfl
      · exact absurd (Nat.eq_of_beq_eq_true h) e
    rw [eb, Bool.or_false]
    refine ⟨(m1 _ _ (by omega) (by omega)).trans ((x1 _ _ (by omega) (by omega)).trans (hq p p3).1), fun hb => img_keep ((hq p p3).2 hb) (fun c h1 h2 j => (m1 c j (by omega) (by omega)).trans (x1 c j (by omega) (by omega))) (fun j h1 h2 => (m1 _ _ (by omega) (by omega)).trans (x1 _ _ (by omega) (by omega)))⟩
theorem back_X {q z : Nat} {G0 : Nat → Int} {r : Option Value} {w : va_W} (h : GOK ad tys GG w ∧ XO ws w ∧ (z.testBit q = true → r = some (.int (Int32.ofInt 0)) ∧ HX 4 G0 w) ∧ (z.testBit q = false → r = some (.int (Int32.ofInt (-6))) ∧ w = ws)) (h0 : z.testBit q = true → HX (54 + 12 * q) G0 ws) : GOK ad tys GG w ∧ XO ws w ∧ (z.testBit q = true → r = some (.int (Int32.ofInt 0)) ∧ ∀ G, HX (54 + 12 * q) G ws → HX 4 G w) ∧ (z.testBit q = false → r = some (.int (Int32.ofInt (-6))) ∧ w = ws) := by
  refine ⟨h.1, h.2.1, fun k => ⟨(h.2.2.1 k).1, fun G hX j hj => ?_⟩, h.2.2.2⟩
  have e1 := h0 k j hj
  have e2 := hX j hj
  rw [(h.2.2.1 k).2 j hj, ← e1, e2]
theorem img_some {q z : Nat} {w : va_W} (h : z.testBit q = true → IMG q w) : ∃ G0 : Nat → Int, z.testBit q = true → HX (54 + 12 * q) G0 w := by
  by_cases k : z.testBit q = true
  · obtain ⟨G, o, x, y⟩ := h k
    exact ⟨G, fun _ => x⟩
  · exact ⟨fun _ => 0, fun q => absurd q k⟩
theorem endG_ok {x : TS × (Nat → Int) × (Nat → Int)} (h1 : frB x.2.1) (h2 : tdOK x.2.2) : hOK (endG x) := fun j hj => by
  unfold endG fx
  split
  · next q =>
    have b := sprV_bd h2 (f := (j - 102) / 24) (by omega) (m := (j - 102) % 24 + 1) (by omega)
    unfold sprT
    exact ⟨by omega, by omega⟩
  · have := h1 j hj
    exact ⟨by omega, by omega⟩
end XHE
end
section
section XSA
variable {l : Launch} {D : va_G} {tys : List (ClassId × FieldType)} {A : Nat → Prop} {ad : Nat → Nat} {ws : va_W}
/-- bit i of a -/
noncomputable def tb (a i : Int) : Bool := decide ((ibF 5 (ibF 9 (Int32.ofInt a) (Int32.ofInt i)) (Int32.ofInt 1)).toInt = 1)
theorem bitO_i (a i : Int) : ibF 6 (Int32.ofInt a) (ibF 8 (Int32.ofInt 1) (Int32.ofInt i)) = Int32.ofInt (bitO a i) := by
  unfold bitO
  rw [Int32.ofInt_toInt]
/-- those below n that P holds of, as bits -/
noncomputable def orI (P : Nat → Bool) : Nat → Int
  | 0 => 0
  | f + 1 => if P f = true then bitO (orI P f) (f : Int) else orI P f
noncomputable def kOK (K : Nat → Int) : Prop := ∀ j, j < 36 → 0 ≤ K j ∧ K j ≤ 63
end XSA
section XSB
variable {l : Launch} {D : va_G} {tys : List (ClassId × FieldType)} {A : Nat → Prop} {ad : Nat → Nat} {ws : va_W}
/-- how far the telling is: what is known, what is said, who heard, who learnt -/
noncomputable abbrev TT : Type := (Nat → Int) × Int32 × (Nat → Int) × (Nat → Int)
noncomputable abbrev TT.K (T : TT) : Nat → Int := T.1
noncomputable abbrev TT.sd (T : TT) : Int32 := T.2.1
noncomputable abbrev TT.hb (T : TT) : Nat → Int := T.2.2.1
noncomputable abbrev TT.lb (T : TT) : Nat → Int := T.2.2.2
/-- the reference has told so far -/
noncomputable abbrev TM (ad : Nat → Nat) (tys : List (ClassId × FieldType)) (G : Nat → Int) (T : TT) (w0 w : va_W) : Prop :=
  (GOK ad tys GG w) ∧
  (∀ j, j < 36 → rd w 99 j = some (.int (Int32.ofInt (T.K j)))) ∧
  (rd w 90 18 = some (.int T.sd)) ∧
  (∀ i, i < 12 → rd w 100 i = some (.int (Int32.ofInt (T.hb i)))) ∧
  (∀ i, i < 12 → rd w 101 i = some (.int (Int32.ofInt (T.lb i)))) ∧
  (∀ c j, ¬ (99 ≤ c ∧ c ≤ 101) → ¬ (c = 90 ∧ j = 18) → rd w c j = rd w0 c j) ∧
  (kOK T.K)
theorem TM.g {ad : Nat → Nat} {tys : List (ClassId × FieldType)} {G : Nat → Int} {T : TT} {w0 w : va_W} (h : TM ad tys G T w0 w) : GOK ad tys GG w := h.1
theorem TM.k {ad : Nat → Nat} {tys : List (ClassId × FieldType)} {G : Nat → Int} {T : TT} {w0 w : va_W} (h : TM ad tys G T w0 w) : ∀ j, j < 36 → rd w 99 j = some (.int (Int32.ofInt (T.K j))) := h.2.1
theorem TM.s {ad : Nat → Nat} {tys : List (ClassId × FieldType)} {G : Nat → Int} {T : TT} {w0 w : va_W} (h : TM ad tys G T w0 w) : rd w 90 18 = some (.int T.sd) := h.2.2.1
theorem TM.h {ad : Nat → Nat} {tys : List (ClassId × FieldType)} {G : Nat → Int} {T : TT} {w0 w : va_W} (h : TM ad tys G T w0 w) : ∀ i, i < 12 → rd w 100 i = some (.int (Int32.ofInt (T.hb i))) := h.2.2.2.1
theorem TM.lr {ad : Nat → Nat} {tys : List (ClassId × FieldType)} {G : Nat → Int} {T : TT} {w0 w : va_W} (h : TM ad tys G T w0 w) : ∀ i, i < 12 → rd w 101 i = some (.int (Int32.ofInt (T.lb i))) := h.2.2.2.2.1
theorem TM.o {ad : Nat → Nat} {tys : List (ClassId × FieldType)} {G : Nat → Int} {T : TT} {w0 w : va_W} (h : TM ad tys G T w0 w) : ∀ c j, ¬ (99 ≤ c ∧ c ≤ 101) → ¬ (c = 90 ∧ j = 18) → rd w c j = rd w0 c j := h.2.2.2.2.2.1
theorem TM.b {ad : Nat → Nat} {tys : List (ClassId × FieldType)} {G : Nat → Int} {T : TT} {w0 w : va_W} (h : TM ad tys G T w0 w) : kOK T.K := h.2.2.2.2.2.2
end XSB
end
section
section XSE
variable {l : Launch} {D : va_G} {tys : List (ClassId × FieldType)} {A : Nat → Prop} {ad : Nat → Nat} {ws : va_W}
theorem atk_ct {c n j : Nat} {lo hi : Int} {v : Int32} (hg : gA c n lo hi) (hG : GOK ad tys GG ws) (hn : n ≤ 100000) (hj : j < n) (h : rd ws c j = some (.int v)) : CT l D tys A 147 0 0 0 [.ref (ad c), .int (Int32.ofInt (j : Int))] ws (fun r w => w = ws ∧ r = some (.int v)) :=
  CT_post (atx_ct hg hG hn) (fun r w q => by
    obtain ⟨e, u, e2, k⟩ := q
    refine ⟨e, ?_⟩
    have z := k j hj rfl
    rw [h] at z
    rw [e2, z])
theorem orI_s1 {P : Nat → Bool} {o : Nat} (h : P o = true) : orI P (o + 1) = bitO (orI P o) (o : Int) := by
  show (if P o = true then bitO (orI P o) (o : Int) else orI P o) = _
  rw [if_pos h]
theorem orI_s0 {P : Nat → Bool} {o : Nat} (h : P o = false) : orI P (o + 1) = orI P o := by
  show (if P o = true then bitO (orI P o) (o : Int) else orI P o) = _
  rw [if_neg (by rw [h]; exact Bool.false_ne_true)]
end XSE
end
section
theorem mi_51_0 : mI 51 0 = (5, 0, 0, 0, 0) := by decide +kernel
theorem mi_51_1 : mI 51 1 = (3, 0, 1, 0, 0) := by decide +kernel
theorem mi_51_2 : mI 51 2 = (26, 975, 300, 53, 0) := by decide +kernel
theorem mi_51_5 : mI 51 5 = (6, 0, 2, 0, 0) := by decide +kernel
theorem mi_51_6 : mI 51 6 = (3, 0, 2, 0, 0) := by decide +kernel
theorem mi_51_7 : mI 51 7 = (14, 7, 0, 14, 0) := by decide +kernel
theorem mi_51_10 : mI 51 10 = (3, 0, 2, 0, 0) := by decide +kernel
theorem mi_51_11 : mI 51 11 = (16, 19, 0, 30, 0) := by decide +kernel
theorem mi_51_14 : mI 51 14 = (5, 0, 0, 0, 0) := by decide +kernel
theorem mi_51_15 : mI 51 15 = (17, 306, 69, 10, 9) := by decide +kernel
theorem mi_51_18 : mI 51 18 = (5, 0, 0, 0, 0) := by decide +kernel
theorem mi_51_19 : mI 51 19 = (17, 299, 24, 10, 2) := by decide +kernel
theorem mi_51_22 : mI 51 22 = (5, 0, 0, 0, 0) := by decide +kernel
theorem mi_51_23 : mI 51 23 = (17, 304, 55, 10, 7) := by decide +kernel
theorem mi_51_26 : mI 51 26 = (3, 0, 1, 0, 0) := by decide +kernel
theorem mi_51_27 : mI 51 27 = (26, 979, 303, 116, 0) := by decide +kernel
theorem mi_51_30 : mI 51 30 = (27, 0, 0, 0, 0) := by decide +kernel
theorem mi_53_0 : mI 53 0 = (5, 0, 0, 0, 0) := by decide +kernel
theorem mi_53_1 : mI 53 1 = (17, 304, 55, 10, 7) := by decide +kernel
theorem mi_53_4 : mI 53 4 = (3, 0, 1, 0, 0) := by decide +kernel
theorem mi_53_5 : mI 53 5 = (26, 914, 287, 160, 0) := by decide +kernel
theorem mi_53_8 : mI 53 8 = (14, 13, 0, 21, 0) := by decide +kernel
theorem mi_53_11 : mI 53 11 = (5, 0, 0, 0, 0) := by decide +kernel
theorem mi_53_12 : mI 53 12 = (17, 299, 24, 10, 2) := by decide +kernel
theorem mi_53_15 : mI 53 15 = (26, 817, 237, 101, 0) := by decide +kernel
theorem mi_53_18 : mI 53 18 = (14, 6, 1, 24, 0) := by decide +kernel
theorem mi_53_21 : mI 53 21 = (1, (-2), 1, 0, 0) := by decide +kernel
theorem mi_53_23 : mI 53 23 = (27, 0, 0, 0, 0) := by decide +kernel
theorem mi_53_24 : mI 53 24 = (5, 0, 0, 0, 0) := by decide +kernel
theorem mi_53_25 : mI 53 25 = (17, 304, 55, 10, 7) := by decide +kernel
theorem mi_53_28 : mI 53 28 = (3, 0, 1, 0, 0) := by decide +kernel
theorem mi_53_29 : mI 53 29 = (26, 924, 293, 161, 0) := by decide +kernel
theorem mi_53_32 : mI 53 32 = (14, 6, 0, 38, 0) := by decide +kernel
theorem mi_53_35 : mI 53 35 = (1, (-6), 1, 0, 0) := by decide +kernel
theorem mi_53_37 : mI 53 37 = (27, 0, 0, 0, 0) := by decide +kernel
theorem mi_53_38 : mI 53 38 = (5, 0, 0, 0, 0) := by decide +kernel
theorem mi_53_39 : mI 53 39 = (17, 304, 55, 10, 7) := by decide +kernel
theorem mi_53_42 : mI 53 42 = (3, 0, 1, 0, 0) := by decide +kernel
theorem mi_53_43 : mI 53 43 = (1, 0, 0, 0, 0) := by decide +kernel
theorem mi_53_44 : mI 53 44 = (5, 0, 0, 0, 0) := by decide +kernel
theorem mi_53_45 : mI 53 45 = (17, 299, 24, 10, 2) := by decide +kernel
theorem mi_53_48 : mI 53 48 = (17, 90, 311, 2, 1) := by decide +kernel
theorem mi_53_51 : mI 53 51 = (1, 1, 0, 0, 0) := by decide +kernel
theorem mi_53_52 : mI 53 52 = (10, 0, 1, 0, 0) := by decide +kernel
theorem mi_53_53 : mI 53 53 = (26, 929, 296, 170, 0) := by decide +kernel
theorem mi_53_56 : mI 53 56 = (14, 7, 0, 63, 0) := by decide +kernel
theorem mi_53_59 : mI 53 59 = (1, 0, 0, 0, 0) := by decide +kernel
theorem mi_53_60 : mI 53 60 = (16, 5, 0, 65, 0) := by decide +kernel
theorem mi_53_63 : mI 53 63 = (1, (-2), 1, 0, 0) := by decide +kernel
theorem mi_53_65 : mI 53 65 = (27, 0, 0, 0, 0) := by decide +kernel
theorem mi_116_0 : mI 116 0 = (1, 0, 0, 0, 0) := by decide +kernel
theorem mi_116_1 : mI 116 1 = (6, 0, 4, 1, 0) := by decide +kernel
theorem mi_116_3 : mI 116 3 = (1, 0, 0, 0, 0) := by decide +kernel
theorem mi_116_4 : mI 116 4 = (6, 0, 5, 1, 0) := by decide +kernel
theorem mi_116_6 : mI 116 6 = (3, 0, 5, 1, 0) := by decide +kernel
theorem mi_116_8 : mI 116 8 = (5, 0, 1, 0, 0) := by decide +kernel
theorem mi_116_9 : mI 116 9 = (17, 101, 18, 2, 4) := by decide +kernel
theorem mi_116_12 : mI 116 12 = (15, 29, 3, 41, 0) := by decide +kernel
theorem mi_116_15 : mI 116 15 = (5, 0, 1, 0, 0) := by decide +kernel
theorem mi_116_16 : mI 116 16 = (3, 0, 5, 1, 0) := by decide +kernel
theorem mi_116_18 : mI 116 18 = (5, 0, 2, 0, 0) := by decide +kernel
theorem mi_116_19 : mI 116 19 = (3, 0, 3, 0, 0) := by decide +kernel
theorem mi_116_20 : mI 116 20 = (26, 983, 24, 117, 1) := by decide +kernel
theorem mi_116_23 : mI 116 23 = (14, 12, 0, 35, 0) := by decide +kernel
theorem mi_116_26 : mI 116 26 = (3, 0, 4, 1, 0) := by decide +kernel
theorem mi_116_28 : mI 116 28 = (1, 1, 0, 0, 0) := by decide +kernel
theorem mi_116_29 : mI 116 29 = (3, 0, 5, 1, 0) := by decide +kernel
theorem mi_116_31 : mI 116 31 = (10, 0, 8, 0, 0) := by decide +kernel
theorem mi_116_32 : mI 116 32 = (10, 0, 6, 0, 0) := by decide +kernel
theorem mi_116_33 : mI 116 33 = (6, 0, 4, 1, 0) := by decide +kernel
theorem mi_116_35 : mI 116 35 = (9, 1, 5, 0, 0) := by decide +kernel
theorem mi_116_38 : mI 116 38 = (16, (-32), 0, 6, 0) := by decide +kernel
theorem mi_116_41 : mI 116 41 = (3, 0, 4, 1, 0) := by decide +kernel
theorem mi_116_43 : mI 116 43 = (27, 0, 0, 0, 0) := by decide +kernel
theorem mi_117_0 : mI 117 0 = (5, 0, 2, 0, 0) := by decide +kernel
theorem mi_117_1 : mI 117 1 = (3, 0, 3, 0, 0) := by decide +kernel
theorem mi_117_2 : mI 117 2 = (26, 986, 28, 162, 0) := by decide +kernel
theorem mi_117_5 : mI 117 5 = (6, 0, 4, 1, 0) := by decide +kernel
theorem mi_117_7 : mI 117 7 = (1, 0, 0, 0, 0) := by decide +kernel
theorem mi_117_8 : mI 117 8 = (6, 0, 5, 1, 0) := by decide +kernel
theorem mi_117_10 : mI 117 10 = (3, 0, 5, 1, 0) := by decide +kernel
theorem mi_117_12 : mI 117 12 = (3, 0, 4, 1, 0) := by decide +kernel
theorem mi_117_14 : mI 117 14 = (10, 0, 0, 0, 0) := by decide +kernel
theorem mi_117_15 : mI 117 15 = (5, 0, 0, 0, 0) := by decide +kernel
theorem mi_117_16 : mI 117 16 = (3, 0, 1, 0, 0) := by decide +kernel
theorem mi_117_17 : mI 117 17 = (26, 987, 34, 106, 0) := by decide +kernel
theorem mi_117_20 : mI 117 20 = (15, 56, 4, 76, 0) := by decide +kernel
theorem mi_117_23 : mI 117 23 = (1, 0, 0, 0, 0) := by decide +kernel
theorem mi_117_24 : mI 117 24 = (6, 0, 6, 1, 0) := by decide +kernel
theorem mi_117_26 : mI 117 26 = (3, 0, 6, 1, 0) := by decide +kernel
theorem mi_117_28 : mI 117 28 = (3, 0, 4, 1, 0) := by decide +kernel
theorem mi_117_30 : mI 117 30 = (15, 31, 3, 61, 0) := by decide +kernel
theorem mi_117_33 : mI 117 33 = (5, 0, 0, 0, 0) := by decide +kernel
theorem mi_117_34 : mI 117 34 = (3, 0, 1, 0, 0) := by decide +kernel
theorem mi_117_35 : mI 117 35 = (3, 0, 5, 1, 0) := by decide +kernel
theorem mi_117_37 : mI 117 37 = (3, 0, 6, 1, 0) := by decide +kernel
theorem mi_117_39 : mI 117 39 = (10, 0, 0, 0, 0) := by decide +kernel
theorem mi_117_40 : mI 117 40 = (26, 988, 37, 107, 0) := by decide +kernel
theorem mi_117_43 : mI 117 43 = (12, 0, 1, 0, 0) := by decide +kernel
theorem mi_117_44 : mI 117 44 = (5, 0, 2, 0, 0) := by decide +kernel
theorem mi_117_45 : mI 117 45 = (3, 0, 3, 0, 0) := by decide +kernel
theorem mi_117_46 : mI 117 46 = (3, 0, 6, 1, 0) := by decide +kernel
theorem mi_117_48 : mI 117 48 = (26, 989, 41, 164, 0) := by decide +kernel
theorem mi_117_51 : mI 117 51 = (13, 0, 0, 0, 0) := by decide +kernel
theorem mi_117_52 : mI 117 52 = (14, 9, 1, 61, 0) := by decide +kernel
theorem mi_117_55 : mI 117 55 = (9, 1, 6, 0, 0) := by decide +kernel
theorem mi_117_58 : mI 117 58 = (16, (-32), 0, 26, 0) := by decide +kernel
theorem mi_117_61 : mI 117 61 = (3, 0, 6, 1, 0) := by decide +kernel
theorem mi_117_63 : mI 117 63 = (3, 0, 4, 1, 0) := by decide +kernel
theorem mi_117_65 : mI 117 65 = (15, 5, 1, 70, 0) := by decide +kernel
theorem mi_117_68 : mI 117 68 = (1, 1, 0, 0, 0) := by decide +kernel
theorem mi_117_69 : mI 117 69 = (27, 0, 0, 0, 0) := by decide +kernel
theorem mi_117_70 : mI 117 70 = (9, 1, 5, 0, 0) := by decide +kernel
theorem mi_117_73 : mI 117 73 = (16, (-63), 0, 10, 0) := by decide +kernel
theorem mi_117_76 : mI 117 76 = (1, 0, 0, 0, 0) := by decide +kernel
theorem mi_117_77 : mI 117 77 = (27, 0, 0, 0, 0) := by decide +kernel
theorem mi_164_0 : mI 164 0 = (3, 0, 2, 0, 0) := by decide +kernel
theorem mi_164_1 : mI 164 1 = (14, 12, 2, 13, 0) := by decide +kernel
theorem mi_164_4 : mI 164 4 = (3, 0, 2, 0, 0) := by decide +kernel
theorem mi_164_5 : mI 164 5 = (5, 0, 0, 0, 0) := by decide +kernel
theorem mi_164_6 : mI 164 6 = (3, 0, 1, 0, 0) := by decide +kernel
theorem mi_164_7 : mI 164 7 = (26, 928, 22, 162, 0) := by decide +kernel
theorem mi_164_10 : mI 164 10 = (15, 5, 2, 15, 0) := by decide +kernel
theorem mi_164_15 : mI 164 15 = (3, 0, 1, 0, 0) := by decide +kernel
theorem mi_164_16 : mI 164 16 = (1, 60, 1, 0, 0) := by decide +kernel
theorem mi_164_18 : mI 164 18 = (10, 0, 2, 0, 0) := by decide +kernel
theorem mi_164_19 : mI 164 19 = (3, 0, 2, 0, 0) := by decide +kernel
theorem mi_164_20 : mI 164 20 = (10, 0, 0, 0, 0) := by decide +kernel
theorem mi_164_21 : mI 164 21 = (6, 0, 3, 0, 0) := by decide +kernel
theorem mi_164_22 : mI 164 22 = (3, 0, 3, 0, 0) := by decide +kernel
theorem mi_164_23 : mI 164 23 = (14, 21, 2, 44, 0) := by decide +kernel
theorem mi_164_26 : mI 164 26 = (3, 0, 3, 0, 0) := by decide +kernel
theorem mi_164_27 : mI 164 27 = (5, 0, 0, 0, 0) := by decide +kernel
theorem mi_164_28 : mI 164 28 = (17, 241, 9, 7, 0) := by decide +kernel
theorem mi_164_31 : mI 164 31 = (21, 0, 0, 0, 0) := by decide +kernel
theorem mi_164_32 : mI 164 32 = (15, 12, 3, 44, 0) := by decide +kernel
theorem mi_164_35 : mI 164 35 = (5, 0, 0, 0, 0) := by decide +kernel
theorem mi_164_36 : mI 164 36 = (17, 241, 9, 7, 0) := by decide +kernel
theorem mi_164_39 : mI 164 39 = (3, 0, 3, 0, 0) := by decide +kernel
theorem mi_164_40 : mI 164 40 = (19, 0, 2, 0, 0) := by decide +kernel
theorem mi_164_41 : mI 164 41 = (16, 4, 0, 45, 0) := by decide +kernel
theorem mi_164_45 : mI 164 45 = (27, 0, 1, 0, 0) := by decide +kernel
theorem mi_166_0 : mI 166 0 = (3, 0, 1, 0, 0) := by decide +kernel
theorem mi_166_1 : mI 166 1 = (1, 60, 1, 0, 0) := by decide +kernel
theorem mi_166_3 : mI 166 3 = (10, 0, 2, 0, 0) := by decide +kernel
theorem mi_166_4 : mI 166 4 = (3, 0, 2, 0, 0) := by decide +kernel
theorem mi_166_5 : mI 166 5 = (10, 0, 0, 0, 0) := by decide +kernel
theorem mi_166_6 : mI 166 6 = (6, 0, 5, 1, 0) := by decide +kernel
theorem mi_166_8 : mI 166 8 = (3, 0, 2, 0, 0) := by decide +kernel
theorem mi_166_9 : mI 166 9 = (14, 43, 2, 52, 0) := by decide +kernel
theorem mi_166_12 : mI 166 12 = (3, 0, 2, 0, 0) := by decide +kernel
theorem mi_166_13 : mI 166 13 = (5, 0, 0, 0, 0) := by decide +kernel
theorem mi_166_14 : mI 166 14 = (3, 0, 1, 0, 0) := by decide +kernel
theorem mi_166_15 : mI 166 15 = (26, 928, 22, 162, 0) := by decide +kernel
theorem mi_166_18 : mI 166 18 = (15, 34, 3, 52, 0) := by decide +kernel
theorem mi_166_21 : mI 166 21 = (3, 0, 5, 1, 0) := by decide +kernel
theorem mi_166_23 : mI 166 23 = (14, 29, 2, 52, 0) := by decide +kernel
theorem mi_166_26 : mI 166 26 = (3, 0, 5, 1, 0) := by decide +kernel
theorem mi_166_28 : mI 166 28 = (5, 0, 0, 0, 0) := by decide +kernel
theorem mi_166_29 : mI 166 29 = (17, 241, 9, 7, 0) := by decide +kernel
theorem mi_166_32 : mI 166 32 = (21, 0, 0, 0, 0) := by decide +kernel
theorem mi_166_33 : mI 166 33 = (15, 19, 3, 52, 0) := by decide +kernel
theorem mi_166_36 : mI 166 36 = (5, 0, 0, 0, 0) := by decide +kernel
theorem mi_166_37 : mI 166 37 = (17, 241, 9, 7, 0) := by decide +kernel
theorem mi_166_40 : mI 166 40 = (3, 0, 5, 1, 0) := by decide +kernel
theorem mi_166_42 : mI 166 42 = (4, 0, 3, 0, 0) := by decide +kernel
theorem mi_166_43 : mI 166 43 = (5, 0, 0, 0, 0) := by decide +kernel
theorem mi_166_44 : mI 166 44 = (3, 0, 1, 0, 0) := by decide +kernel
theorem mi_166_45 : mI 166 45 = (26, 1176, 44, 163, 0) := by decide +kernel
theorem mi_166_48 : mI 166 48 = (26, 1180, 47, 167, 1) := by decide +kernel
theorem mi_166_51 : mI 166 51 = (20, 0, 2, 0, 0) := by decide +kernel
theorem mi_166_52 : mI 166 52 = (27, 0, 2, 0, 0) := by decide +kernel
theorem mi_167_0 : mI 167 0 = (3, 0, 2, 0, 0) := by decide +kernel
theorem mi_167_1 : mI 167 1 = (28, 0, 0, 0, 0) := by decide +kernel
theorem mi_167_28 : mI 167 28 = (4, 0, 0, 0, 0) := by decide +kernel
theorem mi_167_29 : mI 167 29 = (12, 0, 2, 0, 0) := by decide +kernel
theorem mi_167_30 : mI 167 30 = (12, 0, 3, 0, 0) := by decide +kernel
theorem mi_167_31 : mI 167 31 = (12, 0, 1, 0, 0) := by decide +kernel
theorem mi_167_32 : mI 167 32 = (27, 0, 1, 0, 0) := by decide +kernel
theorem mi_167_33 : mI 167 33 = (4, 0, 0, 0, 0) := by decide +kernel
theorem mi_167_34 : mI 167 34 = (12, 0, 2, 0, 0) := by decide +kernel
theorem mi_167_35 : mI 167 35 = (12, 0, 4, 0, 0) := by decide +kernel
theorem mi_167_36 : mI 167 36 = (12, 0, 1, 0, 0) := by decide +kernel
theorem mi_167_37 : mI 167 37 = (27, 0, 1, 0, 0) := by decide +kernel
theorem mi_167_38 : mI 167 38 = (4, 0, 0, 0, 0) := by decide +kernel
theorem mi_167_39 : mI 167 39 = (12, 0, 2, 0, 0) := by decide +kernel
theorem mi_167_40 : mI 167 40 = (12, 0, 1, 0, 0) := by decide +kernel
theorem mi_167_41 : mI 167 41 = (27, 0, 1, 0, 0) := by decide +kernel
theorem mi_167_42 : mI 167 42 = (4, 0, 0, 0, 0) := by decide +kernel
theorem mi_167_43 : mI 167 43 = (27, 0, 1, 0, 0) := by decide +kernel
theorem mi_169_0 : mI 169 0 = (1, 0, 0, 0, 0) := by decide +kernel
theorem mi_169_1 : mI 169 1 = (6, 0, 6, 1, 0) := by decide +kernel
theorem mi_169_3 : mI 169 3 = (3, 0, 6, 1, 0) := by decide +kernel
theorem mi_169_5 : mI 169 5 = (3, 0, 5, 1, 0) := by decide +kernel
theorem mi_169_7 : mI 169 7 = (15, 48, 3, 55, 0) := by decide +kernel
theorem mi_169_10 : mI 169 10 = (3, 0, 2, 0, 0) := by decide +kernel
theorem mi_169_11 : mI 169 11 = (3, 0, 4, 1, 0) := by decide +kernel
theorem mi_169_13 : mI 169 13 = (15, 13, 3, 26, 0) := by decide +kernel
theorem mi_169_16 : mI 169 16 = (3, 0, 5, 1, 0) := by decide +kernel
theorem mi_169_18 : mI 169 18 = (1, 1, 0, 0, 0) := by decide +kernel
theorem mi_169_19 : mI 169 19 = (10, 0, 1, 0, 0) := by decide +kernel
theorem mi_169_20 : mI 169 20 = (3, 0, 6, 1, 0) := by decide +kernel
theorem mi_169_22 : mI 169 22 = (10, 0, 1, 0, 0) := by decide +kernel
theorem mi_169_23 : mI 169 23 = (16, 5, 0, 28, 0) := by decide +kernel
theorem mi_169_26 : mI 169 26 = (3, 0, 6, 1, 0) := by decide +kernel
theorem mi_169_28 : mI 169 28 = (6, 0, 7, 1, 0) := by decide +kernel
theorem mi_169_30 : mI 169 30 = (5, 0, 0, 0, 0) := by decide +kernel
theorem mi_169_31 : mI 169 31 = (3, 0, 3, 0, 0) := by decide +kernel
theorem mi_169_32 : mI 169 32 = (3, 0, 4, 1, 0) := by decide +kernel
theorem mi_169_34 : mI 169 34 = (3, 0, 7, 1, 0) := by decide +kernel
theorem mi_169_36 : mI 169 36 = (10, 0, 0, 0, 0) := by decide +kernel
theorem mi_169_37 : mI 169 37 = (5, 0, 0, 0, 0) := by decide +kernel
theorem mi_169_38 : mI 169 38 = (3, 0, 1, 0, 0) := by decide +kernel
theorem mi_169_39 : mI 169 39 = (3, 0, 2, 0, 0) := by decide +kernel
theorem mi_169_40 : mI 169 40 = (3, 0, 7, 1, 0) := by decide +kernel
theorem mi_169_42 : mI 169 42 = (10, 0, 0, 0, 0) := by decide +kernel
theorem mi_169_43 : mI 169 43 = (26, 933, 51, 164, 0) := by decide +kernel
theorem mi_169_46 : mI 169 46 = (26, 1172, 40, 166, 0) := by decide +kernel
theorem mi_169_49 : mI 169 49 = (9, 1, 6, 0, 0) := by decide +kernel
theorem mi_169_52 : mI 169 52 = (16, (-49), 0, 3, 0) := by decide +kernel
theorem mi_169_55 : mI 169 55 = (27, 0, 2, 0, 0) := by decide +kernel
theorem mi_170_0 : mI 170 0 = (1, 0, 0, 0, 0) := by decide +kernel
theorem mi_170_1 : mI 170 1 = (6, 0, 4, 1, 0) := by decide +kernel
theorem mi_170_3 : mI 170 3 = (3, 0, 4, 1, 0) := by decide +kernel
theorem mi_170_5 : mI 170 5 = (5, 0, 0, 0, 0) := by decide +kernel
theorem mi_170_6 : mI 170 6 = (3, 0, 1, 0, 0) := by decide +kernel
theorem mi_170_7 : mI 170 7 = (26, 928, 22, 162, 0) := by decide +kernel
theorem mi_170_10 : mI 170 10 = (15, 37, 3, 47, 0) := by decide +kernel
theorem mi_170_13 : mI 170 13 = (5, 0, 0, 0, 0) := by decide +kernel
theorem mi_170_14 : mI 170 14 = (3, 0, 1, 0, 0) := by decide +kernel
theorem mi_170_15 : mI 170 15 = (3, 0, 4, 1, 0) := by decide +kernel
theorem mi_170_17 : mI 170 17 = (26, 933, 51, 164, 0) := by decide +kernel
theorem mi_170_20 : mI 170 20 = (3, 0, 2, 0, 0) := by decide +kernel
theorem mi_170_21 : mI 170 21 = (12, 0, 1, 0, 0) := by decide +kernel
theorem mi_170_22 : mI 170 22 = (13, 0, 0, 0, 0) := by decide +kernel
theorem mi_170_23 : mI 170 23 = (14, 16, 2, 39, 0) := by decide +kernel
theorem mi_170_26 : mI 170 26 = (5, 0, 0, 0, 0) := by decide +kernel
theorem mi_170_27 : mI 170 27 = (3, 0, 1, 0, 0) := by decide +kernel
theorem mi_170_28 : mI 170 28 = (3, 0, 4, 1, 0) := by decide +kernel
theorem mi_170_30 : mI 170 30 = (26, 933, 51, 164, 0) := by decide +kernel
theorem mi_170_33 : mI 170 33 = (3, 0, 3, 0, 0) := by decide +kernel
theorem mi_170_34 : mI 170 34 = (12, 0, 1, 0, 0) := by decide +kernel
theorem mi_170_35 : mI 170 35 = (13, 0, 0, 0, 0) := by decide +kernel
theorem mi_170_36 : mI 170 36 = (14, 5, 5, 41, 0) := by decide +kernel
theorem mi_170_39 : mI 170 39 = (1, 0, 0, 0, 0) := by decide +kernel
theorem mi_170_40 : mI 170 40 = (27, 0, 0, 0, 0) := by decide +kernel
theorem mi_170_41 : mI 170 41 = (9, 1, 4, 0, 0) := by decide +kernel
theorem mi_170_44 : mI 170 44 = (16, (-41), 0, 3, 0) := by decide +kernel
theorem mi_170_47 : mI 170 47 = (1, 1, 0, 0, 0) := by decide +kernel
theorem mi_170_48 : mI 170 48 = (27, 0, 0, 0, 0) := by decide +kernel
theorem mi_203_0 : mI 203 0 = (4, 0, 1, 0, 0) := by decide +kernel
theorem mi_203_1 : mI 203 1 = (2, 0, 0, 0, 0) := by decide +kernel
theorem mi_203_2 : mI 203 2 = (5, 0, 0, 0, 0) := by decide +kernel
theorem mi_203_3 : mI 203 3 = (17, 1207, 9, 11, 1) := by decide +kernel
theorem mi_203_6 : mI 203 6 = (1, 0, 0, 0, 0) := by decide +kernel
theorem mi_203_7 : mI 203 7 = (19, 0, 0, 0, 0) := by decide +kernel
theorem mi_203_8 : mI 203 8 = (1, 1, 0, 0, 0) := by decide +kernel
theorem mi_203_9 : mI 203 9 = (10, 0, 1, 0, 0) := by decide +kernel
theorem mi_203_10 : mI 203 10 = (12, 0, 1, 0, 0) := by decide +kernel
theorem mi_203_11 : mI 203 11 = (26, 1321, 85, 193, 1) := by decide +kernel
theorem mi_203_14 : mI 203 14 = (27, 0, 0, 0, 0) := by decide +kernel
theorem mi_305_0 : mI 305 0 = (3, 0, 1, 0, 0) := by decide +kernel
theorem mi_305_1 : mI 305 1 = (26, 1773, 371, 336, 1) := by decide +kernel
theorem mi_305_4 : mI 305 4 = (14, 14, 0, 18, 0) := by decide +kernel
theorem mi_305_7 : mI 305 7 = (5, 0, 0, 0, 0) := by decide +kernel
theorem mi_305_8 : mI 305 8 = (26, 1689, 350, 198, 0) := by decide +kernel
theorem mi_305_11 : mI 305 11 = (14, 7, 0, 18, 0) := by decide +kernel
theorem mi_305_14 : mI 305 14 = (3, 0, 2, 0, 0) := by decide +kernel
theorem mi_305_15 : mI 305 15 = (14, 6, 1, 21, 0) := by decide +kernel
theorem mi_305_18 : mI 305 18 = (1, (-2), 1, 0, 0) := by decide +kernel
theorem mi_305_20 : mI 305 20 = (27, 0, 0, 0, 0) := by decide +kernel
theorem mi_305_21 : mI 305 21 = (5, 0, 0, 0, 0) := by decide +kernel
theorem mi_305_22 : mI 305 22 = (17, 1238, 67, 11, 32) := by decide +kernel
theorem mi_305_25 : mI 305 25 = (3, 0, 1, 0, 0) := by decide +kernel
theorem mi_305_26 : mI 305 26 = (19, 0, 0, 0, 0) := by decide +kernel
theorem mi_305_27 : mI 305 27 = (1, (-1), 0, 0, 0) := by decide +kernel
theorem mi_305_28 : mI 305 28 = (15, 6, 1, 34, 0) := by decide +kernel
theorem mi_305_31 : mI 305 31 = (1, (-6), 1, 0, 0) := by decide +kernel
theorem mi_305_33 : mI 305 33 = (27, 0, 0, 0, 0) := by decide +kernel
theorem mi_305_34 : mI 305 34 = (1, 0, 0, 0, 0) := by decide +kernel
theorem mi_305_35 : mI 305 35 = (6, 0, 3, 0, 0) := by decide +kernel
theorem mi_305_36 : mI 305 36 = (3, 0, 3, 0, 0) := by decide +kernel
theorem mi_305_37 : mI 305 37 = (5, 0, 0, 0, 0) := by decide +kernel
theorem mi_305_38 : mI 305 38 = (17, 1238, 67, 11, 32) := by decide +kernel
theorem mi_305_41 : mI 305 41 = (3, 0, 1, 0, 0) := by decide +kernel
theorem mi_305_42 : mI 305 42 = (19, 0, 0, 0, 0) := by decide +kernel
theorem mi_305_43 : mI 305 43 = (15, 25, 3, 68, 0) := by decide +kernel
theorem mi_305_46 : mI 305 46 = (5, 0, 0, 0, 0) := by decide +kernel
theorem mi_305_47 : mI 305 47 = (5, 0, 0, 0, 0) := by decide +kernel
theorem mi_305_48 : mI 305 48 = (3, 0, 1, 0, 0) := by decide +kernel
theorem mi_305_49 : mI 305 49 = (3, 0, 3, 0, 0) := by decide +kernel
theorem mi_305_50 : mI 305 50 = (26, 1777, 376, 300, 0) := by decide +kernel
theorem mi_305_53 : mI 305 53 = (26, 1798, 389, 203, 0) := by decide +kernel
theorem mi_305_56 : mI 305 56 = (14, 6, 1, 62, 0) := by decide +kernel
theorem mi_305_59 : mI 305 59 = (1, (-2), 1, 0, 0) := by decide +kernel
theorem mi_305_61 : mI 305 61 = (27, 0, 0, 0, 0) := by decide +kernel
theorem mi_305_62 : mI 305 62 = (9, 1, 3, 0, 0) := by decide +kernel
theorem mi_305_65 : mI 305 65 = (16, (-29), 0, 36, 0) := by decide +kernel
theorem mi_305_68 : mI 305 68 = (1, 0, 0, 0, 0) := by decide +kernel
theorem mi_305_69 : mI 305 69 = (27, 0, 0, 0, 0) := by decide +kernel
theorem mi_306_0 : mI 306 0 = (5, 0, 0, 0, 0) := by decide +kernel
theorem mi_306_1 : mI 306 1 = (5, 0, 0, 0, 0) := by decide +kernel
theorem mi_306_2 : mI 306 2 = (3, 0, 1, 0, 0) := by decide +kernel
theorem mi_306_3 : mI 306 3 = (26, 1452, 93, 204, 0) := by decide +kernel
theorem mi_306_6 : mI 306 6 = (18, 1236, 393, 11, 30) := by decide +kernel
theorem mi_306_9 : mI 306 9 = (1, 0, 0, 0, 0) := by decide +kernel
theorem mi_306_10 : mI 306 10 = (6, 0, 2, 0, 0) := by decide +kernel
theorem mi_306_11 : mI 306 11 = (3, 0, 2, 0, 0) := by decide +kernel
theorem mi_306_12 : mI 306 12 = (5, 0, 0, 0, 0) := by decide +kernel
theorem mi_306_13 : mI 306 13 = (17, 1236, 393, 11, 30) := by decide +kernel
theorem mi_306_16 : mI 306 16 = (15, 21, 3, 37, 0) := by decide +kernel
theorem mi_306_19 : mI 306 19 = (5, 0, 0, 0, 0) := by decide +kernel
theorem mi_306_20 : mI 306 20 = (17, 1235, 61, 11, 29) := by decide +kernel
theorem mi_306_23 : mI 306 23 = (3, 0, 2, 0, 0) := by decide +kernel
theorem mi_306_24 : mI 306 24 = (5, 0, 0, 0, 0) := by decide +kernel
theorem mi_306_25 : mI 306 25 = (3, 0, 1, 0, 0) := by decide +kernel
theorem mi_306_26 : mI 306 26 = (3, 0, 2, 0, 0) := by decide +kernel
theorem mi_306_27 : mI 306 27 = (26, 1456, 290, 205, 0) := by decide +kernel
theorem mi_306_30 : mI 306 30 = (20, 0, 0, 0, 0) := by decide +kernel
theorem mi_306_31 : mI 306 31 = (9, 1, 2, 0, 0) := by decide +kernel
theorem mi_306_34 : mI 306 34 = (16, (-23), 0, 11, 0) := by decide +kernel
theorem mi_306_37 : mI 306 37 = (27, 0, 2, 0, 0) := by decide +kernel
theorem mi_307_0 : mI 307 0 = (1, 0, 0, 0, 0) := by decide +kernel
theorem mi_307_1 : mI 307 1 = (6, 0, 2, 0, 0) := by decide +kernel
theorem mi_307_2 : mI 307 2 = (3, 0, 2, 0, 0) := by decide +kernel
theorem mi_307_3 : mI 307 3 = (5, 0, 0, 0, 0) := by decide +kernel
theorem mi_307_4 : mI 307 4 = (17, 1238, 67, 11, 32) := by decide +kernel
theorem mi_307_7 : mI 307 7 = (3, 0, 1, 0, 0) := by decide +kernel
theorem mi_307_8 : mI 307 8 = (19, 0, 0, 0, 0) := by decide +kernel
theorem mi_307_9 : mI 307 9 = (10, 0, 0, 0, 0) := by decide +kernel
theorem mi_307_10 : mI 307 10 = (5, 0, 0, 0, 0) := by decide +kernel
theorem mi_307_11 : mI 307 11 = (17, 1236, 393, 11, 30) := by decide +kernel
theorem mi_307_14 : mI 307 14 = (15, 68, 4, 82, 0) := by decide +kernel
theorem mi_307_17 : mI 307 17 = (1, 1, 0, 0, 0) := by decide +kernel
theorem mi_307_18 : mI 307 18 = (6, 0, 3, 0, 0) := by decide +kernel
theorem mi_307_19 : mI 307 19 = (1, 0, 0, 0, 0) := by decide +kernel
theorem mi_307_20 : mI 307 20 = (6, 0, 4, 1, 0) := by decide +kernel
theorem mi_307_22 : mI 307 22 = (3, 0, 4, 1, 0) := by decide +kernel
theorem mi_307_24 : mI 307 24 = (5, 0, 0, 0, 0) := by decide +kernel
theorem mi_307_25 : mI 307 25 = (17, 1238, 67, 11, 32) := by decide +kernel
theorem mi_307_28 : mI 307 28 = (3, 0, 1, 0, 0) := by decide +kernel
theorem mi_307_29 : mI 307 29 = (19, 0, 0, 0, 0) := by decide +kernel
theorem mi_307_30 : mI 307 30 = (15, 40, 3, 70, 0) := by decide +kernel
theorem mi_307_33 : mI 307 33 = (3, 0, 3, 0, 0) := by decide +kernel
theorem mi_307_34 : mI 307 34 = (14, 36, 0, 70, 0) := by decide +kernel
theorem mi_307_37 : mI 307 37 = (5, 0, 0, 0, 0) := by decide +kernel
theorem mi_307_38 : mI 307 38 = (17, 1235, 61, 11, 29) := by decide +kernel
theorem mi_307_41 : mI 307 41 = (3, 0, 2, 0, 0) := by decide +kernel
theorem mi_307_42 : mI 307 42 = (3, 0, 4, 1, 0) := by decide +kernel
theorem mi_307_44 : mI 307 44 = (10, 0, 0, 0, 0) := by decide +kernel
theorem mi_307_45 : mI 307 45 = (19, 0, 0, 0, 0) := by decide +kernel
theorem mi_307_46 : mI 307 46 = (12, 0, 1, 0, 0) := by decide +kernel
theorem mi_307_47 : mI 307 47 = (5, 0, 0, 0, 0) := by decide +kernel
theorem mi_307_48 : mI 307 48 = (3, 0, 1, 0, 0) := by decide +kernel
theorem mi_307_49 : mI 307 49 = (3, 0, 4, 1, 0) := by decide +kernel
theorem mi_307_51 : mI 307 51 = (26, 1777, 376, 300, 0) := by decide +kernel
theorem mi_307_54 : mI 307 54 = (13, 0, 0, 0, 0) := by decide +kernel
theorem mi_307_55 : mI 307 55 = (14, 7, 1, 62, 0) := by decide +kernel
theorem mi_307_58 : mI 307 58 = (1, 1, 0, 0, 0) := by decide +kernel
theorem mi_307_59 : mI 307 59 = (16, 4, 0, 63, 0) := by decide +kernel
theorem mi_307_62 : mI 307 62 = (1, 0, 0, 0, 0) := by decide +kernel
theorem mi_307_63 : mI 307 63 = (6, 0, 3, 0, 0) := by decide +kernel
theorem mi_307_64 : mI 307 64 = (9, 1, 4, 0, 0) := by decide +kernel
theorem mi_307_67 : mI 307 67 = (16, (-45), 0, 22, 0) := by decide +kernel
theorem mi_307_70 : mI 307 70 = (3, 0, 3, 0, 0) := by decide +kernel
theorem mi_307_71 : mI 307 71 = (14, 5, 0, 76, 0) := by decide +kernel
theorem mi_307_74 : mI 307 74 = (1, 1, 0, 0, 0) := by decide +kernel
theorem mi_307_75 : mI 307 75 = (27, 0, 0, 0, 0) := by decide +kernel
theorem mi_307_76 : mI 307 76 = (9, 1, 2, 0, 0) := by decide +kernel
theorem mi_307_79 : mI 307 79 = (16, (-77), 0, 2, 0) := by decide +kernel
theorem mi_307_82 : mI 307 82 = (1, 0, 0, 0, 0) := by decide +kernel
theorem mi_307_83 : mI 307 83 = (27, 0, 0, 0, 0) := by decide +kernel
theorem mi_308_0 : mI 308 0 = (5, 0, 0, 0, 0) := by decide +kernel
theorem mi_308_1 : mI 308 1 = (3, 0, 1, 0, 0) := by decide +kernel
theorem mi_308_2 : mI 308 2 = (1, 1, 0, 0, 0) := by decide +kernel
theorem mi_308_3 : mI 308 3 = (26, 1794, 396, 305, 0) := by decide +kernel
theorem mi_308_6 : mI 308 6 = (6, 0, 2, 0, 0) := by decide +kernel
theorem mi_308_7 : mI 308 7 = (3, 0, 2, 0, 0) := by decide +kernel
theorem mi_308_8 : mI 308 8 = (14, 5, 3, 13, 0) := by decide +kernel
theorem mi_308_11 : mI 308 11 = (3, 0, 2, 0, 0) := by decide +kernel
theorem mi_308_12 : mI 308 12 = (27, 0, 0, 0, 0) := by decide +kernel
theorem mi_308_13 : mI 308 13 = (1, 0, 0, 0, 0) := by decide +kernel
theorem mi_308_14 : mI 308 14 = (6, 0, 3, 0, 0) := by decide +kernel
theorem mi_308_15 : mI 308 15 = (1, 0, 0, 0, 0) := by decide +kernel
theorem mi_308_16 : mI 308 16 = (6, 0, 4, 1, 0) := by decide +kernel
theorem mi_308_18 : mI 308 18 = (3, 0, 4, 1, 0) := by decide +kernel
theorem mi_308_20 : mI 308 20 = (5, 0, 0, 0, 0) := by decide +kernel
theorem mi_308_21 : mI 308 21 = (17, 1207, 9, 11, 1) := by decide +kernel
theorem mi_308_24 : mI 308 24 = (1, 3, 0, 0, 0) := by decide +kernel
theorem mi_308_25 : mI 308 25 = (19, 0, 0, 0, 0) := by decide +kernel
theorem mi_308_26 : mI 308 26 = (15, 34, 3, 60, 0) := by decide +kernel
theorem mi_308_29 : mI 308 29 = (5, 0, 0, 0, 0) := by decide +kernel
theorem mi_308_30 : mI 308 30 = (3, 0, 4, 1, 0) := by decide +kernel
theorem mi_308_32 : mI 308 32 = (26, 1802, 400, 306, 0) := by decide +kernel
theorem mi_308_35 : mI 308 35 = (3, 0, 3, 0, 0) := by decide +kernel
theorem mi_308_36 : mI 308 36 = (5, 0, 0, 0, 0) := by decide +kernel
theorem mi_308_37 : mI 308 37 = (3, 0, 1, 0, 0) := by decide +kernel
theorem mi_308_38 : mI 308 38 = (26, 1806, 403, 307, 0) := by decide +kernel
theorem mi_308_41 : mI 308 41 = (14, 10, 0, 51, 0) := by decide +kernel
theorem mi_308_44 : mI 308 44 = (1, 1, 0, 0, 0) := by decide +kernel
theorem mi_308_45 : mI 308 45 = (3, 0, 4, 1, 0) := by decide +kernel
theorem mi_308_47 : mI 308 47 = (10, 0, 8, 0, 0) := by decide +kernel
theorem mi_308_48 : mI 308 48 = (16, 4, 0, 52, 0) := by decide +kernel
theorem mi_308_51 : mI 308 51 = (1, 0, 0, 0, 0) := by decide +kernel
theorem mi_308_52 : mI 308 52 = (10, 0, 6, 0, 0) := by decide +kernel
theorem mi_308_53 : mI 308 53 = (6, 0, 3, 0, 0) := by decide +kernel
theorem mi_308_54 : mI 308 54 = (9, 1, 4, 0, 0) := by decide +kernel
theorem mi_308_57 : mI 308 57 = (16, (-39), 0, 18, 0) := by decide +kernel
theorem mi_308_60 : mI 308 60 = (3, 0, 3, 0, 0) := by decide +kernel
theorem mi_308_61 : mI 308 61 = (27, 0, 0, 0, 0) := by decide +kernel
theorem mi_337_0 : mI 337 0 = (1, 64, 1, 0, 0) := by decide +kernel
theorem mi_337_2 : mI 337 2 = (1, 8, 1, 0, 0) := by decide +kernel
theorem mi_337_4 : mI 337 4 = (3, 0, 2, 0, 0) := by decide +kernel
theorem mi_337_5 : mI 337 5 = (10, 0, 8, 0, 0) := by decide +kernel
theorem mi_337_6 : mI 337 6 = (10, 0, 1, 0, 0) := by decide +kernel
theorem mi_337_7 : mI 337 7 = (6, 0, 3, 0, 0) := by decide +kernel
theorem mi_337_8 : mI 337 8 = (4, 0, 0, 0, 0) := by decide +kernel
theorem mi_337_9 : mI 337 9 = (3, 0, 3, 0, 0) := by decide +kernel
theorem mi_337_10 : mI 337 10 = (25, 0, 0, 0, 0) := by decide +kernel
theorem mi_337_11 : mI 337 11 = (3, 0, 3, 0, 0) := by decide +kernel
theorem mi_337_12 : mI 337 12 = (25, 0, 1, 0, 0) := by decide +kernel
theorem mi_337_13 : mI 337 13 = (27, 0, 1, 0, 0) := by decide +kernel
section XVA
variable {l : Launch} {D : va_G} {tys : List (ClassId × FieldType)} {A : Nat → Prop} {ad : Nat → Nat} {ws : va_W}
theorem V_laldX {k d pc : Nat} {post : Option Value → va_W → Prop} {lv : List (Nat × Value)} {st : List Value} {a : Int} {y z c n j : Nat} {segs : List SG} {ix : Int32} {q : Int64} (hi : mI k pc = (19, a, 2, y, z)) (hix : ix = Int32.ofInt (j : Int)) (hG : GOK ad tys GG ws) (hg : GG[c]? = some ((2, 3, n), segs)) (hj : j < n) (hn : n ≤ 100000) (hx : rd ws c j = some (.long q)) (kk : V l D tys A k d 0 0 post 0 0 (pc + 1) lv (.long q :: st) ws) : V l D tys A k d 0 0 post 0 0 pc lv (.int ix :: .ref (ad c) :: st) ws := by
  subst hix
  obtain ⟨e, b1, b2, b3⟩ := hG c _ hg
  obtain ⟨cA, f, rfl, c1⟩ := b2
  rw [rd_at b1] at hx
  have hx : (if j < n then some (Value.long (f j)) else none) = some (.long q) := hx
  rw [if_pos hj] at hx
  have e : f j = q := Value.long.inj (Option.some.inj hx)
  refine V_lald hi b1 c1 (ix_in hj hn).1 ?_
  rw [(ix_in hj hn).2, e]
  exact kk
theorem V_lenL {k d pc : Nat} {post : Option Value → va_W → Prop} {lv : List (Nat × Value)} {st : List Value} {a : Int} {x y z c n : Nat} {segs : List SG} (hi : mI k pc = (21, a, x, y, z)) (hG : GOK ad tys GG ws) (hg : GG[c]? = some ((2, 3, n), segs)) (kk : V l D tys A k d 0 0 post 0 0 (pc + 1) lv (.int (Int32.ofInt (n : Int)) :: st) ws) : V l D tys A k d 0 0 post 0 0 pc lv (.ref (ad c) :: st) ws := by
  obtain ⟨e, b1, b2, b3⟩ := hG c _ hg
  obtain ⟨cA, f, rfl, c1⟩ := b2
  exact V_alen hi b1 c1 kk
theorem V_zge {k pc d y z : Nat} {a : Int} {post : Option Value → va_W → Prop} {lv : List (Nat × Value)} {st : List Value} {u : Int} (hi : mI k pc = (14, a, 3, y, z)) (b : I32 u) (kt : 0 ≤ u → V l D tys A k d 0 0 post 0 0 y lv st ws) (kf : u < 0 → V l D tys A k d 0 0 post 0 0 (pc + 3) lv st ws) : V l D tys A k d 0 0 post 0 0 pc lv (.int (Int32.ofInt u) :: st) ws := by
  have h : cdP 3 (Int32.ofInt u) 0 ↔ cdZ 3 (u - 0) := cdP_iff (b := 0) b.1 b.2 (by omega) (by omega)
  exact V_if hi (fun q => kt (by have : 0 ≤ u - 0 := h.mp q; omega)) (fun q => kf (by by_cases e : u < 0; exact e; exact absurd (h.mpr (show 0 ≤ u - 0 by omega)) q))
theorem gl40 : ∃ s, GG[40]? = some ((2, 3, 240), s) ∧ ∀ j, j < 240 → segAt s j = some (1, -9223372036854775808, 9223372036854775807) := by
  refine ⟨_, rfl, fun j hj => ?_⟩
  show (bif Nat.blt j 240 then some _ else _) = _
  rw [show Nat.blt j 240 = true from Nat.blt_eq.mpr hj]
  rfl
theorem g0r7 : gOr 0 10 13 7 39 := ⟨_, rfl, by decide +kernel⟩
theorem g39o : gO 39 7 3 := ⟨_, rfl⟩
theorem g39r0 : gOr 39 7 3 0 40 := ⟨_, rfl, by decide +kernel⟩
theorem g39r1 : gOr 39 7 3 1 41 := ⟨_, rfl, by decide +kernel⟩
theorem g39r2 : gOr 39 7 3 2 42 := ⟨_, rfl, by decide +kernel⟩
theorem a41 : gA 41 4 0 3 := gA_of rfl
theorem a42 : gA 42 4 (-1) 60 := gA_of rfl
theorem a107 : gA 107 4 (-1) 60 := gA_of rfl
theorem a108 : gA 108 4 0 3 := gA_of rfl
/-- a number cut to a width, as the class does -/
noncomputable def cutX (v : Int64) (w : Int) : Int64 := if w = 0 then v.toInt32.toInt8.toInt32.toInt64 else if w = 1 then v.toInt32.toInt16.toInt32.toInt64 else if w = 2 then v.toInt32.toInt64 else v
theorem bm_8 (a : Nat) : ((a * 2 ^ 56 : Nat) : Int).bmod (2 ^ 64) / 2 ^ 56 = (a : Int).bmod (2 ^ 8) := by
  rw [Int.bmod_def, Int.bmod_def]
  split <;> split <;> omega
theorem bm_16 (a : Nat) : ((a * 2 ^ 48 : Nat) : Int).bmod (2 ^ 64) / 2 ^ 48 = (a : Int).bmod (2 ^ 16) := by
  rw [Int.bmod_def, Int.bmod_def]
  split <;> split <;> omega
theorem bm_32 (a : Nat) : ((a * 2 ^ 32 : Nat) : Int).bmod (2 ^ 64) / 2 ^ 32 = (a : Int).bmod (2 ^ 32) := by
  rw [Int.bmod_def, Int.bmod_def]
  split <;> split <;> omega
theorem shl_i (x : BitVec 64) (n : Nat) : ((x <<< n).sshiftRight n).toInt = ((x.toNat * 2 ^ n : Nat) : Int).bmod (2 ^ 64) / 2 ^ n := by
  rw [BitVec.toInt_sshiftRight, BitVec.toInt_shiftLeft, Int.shiftRight_eq_div_pow, Nat.shiftLeft_eq]
  rfl
theorem bmd (v : Int64) {m : Nat} (h : m ∣ 2 ^ 64) : v.toInt.bmod m = (v.toBitVec.toNat : Int).bmod m := by
  rw [← Int64.toInt_toBitVec, BitVec.toInt_eq_toNat_bmod, Int.bmod_bmod_of_dvd h]
theorem cut_0 (v : Int64) : lsF 1 (lsF 0 v (Int32.ofInt 56)) (Int32.ofInt 56) = v.toInt32.toInt8.toInt32.toInt64 := by
  apply Int64.toInt.inj
  rw [Int32.toInt_toInt64, Int8.toInt_toInt32, Int32.toInt_toInt8, Int64.toInt_toInt32, Int.bmod_bmod_of_dvd (by decide), bmd v (by decide), ← bm_8, ← shl_i]
  rfl
theorem cut_1 (v : Int64) : lsF 1 (lsF 0 v (Int32.ofInt 48)) (Int32.ofInt 48) = v.toInt32.toInt16.toInt32.toInt64 := by
  apply Int64.toInt.inj
  rw [Int32.toInt_toInt64, Int16.toInt_toInt32, Int32.toInt_toInt16, Int64.toInt_toInt32, Int.bmod_bmod_of_dvd (by decide), bmd v (by decide), ← bm_16, ← shl_i]
  rfl
theorem cut_2 (v : Int64) : lsF 1 (lsF 0 v (Int32.ofInt 32)) (Int32.ofInt 32) = v.toInt32.toInt64 := by
  apply Int64.toInt.inj
  rw [Int32.toInt_toInt64, Int64.toInt_toInt32, bmd v (by decide), ← bm_32, ← shl_i]
  rfl
theorem cut_3 (v : Int64) : lsF 1 (lsF 0 v (Int32.ofInt 0)) (Int32.ofInt 0) = v := by
  apply Int64.toInt.inj
  show ((v.toBitVec <<< 0).sshiftRight 0).toInt = v.toBitVec.toInt
  rw [BitVec.shiftLeft_zero, BitVec.sshiftRight_zero]
theorem by_all : (List.range 4).all (fun w => decide (ibF 1 (Int32.ofInt 64) (ibF 8 (Int32.ofInt 8) (Int32.ofInt (w : Nat))) = Int32.ofInt (if w = 0 then 56 else if w = 1 then 48 else if w = 2 then 32 else 0))) = true := by decide +kernel
theorem cutM_X {v : Int64} {w : Int} (h : 0 ≤ w ∧ w ≤ 3) : lsF 1 (lsF 0 v (ibF 1 (Int32.ofInt 64) (ibF 8 (Int32.ofInt 8) (Int32.ofInt w)))) (ibF 1 (Int32.ofInt 64) (ibF 8 (Int32.ofInt 8) (Int32.ofInt w))) = cutX v w := by
  have q := fun (n : Nat) (hn : n < 4) => of_decide_eq_true (List.all_eq_true.mp by_all n (List.mem_range.mpr hn))
  rcases (show w = 0 ∨ w = 1 ∨ w = 2 ∨ w = 3 by omega) with e | e | e | e
  · rw [e, show (0 : Int) = ((0 : Nat) : Int) from rfl, q 0 (by omega)]
    exact cut_0 v
  · rw [e, show (1 : Int) = ((1 : Nat) : Int) from rfl, q 1 (by omega)]
    exact cut_1 v
  · rw [e, show (2 : Int) = ((2 : Nat) : Int) from rfl, q 2 (by omega)]
    exact cut_2 v
  · rw [e, show (3 : Int) = ((3 : Nat) : Int) from rfl, q 3 (by omega)]
    exact cut_3 v
theorem cut_cut (v : Int64) (w : Int) : cutX (cutX v w) w = cutX v w := by
  unfold cutX
  split
  · apply Int64.toInt.inj
    simp only [Int32.toInt_toInt64, Int8.toInt_toInt32, Int32.toInt_toInt8, Int64.toInt_toInt32]
    rw [Int.bmod_bmod_of_dvd (by decide), Int.bmod_bmod_of_dvd (by decide)]
  · split
    · apply Int64.toInt.inj
      simp only [Int32.toInt_toInt64, Int16.toInt_toInt32, Int32.toInt_toInt16, Int64.toInt_toInt32]
      rw [Int.bmod_bmod_of_dvd (by decide), Int.bmod_bmod_of_dvd (by decide)]
    · split
      · apply Int64.toInt.inj
        simp only [Int32.toInt_toInt64, Int64.toInt_toInt32]
        rw [Int.bmod_bmod]
      · rfl
theorem cut_z (w : Int) : cutX (Int64.ofInt 0) w = Int64.ofInt 0 := by
  unfold cutX
  split
  · decide
  · split
    · decide
    · split
      · decide
      · rfl
/-- the class's slots -/
noncomputable def SLX (sz wd : Nat → Int) (nm : Nat → Int64) (w : va_W) : Prop := ∀ j : Nat, j < 4 → rd w 42 j = some (.int (Int32.ofInt (sz j))) ∧ rd w 41 j = some (.int (Int32.ofInt (wd j))) ∧ ∀ i : Nat, (i : Int) < sz j → rd w 40 (60 * j + i) = some (.long (nm (60 * j + i)))
/-- the reference's -/
noncomputable def SLM (sz wd : Nat → Int) (nm : Nat → Int64) (w : va_W) : Prop := ∀ j : Nat, j < 4 → rd w 107 j = some (.int (Int32.ofInt (sz j))) ∧ rd w 108 j = some (.int (Int32.ofInt (wd j))) ∧ ∀ i : Nat, (i : Int) < sz j → rd w 109 (60 * j + i) = some (.long (nm (60 * j + i)))
noncomputable def SLB (sz wd : Nat → Int) (nm : Nat → Int64) : Prop := ∀ j : Nat, j < 4 → (-1 ≤ sz j ∧ sz j ≤ 60) ∧ (0 ≤ wd j ∧ wd j ≤ 3) ∧ ∀ i : Nat, (i : Int) < sz j → cutX (nm (60 * j + i)) (wd j) = nm (60 * j + i)
noncomputable def SLT (w : va_W) : Prop := ∃ (sz wd : Nat → Int) (nm : Nat → Int64), SLX sz wd nm w ∧ SLM sz wd nm w ∧ SLB sz wd nm
theorem slt_keep {w0 w : va_W} (h : SLT w0) (o : ∀ c j, (40 ≤ c ∧ c ≤ 42) ∨ (107 ≤ c ∧ c ≤ 109) → rd w c j = rd w0 c j) : SLT w := by
  obtain ⟨sz, wd, nm, x, m, b⟩ := h
  exact ⟨sz, wd, nm, fun j hj => ⟨(o _ _ (by omega)).trans (x j hj).1, (o _ _ (by omega)).trans (x j hj).2.1, fun i hi => (o _ _ (by omega)).trans ((x j hj).2.2 i hi)⟩, fun j hj => ⟨(o _ _ (by omega)).trans (m j hj).1, (o _ _ (by omega)).trans (m j hj).2.1, fun i hi => (o _ _ (by omega)).trans ((m j hj).2.2 i hi)⟩, b⟩
theorem hsX_ct {v : Int} (vI : I32 v) : CT l D tys A 160 0 0 0 [.ref (ad 39), .int (Int32.ofInt (v))] ws (fun r w => w = ws ∧ r = some (.int (bI (decide (0 ≤ v ∧ v < 4))))) := by
  refine CT_of_V (by omega) (show (2 : Nat) ≤ mML 160 by decide +kernel) ?_
  refine V_iload (v := Int32.ofInt (v)) mi_160_0 (by simp [stL, stL2, lv_args, Value.category]) ?_
  refine V_zlt mi_160_1 vI (fun q => ?_) (fun q => ?_)
  · refine V_ipush mi_160_13 ?_
    exact V_retI mi_160_14 (fun _ => by decide) ⟨rfl, by rw [decide_eq_false (by omega)]; rfl⟩
  · refine V_iload (v := Int32.ofInt (v)) mi_160_4 (by simp [stL, stL2, lv_args, Value.category]) ?_
    refine V_ipush mi_160_5 ?_
    refine V_cge mi_160_6 vI ⟨by omega, by omega⟩ (fun q2 => ?_) (fun q2 => ?_)
    · refine V_ipush mi_160_13 ?_
      exact V_retI mi_160_14 (fun _ => by decide) ⟨rfl, by rw [decide_eq_false (by omega)]; rfl⟩
    · refine V_ipush mi_160_9 ?_
      refine V_goto mi_160_10 ?_
      exact V_retI mi_160_14 (fun _ => by decide) ⟨rfl, by rw [decide_eq_true (by omega)]; rfl⟩
theorem szX_ct {j : Nat} {z : Int} (hG : GOK ad tys GG ws) (hj : j < 4) (h : rd ws 42 j = some (.int (Int32.ofInt z))) : CT l D tys A 162 1 0 0 [.ref (ad 39), .int (Int32.ofInt ((j : Int)))] ws (fun r w => w = ws ∧ r = some (.int (Int32.ofInt z))) := by
  refine CT_of_V (by omega) (show (2 : Nat) ≤ mML 162 by decide +kernel) ?_
  refine V_aload (v := ad 39) mi_162_0 (by simp [stL, stL2, lv_args, Value.category]) ?_
  refine V_iload (v := Int32.ofInt ((j : Int))) mi_162_1 (by simp [stL, stL2, lv_args, Value.category]) ?_
  refine V_cO (As := [.int (Int32.ofInt ((j : Int)))]) (st := []) mi_162_2 (by omega) (by decide +kernel) (by decide +kernel) (by omega) g39o hG (hsX_ct (v := (j : Int)) ⟨by omega, by omega⟩) (by omega) (show 1 = mN 160 by decide +kernel) (by simp [Value.category]) ?_
  rintro r w1 ⟨rfl, rfl⟩
  rw [decide_eq_true (show 0 ≤ (j : Int) ∧ (j : Int) < 4 by omega)]
  change V _ _ _ _ _ _ _ _ _ _ _ _ _ [.int (bI true)] _
  refine V_beq mi_162_5  (fun q => ?_) (fun q => ?_)
  · exact absurd q (by decide)
  · refine V_aload (v := ad 39) mi_162_8 (by simp [stL, stL2, lv_args, Value.category]) ?_
    refine V_gR mi_162_9 g39r2 (by omega) hG ?_
    refine V_iload (v := Int32.ofInt ((j : Int))) mi_162_12 (by simp [stL, stL2, lv_args, Value.category]) ?_
    refine V_stat (As := [.ref (ad 42), .int (Int32.ofInt ((j : Int)))]) (st := []) mi_162_13 (by omega) (atk_ct (j := j) a42 hG (by omega) hj h) (by omega) (show 2 = mN 147 by decide +kernel) (by simp [Value.category]) ⟨Nat.le_refl _, Nat.le_refl _⟩ ?_
    rintro r w2 ⟨rfl, rfl⟩
    refine V_goto mi_162_16 ?_
    exact V_retI mi_162_20 (fun h => absurd h (by decide +kernel)) ⟨rfl, rfl⟩
theorem baX_ct {j : Nat} {z : Int} (hG : GOK ad tys GG ws) (hj : j < 4) (zI : I32 z) (h : rd ws 42 j = some (.int (Int32.ofInt z))) : CT l D tys A 161 2 0 0 [.ref (ad 39), .int (Int32.ofInt ((j : Int)))] ws (fun r w => w = ws ∧ r = some (.int (bI (decide (z < 0))))) := by
  refine CT_of_V (by omega) (show (2 : Nat) ≤ mML 161 by decide +kernel) ?_
  refine V_aload (v := ad 39) mi_161_0 (by simp [stL, stL2, lv_args, Value.category]) ?_
  refine V_iload (v := Int32.ofInt ((j : Int))) mi_161_1 (by simp [stL, stL2, lv_args, Value.category]) ?_
  refine V_cO (As := [.int (Int32.ofInt ((j : Int)))]) (st := []) mi_161_2 (by omega) (by decide +kernel) (by decide +kernel) (by omega) g39o hG (szX_ct hG hj h) (by omega) (show 1 = mN 162 by decide +kernel) (by simp [Value.category]) ?_
  rintro r w1 ⟨rfl, rfl⟩
  refine V_zge mi_161_5 zI (fun q => ?_) (fun q => ?_)
  · refine V_ipush mi_161_12 ?_
    exact V_retI mi_161_13 (fun _ => by decide) ⟨rfl, by rw [decide_eq_false (by omega)]; rfl⟩
  · refine V_ipush mi_161_8 ?_
    refine V_goto mi_161_9 ?_
    exact V_retI mi_161_13 (fun _ => by decide) ⟨rfl, by rw [decide_eq_true (by omega)]; rfl⟩
theorem wdX_ct {j : Nat} {z : Int} (hG : GOK ad tys GG ws) (hj : j < 4) (h : rd ws 41 j = some (.int (Int32.ofInt z))) : CT l D tys A 163 1 0 0 [.ref (ad 39), .int (Int32.ofInt ((j : Int)))] ws (fun r w => w = ws ∧ r = some (.int (Int32.ofInt z))) := by
  refine CT_of_V (by omega) (show (2 : Nat) ≤ mML 163 by decide +kernel) ?_
  refine V_aload (v := ad 39) mi_163_0 (by simp [stL, stL2, lv_args, Value.category]) ?_
  refine V_gR mi_163_1 g39r1 (by omega) hG ?_
  refine V_iload (v := Int32.ofInt ((j : Int))) mi_163_4 (by simp [stL, stL2, lv_args, Value.category]) ?_
  refine V_stat (As := [.ref (ad 41), .int (Int32.ofInt ((j : Int)))]) (st := []) mi_163_5 (by omega) (atk_ct (j := j) a41 hG (by omega) hj h) (by omega) (show 2 = mN 147 by decide +kernel) (by simp [Value.category]) ⟨Nat.le_refl _, Nat.le_refl _⟩ ?_
  rintro r w2 ⟨rfl, rfl⟩
  exact V_retI mi_163_8 (fun h => absurd h (by decide +kernel)) ⟨rfl, rfl⟩
theorem nmX_ct2 {j i : Nat} {z : Int} {q : Int64} (hG : GOK ad tys GG ws) (hj : j < 4) (hz : rd ws 42 j = some (.int (Int32.ofInt z))) (hzb : z ≤ 60) (hi : (i : Int) < z) (hq : rd ws 40 (60 * j + i) = some (.long q)) : CT l D tys A 164 2 0 0 [.ref (ad 39), .int (Int32.ofInt ((j : Int))), .int (Int32.ofInt ((i : Int)))] ws (fun r w => w = ws ∧ r = some (.long q)) := by
  refine CT_of_V (by omega) (show (3 : Nat) ≤ mML 164 by decide +kernel) ?_
  obtain ⟨s40, e40, f40⟩ := gl40
  refine V_iload (v := Int32.ofInt ((i : Int))) mi_164_0 (by simp [stL, stL2, lv_args, Value.category]) ?_
  refine V_zlt mi_164_1 ⟨by omega, by omega⟩ (fun q0 => ?_) (fun q0 => ?_)
  · exact absurd q0 (by omega)
  · refine V_iload (v := Int32.ofInt ((i : Int))) mi_164_4 (by simp [stL, stL2, lv_args, Value.category]) ?_
    refine V_aload (v := ad 39) mi_164_5 (by simp [stL, stL2, lv_args, Value.category]) ?_
    refine V_iload (v := Int32.ofInt ((j : Int))) mi_164_6 (by simp [stL, stL2, lv_args, Value.category]) ?_
    refine V_cO (As := [.int (Int32.ofInt ((j : Int)))]) (st := [.int (Int32.ofInt ((i : Int)))]) mi_164_7 (by omega) (by decide +kernel) (by decide +kernel) (by omega) g39o hG (szX_ct hG hj hz) (by omega) (show 1 = mN 162 by decide +kernel) (by simp [Value.category]) ?_
    rintro r w1 ⟨e1, rfl⟩
    rw [e1]
    refine V_clt mi_164_10 ⟨by omega, by omega⟩ ⟨by omega, by omega⟩ (fun q2 => ?_) (fun q2 => ?_)
    · refine V_iload (v := Int32.ofInt ((j : Int))) mi_164_15 (by simp [stL, stL2, lv_args, Value.category]) ?_
      refine V_ipush mi_164_16 ?_
      refine V_ibin mi_164_18 (by omega) ?_
      rw [ib2]
      refine V_iload (v := Int32.ofInt ((i : Int))) mi_164_19 (by simp [stL, stL2, lv_args, Value.category]) ?_
      refine V_ibin mi_164_20 (by omega) ?_
      rw [ib0]
      refine V_istore mi_164_21 ?_
      refine V_iload (v := Int32.ofInt ((((j : Int)) * (60)) + ((i : Int)))) mi_164_22 (by simp [stL, stL2, lv_args, Value.category]) ?_
      refine V_zlt mi_164_23 ⟨by omega, by omega⟩ (fun q3 => ?_) (fun q3 => ?_)
      · exact absurd q3 (by omega)
      · refine V_iload (v := Int32.ofInt ((((j : Int)) * (60)) + ((i : Int)))) mi_164_26 (by simp [stL, stL2, lv_args, Value.category]) ?_
        refine V_aload (v := ad 39) mi_164_27 (by simp [stL, stL2, lv_args, Value.category]) ?_
        refine V_gR mi_164_28 g39r0 (by omega) hG ?_
        refine V_lenL mi_164_31 hG e40 ?_
        refine V_cge mi_164_32 ⟨by omega, by omega⟩ ⟨by omega, by omega⟩ (fun q4 => ?_) (fun q4 => ?_)
        · exact absurd q4 (by omega)
        · refine V_aload (v := ad 39) mi_164_35 (by simp [stL, stL2, lv_args, Value.category]) ?_
          refine V_gR mi_164_36 g39r0 (by omega) hG ?_
          refine V_iload (v := Int32.ofInt ((((j : Int)) * (60)) + ((i : Int)))) mi_164_39 (by simp [stL, stL2, lv_args, Value.category]) ?_
          refine V_laldX (j := 60 * j + i) (q := q) mi_164_40 (by rw [show (((j : Int)) * (60)) + ((i : Int)) = ((60 * j + i : Nat) : Int) by omega]) hG e40 (by omega) (by omega) (hq) ?_
          refine V_goto mi_164_41 ?_
          exact V_retL mi_164_45 ⟨rfl, rfl⟩
    · exact absurd q2 (by omega)
theorem nmM_ct2 {j i : Nat} {q : Int64} (hG : GOK ad tys GG ws) (hj : j < 4) (hi : i < 60) (hq : rd ws 109 (60 * j + i) = some (.long q)) : CT l D tys A 300 0 0 0 [.ref (ad 90), .int (Int32.ofInt ((j : Int))), .int (Int32.ofInt ((i : Int)))] ws (fun r w => w = ws ∧ r = some (.long q)) := by
  refine CT_of_V (by omega) (show (3 : Nat) ≤ mML 300 by decide +kernel) ?_
  obtain ⟨s109, e109, f109⟩ := gl109
  refine V_aload (v := ad 90) mi_300_0 (by simp [stL, stL2, lv_args, Value.category]) ?_
  refine V_getI mi_300_1 hG (rref gr34 (by omega) hG) ?_
  refine V_ipush mi_300_4 ?_
  refine V_iload (v := Int32.ofInt ((j : Int))) mi_300_6 (by simp [stL, stL2, lv_args, Value.category]) ?_
  refine V_ibin mi_300_7 (by omega) ?_
  rw [ib2]
  refine V_iload (v := Int32.ofInt ((i : Int))) mi_300_8 (by simp [stL, stL2, lv_args, Value.category]) ?_
  refine V_ibin mi_300_9 (by omega) ?_
  rw [ib0]
  refine V_laldX (j := 60 * j + i) (q := q) mi_300_10 (by rw [show ((60) * ((j : Int))) + ((i : Int)) = ((60 * j + i : Nat) : Int) by omega]) hG e109 (by omega) (by omega) (hq) ?_
  exact V_retL mi_300_11 ⟨rfl, rfl⟩
end XVA
section XVB
variable {l : Launch} {D : va_G} {tys : List (ClassId × FieldType)} {A : Nat → Prop} {ad : Nat → Nat} {ws : va_W}
noncomputable def updL (f : Nat → Int64) (i : Nat) (v : Int64) (j : Nat) : Int64 := if j = i then v else f j
theorem updL_eq {f : Nat → Int64} {i : Nat} {v : Int64} : updL f i v i = v := if_pos rfl
theorem updL_ne {f : Nat → Int64} {i j : Nat} {v : Int64} (h : j ≠ i) : updL f i v j = f j := if_neg h
/-- a new row of slot j -/
noncomputable def rowN (nm : Nat → Int64) (j p : Nat) : Int64 := if 60 * j ≤ p ∧ p < 60 * j + 60 then Int64.ofInt 0 else nm p
theorem rowN_in {nm : Nat → Int64} {j i : Nat} (h : i < 60) : rowN nm j (60 * j + i) = Int64.ofInt 0 := if_pos (by omega)
theorem rowN_out {nm : Nat → Int64} {j k i : Nat} (h : k ≠ j) (hi : i < 60) : rowN nm j (60 * k + i) = nm (60 * k + i) := if_neg (by omega)
theorem slb_row {sz wd : Nat → Int} {nm : Nat → Int64} {j : Nat} {n w : Int} (b : SLB sz wd nm) (n0 : 0 ≤ n ∧ n ≤ 60) (w0 : 0 ≤ w ∧ w ≤ 3) : SLB (updI sz j n) (updI wd j w) (rowN nm j) := fun k hk => by
  have g := b k hk
  by_cases e : k = j
  · subst e
    rw [show updI sz k n k = n from if_pos rfl, show updI wd k w k = w from if_pos rfl]
    exact ⟨by omega, w0, fun i hi => by rw [rowN_in (by omega)]; exact cut_z w⟩
  · rw [updI_ne e, updI_ne e]
    exact ⟨g.1, g.2.1, fun i hi => by rw [rowN_out e (by omega)]; exact g.2.2 i hi⟩
theorem slb_wr {sz wd : Nat → Int} {nm : Nat → Int64} {j i : Nat} {v : Int64} (b : SLB sz wd nm) (hj : j < 4) (hi : i < 60) : SLB sz wd (updL nm (60 * j + i) (cutX v (wd j))) := fun k hk => by
  have g := b k hk
  refine ⟨g.1, g.2.1, fun x hx => ?_⟩
  by_cases e : 60 * k + x = 60 * j + i
  · have ek : k = j := by omega
    rw [e, updL_eq, ek]
    exact cut_cut v (wd j)
  · rw [updL_ne e]
    exact g.2.2 x hx
theorem cutX_ct {v : Int64} {wd : Int} (h : 0 ≤ wd ∧ wd ≤ 3) : CT l D tys A 167 0 0 0 [.long (v), .int (Int32.ofInt (wd))] ws (fun r w => w = ws ∧ r = some (.long (cutX v wd))) := by
  refine CT_of_V (by omega) (show (3 : Nat) ≤ mML 167 by decide +kernel) ?_
  refine V_iload (v := Int32.ofInt (wd)) mi_167_0 (by simp [stL, stL2, lv_args, Value.category]) ?_
  have sw : swT 167 1 (Int32.ofInt (wd)).toInt = if wd = 0 then 28 else if wd = 1 then 33 else if wd = 2 then 38 else 42 := by
    rw [Int32.toInt_ofInt_of_le (by omega) (by omega)]
    unfold swT
    rw [show mSw 167 1 = (42, 0, [28, 33, 38]) by decide +kernel]
    show (if wd < 0 ∨ 0 + ((3 : Nat) : Int) ≤ wd then 42 else ([28, 33, 38] : List Nat).getD (wd - 0).toNat 42) = _
    by_cases e0 : wd = 0
    · rw [if_neg (by omega), if_pos e0, e0]; rfl
    by_cases e1 : wd = 1
    · rw [if_neg (by omega), if_neg e0, if_pos e1, e1]; rfl
    by_cases e2 : wd = 2
    · rw [if_neg (by omega), if_neg e0, if_neg e1, if_pos e2, e2]; rfl
    rw [if_pos (by omega), if_neg e0, if_neg e1, if_neg e2]
  refine V_sw mi_167_1 ?_
  change V l D tys A 167 0 0 0 _ 0 0 (swT 167 1 (Int32.ofInt wd).toInt) _ _ _
  rw [sw]
  by_cases e0 : wd = 0
  · rw [if_pos e0]
    refine V_lload (v := v) mi_167_28 (by simp [stL, stL2, lv_args, Value.category]) ?_
    refine V_l2i mi_167_29 ?_
    refine V_i2b mi_167_30 ?_
    refine V_i2l mi_167_31 ?_
    exact V_retL mi_167_32 ⟨rfl, by unfold cutX; rw [if_pos e0]⟩
  · rw [if_neg e0]
    by_cases e1 : wd = 1
    · rw [if_pos e1]
      refine V_lload (v := v) mi_167_33 (by simp [stL, stL2, lv_args, Value.category]) ?_
      refine V_l2i mi_167_34 ?_
      refine V_i2s mi_167_35 ?_
      refine V_i2l mi_167_36 ?_
      exact V_retL mi_167_37 ⟨rfl, by unfold cutX; rw [if_neg e0, if_pos e1]⟩
    · rw [if_neg e1]
      by_cases e2 : wd = 2
      · rw [if_pos e2]
        refine V_lload (v := v) mi_167_38 (by simp [stL, stL2, lv_args, Value.category]) ?_
        refine V_l2i mi_167_39 ?_
        refine V_i2l mi_167_40 ?_
        exact V_retL mi_167_41 ⟨rfl, by unfold cutX; rw [if_neg e0, if_neg e1, if_pos e2]⟩
      · rw [if_neg e2]
        refine V_lload (v := v) mi_167_42 (by simp [stL, stL2, lv_args, Value.category]) ?_
        exact V_retL mi_167_43 ⟨rfl, by unfold cutX; rw [if_neg e0, if_neg e1, if_neg e2]⟩
theorem cutM_ct {v : Int64} {wd : Int} (h : 0 ≤ wd ∧ wd ≤ 3) : CT l D tys A 337 0 0 0 [.long (v), .int (Int32.ofInt (wd))] ws (fun r w => w = ws ∧ r = some (.long (cutX v wd))) := by
  refine CT_of_V (by omega) (show (3 : Nat) ≤ mML 337 by decide +kernel) ?_
  refine V_ipush mi_337_0 ?_
  refine V_ipush mi_337_2 ?_
  refine V_iload (v := Int32.ofInt (wd)) mi_337_4 (by simp [stL, stL2, lv_args, Value.category]) ?_
  refine V_ibin mi_337_5 (by omega) ?_
  refine V_ibin mi_337_6 (by omega) ?_
  refine V_istore mi_337_7 ?_
  refine V_lload (v := v) mi_337_8 (by simp [stL, stL2, lv_args, Value.category]) ?_
  refine V_iload (v := ibF 1 (Int32.ofInt (64)) (ibF 8 (Int32.ofInt (8)) (Int32.ofInt (wd)))) mi_337_9 (by simp [stL, stL2, lv_args, Value.category]) ?_
  refine V_lsh mi_337_10 ?_
  refine V_iload (v := ibF 1 (Int32.ofInt (64)) (ibF 8 (Int32.ofInt (8)) (Int32.ofInt (wd)))) mi_337_11 (by simp [stL, stL2, lv_args, Value.category]) ?_
  refine V_lsh mi_337_12 ?_
  rw [cutM_X h]
  exact V_retL mi_337_13 ⟨rfl, rfl⟩
theorem setX_ct {j i : Nat} {z wd : Int} {v : Int64} (hG : GOK ad tys GG ws) (hj : j < 4) (hz : rd ws 42 j = some (.int (Int32.ofInt z))) (hzb : z ≤ 60) (hi : (i : Int) < z) (hw : rd ws 41 j = some (.int (Int32.ofInt wd))) (hwb : 0 ≤ wd ∧ wd ≤ 3) : CT l D tys A 166 3 0 0 [.ref (ad 39), .int (Int32.ofInt ((j : Int))), .int (Int32.ofInt ((i : Int))), .long (v)] ws (fun r w => r = none ∧ GOK ad tys GG w ∧ Upd1 ws w 40 (60 * j + i) (.long (cutX v wd))) := by
  refine CT_of_V (by omega) (show (5 : Nat) ≤ mML 166 by decide +kernel) ?_
  obtain ⟨s40, e40, f40⟩ := gl40
  refine V_iload (v := Int32.ofInt ((j : Int))) mi_166_0 (by simp [stL, stL2, lv_args, Value.category]) ?_
  refine V_ipush mi_166_1 ?_
  refine V_ibin mi_166_3 (by omega) ?_
  rw [ib2]
  refine V_iload (v := Int32.ofInt ((i : Int))) mi_166_4 (by simp [stL, stL2, lv_args, Value.category]) ?_
  refine V_ibin mi_166_5 (by omega) ?_
  rw [ib0]
  refine V_istore mi_166_6 ?_
  refine V_iload (v := Int32.ofInt ((i : Int))) mi_166_8 (by simp [stL, stL2, lv_args, Value.category]) ?_
  refine V_zlt mi_166_9 ⟨by omega, by omega⟩ (fun q0 => ?_) (fun q0 => ?_)
  · exact absurd q0 (by omega)
  · refine V_iload (v := Int32.ofInt ((i : Int))) mi_166_12 (by simp [stL, stL2, lv_args, Value.category]) ?_
    refine V_aload (v := ad 39) mi_166_13 (by simp [stL, stL2, lv_args, Value.category]) ?_
    refine V_iload (v := Int32.ofInt ((j : Int))) mi_166_14 (by simp [stL, stL2, lv_args, Value.category]) ?_
    refine V_cO (As := [.int (Int32.ofInt ((j : Int)))]) (st := [.int (Int32.ofInt ((i : Int)))]) mi_166_15 (by omega) (by decide +kernel) (by decide +kernel) (by omega) g39o hG (szX_ct hG hj hz) (by omega) (show 1 = mN 162 by decide +kernel) (by simp [Value.category]) ?_
    rintro r w1 ⟨e1, rfl⟩
    rw [e1]
    refine V_cge mi_166_18 ⟨by omega, by omega⟩ ⟨by omega, by omega⟩ (fun q2 => ?_) (fun q2 => ?_)
    · exact absurd q2 (by omega)
    · refine V_iload (v := Int32.ofInt ((((j : Int)) * (60)) + ((i : Int)))) mi_166_21 (by simp [stL, stL2, lv_args, Value.category]) ?_
      refine V_zlt mi_166_23 ⟨by omega, by omega⟩ (fun q3 => ?_) (fun q3 => ?_)
      · exact absurd q3 (by omega)
      · refine V_iload (v := Int32.ofInt ((((j : Int)) * (60)) + ((i : Int)))) mi_166_26 (by simp [stL, stL2, lv_args, Value.category]) ?_
        refine V_aload (v := ad 39) mi_166_28 (by simp [stL, stL2, lv_args, Value.category]) ?_
        refine V_gR mi_166_29 g39r0 (by omega) hG ?_
        refine V_lenL mi_166_32 hG e40 ?_
        refine V_cge mi_166_33 ⟨by omega, by omega⟩ ⟨by omega, by omega⟩ (fun q4 => ?_) (fun q4 => ?_)
        · exact absurd q4 (by omega)
        · refine V_aload (v := ad 39) mi_166_36 (by simp [stL, stL2, lv_args, Value.category]) ?_
          refine V_gR mi_166_37 g39r0 (by omega) hG ?_
          refine V_iload (v := Int32.ofInt ((((j : Int)) * (60)) + ((i : Int)))) mi_166_40 (by simp [stL, stL2, lv_args, Value.category]) ?_
          refine V_lload (v := v) mi_166_42 (by simp [stL, stL2, lv_args, Value.category]) ?_
          refine V_aload (v := ad 39) mi_166_43 (by simp [stL, stL2, lv_args, Value.category]) ?_
          refine V_iload (v := Int32.ofInt ((j : Int))) mi_166_44 (by simp [stL, stL2, lv_args, Value.category]) ?_
          refine V_cO (As := [.int (Int32.ofInt ((j : Int)))]) (st := [.long (v), .int (Int32.ofInt ((((j : Int)) * (60)) + ((i : Int)))), .ref (ad 40)]) mi_166_45 (by omega) (by decide +kernel) (by decide +kernel) (by omega) g39o hG (wdX_ct hG hj hw) (by omega) (show 1 = mN 163 by decide +kernel) (by simp [Value.category]) ?_
          rintro r w2 ⟨e2, rfl⟩
          rw [e2]
          refine V_stat (As := [.long (v), .int (Int32.ofInt (wd))]) (st := [.int (Int32.ofInt ((((j : Int)) * (60)) + ((i : Int)))), .ref (ad 40)]) mi_166_48 (by omega) (cutX_ct hwb) (by omega) (show 2 = mN 167 by decide +kernel) (by simp [Value.category]) ⟨Nat.le_refl _, Nat.le_refl _⟩ ?_
          rintro r w3 ⟨e3, rfl⟩
          rw [e3]
          refine V_lastI (j := 60 * j + i) mi_166_51 (by rw [show (((j : Int)) * (60)) + ((i : Int)) = ((60 * j + i : Nat) : Int) by omega]) hG e40 (by omega) (by omega) (f40 _ (by omega)) (fun w4 Gw4 Uw4 => ?_)
          exact V_retV mi_166_52 ⟨rfl, Gw4, Uw4⟩
theorem mkX_21 {w0 : va_W} {j : Nat} {wd n : Int} (hj : j < 4) (hwb : 0 ≤ wd ∧ wd ≤ 3) (nb : 0 ≤ n ∧ n ≤ 60) {post : Option Value → va_W → Prop} : ∀ (m i : Nat) (ws : va_W), ((i + m : Nat) : Int) = n → GOK ad tys GG ws → rd ws 42 j = some (.int (Int32.ofInt n)) → rd ws 41 j = some (.int (Int32.ofInt wd)) → (∀ x : Nat, x < i → rd ws 40 (60 * j + x) = some (.long (Int64.ofInt 0))) → (∀ c p, ¬ (c = 40 ∧ 60 * j ≤ p ∧ p < 60 * j + 60) → rd ws c p = rd w0 c p) → (∀ w : va_W, GOK ad tys GG w → rd w 42 j = some (.int (Int32.ofInt n)) → rd w 41 j = some (.int (Int32.ofInt wd)) → (∀ x : Nat, (x : Int) < n → rd w 40 (60 * j + x) = some (.long (Int64.ofInt 0))) → (∀ c p, ¬ (c = 40 ∧ 60 * j ≤ p ∧ p < 60 * j + 60) → rd w c p = rd w0 c p) → post none w) → V l D tys A 165 4 0 0 post 0 0 21 [(0, .ref (ad 39)), (1, .int (Int32.ofInt ((j : Int)))), (2, .int (Int32.ofInt (wd))), (3, .int (Int32.ofInt (n))), (4, .int (Int32.ofInt ((i : Int))))] [] ws
  | 0, i, ws, hm, hG, hz, hw, hn, ho, kk => by
    refine V_iload (v := Int32.ofInt ((i : Int))) mi_165_21 (by simp [stL, stL2, lv_args, Value.category]) ?_
    refine V_iload (v := Int32.ofInt (n)) mi_165_23 (by simp [stL, stL2, lv_args, Value.category]) ?_
    refine V_cge mi_165_24 ⟨by omega, by omega⟩ ⟨by omega, by omega⟩ (fun q => ?_) (fun q => ?_)
    · exact V_retV mi_165_41 (kk ws hG hz hw (fun x hx => hn x (by omega)) ho)
    · exact absurd q (by omega)
  | m + 1, i, ws, hm, hG, hz, hw, hn, ho, kk => by
    refine V_iload (v := Int32.ofInt ((i : Int))) mi_165_21 (by simp [stL, stL2, lv_args, Value.category]) ?_
    refine V_iload (v := Int32.ofInt (n)) mi_165_23 (by simp [stL, stL2, lv_args, Value.category]) ?_
    refine V_cge mi_165_24 ⟨by omega, by omega⟩ ⟨by omega, by omega⟩ (fun q => ?_) (fun q => ?_)
    · exact absurd q (by omega)
    · refine V_aload (v := ad 39) mi_165_27 (by simp [stL, stL2, lv_args, Value.category]) ?_
      refine V_iload (v := Int32.ofInt ((j : Int))) mi_165_28 (by simp [stL, stL2, lv_args, Value.category]) ?_
      refine V_iload (v := Int32.ofInt ((i : Int))) mi_165_29 (by simp [stL, stL2, lv_args, Value.category]) ?_
      refine V_lpush mi_165_31 ?_
      refine V_cO (As := [.int (Int32.ofInt ((j : Int))), .int (Int32.ofInt ((i : Int))), .long (Int64.ofInt (0))]) (st := []) mi_165_32 (by omega) (by decide +kernel) (by decide +kernel) (by omega) g39o hG (setX_ct (j := j) (i := i) (z := n) (wd := wd) (v := Int64.ofInt 0) hG hj hz (by omega) (by omega) hw hwb) (by omega) (show 3 = mN 166 by decide +kernel) (by simp [Value.category]) ?_
      rintro r w1 ⟨rfl, G1, U1⟩
      rw [cut_z] at U1
      refine V_iinc (v := Int32.ofInt ((i : Int))) mi_165_35 (by simp [stL, stL2, lv_args, Value.category]) ?_
      rw [ia2]
      refine V_goto mi_165_38 ?_
      refine V_sub (lv' := [(0, .ref (ad 39)), (1, .int (Int32.ofInt ((j : Int)))), (2, .int (Int32.ofInt (wd))), (3, .int (Int32.ofInt (n))), (4, .int (Int32.ofInt (((i + 1 : Nat) : Int))))]) (fun q hq => ?_) ?_
      · simp only [List.mem_cons, List.not_mem_nil, or_false] at hq
        rcases hq with rfl | rfl | rfl | rfl | rfl <;> simp [stL, stL2, lv_args, Value.category]
      refine mkX_21 hj hwb nb m (i + 1) w1 (by omega) G1 ((upd_ne U1 (by omega)).trans hz) ((upd_ne U1 (by omega)).trans hw) (fun x hx => ?_) (fun c p h => (upd_ne U1 (by omega)).trans (ho c p h)) kk
      by_cases e : x = i
      · rw [e]
        exact upd_eq U1
      · exact (upd_ne U1 (by omega)).trans (hn x (by omega))
theorem mkX_ct {sz wds : Nat → Int} {nm : Nat → Int64} {j : Nat} {wd n : Int} (hG : GOK ad tys GG ws) (h : SLX sz wds nm ws) (b : SLB sz wds nm) (hj : j < 4) (hwb : 0 ≤ wd ∧ wd ≤ 3) (nb : 0 ≤ n ∧ n ≤ 60) : CT l D tys A 165 4 0 0 [.ref (ad 39), .int (Int32.ofInt ((j : Int))), .int (Int32.ofInt (wd)), .int (Int32.ofInt (n))] ws (fun r w => r = none ∧ GOK ad tys GG w ∧ SLX (updI sz j n) (updI wds j wd) (rowN nm j) w ∧ (∀ c p, ¬ (40 ≤ c ∧ c ≤ 42) → rd w c p = rd ws c p)) := by
  refine CT_of_V (by omega) (show (4 : Nat) ≤ mML 165 by decide +kernel) ?_
  obtain ⟨s42, e42, f42⟩ := a42
  obtain ⟨s41, e41, f41⟩ := a41
  refine V_aload (v := ad 39) mi_165_0 (by simp [stL, stL2, lv_args, Value.category]) ?_
  refine V_gR mi_165_1 g39r2 (by omega) hG ?_
  refine V_iload (v := Int32.ofInt ((j : Int))) mi_165_4 (by simp [stL, stL2, lv_args, Value.category]) ?_
  refine V_iload (v := Int32.ofInt (n)) mi_165_5 (by simp [stL, stL2, lv_args, Value.category]) ?_
  refine V_stat (As := [.ref (ad 42), .int (Int32.ofInt ((j : Int))), .int (Int32.ofInt (n))]) (st := []) mi_165_6 (by omega) (put_ct (j := j) hG e42 hj (by omega) (f42 j hj) (by rw [Int32.toInt_ofInt_of_le (by omega) (by omega)]; omega) (by rw [Int32.toInt_ofInt_of_le (by omega) (by omega)]; omega)) (by omega) (show 3 = mN 148 by decide +kernel) (by simp [Value.category]) ⟨Nat.le_refl _, Nat.le_refl _⟩ ?_
  rintro r w1 ⟨rfl, G1, U1⟩
  refine V_aload (v := ad 39) mi_165_9 (by simp [stL, stL2, lv_args, Value.category]) ?_
  refine V_gR mi_165_10 g39r1 (by omega) G1 ?_
  refine V_iload (v := Int32.ofInt ((j : Int))) mi_165_13 (by simp [stL, stL2, lv_args, Value.category]) ?_
  refine V_iload (v := Int32.ofInt (wd)) mi_165_14 (by simp [stL, stL2, lv_args, Value.category]) ?_
  refine V_stat (As := [.ref (ad 41), .int (Int32.ofInt ((j : Int))), .int (Int32.ofInt (wd))]) (st := []) mi_165_15 (by omega) (put_ct (j := j) G1 e41 hj (by omega) (f41 j hj) (by rw [Int32.toInt_ofInt_of_le (by omega) (by omega)]; omega) (by rw [Int32.toInt_ofInt_of_le (by omega) (by omega)]; omega)) (by omega) (show 3 = mN 148 by decide +kernel) (by simp [Value.category]) ⟨Nat.le_refl _, Nat.le_refl _⟩ ?_
  rintro r w2 ⟨rfl, G2, U2⟩
  refine V_ipush mi_165_18 ?_
  refine V_istore mi_165_19 ?_
  refine V_sub (lv' := [(0, .ref (ad 39)), (1, .int (Int32.ofInt ((j : Int)))), (2, .int (Int32.ofInt (wd))), (3, .int (Int32.ofInt (n))), (4, .int (Int32.ofInt (((0 : Nat) : Int))))]) (fun q hq => ?_) ?_
  · simp only [List.mem_cons, List.not_mem_nil, or_false] at hq
    rcases hq with rfl | rfl | rfl | rfl | rfl <;> simp [stL, stL2, lv_args, Value.category]
  refine mkX_21 (w0 := w2) hj hwb nb n.toNat 0 w2 (by omega) G2 ((upd_ne U2 (by omega)).trans (upd_eq U1)) (upd_eq U2) (fun x hx => absurd hx (by omega)) (fun _ _ _ => rfl) (fun w g hz hw hn ho => ⟨rfl, g, fun k hk => ?_, fun c p h => (ho c p (by omega)).trans ((upd_ne U2 (by omega)).trans (upd_ne U1 (by omega)))⟩)
  by_cases e : k = j
  · subst e
    rw [show updI sz k n k = n from if_pos rfl, show updI wds k wd k = wd from if_pos rfl]
    exact ⟨hz, hw, fun i hi => by rw [rowN_in (by omega)]; exact hn i hi⟩
  · rw [updI_ne e, updI_ne e]
    have g0 := h k hk
    have gb := b k hk
    exact ⟨(ho _ _ (by omega)).trans ((upd_ne U2 (by omega)).trans ((upd_ne U1 (by omega)).trans g0.1)), (ho _ _ (by omega)).trans ((upd_ne U2 (by omega)).trans ((upd_ne U1 (by omega)).trans g0.2.1)), fun i hi => by rw [rowN_out e (by omega)]; exact (ho _ _ (by omega)).trans ((upd_ne U2 (by omega)).trans ((upd_ne U1 (by omega)).trans (g0.2.2 i hi)))⟩
theorem rowX_ct {sz wds : Nat → Int} {nm : Nat → Int64} {s wd n : Int} (sI : I32 s) (wI : I32 wd) (nI : I32 n) (hG : GOK ad tys GG ws) (hS : SLX sz wds nm ws) (hB : SLB sz wds nm) : CT l D tys A 70 5 0 0 [.ref (ad 0), .int (Int32.ofInt (s)), .int (Int32.ofInt (wd)), .int (Int32.ofInt (n))] ws (fun r w => r = some (.int (Int32.ofInt (if ((0 ≤ s ∧ s < 4) ∧ (0 ≤ wd ∧ wd < 4) ∧ n ≤ 60) then (if n < 0 then -3 else 0) else -2))) ∧ GOK ad tys GG w ∧ ((((0 ≤ s ∧ s < 4) ∧ (0 ≤ wd ∧ wd < 4) ∧ n ≤ 60) ∧ 0 ≤ n → SLX (updI sz s.toNat n) (updI wds s.toNat wd) (rowN nm s.toNat) w) ∧ (¬ (((0 ≤ s ∧ s < 4) ∧ (0 ≤ wd ∧ wd < 4) ∧ n ≤ 60) ∧ 0 ≤ n) → w = ws)) ∧ (∀ c p, ¬ (40 ≤ c ∧ c ≤ 42) → rd w c p = rd ws c p)) := by
  refine CT_of_V (by omega) (show (4 : Nat) ≤ mML 70 by decide +kernel) ?_
  refine V_aload (v := ad 0) mi_70_0 (by simp [stL, stL2, lv_args, Value.category]) ?_
  refine V_gR mi_70_1 g0r7 (by omega) hG ?_
  refine V_iload (v := Int32.ofInt (s)) mi_70_4 (by simp [stL, stL2, lv_args, Value.category]) ?_
  refine V_cO (As := [.int (Int32.ofInt (s))]) (st := []) mi_70_5 (by omega) (by decide +kernel) (by decide +kernel) (by omega) g39o hG (hsX_ct sI) (by omega) (show 1 = mN 160 by decide +kernel) (by simp [Value.category]) ?_
  rintro r w1 ⟨rfl, rfl⟩
  refine V_beq mi_70_8  (fun c1 => ?_) (fun c1 => ?_)
  · refine V_ipush mi_70_26 ?_
    exact V_retI mi_70_28 (fun h => absurd h (by decide +kernel)) ⟨by rw [if_neg (fun k => of_decide_eq_false c1 k.1)], hG, ⟨fun k => absurd k (fun k => (fun k => of_decide_eq_false c1 k.1) k.1), fun _ => rfl⟩, fun _ _ _ => rfl⟩
  · refine V_iload (v := Int32.ofInt (wd)) mi_70_11 (by simp [stL, stL2, lv_args, Value.category]) ?_
    refine V_zlt mi_70_12 wI (fun q => ?_) (fun q => ?_)
    · refine V_ipush mi_70_26 ?_
      exact V_retI mi_70_28 (fun h => absurd h (by decide +kernel)) ⟨by rw [if_neg (fun k => by have := k.2.1; omega)], hG, ⟨fun k => absurd k (fun k => (fun k => by have := k.2.1; omega) k.1), fun _ => rfl⟩, fun _ _ _ => rfl⟩
    · refine V_iload (v := Int32.ofInt (wd)) mi_70_15 (by simp [stL, stL2, lv_args, Value.category]) ?_
      refine V_ipush mi_70_16 ?_
      refine V_cge mi_70_17 wI ⟨by omega, by omega⟩ (fun q2 => ?_) (fun q2 => ?_)
      · refine V_ipush mi_70_26 ?_
        exact V_retI mi_70_28 (fun h => absurd h (by decide +kernel)) ⟨by rw [if_neg (fun k => by have := k.2.1; omega)], hG, ⟨fun k => absurd k (fun k => (fun k => by have := k.2.1; omega) k.1), fun _ => rfl⟩, fun _ _ _ => rfl⟩
      · refine V_iload (v := Int32.ofInt (n)) mi_70_20 (by simp [stL, stL2, lv_args, Value.category]) ?_
        refine V_ipush mi_70_21 ?_
        refine V_cle mi_70_23 nI ⟨by omega, by omega⟩ (fun q3 => ?_) (fun q3 => ?_)
        · refine V_iload (v := Int32.ofInt (n)) mi_70_29 (by simp [stL, stL2, lv_args, Value.category]) ?_
          refine V_zge mi_70_30 nI (fun q4 => ?_) (fun q4 => ?_)
          · have k1 := of_decide_eq_true c1
            obtain ⟨j, rfl⟩ := Int.eq_ofNat_of_zero_le k1.1
            refine V_aload (v := ad 0) mi_70_36 (by simp [stL, stL2, lv_args, Value.category]) ?_
            refine V_gR mi_70_37 g0r7 (by omega) hG ?_
            refine V_iload (v := Int32.ofInt ((j : Int))) mi_70_40 (by simp [stL, stL2, lv_args, Value.category]) ?_
            refine V_iload (v := Int32.ofInt (wd)) mi_70_41 (by simp [stL, stL2, lv_args, Value.category]) ?_
            refine V_iload (v := Int32.ofInt (n)) mi_70_42 (by simp [stL, stL2, lv_args, Value.category]) ?_
            refine V_cO (As := [.int (Int32.ofInt ((j : Int))), .int (Int32.ofInt (wd)), .int (Int32.ofInt (n))]) (st := []) mi_70_43 (by omega) (by decide +kernel) (by decide +kernel) (by omega) g39o hG (mkX_ct (j := j) (wd := wd) (n := n) hG hS hB (by omega) (by omega) (by omega)) (by omega) (show 3 = mN 165 by decide +kernel) (by simp [Value.category]) ?_
            rintro r w5 ⟨rfl, G5, S5, O5⟩
            refine V_ipush mi_70_46 ?_
            exact V_retI mi_70_47 (fun h => absurd h (by decide +kernel)) ⟨by rw [if_pos ⟨k1, ⟨by omega, by omega⟩, by omega⟩, if_neg (by omega)], G5, ⟨fun _ => by rw [Int.toNat_natCast]; exact S5, fun k => absurd ⟨⟨k1, ⟨by omega, by omega⟩, by omega⟩, by omega⟩ k⟩, O5⟩
          · refine V_ipush mi_70_33 ?_
            exact V_retI mi_70_35 (fun h => absurd h (by decide +kernel)) ⟨by rw [if_pos ⟨of_decide_eq_true c1, ⟨by omega, by omega⟩, by omega⟩, if_pos q4], hG, ⟨fun k => absurd k.2 (by omega), fun _ => rfl⟩, fun _ _ _ => rfl⟩
        · refine V_ipush mi_70_26 ?_
          exact V_retI mi_70_28 (fun h => absurd h (by decide +kernel)) ⟨by rw [if_neg (fun k => by have := k.2.2; omega)], hG, ⟨fun k => absurd k (fun k => (fun k => by have := k.2.2; omega) k.1), fun _ => rfl⟩, fun _ _ _ => rfl⟩
end XVB
end
