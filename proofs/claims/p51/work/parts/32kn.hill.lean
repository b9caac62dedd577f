section
section XHE
variable {l : Launch} {D : va_G} {tys : List (ClassId × FieldType)} {A : Nat → Prop} {ad : Nat → Nat} {ws : va_W}
/-- the same hill stands on both sides; the same images are kept -/
noncomputable def HIL (w : va_W) : Prop := ∃ G : Nat → Int, hOK G ∧ HX 4 G w ∧ W91 G w
noncomputable def IMG (q : Nat) (w : va_W) : Prop := ∃ G : Nat → Int, hOK G ∧ HX (54 + 12 * q) G w ∧ ∀ j, j < 294 → rd w 92 (294 * q + j) = some (.int (Int32.ofInt (G j)))
noncomputable def IMGS (w : va_W) : Prop := ∃ z : Nat, z < 8 ∧ rd w 0 12 = some (.int (Int32.ofInt (z : Int))) ∧ ∀ q, q < 3 → rd w 93 q = some (.int (bI (z.testBit q))) ∧ (z.testBit q = true → IMG q w)
noncomputable def RELH (w : va_W) : Prop := (TAPE w ∧ FLT w) ∧ HIL w ∧ IMGS w
theorem hil_keep {w0 w : va_W} (h : HIL w0) (k : ∀ c, 4 ≤ c → c ≤ 15 → ∀ j, rd w c j = rd w0 c j) (k2 : ∀ j, rd w 91 j = rd w0 91 j) : HIL w := by
  obtain ⟨G, o, x, y⟩ := h
  exact ⟨G, o, HX_keep x (fun c i h1 h2 => k c h1 (by omega) i), fun j hj => (k2 j).trans (y j hj)⟩
theorem img_keep {q : Nat} {w0 w : va_W} (h : IMG q w0) (k : ∀ c, 54 + 12 * q ≤ c → c < 66 + 12 * q → ∀ j, rd w c j = rd w0 c j) (k2 : ∀ j, 294 * q ≤ j → j < 294 * q + 294 → rd w 92 j = rd w0 92 j) : IMG q w := by
  obtain ⟨G, o, x, y⟩ := h
  exact ⟨G, o, HX_keep x (fun c i h1 h2 => k c h1 (by omega) i), fun j hj => (k2 _ (by omega) (by omega)).trans (y j hj)⟩
theorem imgs_keep {w0 w : va_W} (h : IMGS w0) (k0 : rd w 0 12 = rd w0 0 12) (k : ∀ c, 54 ≤ c → c ≤ 89 → ∀ j, rd w c j = rd w0 c j) (k2 : ∀ j, rd w 92 j = rd w0 92 j) (k3 : ∀ j, rd w 93 j = rd w0 93 j) : IMGS w := by
  obtain ⟨z, z8, hz, hq⟩ := h
  exact ⟨z, z8, k0.trans hz, fun q q3 => ⟨(k3 q).trans (hq q q3).1, fun hb => img_keep ((hq q q3).2 hb) (fun c h1 h2 => k c (by omega) (by omega)) (fun j _ _ => k2 j)⟩⟩
theorem relh_keep {w0 w : va_W} (h : RELH w0) (k : ∀ c, c ≤ 15 ∨ (54 ≤ c ∧ c ≤ 89) ∨ (91 ≤ c ∧ c ≤ 94) → ∀ j, rd w c j = rd w0 c j) (k2 : ∀ j, spK j → rd w 90 j = rd w0 90 j) : RELH w :=
  ⟨relf_keep h.1 (fun c hc j => k c (by omega) j) k2, hil_keep h.2.1 (fun c h1 h2 => k c (by omega)) (k 91 (by omega)), imgs_keep h.2.2 (k 0 (by omega) 12) (fun c h1 h2 => k c (by omega)) (k 92 (by omega)) (k 93 (by omega))⟩
theorem oi (a : Int32) : Int32.ofInt a.toInt = a := Int32.ofInt_toInt a
theorem three {a : Int32} (h : 0 ≤ a.toInt ∧ a.toInt ≤ 2) : a = Int32.ofInt 0 ∨ a = Int32.ofInt 1 ∨ a = Int32.ofInt 2 := by
  rcases (show a.toInt = 0 ∨ a.toInt = 1 ∨ a.toInt = 2 by omega) with e | e | e
  · exact Or.inl (by rw [← oi a, e])
  · exact Or.inr (Or.inl (by rw [← oi a, e]))
  · exact Or.inr (Or.inr (by rw [← oi a, e]))
theorem imgs_new {q z : Nat} {w0 w1 w2 : va_W} {G : Nat → Int} (q3 : q < 3) (z8 : z < 8) (hR : RELH w0) (o : hOK G) (hW : W91 G w0) (hX : HX 4 G w0) (hq : ∀ p, p < 3 → rd w0 93 p = some (.int (bI (z.testBit p))) ∧ (z.testBit p = true → IMG p w0)) (hx : (∀ c i, ¬ (54 + 12 * q ≤ c ∧ c ≤ 65 + 12 * q) → ¬ (c = 0 ∧ i = 12) → rd w1 c i = rd w0 c i) ∧ rd w1 0 12 = some (.int (Int32.ofInt ((z ||| 1 <<< q : Nat) : Int))) ∧ HX (54 + 12 * q) G w1) (hm : (∀ c j, ¬ (c = 92 ∧ 294 * q ≤ j ∧ j < 294 * q + 294) → ¬ (c = 93 ∧ j = q) → rd w2 c j = rd w1 c j) ∧ (∀ j, j < 294 → rd w2 92 (294 * q + j) = rd w1 91 j) ∧ rd w2 93 q = some (.int (Int32.ofInt 1))) : RELH w2 := by
  obtain ⟨x1, x2, x3⟩ := hx
  obtain ⟨m1, m2, m3⟩ := hm
  obtain ⟨-, k2, -, k4⟩ := kep_k z8 q3
  have oo : ∀ c j, ¬ (54 ≤ c ∧ c ≤ 89) → c ≠ 92 → c ≠ 93 → c ≠ 0 → rd w2 c j = rd w0 c j := fun c j h1 h2 h3 h4 => (m1 c j (by omega) (by omega)).trans (x1 c j (by omega) (by omega))
  refine ⟨relf_keep hR.1 (fun c hc j => oo c j (by omega) (by omega) (by omega) (by omega)) (fun j _ => oo _ _ (by omega) (by omega) (by omega) (by omega)), hil_keep hR.2.1 (fun c h1 h2 j => oo c j (by omega) (by omega) (by omega) (by omega)) (fun j => oo _ _ (by omega) (by omega) (by omega) (by omega)), z ||| 1 <<< q, k2, (m1 _ _ (by omega) (by omega)).trans x2, fun p p3 => ?_⟩
  rw [k4 p p3]
  by_cases e : p = q
  · subst e
    rw [Nat.beq_refl, Bool.or_true]
    refine ⟨m3, fun _ => ⟨G, o, HX_keep x3 (fun c i h1 h2 => m1 c i (by omega) (by omega)), fun j hj => ?_⟩⟩
    rw [m2 j hj, x1 _ _ (by omega) (by omega)]
    exact hW j hj
  · have eb : Nat.beq p q = false := by
      cases h : Nat.beq p q
      · rfl
      · exact absurd (Nat.eq_of_beq_eq_true h) e
    rw [eb, Bool.or_false]
    refine ⟨(m1 _ _ (by omega) (by omega)).trans ((x1 _ _ (by omega) (by omega)).trans (hq p p3).1), fun hb => img_keep ((hq p p3).2 hb) (fun c h1 h2 j => (m1 c j (by omega) (by omega)).trans (x1 c j (by omega) (by omega))) (fun j h1 h2 => (m1 _ _ (by omega) (by omega)).trans (x1 _ _ (by omega) (by omega)))⟩
theorem back_X {q z : Nat} {G0 : Nat → Int} {r : Option Value} {w : va_W} (h : GOK ad tys GG w ∧ XO ws w ∧ (z.testBit q = true → r = some (.int (Int32.ofInt 0)) ∧ HX 4 G0 w) ∧ (z.testBit q = false → r = some (.int (Int32.ofInt (-6))) ∧ w = ws)) (h0 : z.testBit q = true → HX (54 + 12 * q) G0 ws) : GOK ad tys GG w ∧ XO ws w ∧ (z.testBit q = true → r = some (.int (Int32.ofInt 0)) ∧ ∀ G, HX (54 + 12 * q) G ws → HX 4 G w) ∧ (z.testBit q = false → r = some (.int (Int32.ofInt (-6))) ∧ w = ws) := by
  refine ⟨h.1, h.2.1, fun k => ⟨(h.2.2.1 k).1, fun G hX j hj => ?_⟩, h.2.2.2⟩
  have e1 := h0 k j hj
  have e2 := hX j hj
  rw [(h.2.2.1 k).2 j hj, ← e1, e2]
theorem img_some {q z : Nat} {w : va_W} (h : z.testBit q = true → IMG q w) : ∃ G0 : Nat → Int, z.testBit q = true → HX (54 + 12 * q) G0 w := by
  by_cases k : z.testBit q = true
  · obtain ⟨G, o, x, y⟩ := h k
    exact ⟨G, fun _ => x⟩
  · exact ⟨fun _ => 0, fun q => absurd q k⟩
theorem endG_ok {x : TS × (Nat → Int) × (Nat → Int)} (h1 : frB x.2.1) (h2 : tdOK x.2.2) : hOK (endG x) := fun j hj => by
  unfold endG fx
  split
  · next q =>
    have b := sprV_bd h2 (f := (j - 102) / 24) (by omega) (m := (j - 102) % 24 + 1) (by omega)
    unfold sprT
    exact ⟨by omega, by omega⟩
  · have := h1 j hj
    exact ⟨by omega, by omega⟩
end XHE
end
section
section XSA
variable {l : Launch} {D : va_G} {tys : List (ClassId × FieldType)} {A : Nat → Prop} {ad : Nat → Nat} {ws : va_W}
/-- bit i of a -/
noncomputable def tb (a i : Int) : Bool := decide ((ibF 5 (ibF 9 (Int32.ofInt a) (Int32.ofInt i)) (Int32.ofInt 1)).toInt = 1)
theorem tb_all : (List.range 64).all (fun a => (List.range 6).all (fun i => decide (ibF 5 (ibF 9 (Int32.ofInt (a : Nat)) (Int32.ofInt (i : Nat))) (Int32.ofInt 1) = bI (tb (a : Nat) (i : Nat))) && (!(tb (a : Nat) (i : Nat)) || decide (bitO (a : Nat) (i : Nat) = (a : Nat))) && decide (ibF 5 (Int32.ofInt (a : Nat)) (ibF 8 (Int32.ofInt 1) (Int32.ofInt (i : Nat))) = 0 ↔ tb (a : Nat) (i : Nat) = false))) = true := by decide +kernel
theorem tb_k {a i : Int} (a0 : 0 ≤ a) (a1 : a ≤ 63) (i0 : 0 ≤ i) (i1 : i ≤ 5) : ibF 5 (ibF 9 (Int32.ofInt a) (Int32.ofInt i)) (Int32.ofInt 1) = bI (tb a i) ∧ (tb a i = true → bitO a i = a) ∧ (ibF 5 (Int32.ofInt a) (ibF 8 (Int32.ofInt 1) (Int32.ofInt i)) = 0 ↔ tb a i = false) := by
  have h := List.all_eq_true.mp (List.all_eq_true.mp tb_all a.toNat (List.mem_range.mpr (by omega))) i.toNat (List.mem_range.mpr (by omega))
  rw [Int.toNat_of_nonneg a0, Int.toNat_of_nonneg i0, Bool.and_eq_true, Bool.and_eq_true, decide_eq_true_eq, decide_eq_true_eq] at h
  obtain ⟨⟨h1, h2⟩, h3⟩ := h
  refine ⟨h1, fun q => ?_, h3⟩
  rw [q, Bool.not_true, Bool.false_or, decide_eq_true_eq] at h2
  exact h2
theorem bitO_i (a i : Int) : ibF 6 (Int32.ofInt a) (ibF 8 (Int32.ofInt 1) (Int32.ofInt i)) = Int32.ofInt (bitO a i) := by
  unfold bitO
  rw [Int32.ofInt_toInt]
/-- those below n that P holds of, as bits -/
noncomputable def orI (P : Nat → Bool) : Nat → Int
  | 0 => 0
  | f + 1 => if P f = true then bitO (orI P f) (f : Int) else orI P f
theorem orI_bd {P : Nat → Bool} : ∀ {f : Nat}, f ≤ 6 → 0 ≤ orI P f ∧ orI P f ≤ 63
  | 0, _ => ⟨by show (0 : Int) ≤ 0; omega, by show (0 : Int) ≤ 63; omega⟩
  | f + 1, h => by
    have q := orI_bd (P := P) (f := f) (by omega)
    unfold orI
    split
    · exact bitO_bd q.1 q.2 (by omega) (by omega)
    · exact q
noncomputable def kOK (K : Nat → Int) : Prop := ∀ j, j < 36 → 0 ≤ K j ∧ K j ≤ 63
end XSA
section XSB
variable {l : Launch} {D : va_G} {tys : List (ClassId × FieldType)} {A : Nat → Prop} {ad : Nat → Nat} {ws : va_W}
/-- how far the telling is: what is known, what is said, who heard, who learnt -/
noncomputable abbrev TT : Type := (Nat → Int) × Int32 × (Nat → Int) × (Nat → Int)
noncomputable abbrev TT.K (T : TT) : Nat → Int := T.1
noncomputable abbrev TT.sd (T : TT) : Int32 := T.2.1
noncomputable abbrev TT.hb (T : TT) : Nat → Int := T.2.2.1
noncomputable abbrev TT.lb (T : TT) : Nat → Int := T.2.2.2
noncomputable def allV (n : Int) : Int := (ibF 1 (ibF 8 (Int32.ofInt 1) (Int32.ofInt n)) (Int32.ofInt 1)).toInt
/-- the reference has told so far -/
noncomputable abbrev TM (ad : Nat → Nat) (tys : List (ClassId × FieldType)) (G : Nat → Int) (T : TT) (w0 w : va_W) : Prop :=
  (GOK ad tys GG w) ∧
  (∀ j, j < 36 → rd w 99 j = some (.int (Int32.ofInt (T.K j)))) ∧
  (rd w 90 18 = some (.int T.sd)) ∧
  (∀ i, i < 12 → rd w 100 i = some (.int (Int32.ofInt (T.hb i)))) ∧
  (∀ i, i < 12 → rd w 101 i = some (.int (Int32.ofInt (T.lb i)))) ∧
  (∀ c j, ¬ (99 ≤ c ∧ c ≤ 101) → ¬ (c = 90 ∧ j = 18) → rd w c j = rd w0 c j) ∧
  (kOK T.K)
theorem TM.g {ad : Nat → Nat} {tys : List (ClassId × FieldType)} {G : Nat → Int} {T : TT} {w0 w : va_W} (h : TM ad tys G T w0 w) : GOK ad tys GG w := h.1
theorem TM.k {ad : Nat → Nat} {tys : List (ClassId × FieldType)} {G : Nat → Int} {T : TT} {w0 w : va_W} (h : TM ad tys G T w0 w) : ∀ j, j < 36 → rd w 99 j = some (.int (Int32.ofInt (T.K j))) := h.2.1
theorem TM.s {ad : Nat → Nat} {tys : List (ClassId × FieldType)} {G : Nat → Int} {T : TT} {w0 w : va_W} (h : TM ad tys G T w0 w) : rd w 90 18 = some (.int T.sd) := h.2.2.1
theorem TM.h {ad : Nat → Nat} {tys : List (ClassId × FieldType)} {G : Nat → Int} {T : TT} {w0 w : va_W} (h : TM ad tys G T w0 w) : ∀ i, i < 12 → rd w 100 i = some (.int (Int32.ofInt (T.hb i))) := h.2.2.2.1
theorem TM.lr {ad : Nat → Nat} {tys : List (ClassId × FieldType)} {G : Nat → Int} {T : TT} {w0 w : va_W} (h : TM ad tys G T w0 w) : ∀ i, i < 12 → rd w 101 i = some (.int (Int32.ofInt (T.lb i))) := h.2.2.2.2.1
theorem TM.o {ad : Nat → Nat} {tys : List (ClassId × FieldType)} {G : Nat → Int} {T : TT} {w0 w : va_W} (h : TM ad tys G T w0 w) : ∀ c j, ¬ (99 ≤ c ∧ c ≤ 101) → ¬ (c = 90 ∧ j = 18) → rd w c j = rd w0 c j := h.2.2.2.2.2.1
theorem TM.b {ad : Nat → Nat} {tys : List (ClassId × FieldType)} {G : Nat → Int} {T : TT} {w0 w : va_W} (h : TM ad tys G T w0 w) : kOK T.K := h.2.2.2.2.2.2
end XSB
end
section
theorem mi_109_0 : mI 109 0 = (1, 1, 0, 0, 0) := by decide +kernel
theorem mi_109_1 : mI 109 1 = (5, 0, 0, 0, 0) := by decide +kernel
theorem mi_109_2 : mI 109 2 = (17, 103, 58, 2, 4) := by decide +kernel
theorem mi_109_5 : mI 109 5 = (10, 0, 8, 0, 0) := by decide +kernel
theorem mi_109_6 : mI 109 6 = (1, 1, 0, 0, 0) := by decide +kernel
theorem mi_109_7 : mI 109 7 = (10, 0, 1, 0, 0) := by decide +kernel
theorem mi_109_8 : mI 109 8 = (27, 0, 0, 0, 0) := by decide +kernel
theorem mi_344_0 : mI 344 0 = (3, 0, 0, 0, 0) := by decide +kernel
theorem mi_344_1 : mI 344 1 = (3, 0, 0, 0, 0) := by decide +kernel
theorem mi_344_2 : mI 344 2 = (1, 1, 0, 0, 0) := by decide +kernel
theorem mi_344_3 : mI 344 3 = (10, 0, 10, 0, 0) := by decide +kernel
theorem mi_344_4 : mI 344 4 = (1, 1431655765, 4, 265, 721) := by decide +kernel
theorem mi_344_7 : mI 344 7 = (10, 0, 5, 0, 0) := by decide +kernel
theorem mi_344_8 : mI 344 8 = (10, 0, 1, 0, 0) := by decide +kernel
theorem mi_344_9 : mI 344 9 = (6, 0, 0, 0, 0) := by decide +kernel
theorem mi_344_10 : mI 344 10 = (3, 0, 0, 0, 0) := by decide +kernel
theorem mi_344_11 : mI 344 11 = (1, 858993459, 4, 266, 722) := by decide +kernel
theorem mi_344_14 : mI 344 14 = (10, 0, 5, 0, 0) := by decide +kernel
theorem mi_344_15 : mI 344 15 = (3, 0, 0, 0, 0) := by decide +kernel
theorem mi_344_16 : mI 344 16 = (1, 2, 0, 0, 0) := by decide +kernel
theorem mi_344_17 : mI 344 17 = (10, 0, 10, 0, 0) := by decide +kernel
theorem mi_344_18 : mI 344 18 = (1, 858993459, 4, 266, 722) := by decide +kernel
theorem mi_344_21 : mI 344 21 = (10, 0, 5, 0, 0) := by decide +kernel
theorem mi_344_22 : mI 344 22 = (10, 0, 0, 0, 0) := by decide +kernel
theorem mi_344_23 : mI 344 23 = (6, 0, 0, 0, 0) := by decide +kernel
theorem mi_344_24 : mI 344 24 = (3, 0, 0, 0, 0) := by decide +kernel
theorem mi_344_25 : mI 344 25 = (3, 0, 0, 0, 0) := by decide +kernel
theorem mi_344_26 : mI 344 26 = (1, 4, 0, 0, 0) := by decide +kernel
theorem mi_344_27 : mI 344 27 = (10, 0, 10, 0, 0) := by decide +kernel
theorem mi_344_28 : mI 344 28 = (10, 0, 0, 0, 0) := by decide +kernel
theorem mi_344_29 : mI 344 29 = (1, 252645135, 4, 267, 723) := by decide +kernel
theorem mi_344_32 : mI 344 32 = (10, 0, 5, 0, 0) := by decide +kernel
theorem mi_344_33 : mI 344 33 = (6, 0, 0, 0, 0) := by decide +kernel
theorem mi_344_34 : mI 344 34 = (3, 0, 0, 0, 0) := by decide +kernel
theorem mi_344_35 : mI 344 35 = (3, 0, 0, 0, 0) := by decide +kernel
theorem mi_344_36 : mI 344 36 = (1, 8, 1, 0, 0) := by decide +kernel
theorem mi_344_38 : mI 344 38 = (10, 0, 10, 0, 0) := by decide +kernel
theorem mi_344_39 : mI 344 39 = (10, 0, 0, 0, 0) := by decide +kernel
theorem mi_344_40 : mI 344 40 = (6, 0, 0, 0, 0) := by decide +kernel
theorem mi_344_41 : mI 344 41 = (3, 0, 0, 0, 0) := by decide +kernel
theorem mi_344_42 : mI 344 42 = (3, 0, 0, 0, 0) := by decide +kernel
theorem mi_344_43 : mI 344 43 = (1, 16, 1, 0, 0) := by decide +kernel
theorem mi_344_45 : mI 344 45 = (10, 0, 10, 0, 0) := by decide +kernel
theorem mi_344_46 : mI 344 46 = (10, 0, 0, 0, 0) := by decide +kernel
theorem mi_344_47 : mI 344 47 = (6, 0, 0, 0, 0) := by decide +kernel
theorem mi_344_48 : mI 344 48 = (3, 0, 0, 0, 0) := by decide +kernel
theorem mi_344_49 : mI 344 49 = (1, 63, 1, 0, 0) := by decide +kernel
theorem mi_344_51 : mI 344 51 = (10, 0, 5, 0, 0) := by decide +kernel
theorem mi_344_52 : mI 344 52 = (27, 0, 0, 0, 0) := by decide +kernel
section XSE
variable {l : Launch} {D : va_G} {tys : List (ClassId × FieldType)} {A : Nat → Prop} {ad : Nat → Nat} {ws : va_W}
theorem atk_ct {c n j : Nat} {lo hi : Int} {v : Int32} (hg : gA c n lo hi) (hG : GOK ad tys GG ws) (hn : n ≤ 100000) (hj : j < n) (h : rd ws c j = some (.int v)) : CT l D tys A 147 0 0 0 [.ref (ad c), .int (Int32.ofInt (j : Int))] ws (fun r w => w = ws ∧ r = some (.int v)) :=
  CT_post (atx_ct hg hG hn) (fun r w q => by
    obtain ⟨e, u, e2, k⟩ := q
    refine ⟨e, ?_⟩
    have z := k j hj rfl
    rw [h] at z
    rw [e2, z])
theorem orI_s1 {P : Nat → Bool} {o : Nat} (h : P o = true) : orI P (o + 1) = bitO (orI P o) (o : Int) := by
  show (if P o = true then bitO (orI P o) (o : Int) else orI P o) = _
  rw [if_pos h]
theorem orI_s0 {P : Nat → Bool} {o : Nat} (h : P o = false) : orI P (o + 1) = orI P o := by
  show (if P o = true then bitO (orI P o) (o : Int) else orI P o) = _
  rw [if_neg (by rw [h]; exact Bool.false_ne_true)]
end XSE
end
section
theorem mi_56_0 : mI 56 0 = (5, 0, 0, 0, 0) := by decide +kernel
theorem mi_56_1 : mI 56 1 = (3, 0, 1, 0, 0) := by decide +kernel
theorem mi_56_2 : mI 56 2 = (26, 1009, 314, 57, 0) := by decide +kernel
theorem mi_56_5 : mI 56 5 = (6, 0, 2, 0, 0) := by decide +kernel
theorem mi_56_6 : mI 56 6 = (3, 0, 2, 0, 0) := by decide +kernel
theorem mi_56_7 : mI 56 7 = (14, 5, 0, 12, 0) := by decide +kernel
theorem mi_56_10 : mI 56 10 = (3, 0, 2, 0, 0) := by decide +kernel
theorem mi_56_11 : mI 56 11 = (27, 0, 0, 0, 0) := by decide +kernel
theorem mi_56_12 : mI 56 12 = (5, 0, 0, 0, 0) := by decide +kernel
theorem mi_56_13 : mI 56 13 = (17, 306, 69, 10, 9) := by decide +kernel
theorem mi_56_16 : mI 56 16 = (5, 0, 0, 0, 0) := by decide +kernel
theorem mi_56_17 : mI 56 17 = (17, 299, 24, 10, 2) := by decide +kernel
theorem mi_56_20 : mI 56 20 = (5, 0, 0, 0, 0) := by decide +kernel
theorem mi_56_21 : mI 56 21 = (17, 304, 55, 10, 7) := by decide +kernel
theorem mi_56_24 : mI 56 24 = (3, 0, 1, 0, 0) := by decide +kernel
theorem mi_56_25 : mI 56 25 = (26, 1018, 317, 121, 0) := by decide +kernel
theorem mi_56_28 : mI 56 28 = (6, 0, 3, 0, 0) := by decide +kernel
theorem mi_56_29 : mI 56 29 = (5, 0, 0, 0, 0) := by decide +kernel
theorem mi_56_30 : mI 56 30 = (17, 306, 69, 10, 9) := by decide +kernel
theorem mi_56_33 : mI 56 33 = (5, 0, 0, 0, 0) := by decide +kernel
theorem mi_56_34 : mI 56 34 = (17, 299, 24, 10, 2) := by decide +kernel
theorem mi_56_37 : mI 56 37 = (3, 0, 3, 0, 0) := by decide +kernel
theorem mi_56_38 : mI 56 38 = (26, 1027, 320, 122, 0) := by decide +kernel
theorem mi_56_41 : mI 56 41 = (6, 0, 4, 1, 0) := by decide +kernel
theorem mi_56_43 : mI 56 43 = (3, 0, 4, 1, 0) := by decide +kernel
theorem mi_56_45 : mI 56 45 = (14, 10, 3, 55, 0) := by decide +kernel
theorem mi_56_48 : mI 56 48 = (3, 0, 3, 0, 0) := by decide +kernel
theorem mi_56_49 : mI 56 49 = (26, 757, 215, 344, 1) := by decide +kernel
theorem mi_56_52 : mI 56 52 = (16, 17, 0, 69, 0) := by decide +kernel
theorem mi_56_55 : mI 56 55 = (5, 0, 0, 0, 0) := by decide +kernel
theorem mi_56_56 : mI 56 56 = (17, 306, 69, 10, 9) := by decide +kernel
theorem mi_56_59 : mI 56 59 = (5, 0, 0, 0, 0) := by decide +kernel
theorem mi_56_60 : mI 56 60 = (17, 299, 24, 10, 2) := by decide +kernel
theorem mi_56_63 : mI 56 63 = (3, 0, 3, 0, 0) := by decide +kernel
theorem mi_56_64 : mI 56 64 = (3, 0, 4, 1, 0) := by decide +kernel
theorem mi_56_66 : mI 56 66 = (26, 1041, 323, 123, 0) := by decide +kernel
theorem mi_56_69 : mI 56 69 = (27, 0, 0, 0, 0) := by decide +kernel
theorem mi_57_0 : mI 57 0 = (5, 0, 0, 0, 0) := by decide +kernel
theorem mi_57_1 : mI 57 1 = (17, 304, 55, 10, 7) := by decide +kernel
theorem mi_57_4 : mI 57 4 = (3, 0, 1, 0, 0) := by decide +kernel
theorem mi_57_5 : mI 57 5 = (26, 914, 287, 160, 0) := by decide +kernel
theorem mi_57_8 : mI 57 8 = (14, 13, 0, 21, 0) := by decide +kernel
theorem mi_57_11 : mI 57 11 = (5, 0, 0, 0, 0) := by decide +kernel
theorem mi_57_12 : mI 57 12 = (17, 299, 24, 10, 2) := by decide +kernel
theorem mi_57_15 : mI 57 15 = (26, 817, 237, 101, 0) := by decide +kernel
theorem mi_57_18 : mI 57 18 = (14, 6, 1, 24, 0) := by decide +kernel
theorem mi_57_21 : mI 57 21 = (1, (-2), 1, 0, 0) := by decide +kernel
theorem mi_57_23 : mI 57 23 = (27, 0, 0, 0, 0) := by decide +kernel
theorem mi_57_24 : mI 57 24 = (5, 0, 0, 0, 0) := by decide +kernel
theorem mi_57_25 : mI 57 25 = (17, 304, 55, 10, 7) := by decide +kernel
theorem mi_57_28 : mI 57 28 = (3, 0, 1, 0, 0) := by decide +kernel
theorem mi_57_29 : mI 57 29 = (26, 924, 293, 161, 0) := by decide +kernel
theorem mi_57_32 : mI 57 32 = (14, 6, 0, 38, 0) := by decide +kernel
theorem mi_57_35 : mI 57 35 = (1, (-6), 1, 0, 0) := by decide +kernel
theorem mi_57_37 : mI 57 37 = (27, 0, 0, 0, 0) := by decide +kernel
theorem mi_57_38 : mI 57 38 = (5, 0, 0, 0, 0) := by decide +kernel
theorem mi_57_39 : mI 57 39 = (17, 306, 69, 10, 9) := by decide +kernel
theorem mi_57_42 : mI 57 42 = (5, 0, 0, 0, 0) := by decide +kernel
theorem mi_57_43 : mI 57 43 = (17, 299, 24, 10, 2) := by decide +kernel
theorem mi_57_46 : mI 57 46 = (5, 0, 0, 0, 0) := by decide +kernel
theorem mi_57_47 : mI 57 47 = (17, 304, 55, 10, 7) := by decide +kernel
theorem mi_57_50 : mI 57 50 = (3, 0, 1, 0, 0) := by decide +kernel
theorem mi_57_51 : mI 57 51 = (26, 1013, 326, 120, 0) := by decide +kernel
theorem mi_57_54 : mI 57 54 = (14, 7, 0, 61, 0) := by decide +kernel
theorem mi_57_57 : mI 57 57 = (1, 0, 0, 0, 0) := by decide +kernel
theorem mi_57_58 : mI 57 58 = (16, 5, 0, 63, 0) := by decide +kernel
theorem mi_57_61 : mI 57 61 = (1, (-2), 1, 0, 0) := by decide +kernel
theorem mi_57_63 : mI 57 63 = (27, 0, 0, 0, 0) := by decide +kernel
theorem mi_107_29 : mI 107 29 = (1, (-1), 0, 0, 0) := by decide +kernel
theorem mi_120_0 : mI 120 0 = (5, 0, 2, 0, 0) := by decide +kernel
theorem mi_120_1 : mI 120 1 = (3, 0, 3, 0, 0) := by decide +kernel
theorem mi_120_2 : mI 120 2 = (26, 986, 28, 162, 0) := by decide +kernel
theorem mi_120_5 : mI 120 5 = (6, 0, 4, 1, 0) := by decide +kernel
theorem mi_120_7 : mI 120 7 = (1, 0, 0, 0, 0) := by decide +kernel
theorem mi_120_8 : mI 120 8 = (6, 0, 5, 1, 0) := by decide +kernel
theorem mi_120_10 : mI 120 10 = (3, 0, 5, 1, 0) := by decide +kernel
theorem mi_120_12 : mI 120 12 = (3, 0, 4, 1, 0) := by decide +kernel
theorem mi_120_14 : mI 120 14 = (15, 58, 3, 72, 0) := by decide +kernel
theorem mi_120_17 : mI 120 17 = (3, 0, 5, 1, 0) := by decide +kernel
theorem mi_120_19 : mI 120 19 = (1, 1, 0, 0, 0) := by decide +kernel
theorem mi_120_20 : mI 120 20 = (10, 0, 5, 0, 0) := by decide +kernel
theorem mi_120_21 : mI 120 21 = (14, 9, 1, 30, 0) := by decide +kernel
theorem mi_120_24 : mI 120 24 = (2, 5, 1, 70, 1017) := by decide +kernel
theorem mi_120_27 : mI 120 27 = (16, 10, 0, 37, 0) := by decide +kernel
theorem mi_120_30 : mI 120 30 = (5, 0, 1, 0, 0) := by decide +kernel
theorem mi_120_31 : mI 120 31 = (17, 89, 55, 2, 1) := by decide +kernel
theorem mi_120_34 : mI 120 34 = (1, 1, 0, 0, 0) := by decide +kernel
theorem mi_120_35 : mI 120 35 = (10, 0, 1, 0, 0) := by decide +kernel
theorem mi_120_36 : mI 120 36 = (12, 0, 1, 0, 0) := by decide +kernel
theorem mi_120_37 : mI 120 37 = (7, 0, 6, 1, 0) := by decide +kernel
theorem mi_120_39 : mI 120 39 = (5, 0, 2, 0, 0) := by decide +kernel
theorem mi_120_40 : mI 120 40 = (3, 0, 3, 0, 0) := by decide +kernel
theorem mi_120_41 : mI 120 41 = (3, 0, 5, 1, 0) := by decide +kernel
theorem mi_120_43 : mI 120 43 = (26, 989, 41, 164, 0) := by decide +kernel
theorem mi_120_46 : mI 120 46 = (2, 0, 0, 0, 0) := by decide +kernel
theorem mi_120_47 : mI 120 47 = (13, 0, 0, 0, 0) := by decide +kernel
theorem mi_120_48 : mI 120 48 = (14, 16, 2, 64, 0) := by decide +kernel
theorem mi_120_51 : mI 120 51 = (5, 0, 2, 0, 0) := by decide +kernel
theorem mi_120_52 : mI 120 52 = (3, 0, 3, 0, 0) := by decide +kernel
theorem mi_120_53 : mI 120 53 = (3, 0, 5, 1, 0) := by decide +kernel
theorem mi_120_55 : mI 120 55 = (26, 989, 41, 164, 0) := by decide +kernel
theorem mi_120_58 : mI 120 58 = (4, 0, 6, 1, 0) := by decide +kernel
theorem mi_120_60 : mI 120 60 = (13, 0, 0, 0, 0) := by decide +kernel
theorem mi_120_61 : mI 120 61 = (14, 5, 5, 66, 0) := by decide +kernel
theorem mi_120_64 : mI 120 64 = (1, 0, 0, 0, 0) := by decide +kernel
theorem mi_120_65 : mI 120 65 = (27, 0, 0, 0, 0) := by decide +kernel
theorem mi_120_66 : mI 120 66 = (9, 1, 5, 0, 0) := by decide +kernel
theorem mi_120_69 : mI 120 69 = (16, (-59), 0, 10, 0) := by decide +kernel
theorem mi_120_72 : mI 120 72 = (3, 0, 4, 1, 0) := by decide +kernel
theorem mi_120_74 : mI 120 74 = (1, 1, 0, 0, 0) := by decide +kernel
theorem mi_120_75 : mI 120 75 = (10, 0, 5, 0, 0) := by decide +kernel
theorem mi_120_76 : mI 120 76 = (14, 7, 1, 83, 0) := by decide +kernel
theorem mi_120_79 : mI 120 79 = (1, 1, 0, 0, 0) := by decide +kernel
theorem mi_120_80 : mI 120 80 = (16, 4, 0, 84, 0) := by decide +kernel
theorem mi_120_83 : mI 120 83 = (1, 0, 0, 0, 0) := by decide +kernel
theorem mi_120_84 : mI 120 84 = (27, 0, 0, 0, 0) := by decide +kernel
theorem mi_121_0 : mI 121 0 = (5, 0, 1, 0, 0) := by decide +kernel
theorem mi_121_1 : mI 121 1 = (26, 1022, 72, 109, 0) := by decide +kernel
theorem mi_121_4 : mI 121 4 = (6, 0, 4, 1, 0) := by decide +kernel
theorem mi_121_6 : mI 121 6 = (1, 0, 0, 0, 0) := by decide +kernel
theorem mi_121_7 : mI 121 7 = (6, 0, 5, 1, 0) := by decide +kernel
theorem mi_121_9 : mI 121 9 = (3, 0, 5, 1, 0) := by decide +kernel
theorem mi_121_11 : mI 121 11 = (1, 1, 0, 0, 0) := by decide +kernel
theorem mi_121_12 : mI 121 12 = (10, 0, 0, 0, 0) := by decide +kernel
theorem mi_121_13 : mI 121 13 = (5, 0, 2, 0, 0) := by decide +kernel
theorem mi_121_14 : mI 121 14 = (3, 0, 3, 0, 0) := by decide +kernel
theorem mi_121_15 : mI 121 15 = (26, 986, 28, 162, 0) := by decide +kernel
theorem mi_121_18 : mI 121 18 = (15, 70, 3, 88, 0) := by decide +kernel
theorem mi_121_21 : mI 121 21 = (5, 0, 2, 0, 0) := by decide +kernel
theorem mi_121_22 : mI 121 22 = (3, 0, 3, 0, 0) := by decide +kernel
theorem mi_121_23 : mI 121 23 = (3, 0, 5, 1, 0) := by decide +kernel
theorem mi_121_25 : mI 121 25 = (26, 989, 41, 164, 0) := by decide +kernel
theorem mi_121_28 : mI 121 28 = (12, 0, 2, 0, 0) := by decide +kernel
theorem mi_121_29 : mI 121 29 = (6, 0, 6, 1, 0) := by decide +kernel
theorem mi_121_31 : mI 121 31 = (1, 0, 0, 0, 0) := by decide +kernel
theorem mi_121_32 : mI 121 32 = (6, 0, 7, 1, 0) := by decide +kernel
theorem mi_121_34 : mI 121 34 = (3, 0, 7, 1, 0) := by decide +kernel
theorem mi_121_36 : mI 121 36 = (5, 0, 1, 0, 0) := by decide +kernel
theorem mi_121_37 : mI 121 37 = (17, 101, 18, 2, 4) := by decide +kernel
theorem mi_121_40 : mI 121 40 = (15, 42, 3, 82, 0) := by decide +kernel
theorem mi_121_43 : mI 121 43 = (5, 0, 1, 0, 0) := by decide +kernel
theorem mi_121_44 : mI 121 44 = (3, 0, 7, 1, 0) := by decide +kernel
theorem mi_121_46 : mI 121 46 = (3, 0, 6, 1, 0) := by decide +kernel
theorem mi_121_48 : mI 121 48 = (26, 988, 37, 107, 0) := by decide +kernel
theorem mi_121_51 : mI 121 51 = (12, 0, 1, 0, 0) := by decide +kernel
theorem mi_121_52 : mI 121 52 = (5, 0, 2, 0, 0) := by decide +kernel
theorem mi_121_53 : mI 121 53 = (3, 0, 3, 0, 0) := by decide +kernel
theorem mi_121_54 : mI 121 54 = (3, 0, 5, 1, 0) := by decide +kernel
theorem mi_121_56 : mI 121 56 = (1, 1, 0, 0, 0) := by decide +kernel
theorem mi_121_57 : mI 121 57 = (10, 0, 0, 0, 0) := by decide +kernel
theorem mi_121_58 : mI 121 58 = (26, 989, 41, 164, 0) := by decide +kernel
theorem mi_121_61 : mI 121 61 = (13, 0, 0, 0, 0) := by decide +kernel
theorem mi_121_62 : mI 121 62 = (14, 14, 0, 76, 0) := by decide +kernel
theorem mi_121_65 : mI 121 65 = (3, 0, 4, 1, 0) := by decide +kernel
theorem mi_121_67 : mI 121 67 = (1, 1, 0, 0, 0) := by decide +kernel
theorem mi_121_68 : mI 121 68 = (3, 0, 7, 1, 0) := by decide +kernel
theorem mi_121_70 : mI 121 70 = (10, 0, 8, 0, 0) := by decide +kernel
theorem mi_121_71 : mI 121 71 = (1, (-1), 0, 0, 0) := by decide +kernel
theorem mi_121_72 : mI 121 72 = (10, 0, 7, 0, 0) := by decide +kernel
theorem mi_121_73 : mI 121 73 = (10, 0, 5, 0, 0) := by decide +kernel
theorem mi_121_74 : mI 121 74 = (6, 0, 4, 1, 0) := by decide +kernel
theorem mi_121_76 : mI 121 76 = (9, 1, 7, 0, 0) := by decide +kernel
theorem mi_121_79 : mI 121 79 = (16, (-45), 0, 34, 0) := by decide +kernel
theorem mi_121_82 : mI 121 82 = (9, 2, 5, 0, 0) := by decide +kernel
theorem mi_121_85 : mI 121 85 = (16, (-76), 0, 9, 0) := by decide +kernel
theorem mi_121_88 : mI 121 88 = (3, 0, 4, 1, 0) := by decide +kernel
theorem mi_121_90 : mI 121 90 = (27, 0, 0, 0, 0) := by decide +kernel
theorem mi_122_0 : mI 122 0 = (1, (-1), 0, 0, 0) := by decide +kernel
theorem mi_122_1 : mI 122 1 = (6, 0, 3, 0, 0) := by decide +kernel
theorem mi_122_2 : mI 122 2 = (3, 0, 2, 0, 0) := by decide +kernel
theorem mi_122_3 : mI 122 3 = (26, 1031, 76, 344, 1) := by decide +kernel
theorem mi_122_6 : mI 122 6 = (6, 0, 4, 1, 0) := by decide +kernel
theorem mi_122_8 : mI 122 8 = (1, 0, 0, 0, 0) := by decide +kernel
theorem mi_122_9 : mI 122 9 = (6, 0, 5, 1, 0) := by decide +kernel
theorem mi_122_11 : mI 122 11 = (3, 0, 5, 1, 0) := by decide +kernel
theorem mi_122_13 : mI 122 13 = (1, 6, 1, 0, 0) := by decide +kernel
theorem mi_122_15 : mI 122 15 = (15, 33, 3, 48, 0) := by decide +kernel
theorem mi_122_18 : mI 122 18 = (5, 0, 0, 0, 0) := by decide +kernel
theorem mi_122_19 : mI 122 19 = (5, 0, 1, 0, 0) := by decide +kernel
theorem mi_122_20 : mI 122 20 = (3, 0, 2, 0, 0) := by decide +kernel
theorem mi_122_21 : mI 122 21 = (3, 0, 5, 1, 0) := by decide +kernel
theorem mi_122_23 : mI 122 23 = (26, 1032, 81, 123, 0) := by decide +kernel
theorem mi_122_26 : mI 122 26 = (6, 0, 6, 1, 0) := by decide +kernel
theorem mi_122_28 : mI 122 28 = (3, 0, 6, 1, 0) := by decide +kernel
theorem mi_122_30 : mI 122 30 = (3, 0, 4, 1, 0) := by decide +kernel
theorem mi_122_32 : mI 122 32 = (15, 10, 3, 42, 0) := by decide +kernel
theorem mi_122_35 : mI 122 35 = (3, 0, 6, 1, 0) := by decide +kernel
theorem mi_122_37 : mI 122 37 = (6, 0, 4, 1, 0) := by decide +kernel
theorem mi_122_39 : mI 122 39 = (3, 0, 5, 1, 0) := by decide +kernel
theorem mi_122_41 : mI 122 41 = (6, 0, 3, 0, 0) := by decide +kernel
theorem mi_122_42 : mI 122 42 = (9, 1, 5, 0, 0) := by decide +kernel
theorem mi_122_45 : mI 122 45 = (16, (-34), 0, 11, 0) := by decide +kernel
theorem mi_122_48 : mI 122 48 = (3, 0, 3, 0, 0) := by decide +kernel
theorem mi_122_49 : mI 122 49 = (27, 0, 0, 0, 0) := by decide +kernel
theorem mi_123_0 : mI 123 0 = (1, 0, 0, 0, 0) := by decide +kernel
theorem mi_123_1 : mI 123 1 = (6, 0, 4, 1, 0) := by decide +kernel
theorem mi_123_3 : mI 123 3 = (1, (-1), 0, 0, 0) := by decide +kernel
theorem mi_123_4 : mI 123 4 = (6, 0, 5, 1, 0) := by decide +kernel
theorem mi_123_6 : mI 123 6 = (3, 0, 5, 1, 0) := by decide +kernel
theorem mi_123_8 : mI 123 8 = (5, 0, 1, 0, 0) := by decide +kernel
theorem mi_123_9 : mI 123 9 = (17, 89, 55, 2, 1) := by decide +kernel
theorem mi_123_12 : mI 123 12 = (15, 63, 3, 75, 0) := by decide +kernel
theorem mi_123_15 : mI 123 15 = (1, 0, 0, 0, 0) := by decide +kernel
theorem mi_123_16 : mI 123 16 = (6, 0, 6, 1, 0) := by decide +kernel
theorem mi_123_18 : mI 123 18 = (1, 0, 0, 0, 0) := by decide +kernel
theorem mi_123_19 : mI 123 19 = (6, 0, 7, 1, 0) := by decide +kernel
theorem mi_123_21 : mI 123 21 = (3, 0, 7, 1, 0) := by decide +kernel
theorem mi_123_23 : mI 123 23 = (5, 0, 1, 0, 0) := by decide +kernel
theorem mi_123_24 : mI 123 24 = (17, 101, 18, 2, 4) := by decide +kernel
theorem mi_123_27 : mI 123 27 = (15, 33, 3, 60, 0) := by decide +kernel
theorem mi_123_30 : mI 123 30 = (3, 0, 2, 0, 0) := by decide +kernel
theorem mi_123_31 : mI 123 31 = (3, 0, 7, 1, 0) := by decide +kernel
theorem mi_123_33 : mI 123 33 = (10, 0, 9, 0, 0) := by decide +kernel
theorem mi_123_34 : mI 123 34 = (1, 1, 0, 0, 0) := by decide +kernel
theorem mi_123_35 : mI 123 35 = (10, 0, 5, 0, 0) := by decide +kernel
theorem mi_123_36 : mI 123 36 = (14, 18, 0, 54, 0) := by decide +kernel
theorem mi_123_39 : mI 123 39 = (5, 0, 1, 0, 0) := by decide +kernel
theorem mi_123_40 : mI 123 40 = (3, 0, 7, 1, 0) := by decide +kernel
theorem mi_123_42 : mI 123 42 = (3, 0, 3, 0, 0) := by decide +kernel
theorem mi_123_43 : mI 123 43 = (26, 988, 37, 107, 0) := by decide +kernel
theorem mi_123_46 : mI 123 46 = (3, 0, 5, 1, 0) := by decide +kernel
theorem mi_123_48 : mI 123 48 = (15, 6, 1, 54, 0) := by decide +kernel
theorem mi_123_51 : mI 123 51 = (9, 1, 6, 0, 0) := by decide +kernel
theorem mi_123_54 : mI 123 54 = (9, 1, 7, 0, 0) := by decide +kernel
theorem mi_123_57 : mI 123 57 = (16, (-36), 0, 21, 0) := by decide +kernel
theorem mi_123_60 : mI 123 60 = (3, 0, 4, 1, 0) := by decide +kernel
theorem mi_123_62 : mI 123 62 = (3, 0, 6, 1, 0) := by decide +kernel
theorem mi_123_64 : mI 123 64 = (26, 1036, 85, 341, 1) := by decide +kernel
theorem mi_123_67 : mI 123 67 = (6, 0, 4, 1, 0) := by decide +kernel
theorem mi_123_69 : mI 123 69 = (9, 1, 5, 0, 0) := by decide +kernel
theorem mi_123_72 : mI 123 72 = (16, (-66), 0, 6, 0) := by decide +kernel
theorem mi_123_75 : mI 123 75 = (3, 0, 4, 1, 0) := by decide +kernel
theorem mi_123_77 : mI 123 77 = (27, 0, 0, 0, 0) := by decide +kernel
theorem mi_164_0 : mI 164 0 = (3, 0, 2, 0, 0) := by decide +kernel
theorem mi_164_1 : mI 164 1 = (14, 12, 2, 13, 0) := by decide +kernel
theorem mi_164_4 : mI 164 4 = (3, 0, 2, 0, 0) := by decide +kernel
theorem mi_164_5 : mI 164 5 = (5, 0, 0, 0, 0) := by decide +kernel
theorem mi_164_6 : mI 164 6 = (3, 0, 1, 0, 0) := by decide +kernel
theorem mi_164_7 : mI 164 7 = (26, 928, 22, 162, 0) := by decide +kernel
theorem mi_164_10 : mI 164 10 = (15, 5, 2, 15, 0) := by decide +kernel
theorem mi_164_15 : mI 164 15 = (3, 0, 1, 0, 0) := by decide +kernel
theorem mi_164_16 : mI 164 16 = (1, 60, 1, 0, 0) := by decide +kernel
theorem mi_164_18 : mI 164 18 = (10, 0, 2, 0, 0) := by decide +kernel
theorem mi_164_19 : mI 164 19 = (3, 0, 2, 0, 0) := by decide +kernel
theorem mi_164_20 : mI 164 20 = (10, 0, 0, 0, 0) := by decide +kernel
theorem mi_164_21 : mI 164 21 = (6, 0, 3, 0, 0) := by decide +kernel
theorem mi_164_22 : mI 164 22 = (3, 0, 3, 0, 0) := by decide +kernel
theorem mi_164_23 : mI 164 23 = (14, 21, 2, 44, 0) := by decide +kernel
theorem mi_164_26 : mI 164 26 = (3, 0, 3, 0, 0) := by decide +kernel
theorem mi_164_27 : mI 164 27 = (5, 0, 0, 0, 0) := by decide +kernel
theorem mi_164_28 : mI 164 28 = (17, 241, 9, 7, 0) := by decide +kernel
theorem mi_164_31 : mI 164 31 = (21, 0, 0, 0, 0) := by decide +kernel
theorem mi_164_32 : mI 164 32 = (15, 12, 3, 44, 0) := by decide +kernel
theorem mi_164_35 : mI 164 35 = (5, 0, 0, 0, 0) := by decide +kernel
theorem mi_164_36 : mI 164 36 = (17, 241, 9, 7, 0) := by decide +kernel
theorem mi_164_39 : mI 164 39 = (3, 0, 3, 0, 0) := by decide +kernel
theorem mi_164_40 : mI 164 40 = (19, 0, 2, 0, 0) := by decide +kernel
theorem mi_164_41 : mI 164 41 = (16, 4, 0, 45, 0) := by decide +kernel
theorem mi_164_45 : mI 164 45 = (27, 0, 1, 0, 0) := by decide +kernel
theorem mi_166_0 : mI 166 0 = (3, 0, 1, 0, 0) := by decide +kernel
theorem mi_166_1 : mI 166 1 = (1, 60, 1, 0, 0) := by decide +kernel
theorem mi_166_3 : mI 166 3 = (10, 0, 2, 0, 0) := by decide +kernel
theorem mi_166_4 : mI 166 4 = (3, 0, 2, 0, 0) := by decide +kernel
theorem mi_166_5 : mI 166 5 = (10, 0, 0, 0, 0) := by decide +kernel
theorem mi_166_6 : mI 166 6 = (6, 0, 5, 1, 0) := by decide +kernel
theorem mi_166_8 : mI 166 8 = (3, 0, 2, 0, 0) := by decide +kernel
theorem mi_166_9 : mI 166 9 = (14, 43, 2, 52, 0) := by decide +kernel
theorem mi_166_12 : mI 166 12 = (3, 0, 2, 0, 0) := by decide +kernel
theorem mi_166_13 : mI 166 13 = (5, 0, 0, 0, 0) := by decide +kernel
theorem mi_166_14 : mI 166 14 = (3, 0, 1, 0, 0) := by decide +kernel
theorem mi_166_15 : mI 166 15 = (26, 928, 22, 162, 0) := by decide +kernel
theorem mi_166_18 : mI 166 18 = (15, 34, 3, 52, 0) := by decide +kernel
theorem mi_166_21 : mI 166 21 = (3, 0, 5, 1, 0) := by decide +kernel
theorem mi_166_23 : mI 166 23 = (14, 29, 2, 52, 0) := by decide +kernel
theorem mi_166_26 : mI 166 26 = (3, 0, 5, 1, 0) := by decide +kernel
theorem mi_166_28 : mI 166 28 = (5, 0, 0, 0, 0) := by decide +kernel
theorem mi_166_29 : mI 166 29 = (17, 241, 9, 7, 0) := by decide +kernel
theorem mi_166_32 : mI 166 32 = (21, 0, 0, 0, 0) := by decide +kernel
theorem mi_166_33 : mI 166 33 = (15, 19, 3, 52, 0) := by decide +kernel
theorem mi_166_36 : mI 166 36 = (5, 0, 0, 0, 0) := by decide +kernel
theorem mi_166_37 : mI 166 37 = (17, 241, 9, 7, 0) := by decide +kernel
theorem mi_166_40 : mI 166 40 = (3, 0, 5, 1, 0) := by decide +kernel
theorem mi_166_42 : mI 166 42 = (4, 0, 3, 0, 0) := by decide +kernel
theorem mi_166_43 : mI 166 43 = (5, 0, 0, 0, 0) := by decide +kernel
theorem mi_166_44 : mI 166 44 = (3, 0, 1, 0, 0) := by decide +kernel
theorem mi_166_45 : mI 166 45 = (26, 1176, 44, 163, 0) := by decide +kernel
theorem mi_166_48 : mI 166 48 = (26, 1180, 47, 167, 1) := by decide +kernel
theorem mi_166_51 : mI 166 51 = (20, 0, 2, 0, 0) := by decide +kernel
theorem mi_166_52 : mI 166 52 = (27, 0, 2, 0, 0) := by decide +kernel
theorem mi_167_0 : mI 167 0 = (3, 0, 2, 0, 0) := by decide +kernel
theorem mi_167_1 : mI 167 1 = (28, 0, 0, 0, 0) := by decide +kernel
theorem mi_167_28 : mI 167 28 = (4, 0, 0, 0, 0) := by decide +kernel
theorem mi_167_29 : mI 167 29 = (12, 0, 2, 0, 0) := by decide +kernel
theorem mi_167_30 : mI 167 30 = (12, 0, 3, 0, 0) := by decide +kernel
theorem mi_167_31 : mI 167 31 = (12, 0, 1, 0, 0) := by decide +kernel
theorem mi_167_32 : mI 167 32 = (27, 0, 1, 0, 0) := by decide +kernel
theorem mi_167_33 : mI 167 33 = (4, 0, 0, 0, 0) := by decide +kernel
theorem mi_167_34 : mI 167 34 = (12, 0, 2, 0, 0) := by decide +kernel
theorem mi_167_35 : mI 167 35 = (12, 0, 4, 0, 0) := by decide +kernel
theorem mi_167_36 : mI 167 36 = (12, 0, 1, 0, 0) := by decide +kernel
theorem mi_167_37 : mI 167 37 = (27, 0, 1, 0, 0) := by decide +kernel
theorem mi_167_38 : mI 167 38 = (4, 0, 0, 0, 0) := by decide +kernel
theorem mi_167_39 : mI 167 39 = (12, 0, 2, 0, 0) := by decide +kernel
theorem mi_167_40 : mI 167 40 = (12, 0, 1, 0, 0) := by decide +kernel
theorem mi_167_41 : mI 167 41 = (27, 0, 1, 0, 0) := by decide +kernel
theorem mi_167_42 : mI 167 42 = (4, 0, 0, 0, 0) := by decide +kernel
theorem mi_167_43 : mI 167 43 = (27, 0, 1, 0, 0) := by decide +kernel
theorem mi_169_0 : mI 169 0 = (1, 0, 0, 0, 0) := by decide +kernel
theorem mi_169_1 : mI 169 1 = (6, 0, 6, 1, 0) := by decide +kernel
theorem mi_169_3 : mI 169 3 = (3, 0, 6, 1, 0) := by decide +kernel
theorem mi_169_5 : mI 169 5 = (3, 0, 5, 1, 0) := by decide +kernel
theorem mi_169_7 : mI 169 7 = (15, 48, 3, 55, 0) := by decide +kernel
theorem mi_169_10 : mI 169 10 = (3, 0, 2, 0, 0) := by decide +kernel
theorem mi_169_11 : mI 169 11 = (3, 0, 4, 1, 0) := by decide +kernel
theorem mi_169_13 : mI 169 13 = (15, 13, 3, 26, 0) := by decide +kernel
theorem mi_169_16 : mI 169 16 = (3, 0, 5, 1, 0) := by decide +kernel
theorem mi_169_18 : mI 169 18 = (1, 1, 0, 0, 0) := by decide +kernel
theorem mi_169_19 : mI 169 19 = (10, 0, 1, 0, 0) := by decide +kernel
theorem mi_169_20 : mI 169 20 = (3, 0, 6, 1, 0) := by decide +kernel
theorem mi_169_22 : mI 169 22 = (10, 0, 1, 0, 0) := by decide +kernel
theorem mi_169_23 : mI 169 23 = (16, 5, 0, 28, 0) := by decide +kernel
theorem mi_169_26 : mI 169 26 = (3, 0, 6, 1, 0) := by decide +kernel
theorem mi_169_28 : mI 169 28 = (6, 0, 7, 1, 0) := by decide +kernel
theorem mi_169_30 : mI 169 30 = (5, 0, 0, 0, 0) := by decide +kernel
theorem mi_169_31 : mI 169 31 = (3, 0, 3, 0, 0) := by decide +kernel
theorem mi_169_32 : mI 169 32 = (3, 0, 4, 1, 0) := by decide +kernel
theorem mi_169_34 : mI 169 34 = (3, 0, 7, 1, 0) := by decide +kernel
theorem mi_169_36 : mI 169 36 = (10, 0, 0, 0, 0) := by decide +kernel
theorem mi_169_37 : mI 169 37 = (5, 0, 0, 0, 0) := by decide +kernel
theorem mi_169_38 : mI 169 38 = (3, 0, 1, 0, 0) := by decide +kernel
theorem mi_169_39 : mI 169 39 = (3, 0, 2, 0, 0) := by decide +kernel
theorem mi_169_40 : mI 169 40 = (3, 0, 7, 1, 0) := by decide +kernel
theorem mi_169_42 : mI 169 42 = (10, 0, 0, 0, 0) := by decide +kernel
theorem mi_169_43 : mI 169 43 = (26, 933, 51, 164, 0) := by decide +kernel
theorem mi_169_46 : mI 169 46 = (26, 1172, 40, 166, 0) := by decide +kernel
theorem mi_169_49 : mI 169 49 = (9, 1, 6, 0, 0) := by decide +kernel
theorem mi_169_52 : mI 169 52 = (16, (-49), 0, 3, 0) := by decide +kernel
theorem mi_169_55 : mI 169 55 = (27, 0, 2, 0, 0) := by decide +kernel
theorem mi_203_0 : mI 203 0 = (4, 0, 1, 0, 0) := by decide +kernel
theorem mi_203_1 : mI 203 1 = (2, 0, 0, 0, 0) := by decide +kernel
theorem mi_203_2 : mI 203 2 = (5, 0, 0, 0, 0) := by decide +kernel
theorem mi_203_3 : mI 203 3 = (17, 1207, 9, 11, 1) := by decide +kernel
theorem mi_203_6 : mI 203 6 = (1, 0, 0, 0, 0) := by decide +kernel
theorem mi_203_7 : mI 203 7 = (19, 0, 0, 0, 0) := by decide +kernel
theorem mi_203_8 : mI 203 8 = (1, 1, 0, 0, 0) := by decide +kernel
theorem mi_203_9 : mI 203 9 = (10, 0, 1, 0, 0) := by decide +kernel
theorem mi_203_10 : mI 203 10 = (12, 0, 1, 0, 0) := by decide +kernel
theorem mi_203_11 : mI 203 11 = (26, 1321, 85, 193, 1) := by decide +kernel
theorem mi_203_14 : mI 203 14 = (27, 0, 0, 0, 0) := by decide +kernel
theorem mi_314_0 : mI 314 0 = (1, 0, 0, 0, 0) := by decide +kernel
theorem mi_314_1 : mI 314 1 = (6, 0, 2, 0, 0) := by decide +kernel
theorem mi_314_2 : mI 314 2 = (1, 0, 0, 0, 0) := by decide +kernel
theorem mi_314_3 : mI 314 3 = (6, 0, 3, 0, 0) := by decide +kernel
theorem mi_314_4 : mI 314 4 = (3, 0, 3, 0, 0) := by decide +kernel
theorem mi_314_5 : mI 314 5 = (5, 0, 0, 0, 0) := by decide +kernel
theorem mi_314_6 : mI 314 6 = (17, 1207, 9, 11, 1) := by decide +kernel
theorem mi_314_9 : mI 314 9 = (1, 3, 0, 0, 0) := by decide +kernel
theorem mi_314_10 : mI 314 10 = (19, 0, 0, 0, 0) := by decide +kernel
theorem mi_314_11 : mI 314 11 = (15, 28, 3, 39, 0) := by decide +kernel
theorem mi_314_14 : mI 314 14 = (3, 0, 2, 0, 0) := by decide +kernel
theorem mi_314_15 : mI 314 15 = (5, 0, 0, 0, 0) := by decide +kernel
theorem mi_314_16 : mI 314 16 = (3, 0, 1, 0, 0) := by decide +kernel
theorem mi_314_17 : mI 314 17 = (3, 0, 3, 0, 0) := by decide +kernel
theorem mi_314_18 : mI 314 18 = (26, 1835, 415, 313, 0) := by decide +kernel
theorem mi_314_21 : mI 314 21 = (14, 9, 0, 30, 0) := by decide +kernel
theorem mi_314_24 : mI 314 24 = (1, 1, 0, 0, 0) := by decide +kernel
theorem mi_314_25 : mI 314 25 = (3, 0, 3, 0, 0) := by decide +kernel
theorem mi_314_26 : mI 314 26 = (10, 0, 8, 0, 0) := by decide +kernel
theorem mi_314_27 : mI 314 27 = (16, 4, 0, 31, 0) := by decide +kernel
theorem mi_314_30 : mI 314 30 = (1, 0, 0, 0, 0) := by decide +kernel
theorem mi_314_31 : mI 314 31 = (10, 0, 6, 0, 0) := by decide +kernel
theorem mi_314_32 : mI 314 32 = (6, 0, 2, 0, 0) := by decide +kernel
theorem mi_314_33 : mI 314 33 = (9, 1, 3, 0, 0) := by decide +kernel
theorem mi_314_36 : mI 314 36 = (16, (-32), 0, 4, 0) := by decide +kernel
theorem mi_314_39 : mI 314 39 = (3, 0, 2, 0, 0) := by decide +kernel
theorem mi_314_40 : mI 314 40 = (27, 0, 0, 0, 0) := by decide +kernel
theorem mi_316_0 : mI 316 0 = (1, 0, 0, 0, 0) := by decide +kernel
theorem mi_316_1 : mI 316 1 = (6, 0, 3, 0, 0) := by decide +kernel
theorem mi_316_2 : mI 316 2 = (1, (-1), 0, 0, 0) := by decide +kernel
theorem mi_316_3 : mI 316 3 = (6, 0, 4, 1, 0) := by decide +kernel
theorem mi_316_5 : mI 316 5 = (3, 0, 4, 1, 0) := by decide +kernel
theorem mi_316_7 : mI 316 7 = (5, 0, 0, 0, 0) := by decide +kernel
theorem mi_316_8 : mI 316 8 = (17, 1207, 9, 11, 1) := by decide +kernel
theorem mi_316_11 : mI 316 11 = (1, 0, 0, 0, 0) := by decide +kernel
theorem mi_316_12 : mI 316 12 = (19, 0, 0, 0, 0) := by decide +kernel
theorem mi_316_13 : mI 316 13 = (15, 85, 3, 98, 0) := by decide +kernel
theorem mi_316_16 : mI 316 16 = (1, 0, 0, 0, 0) := by decide +kernel
theorem mi_316_17 : mI 316 17 = (6, 0, 5, 1, 0) := by decide +kernel
theorem mi_316_19 : mI 316 19 = (1, 0, 0, 0, 0) := by decide +kernel
theorem mi_316_20 : mI 316 20 = (6, 0, 6, 1, 0) := by decide +kernel
theorem mi_316_22 : mI 316 22 = (3, 0, 6, 1, 0) := by decide +kernel
theorem mi_316_24 : mI 316 24 = (5, 0, 0, 0, 0) := by decide +kernel
theorem mi_316_25 : mI 316 25 = (17, 1207, 9, 11, 1) := by decide +kernel
theorem mi_316_28 : mI 316 28 = (1, 3, 0, 0, 0) := by decide +kernel
theorem mi_316_29 : mI 316 29 = (19, 0, 0, 0, 0) := by decide +kernel
theorem mi_316_30 : mI 316 30 = (15, 55, 3, 85, 0) := by decide +kernel
theorem mi_316_33 : mI 316 33 = (3, 0, 5, 1, 0) := by decide +kernel
theorem mi_316_35 : mI 316 35 = (3, 0, 1, 0, 0) := by decide +kernel
theorem mi_316_36 : mI 316 36 = (3, 0, 6, 1, 0) := by decide +kernel
theorem mi_316_38 : mI 316 38 = (26, 1517, 255, 195, 1) := by decide +kernel
theorem mi_316_41 : mI 316 41 = (1, 1, 0, 0, 0) := by decide +kernel
theorem mi_316_42 : mI 316 42 = (15, 33, 1, 75, 0) := by decide +kernel
theorem mi_316_45 : mI 316 45 = (3, 0, 2, 0, 0) := by decide +kernel
theorem mi_316_46 : mI 316 46 = (5, 0, 0, 0, 0) := by decide +kernel
theorem mi_316_47 : mI 316 47 = (3, 0, 6, 1, 0) := by decide +kernel
theorem mi_316_49 : mI 316 49 = (26, 1452, 93, 204, 0) := by decide +kernel
theorem mi_316_52 : mI 316 52 = (15, 13, 3, 65, 0) := by decide +kernel
theorem mi_316_55 : mI 316 55 = (5, 0, 0, 0, 0) := by decide +kernel
theorem mi_316_56 : mI 316 56 = (3, 0, 6, 1, 0) := by decide +kernel
theorem mi_316_58 : mI 316 58 = (3, 0, 2, 0, 0) := by decide +kernel
theorem mi_316_59 : mI 316 59 = (26, 1456, 290, 205, 0) := by decide +kernel
theorem mi_316_62 : mI 316 62 = (16, 4, 0, 66, 0) := by decide +kernel
theorem mi_316_65 : mI 316 65 = (1, (-1), 0, 0, 0) := by decide +kernel
theorem mi_316_66 : mI 316 66 = (3, 0, 4, 1, 0) := by decide +kernel
theorem mi_316_68 : mI 316 68 = (15, 7, 1, 75, 0) := by decide +kernel
theorem mi_316_71 : mI 316 71 = (1, 1, 0, 0, 0) := by decide +kernel
theorem mi_316_72 : mI 316 72 = (16, 4, 0, 76, 0) := by decide +kernel
theorem mi_316_75 : mI 316 75 = (1, 0, 0, 0, 0) := by decide +kernel
theorem mi_316_76 : mI 316 76 = (10, 0, 0, 0, 0) := by decide +kernel
theorem mi_316_77 : mI 316 77 = (6, 0, 5, 1, 0) := by decide +kernel
theorem mi_316_79 : mI 316 79 = (9, 1, 6, 0, 0) := by decide +kernel
theorem mi_316_82 : mI 316 82 = (16, (-60), 0, 22, 0) := by decide +kernel
theorem mi_316_85 : mI 316 85 = (3, 0, 3, 0, 0) := by decide +kernel
theorem mi_316_86 : mI 316 86 = (3, 0, 5, 1, 0) := by decide +kernel
theorem mi_316_88 : mI 316 88 = (26, 1851, 424, 341, 1) := by decide +kernel
theorem mi_316_91 : mI 316 91 = (6, 0, 3, 0, 0) := by decide +kernel
theorem mi_316_92 : mI 316 92 = (9, 1, 4, 0, 0) := by decide +kernel
theorem mi_316_95 : mI 316 95 = (16, (-90), 0, 5, 0) := by decide +kernel
theorem mi_316_98 : mI 316 98 = (3, 0, 3, 0, 0) := by decide +kernel
theorem mi_316_99 : mI 316 99 = (27, 0, 0, 0, 0) := by decide +kernel
theorem mi_317_0 : mI 317 0 = (3, 0, 1, 0, 0) := by decide +kernel
theorem mi_317_1 : mI 317 1 = (26, 1598, 317, 194, 1) := by decide +kernel
theorem mi_317_4 : mI 317 4 = (6, 0, 2, 0, 0) := by decide +kernel
theorem mi_317_5 : mI 317 5 = (1, (-1), 0, 0, 0) := by decide +kernel
theorem mi_317_6 : mI 317 6 = (6, 0, 3, 0, 0) := by decide +kernel
theorem mi_317_7 : mI 317 7 = (1, 0, 0, 0, 0) := by decide +kernel
theorem mi_317_8 : mI 317 8 = (6, 0, 4, 1, 0) := by decide +kernel
theorem mi_317_10 : mI 317 10 = (3, 0, 4, 1, 0) := by decide +kernel
theorem mi_317_12 : mI 317 12 = (1, 6, 1, 0, 0) := by decide +kernel
theorem mi_317_14 : mI 317 14 = (15, 33, 3, 47, 0) := by decide +kernel
theorem mi_317_17 : mI 317 17 = (5, 0, 0, 0, 0) := by decide +kernel
theorem mi_317_18 : mI 317 18 = (3, 0, 1, 0, 0) := by decide +kernel
theorem mi_317_19 : mI 317 19 = (3, 0, 4, 1, 0) := by decide +kernel
theorem mi_317_21 : mI 317 21 = (26, 1847, 427, 316, 0) := by decide +kernel
theorem mi_317_24 : mI 317 24 = (6, 0, 5, 1, 0) := by decide +kernel
theorem mi_317_26 : mI 317 26 = (3, 0, 5, 1, 0) := by decide +kernel
theorem mi_317_28 : mI 317 28 = (3, 0, 2, 0, 0) := by decide +kernel
theorem mi_317_29 : mI 317 29 = (15, 6, 2, 35, 0) := by decide +kernel
theorem mi_317_32 : mI 317 32 = (16, 9, 0, 41, 0) := by decide +kernel
theorem mi_317_35 : mI 317 35 = (3, 0, 5, 1, 0) := by decide +kernel
theorem mi_317_37 : mI 317 37 = (6, 0, 2, 0, 0) := by decide +kernel
theorem mi_317_38 : mI 317 38 = (3, 0, 4, 1, 0) := by decide +kernel
theorem mi_317_40 : mI 317 40 = (6, 0, 3, 0, 0) := by decide +kernel
theorem mi_317_41 : mI 317 41 = (9, 1, 4, 0, 0) := by decide +kernel
theorem mi_317_44 : mI 317 44 = (16, (-34), 0, 10, 0) := by decide +kernel
theorem mi_317_47 : mI 317 47 = (3, 0, 3, 0, 0) := by decide +kernel
theorem mi_317_48 : mI 317 48 = (27, 0, 0, 0, 0) := by decide +kernel
theorem mi_319_0 : mI 319 0 = (5, 0, 0, 0, 0) := by decide +kernel
theorem mi_319_1 : mI 319 1 = (3, 0, 1, 0, 0) := by decide +kernel
theorem mi_319_2 : mI 319 2 = (26, 1826, 418, 312, 0) := by decide +kernel
theorem mi_319_5 : mI 319 5 = (6, 0, 2, 0, 0) := by decide +kernel
theorem mi_319_6 : mI 319 6 = (3, 0, 2, 0, 0) := by decide +kernel
theorem mi_319_7 : mI 319 7 = (14, 5, 3, 12, 0) := by decide +kernel
theorem mi_319_10 : mI 319 10 = (3, 0, 2, 0, 0) := by decide +kernel
theorem mi_319_11 : mI 319 11 = (27, 0, 0, 0, 0) := by decide +kernel
theorem mi_319_12 : mI 319 12 = (5, 0, 0, 0, 0) := by decide +kernel
theorem mi_319_13 : mI 319 13 = (3, 0, 1, 0, 0) := by decide +kernel
theorem mi_319_14 : mI 319 14 = (26, 1831, 421, 314, 0) := by decide +kernel
theorem mi_319_17 : mI 319 17 = (6, 0, 3, 0, 0) := by decide +kernel
theorem mi_319_18 : mI 319 18 = (5, 0, 0, 0, 0) := by decide +kernel
theorem mi_319_19 : mI 319 19 = (3, 0, 3, 0, 0) := by decide +kernel
theorem mi_319_20 : mI 319 20 = (26, 1843, 430, 317, 0) := by decide +kernel
theorem mi_319_23 : mI 319 23 = (6, 0, 4, 1, 0) := by decide +kernel
theorem mi_319_25 : mI 319 25 = (3, 0, 4, 1, 0) := by decide +kernel
theorem mi_319_27 : mI 319 27 = (1, (-1), 0, 0, 0) := by decide +kernel
theorem mi_319_28 : mI 319 28 = (15, 10, 1, 38, 0) := by decide +kernel
theorem mi_319_31 : mI 319 31 = (3, 0, 3, 0, 0) := by decide +kernel
theorem mi_319_32 : mI 319 32 = (26, 1598, 317, 194, 1) := by decide +kernel
theorem mi_319_35 : mI 319 35 = (16, 10, 0, 45, 0) := by decide +kernel
theorem mi_319_38 : mI 319 38 = (5, 0, 0, 0, 0) := by decide +kernel
theorem mi_319_39 : mI 319 39 = (3, 0, 3, 0, 0) := by decide +kernel
theorem mi_319_40 : mI 319 40 = (3, 0, 4, 1, 0) := by decide +kernel
theorem mi_319_42 : mI 319 42 = (26, 1847, 427, 316, 0) := by decide +kernel
theorem mi_319_45 : mI 319 45 = (27, 0, 0, 0, 0) := by decide +kernel
theorem mi_337_0 : mI 337 0 = (1, 64, 1, 0, 0) := by decide +kernel
theorem mi_337_2 : mI 337 2 = (1, 8, 1, 0, 0) := by decide +kernel
theorem mi_337_4 : mI 337 4 = (3, 0, 2, 0, 0) := by decide +kernel
theorem mi_337_5 : mI 337 5 = (10, 0, 8, 0, 0) := by decide +kernel
theorem mi_337_6 : mI 337 6 = (10, 0, 1, 0, 0) := by decide +kernel
theorem mi_337_7 : mI 337 7 = (6, 0, 3, 0, 0) := by decide +kernel
theorem mi_337_8 : mI 337 8 = (4, 0, 0, 0, 0) := by decide +kernel
theorem mi_337_9 : mI 337 9 = (3, 0, 3, 0, 0) := by decide +kernel
theorem mi_337_10 : mI 337 10 = (25, 0, 0, 0, 0) := by decide +kernel
theorem mi_337_11 : mI 337 11 = (3, 0, 3, 0, 0) := by decide +kernel
theorem mi_337_12 : mI 337 12 = (25, 0, 1, 0, 0) := by decide +kernel
theorem mi_337_13 : mI 337 13 = (27, 0, 1, 0, 0) := by decide +kernel
theorem mi_341_0 : mI 341 0 = (3, 0, 0, 0, 0) := by decide +kernel
theorem mi_341_1 : mI 341 1 = (3, 0, 1, 0, 0) := by decide +kernel
theorem mi_341_2 : mI 341 2 = (15, 7, 2, 9, 0) := by decide +kernel
theorem mi_341_5 : mI 341 5 = (3, 0, 0, 0, 0) := by decide +kernel
theorem mi_341_6 : mI 341 6 = (16, 4, 0, 10, 0) := by decide +kernel
theorem mi_341_9 : mI 341 9 = (3, 0, 1, 0, 0) := by decide +kernel
theorem mi_341_10 : mI 341 10 = (27, 0, 0, 0, 0) := by decide +kernel
section XVA
variable {l : Launch} {D : va_G} {tys : List (ClassId × FieldType)} {A : Nat → Prop} {ad : Nat → Nat} {ws : va_W}
theorem V_laldX {k d pc : Nat} {post : Option Value → va_W → Prop} {lv : List (Nat × Value)} {st : List Value} {a : Int} {y z c n j : Nat} {segs : List SG} {ix : Int32} {q : Int64} (hi : mI k pc = (19, a, 2, y, z)) (hix : ix = Int32.ofInt (j : Int)) (hG : GOK ad tys GG ws) (hg : GG[c]? = some ((2, 3, n), segs)) (hj : j < n) (hn : n ≤ 100000) (hx : rd ws c j = some (.long q)) (kk : V l D tys A k d 0 0 post 0 0 (pc + 1) lv (.long q :: st) ws) : V l D tys A k d 0 0 post 0 0 pc lv (.int ix :: .ref (ad c) :: st) ws := by
  subst hix
  obtain ⟨e, b1, b2, b3⟩ := hG c _ hg
  obtain ⟨cA, f, rfl, c1⟩ := b2
  rw [rd_at b1] at hx
  have hx : (if j < n then some (Value.long (f j)) else none) = some (.long q) := hx
  rw [if_pos hj] at hx
  have e : f j = q := Value.long.inj (Option.some.inj hx)
  refine V_lald hi b1 c1 (ix_in hj hn).1 ?_
  rw [(ix_in hj hn).2, e]
  exact kk
theorem V_lenL {k d pc : Nat} {post : Option Value → va_W → Prop} {lv : List (Nat × Value)} {st : List Value} {a : Int} {x y z c n : Nat} {segs : List SG} (hi : mI k pc = (21, a, x, y, z)) (hG : GOK ad tys GG ws) (hg : GG[c]? = some ((2, 3, n), segs)) (kk : V l D tys A k d 0 0 post 0 0 (pc + 1) lv (.int (Int32.ofInt (n : Int)) :: st) ws) : V l D tys A k d 0 0 post 0 0 pc lv (.ref (ad c) :: st) ws := by
  obtain ⟨e, b1, b2, b3⟩ := hG c _ hg
  obtain ⟨cA, f, rfl, c1⟩ := b2
  exact V_alen hi b1 c1 kk
theorem V_zge {k pc d y z : Nat} {a : Int} {post : Option Value → va_W → Prop} {lv : List (Nat × Value)} {st : List Value} {u : Int} (hi : mI k pc = (14, a, 3, y, z)) (b : I32 u) (kt : 0 ≤ u → V l D tys A k d 0 0 post 0 0 y lv st ws) (kf : u < 0 → V l D tys A k d 0 0 post 0 0 (pc + 3) lv st ws) : V l D tys A k d 0 0 post 0 0 pc lv (.int (Int32.ofInt u) :: st) ws := by
  have h : cdP 3 (Int32.ofInt u) 0 ↔ cdZ 3 (u - 0) := cdP_iff (b := 0) b.1 b.2 (by omega) (by omega)
  exact V_if hi (fun q => kt (by have : 0 ≤ u - 0 := h.mp q; omega)) (fun q => kf (by by_cases e : u < 0; exact e; exact absurd (h.mpr (show 0 ≤ u - 0 by omega)) q))
theorem gl40 : ∃ s, GG[40]? = some ((2, 3, 240), s) ∧ ∀ j, j < 240 → segAt s j = some (1, -9223372036854775808, 9223372036854775807) := by
  refine ⟨_, rfl, fun j hj => ?_⟩
  show (bif Nat.blt j 240 then some _ else _) = _
  rw [show Nat.blt j 240 = true from Nat.blt_eq.mpr hj]
  rfl
theorem g0r7 : gOr 0 10 13 7 39 := ⟨_, rfl, by decide +kernel⟩
theorem g39o : gO 39 7 3 := ⟨_, rfl⟩
theorem g39r0 : gOr 39 7 3 0 40 := ⟨_, rfl, by decide +kernel⟩
theorem g39r1 : gOr 39 7 3 1 41 := ⟨_, rfl, by decide +kernel⟩
theorem g39r2 : gOr 39 7 3 2 42 := ⟨_, rfl, by decide +kernel⟩
theorem a41 : gA 41 4 0 3 := gA_of rfl
theorem a42 : gA 42 4 (-1) 60 := gA_of rfl
theorem a107 : gA 107 4 (-1) 60 := gA_of rfl
theorem a108 : gA 108 4 0 3 := gA_of rfl
/-- a number cut to a width, as the class does -/
noncomputable def cutX (v : Int64) (w : Int) : Int64 := if w = 0 then v.toInt32.toInt8.toInt32.toInt64 else if w = 1 then v.toInt32.toInt16.toInt32.toInt64 else if w = 2 then v.toInt32.toInt64 else v
theorem bm_8 (a : Nat) : ((a * 2 ^ 56 : Nat) : Int).bmod (2 ^ 64) / 2 ^ 56 = (a : Int).bmod (2 ^ 8) := by
  rw [Int.bmod_def, Int.bmod_def]
  split <;> split <;> omega
theorem bm_16 (a : Nat) : ((a * 2 ^ 48 : Nat) : Int).bmod (2 ^ 64) / 2 ^ 48 = (a : Int).bmod (2 ^ 16) := by
  rw [Int.bmod_def, Int.bmod_def]
  split <;> split <;> omega
theorem bm_32 (a : Nat) : ((a * 2 ^ 32 : Nat) : Int).bmod (2 ^ 64) / 2 ^ 32 = (a : Int).bmod (2 ^ 32) := by
  rw [Int.bmod_def, Int.bmod_def]
  split <;> split <;> omega
theorem shl_i (x : BitVec 64) (n : Nat) : ((x <<< n).sshiftRight n).toInt = ((x.toNat * 2 ^ n : Nat) : Int).bmod (2 ^ 64) / 2 ^ n := by
  rw [BitVec.toInt_sshiftRight, BitVec.toInt_shiftLeft, Int.shiftRight_eq_div_pow, Nat.shiftLeft_eq]
  rfl
theorem bmd (v : Int64) {m : Nat} (h : m ∣ 2 ^ 64) : v.toInt.bmod m = (v.toBitVec.toNat : Int).bmod m := by
  rw [← Int64.toInt_toBitVec, BitVec.toInt_eq_toNat_bmod, Int.bmod_bmod_of_dvd h]
theorem cut_0 (v : Int64) : lsF 1 (lsF 0 v (Int32.ofInt 56)) (Int32.ofInt 56) = v.toInt32.toInt8.toInt32.toInt64 := by
  apply Int64.toInt.inj
  rw [Int32.toInt_toInt64, Int8.toInt_toInt32, Int32.toInt_toInt8, Int64.toInt_toInt32, Int.bmod_bmod_of_dvd (by decide), bmd v (by decide), ← bm_8, ← shl_i]
  rfl
theorem cut_1 (v : Int64) : lsF 1 (lsF 0 v (Int32.ofInt 48)) (Int32.ofInt 48) = v.toInt32.toInt16.toInt32.toInt64 := by
  apply Int64.toInt.inj
  rw [Int32.toInt_toInt64, Int16.toInt_toInt32, Int32.toInt_toInt16, Int64.toInt_toInt32, Int.bmod_bmod_of_dvd (by decide), bmd v (by decide), ← bm_16, ← shl_i]
  rfl
theorem cut_2 (v : Int64) : lsF 1 (lsF 0 v (Int32.ofInt 32)) (Int32.ofInt 32) = v.toInt32.toInt64 := by
  apply Int64.toInt.inj
  rw [Int32.toInt_toInt64, Int64.toInt_toInt32, bmd v (by decide), ← bm_32, ← shl_i]
  rfl
theorem cut_3 (v : Int64) : lsF 1 (lsF 0 v (Int32.ofInt 0)) (Int32.ofInt 0) = v := by
  apply Int64.toInt.inj
  show ((v.toBitVec <<< 0).sshiftRight 0).toInt = v.toBitVec.toInt
  rw [BitVec.shiftLeft_zero, BitVec.sshiftRight_zero]
theorem by_all : (List.range 4).all (fun w => decide (ibF 1 (Int32.ofInt 64) (ibF 8 (Int32.ofInt 8) (Int32.ofInt (w : Nat))) = Int32.ofInt (if w = 0 then 56 else if w = 1 then 48 else if w = 2 then 32 else 0))) = true := by decide +kernel
theorem cutM_X {v : Int64} {w : Int} (h : 0 ≤ w ∧ w ≤ 3) : lsF 1 (lsF 0 v (ibF 1 (Int32.ofInt 64) (ibF 8 (Int32.ofInt 8) (Int32.ofInt w)))) (ibF 1 (Int32.ofInt 64) (ibF 8 (Int32.ofInt 8) (Int32.ofInt w))) = cutX v w := by
  have q := fun (n : Nat) (hn : n < 4) => of_decide_eq_true (List.all_eq_true.mp by_all n (List.mem_range.mpr hn))
  rcases (show w = 0 ∨ w = 1 ∨ w = 2 ∨ w = 3 by omega) with e | e | e | e
  · rw [e, show (0 : Int) = ((0 : Nat) : Int) from rfl, q 0 (by omega)]
    exact cut_0 v
  · rw [e, show (1 : Int) = ((1 : Nat) : Int) from rfl, q 1 (by omega)]
    exact cut_1 v
  · rw [e, show (2 : Int) = ((2 : Nat) : Int) from rfl, q 2 (by omega)]
    exact cut_2 v
  · rw [e, show (3 : Int) = ((3 : Nat) : Int) from rfl, q 3 (by omega)]
    exact cut_3 v
theorem cut_cut (v : Int64) (w : Int) : cutX (cutX v w) w = cutX v w := by
  unfold cutX
  split
  · apply Int64.toInt.inj
    simp only [Int32.toInt_toInt64, Int8.toInt_toInt32, Int32.toInt_toInt8, Int64.toInt_toInt32]
    rw [Int.bmod_bmod_of_dvd (by decide), Int.bmod_bmod_of_dvd (by decide)]
  · split
    · apply Int64.toInt.inj
      simp only [Int32.toInt_toInt64, Int16.toInt_toInt32, Int32.toInt_toInt16, Int64.toInt_toInt32]
      rw [Int.bmod_bmod_of_dvd (by decide), Int.bmod_bmod_of_dvd (by decide)]
    · split
      · apply Int64.toInt.inj
        simp only [Int32.toInt_toInt64, Int64.toInt_toInt32]
        rw [Int.bmod_bmod]
      · rfl
theorem cut_z (w : Int) : cutX (Int64.ofInt 0) w = Int64.ofInt 0 := by
  unfold cutX
  split
  · decide
  · split
    · decide
    · split
      · decide
      · rfl
/-- the class's slots -/
noncomputable def SLX (sz wd : Nat → Int) (nm : Nat → Int64) (w : va_W) : Prop := ∀ j : Nat, j < 4 → rd w 42 j = some (.int (Int32.ofInt (sz j))) ∧ rd w 41 j = some (.int (Int32.ofInt (wd j))) ∧ ∀ i : Nat, (i : Int) < sz j → rd w 40 (60 * j + i) = some (.long (nm (60 * j + i)))
/-- the reference's -/
noncomputable def SLM (sz wd : Nat → Int) (nm : Nat → Int64) (w : va_W) : Prop := ∀ j : Nat, j < 4 → rd w 107 j = some (.int (Int32.ofInt (sz j))) ∧ rd w 108 j = some (.int (Int32.ofInt (wd j))) ∧ ∀ i : Nat, (i : Int) < sz j → rd w 109 (60 * j + i) = some (.long (nm (60 * j + i)))
noncomputable def SLB (sz wd : Nat → Int) (nm : Nat → Int64) : Prop := ∀ j : Nat, j < 4 → (-1 ≤ sz j ∧ sz j ≤ 60) ∧ (0 ≤ wd j ∧ wd j ≤ 3) ∧ ∀ i : Nat, (i : Int) < sz j → cutX (nm (60 * j + i)) (wd j) = nm (60 * j + i)
noncomputable def SLT (w : va_W) : Prop := ∃ (sz wd : Nat → Int) (nm : Nat → Int64), SLX sz wd nm w ∧ SLM sz wd nm w ∧ SLB sz wd nm
theorem slt_keep {w0 w : va_W} (h : SLT w0) (o : ∀ c j, (40 ≤ c ∧ c ≤ 42) ∨ (107 ≤ c ∧ c ≤ 109) → rd w c j = rd w0 c j) : SLT w := by
  obtain ⟨sz, wd, nm, x, m, b⟩ := h
  exact ⟨sz, wd, nm, fun j hj => ⟨(o _ _ (by omega)).trans (x j hj).1, (o _ _ (by omega)).trans (x j hj).2.1, fun i hi => (o _ _ (by omega)).trans ((x j hj).2.2 i hi)⟩, fun j hj => ⟨(o _ _ (by omega)).trans (m j hj).1, (o _ _ (by omega)).trans (m j hj).2.1, fun i hi => (o _ _ (by omega)).trans ((m j hj).2.2 i hi)⟩, b⟩
theorem hsX_ct {v : Int} (vI : I32 v) : CT l D tys A 160 0 0 0 [.ref (ad 39), .int (Int32.ofInt (v))] ws (fun r w => w = ws ∧ r = some (.int (bI (decide (0 ≤ v ∧ v < 4))))) := by
  refine CT_of_V (by omega) (show (2 : Nat) ≤ mML 160 by decide +kernel) ?_
  refine V_iload (v := Int32.ofInt (v)) mi_160_0 (by simp [stL, stL2, lv_args, Value.category]) ?_
  refine V_zlt mi_160_1 vI (fun q => ?_) (fun q => ?_)
  · refine V_ipush mi_160_13 ?_
    exact V_retI mi_160_14 (fun _ => by decide) ⟨rfl, by rw [decide_eq_false (by omega)]; rfl⟩
  · refine V_iload (v := Int32.ofInt (v)) mi_160_4 (by simp [stL, stL2, lv_args, Value.category]) ?_
    refine V_ipush mi_160_5 ?_
    refine V_cge mi_160_6 vI ⟨by omega, by omega⟩ (fun q2 => ?_) (fun q2 => ?_)
    · refine V_ipush mi_160_13 ?_
      exact V_retI mi_160_14 (fun _ => by decide) ⟨rfl, by rw [decide_eq_false (by omega)]; rfl⟩
    · refine V_ipush mi_160_9 ?_
      refine V_goto mi_160_10 ?_
      exact V_retI mi_160_14 (fun _ => by decide) ⟨rfl, by rw [decide_eq_true (by omega)]; rfl⟩
theorem szX_ct {j : Nat} {z : Int} (hG : GOK ad tys GG ws) (hj : j < 4) (h : rd ws 42 j = some (.int (Int32.ofInt z))) : CT l D tys A 162 1 0 0 [.ref (ad 39), .int (Int32.ofInt ((j : Int)))] ws (fun r w => w = ws ∧ r = some (.int (Int32.ofInt z))) := by
  refine CT_of_V (by omega) (show (2 : Nat) ≤ mML 162 by decide +kernel) ?_
  refine V_aload (v := ad 39) mi_162_0 (by simp [stL, stL2, lv_args, Value.category]) ?_
  refine V_iload (v := Int32.ofInt ((j : Int))) mi_162_1 (by simp [stL, stL2, lv_args, Value.category]) ?_
  refine V_cO (As := [.int (Int32.ofInt ((j : Int)))]) (st := []) mi_162_2 (by omega) (by decide +kernel) (by decide +kernel) (by omega) g39o hG (hsX_ct (v := (j : Int)) ⟨by omega, by omega⟩) (by omega) (show 1 = mN 160 by decide +kernel) (by simp [Value.category]) ?_
  rintro r w1 ⟨rfl, rfl⟩
  rw [decide_eq_true (show 0 ≤ (j : Int) ∧ (j : Int) < 4 by omega)]
  change V _ _ _ _ _ _ _ _ _ _ _ _ _ [.int (bI true)] _
  refine V_beq mi_162_5  (fun q => ?_) (fun q => ?_)
  · exact absurd q (by decide)
  · refine V_aload (v := ad 39) mi_162_8 (by simp [stL, stL2, lv_args, Value.category]) ?_
    refine V_gR mi_162_9 g39r2 (by omega) hG ?_
    refine V_iload (v := Int32.ofInt ((j : Int))) mi_162_12 (by simp [stL, stL2, lv_args, Value.category]) ?_
    refine V_stat (As := [.ref (ad 42), .int (Int32.ofInt ((j : Int)))]) (st := []) mi_162_13 (by omega) (atk_ct (j := j) a42 hG (by omega) hj h) (by omega) (show 2 = mN 147 by decide +kernel) (by simp [Value.category]) ⟨Nat.le_refl _, Nat.le_refl _⟩ ?_
    rintro r w2 ⟨rfl, rfl⟩
    refine V_goto mi_162_16 ?_
    exact V_retI mi_162_20 (fun h => absurd h (by decide +kernel)) ⟨rfl, rfl⟩
theorem baX_ct {j : Nat} {z : Int} (hG : GOK ad tys GG ws) (hj : j < 4) (zI : I32 z) (h : rd ws 42 j = some (.int (Int32.ofInt z))) : CT l D tys A 161 2 0 0 [.ref (ad 39), .int (Int32.ofInt ((j : Int)))] ws (fun r w => w = ws ∧ r = some (.int (bI (decide (z < 0))))) := by
  refine CT_of_V (by omega) (show (2 : Nat) ≤ mML 161 by decide +kernel) ?_
  refine V_aload (v := ad 39) mi_161_0 (by simp [stL, stL2, lv_args, Value.category]) ?_
  refine V_iload (v := Int32.ofInt ((j : Int))) mi_161_1 (by simp [stL, stL2, lv_args, Value.category]) ?_
  refine V_cO (As := [.int (Int32.ofInt ((j : Int)))]) (st := []) mi_161_2 (by omega) (by decide +kernel) (by decide +kernel) (by omega) g39o hG (szX_ct hG hj h) (by omega) (show 1 = mN 162 by decide +kernel) (by simp [Value.category]) ?_
  rintro r w1 ⟨rfl, rfl⟩
  refine V_zge mi_161_5 zI (fun q => ?_) (fun q => ?_)
  · refine V_ipush mi_161_12 ?_
    exact V_retI mi_161_13 (fun _ => by decide) ⟨rfl, by rw [decide_eq_false (by omega)]; rfl⟩
  · refine V_ipush mi_161_8 ?_
    refine V_goto mi_161_9 ?_
    exact V_retI mi_161_13 (fun _ => by decide) ⟨rfl, by rw [decide_eq_true (by omega)]; rfl⟩
theorem wdX_ct {j : Nat} {z : Int} (hG : GOK ad tys GG ws) (hj : j < 4) (h : rd ws 41 j = some (.int (Int32.ofInt z))) : CT l D tys A 163 1 0 0 [.ref (ad 39), .int (Int32.ofInt ((j : Int)))] ws (fun r w => w = ws ∧ r = some (.int (Int32.ofInt z))) := by
  refine CT_of_V (by omega) (show (2 : Nat) ≤ mML 163 by decide +kernel) ?_
  refine V_aload (v := ad 39) mi_163_0 (by simp [stL, stL2, lv_args, Value.category]) ?_
  refine V_gR mi_163_1 g39r1 (by omega) hG ?_
  refine V_iload (v := Int32.ofInt ((j : Int))) mi_163_4 (by simp [stL, stL2, lv_args, Value.category]) ?_
  refine V_stat (As := [.ref (ad 41), .int (Int32.ofInt ((j : Int)))]) (st := []) mi_163_5 (by omega) (atk_ct (j := j) a41 hG (by omega) hj h) (by omega) (show 2 = mN 147 by decide +kernel) (by simp [Value.category]) ⟨Nat.le_refl _, Nat.le_refl _⟩ ?_
  rintro r w2 ⟨rfl, rfl⟩
  exact V_retI mi_163_8 (fun h => absurd h (by decide +kernel)) ⟨rfl, rfl⟩
theorem nmX_ct2 {j i : Nat} {z : Int} {q : Int64} (hG : GOK ad tys GG ws) (hj : j < 4) (hz : rd ws 42 j = some (.int (Int32.ofInt z))) (hzb : z ≤ 60) (hi : (i : Int) < z) (hq : rd ws 40 (60 * j + i) = some (.long q)) : CT l D tys A 164 2 0 0 [.ref (ad 39), .int (Int32.ofInt ((j : Int))), .int (Int32.ofInt ((i : Int)))] ws (fun r w => w = ws ∧ r = some (.long q)) := by
  refine CT_of_V (by omega) (show (3 : Nat) ≤ mML 164 by decide +kernel) ?_
  obtain ⟨s40, e40, f40⟩ := gl40
  refine V_iload (v := Int32.ofInt ((i : Int))) mi_164_0 (by simp [stL, stL2, lv_args, Value.category]) ?_
  refine V_zlt mi_164_1 ⟨by omega, by omega⟩ (fun q0 => ?_) (fun q0 => ?_)
  · exact absurd q0 (by omega)
  · refine V_iload (v := Int32.ofInt ((i : Int))) mi_164_4 (by simp [stL, stL2, lv_args, Value.category]) ?_
    refine V_aload (v := ad 39) mi_164_5 (by simp [stL, stL2, lv_args, Value.category]) ?_
    refine V_iload (v := Int32.ofInt ((j : Int))) mi_164_6 (by simp [stL, stL2, lv_args, Value.category]) ?_
    refine V_cO (As := [.int (Int32.ofInt ((j : Int)))]) (st := [.int (Int32.ofInt ((i : Int)))]) mi_164_7 (by omega) (by decide +kernel) (by decide +kernel) (by omega) g39o hG (szX_ct hG hj hz) (by omega) (show 1 = mN 162 by decide +kernel) (by simp [Value.category]) ?_
    rintro r w1 ⟨e1, rfl⟩
    rw [e1]
    refine V_clt mi_164_10 ⟨by omega, by omega⟩ ⟨by omega, by omega⟩ (fun q2 => ?_) (fun q2 => ?_)
    · refine V_iload (v := Int32.ofInt ((j : Int))) mi_164_15 (by simp [stL, stL2, lv_args, Value.category]) ?_
      refine V_ipush mi_164_16 ?_
      refine V_ibin mi_164_18 (by omega) ?_
      rw [ib2]
      refine V_iload (v := Int32.ofInt ((i : Int))) mi_164_19 (by simp [stL, stL2, lv_args, Value.category]) ?_
      refine V_ibin mi_164_20 (by omega) ?_
      rw [ib0]
      refine V_istore mi_164_21 ?_
      refine V_iload (v := Int32.ofInt ((((j : Int)) * (60)) + ((i : Int)))) mi_164_22 (by simp [stL, stL2, lv_args, Value.category]) ?_
      refine V_zlt mi_164_23 ⟨by omega, by omega⟩ (fun q3 => ?_) (fun q3 => ?_)
      · exact absurd q3 (by omega)
      · refine V_iload (v := Int32.ofInt ((((j : Int)) * (60)) + ((i : Int)))) mi_164_26 (by simp [stL, stL2, lv_args, Value.category]) ?_
        refine V_aload (v := ad 39) mi_164_27 (by simp [stL, stL2, lv_args, Value.category]) ?_
        refine V_gR mi_164_28 g39r0 (by omega) hG ?_
        refine V_lenL mi_164_31 hG e40 ?_
        refine V_cge mi_164_32 ⟨by omega, by omega⟩ ⟨by omega, by omega⟩ (fun q4 => ?_) (fun q4 => ?_)
        · exact absurd q4 (by omega)
        · refine V_aload (v := ad 39) mi_164_35 (by simp [stL, stL2, lv_args, Value.category]) ?_
          refine V_gR mi_164_36 g39r0 (by omega) hG ?_
          refine V_iload (v := Int32.ofInt ((((j : Int)) * (60)) + ((i : Int)))) mi_164_39 (by simp [stL, stL2, lv_args, Value.category]) ?_
          refine V_laldX (j := 60 * j + i) (q := q) mi_164_40 (by rw [show (((j : Int)) * (60)) + ((i : Int)) = ((60 * j + i : Nat) : Int) by omega]) hG e40 (by omega) (by omega) (hq) ?_
          refine V_goto mi_164_41 ?_
          exact V_retL mi_164_45 ⟨rfl, rfl⟩
    · exact absurd q2 (by omega)
theorem nmM_ct2 {j i : Nat} {q : Int64} (hG : GOK ad tys GG ws) (hj : j < 4) (hi : i < 60) (hq : rd ws 109 (60 * j + i) = some (.long q)) : CT l D tys A 300 0 0 0 [.ref (ad 90), .int (Int32.ofInt ((j : Int))), .int (Int32.ofInt ((i : Int)))] ws (fun r w => w = ws ∧ r = some (.long q)) := by
  refine CT_of_V (by omega) (show (3 : Nat) ≤ mML 300 by decide +kernel) ?_
  obtain ⟨s109, e109, f109⟩ := gl109
  refine V_aload (v := ad 90) mi_300_0 (by simp [stL, stL2, lv_args, Value.category]) ?_
  refine V_getI mi_300_1 hG (rref gr34 (by omega) hG) ?_
  refine V_ipush mi_300_4 ?_
  refine V_iload (v := Int32.ofInt ((j : Int))) mi_300_6 (by simp [stL, stL2, lv_args, Value.category]) ?_
  refine V_ibin mi_300_7 (by omega) ?_
  rw [ib2]
  refine V_iload (v := Int32.ofInt ((i : Int))) mi_300_8 (by simp [stL, stL2, lv_args, Value.category]) ?_
  refine V_ibin mi_300_9 (by omega) ?_
  rw [ib0]
  refine V_laldX (j := 60 * j + i) (q := q) mi_300_10 (by rw [show ((60) * ((j : Int))) + ((i : Int)) = ((60 * j + i : Nat) : Int) by omega]) hG e109 (by omega) (by omega) (hq) ?_
  exact V_retL mi_300_11 ⟨rfl, rfl⟩
end XVA
section XVB
variable {l : Launch} {D : va_G} {tys : List (ClassId × FieldType)} {A : Nat → Prop} {ad : Nat → Nat} {ws : va_W}
noncomputable def updL (f : Nat → Int64) (i : Nat) (v : Int64) (j : Nat) : Int64 := if j = i then v else f j
theorem updL_eq {f : Nat → Int64} {i : Nat} {v : Int64} : updL f i v i = v := if_pos rfl
theorem updL_ne {f : Nat → Int64} {i j : Nat} {v : Int64} (h : j ≠ i) : updL f i v j = f j := if_neg h
/-- a new row of slot j -/
noncomputable def rowN (nm : Nat → Int64) (j p : Nat) : Int64 := if 60 * j ≤ p ∧ p < 60 * j + 60 then Int64.ofInt 0 else nm p
theorem rowN_in {nm : Nat → Int64} {j i : Nat} (h : i < 60) : rowN nm j (60 * j + i) = Int64.ofInt 0 := if_pos (by omega)
theorem rowN_out {nm : Nat → Int64} {j k i : Nat} (h : k ≠ j) (hi : i < 60) : rowN nm j (60 * k + i) = nm (60 * k + i) := if_neg (by omega)
theorem slb_row {sz wd : Nat → Int} {nm : Nat → Int64} {j : Nat} {n w : Int} (b : SLB sz wd nm) (n0 : 0 ≤ n ∧ n ≤ 60) (w0 : 0 ≤ w ∧ w ≤ 3) : SLB (updI sz j n) (updI wd j w) (rowN nm j) := fun k hk => by
  have g := b k hk
  by_cases e : k = j
  · subst e
    rw [show updI sz k n k = n from if_pos rfl, show updI wd k w k = w from if_pos rfl]
    exact ⟨by omega, w0, fun i hi => by rw [rowN_in (by omega)]; exact cut_z w⟩
  · rw [updI_ne e, updI_ne e]
    exact ⟨g.1, g.2.1, fun i hi => by rw [rowN_out e (by omega)]; exact g.2.2 i hi⟩
theorem slb_wr {sz wd : Nat → Int} {nm : Nat → Int64} {j i : Nat} {v : Int64} (b : SLB sz wd nm) (hj : j < 4) (hi : i < 60) : SLB sz wd (updL nm (60 * j + i) (cutX v (wd j))) := fun k hk => by
  have g := b k hk
  refine ⟨g.1, g.2.1, fun x hx => ?_⟩
  by_cases e : 60 * k + x = 60 * j + i
  · have ek : k = j := by omega
    rw [e, updL_eq, ek]
    exact cut_cut v (wd j)
  · rw [updL_ne e]
    exact g.2.2 x hx
theorem cutX_ct {v : Int64} {wd : Int} (h : 0 ≤ wd ∧ wd ≤ 3) : CT l D tys A 167 0 0 0 [.long (v), .int (Int32.ofInt (wd))] ws (fun r w => w = ws ∧ r = some (.long (cutX v wd))) := by
  refine CT_of_V (by omega) (show (3 : Nat) ≤ mML 167 by decide +kernel) ?_
  refine V_iload (v := Int32.ofInt (wd)) mi_167_0 (by simp [stL, stL2, lv_args, Value.category]) ?_
  have sw : swT 167 1 (Int32.ofInt (wd)).toInt = if wd = 0 then 28 else if wd = 1 then 33 else if wd = 2 then 38 else 42 := by
    rw [Int32.toInt_ofInt_of_le (by omega) (by omega)]
    unfold swT
    rw [show mSw 167 1 = (42, 0, [28, 33, 38]) by decide +kernel]
    show (if wd < 0 ∨ 0 + ((3 : Nat) : Int) ≤ wd then 42 else ([28, 33, 38] : List Nat).getD (wd - 0).toNat 42) = _
    by_cases e0 : wd = 0
    · rw [if_neg (by omega), if_pos e0, e0]; rfl
    by_cases e1 : wd = 1
    · rw [if_neg (by omega), if_neg e0, if_pos e1, e1]; rfl
    by_cases e2 : wd = 2
    · rw [if_neg (by omega), if_neg e0, if_neg e1, if_pos e2, e2]; rfl
    rw [if_pos (by omega), if_neg e0, if_neg e1, if_neg e2]
  refine V_sw mi_167_1 ?_
  change V l D tys A 167 0 0 0 _ 0 0 (swT 167 1 (Int32.ofInt wd).toInt) _ _ _
  rw [sw]
  by_cases e0 : wd = 0
  · rw [if_pos e0]
    refine V_lload (v := v) mi_167_28 (by simp [stL, stL2, lv_args, Value.category]) ?_
    refine V_l2i mi_167_29 ?_
    refine V_i2b mi_167_30 ?_
    refine V_i2l mi_167_31 ?_
    exact V_retL mi_167_32 ⟨rfl, by unfold cutX; rw [if_pos e0]⟩
  · rw [if_neg e0]
    by_cases e1 : wd = 1
    · rw [if_pos e1]
      refine V_lload (v := v) mi_167_33 (by simp [stL, stL2, lv_args, Value.category]) ?_
      refine V_l2i mi_167_34 ?_
      refine V_i2s mi_167_35 ?_
      refine V_i2l mi_167_36 ?_
      exact V_retL mi_167_37 ⟨rfl, by unfold cutX; rw [if_neg e0, if_pos e1]⟩
    · rw [if_neg e1]
      by_cases e2 : wd = 2
      · rw [if_pos e2]
        refine V_lload (v := v) mi_167_38 (by simp [stL, stL2, lv_args, Value.category]) ?_
        refine V_l2i mi_167_39 ?_
        refine V_i2l mi_167_40 ?_
        exact V_retL mi_167_41 ⟨rfl, by unfold cutX; rw [if_neg e0, if_neg e1, if_pos e2]⟩
      · rw [if_neg e2]
        refine V_lload (v := v) mi_167_42 (by simp [stL, stL2, lv_args, Value.category]) ?_
        exact V_retL mi_167_43 ⟨rfl, by unfold cutX; rw [if_neg e0, if_neg e1, if_neg e2]⟩
theorem cutM_ct {v : Int64} {wd : Int} (h : 0 ≤ wd ∧ wd ≤ 3) : CT l D tys A 337 0 0 0 [.long (v), .int (Int32.ofInt (wd))] ws (fun r w => w = ws ∧ r = some (.long (cutX v wd))) := by
  refine CT_of_V (by omega) (show (3 : Nat) ≤ mML 337 by decide +kernel) ?_
  refine V_ipush mi_337_0 ?_
  refine V_ipush mi_337_2 ?_
  refine V_iload (v := Int32.ofInt (wd)) mi_337_4 (by simp [stL, stL2, lv_args, Value.category]) ?_
  refine V_ibin mi_337_5 (by omega) ?_
  refine V_ibin mi_337_6 (by omega) ?_
  refine V_istore mi_337_7 ?_
  refine V_lload (v := v) mi_337_8 (by simp [stL, stL2, lv_args, Value.category]) ?_
  refine V_iload (v := ibF 1 (Int32.ofInt (64)) (ibF 8 (Int32.ofInt (8)) (Int32.ofInt (wd)))) mi_337_9 (by simp [stL, stL2, lv_args, Value.category]) ?_
  refine V_lsh mi_337_10 ?_
  refine V_iload (v := ibF 1 (Int32.ofInt (64)) (ibF 8 (Int32.ofInt (8)) (Int32.ofInt (wd)))) mi_337_11 (by simp [stL, stL2, lv_args, Value.category]) ?_
  refine V_lsh mi_337_12 ?_
  rw [cutM_X h]
  exact V_retL mi_337_13 ⟨rfl, rfl⟩
theorem setX_ct {j i : Nat} {z wd : Int} {v : Int64} (hG : GOK ad tys GG ws) (hj : j < 4) (hz : rd ws 42 j = some (.int (Int32.ofInt z))) (hzb : z ≤ 60) (hi : (i : Int) < z) (hw : rd ws 41 j = some (.int (Int32.ofInt wd))) (hwb : 0 ≤ wd ∧ wd ≤ 3) : CT l D tys A 166 3 0 0 [.ref (ad 39), .int (Int32.ofInt ((j : Int))), .int (Int32.ofInt ((i : Int))), .long (v)] ws (fun r w => r = none ∧ GOK ad tys GG w ∧ Upd1 ws w 40 (60 * j + i) (.long (cutX v wd))) := by
  refine CT_of_V (by omega) (show (5 : Nat) ≤ mML 166 by decide +kernel) ?_
  obtain ⟨s40, e40, f40⟩ := gl40
  refine V_iload (v := Int32.ofInt ((j : Int))) mi_166_0 (by simp [stL, stL2, lv_args, Value.category]) ?_
  refine V_ipush mi_166_1 ?_
  refine V_ibin mi_166_3 (by omega) ?_
  rw [ib2]
  refine V_iload (v := Int32.ofInt ((i : Int))) mi_166_4 (by simp [stL, stL2, lv_args, Value.category]) ?_
  refine V_ibin mi_166_5 (by omega) ?_
  rw [ib0]
  refine V_istore mi_166_6 ?_
  refine V_iload (v := Int32.ofInt ((i : Int))) mi_166_8 (by simp [stL, stL2, lv_args, Value.category]) ?_
  refine V_zlt mi_166_9 ⟨by omega, by omega⟩ (fun q0 => ?_) (fun q0 => ?_)
  · exact absurd q0 (by omega)
  · refine V_iload (v := Int32.ofInt ((i : Int))) mi_166_12 (by simp [stL, stL2, lv_args, Value.category]) ?_
    refine V_aload (v := ad 39) mi_166_13 (by simp [stL, stL2, lv_args, Value.category]) ?_
    refine V_iload (v := Int32.ofInt ((j : Int))) mi_166_14 (by simp [stL, stL2, lv_args, Value.category]) ?_
    refine V_cO (As := [.int (Int32.ofInt ((j : Int)))]) (st := [.int (Int32.ofInt ((i : Int)))]) mi_166_15 (by omega) (by decide +kernel) (by decide +kernel) (by omega) g39o hG (szX_ct hG hj hz) (by omega) (show 1 = mN 162 by decide +kernel) (by simp [Value.category]) ?_
    rintro r w1 ⟨e1, rfl⟩
    rw [e1]
    refine V_cge mi_166_18 ⟨by omega, by omega⟩ ⟨by omega, by omega⟩ (fun q2 => ?_) (fun q2 => ?_)
    · exact absurd q2 (by omega)
    · refine V_iload (v := Int32.ofInt ((((j : Int)) * (60)) + ((i : Int)))) mi_166_21 (by simp [stL, stL2, lv_args, Value.category]) ?_
      refine V_zlt mi_166_23 ⟨by omega, by omega⟩ (fun q3 => ?_) (fun q3 => ?_)
      · exact absurd q3 (by omega)
      · refine V_iload (v := Int32.ofInt ((((j : Int)) * (60)) + ((i : Int)))) mi_166_26 (by simp [stL, stL2, lv_args, Value.category]) ?_
        refine V_aload (v := ad 39) mi_166_28 (by simp [stL, stL2, lv_args, Value.category]) ?_
        refine V_gR mi_166_29 g39r0 (by omega) hG ?_
        refine V_lenL mi_166_32 hG e40 ?_
        refine V_cge mi_166_33 ⟨by omega, by omega⟩ ⟨by omega, by omega⟩ (fun q4 => ?_) (fun q4 => ?_)
        · exact absurd q4 (by omega)
        · refine V_aload (v := ad 39) mi_166_36 (by simp [stL, stL2, lv_args, Value.category]) ?_
          refine V_gR mi_166_37 g39r0 (by omega) hG ?_
          refine V_iload (v := Int32.ofInt ((((j : Int)) * (60)) + ((i : Int)))) mi_166_40 (by simp [stL, stL2, lv_args, Value.category]) ?_
          refine V_lload (v := v) mi_166_42 (by simp [stL, stL2, lv_args, Value.category]) ?_
          refine V_aload (v := ad 39) mi_166_43 (by simp [stL, stL2, lv_args, Value.category]) ?_
          refine V_iload (v := Int32.ofInt ((j : Int))) mi_166_44 (by simp [stL, stL2, lv_args, Value.category]) ?_
          refine V_cO (As := [.int (Int32.ofInt ((j : Int)))]) (st := [.long (v), .int (Int32.ofInt ((((j : Int)) * (60)) + ((i : Int)))), .ref (ad 40)]) mi_166_45 (by omega) (by decide +kernel) (by decide +kernel) (by omega) g39o hG (wdX_ct hG hj hw) (by omega) (show 1 = mN 163 by decide +kernel) (by simp [Value.category]) ?_
          rintro r w2 ⟨e2, rfl⟩
          rw [e2]
          refine V_stat (As := [.long (v), .int (Int32.ofInt (wd))]) (st := [.int (Int32.ofInt ((((j : Int)) * (60)) + ((i : Int)))), .ref (ad 40)]) mi_166_48 (by omega) (cutX_ct hwb) (by omega) (show 2 = mN 167 by decide +kernel) (by simp [Value.category]) ⟨Nat.le_refl _, Nat.le_refl _⟩ ?_
          rintro r w3 ⟨e3, rfl⟩
          rw [e3]
          refine V_lastI (j := 60 * j + i) mi_166_51 (by rw [show (((j : Int)) * (60)) + ((i : Int)) = ((60 * j + i : Nat) : Int) by omega]) hG e40 (by omega) (by omega) (f40 _ (by omega)) (fun w4 Gw4 Uw4 => ?_)
          exact V_retV mi_166_52 ⟨rfl, Gw4, Uw4⟩
theorem mkX_21 {w0 : va_W} {j : Nat} {wd n : Int} (hj : j < 4) (hwb : 0 ≤ wd ∧ wd ≤ 3) (nb : 0 ≤ n ∧ n ≤ 60) {post : Option Value → va_W → Prop} : ∀ (m i : Nat) (ws : va_W), ((i + m : Nat) : Int) = n → GOK ad tys GG ws → rd ws 42 j = some (.int (Int32.ofInt n)) → rd ws 41 j = some (.int (Int32.ofInt wd)) → (∀ x : Nat, x < i → rd ws 40 (60 * j + x) = some (.long (Int64.ofInt 0))) → (∀ c p, ¬ (c = 40 ∧ 60 * j ≤ p ∧ p < 60 * j + 60) → rd ws c p = rd w0 c p) → (∀ w : va_W, GOK ad tys GG w → rd w 42 j = some (.int (Int32.ofInt n)) → rd w 41 j = some (.int (Int32.ofInt wd)) → (∀ x : Nat, (x : Int) < n → rd w 40 (60 * j + x) = some (.long (Int64.ofInt 0))) → (∀ c p, ¬ (c = 40 ∧ 60 * j ≤ p ∧ p < 60 * j + 60) → rd w c p = rd w0 c p) → post none w) → V l D tys A 165 4 0 0 post 0 0 21 [(0, .ref (ad 39)), (1, .int (Int32.ofInt ((j : Int)))), (2, .int (Int32.ofInt (wd))), (3, .int (Int32.ofInt (n))), (4, .int (Int32.ofInt ((i : Int))))] [] ws
  | 0, i, ws, hm, hG, hz, hw, hn, ho, kk => by
    refine V_iload (v := Int32.ofInt ((i : Int))) mi_165_21 (by simp [stL, stL2, lv_args, Value.category]) ?_
    refine V_iload (v := Int32.ofInt (n)) mi_165_23 (by simp [stL, stL2, lv_args, Value.category]) ?_
    refine V_cge mi_165_24 ⟨by omega, by omega⟩ ⟨by omega, by omega⟩ (fun q => ?_) (fun q => ?_)
    · exact V_retV mi_165_41 (kk ws hG hz hw (fun x hx => hn x (by omega)) ho)
    · exact absurd q (by omega)
  | m + 1, i, ws, hm, hG, hz, hw, hn, ho, kk => by
    refine V_iload (v := Int32.ofInt ((i : Int))) mi_165_21 (by simp [stL, stL2, lv_args, Value.category]) ?_
    refine V_iload (v := Int32.ofInt (n)) mi_165_23 (by simp [stL, stL2, lv_args, Value.category]) ?_
    refine V_cge mi_165_24 ⟨by omega, by omega⟩ ⟨by omega, by omega⟩ (fun q => ?_) (fun q => ?_)
    · exact absurd q (by omega)
    · refine V_aload (v := ad 39) mi_165_27 (by simp [stL, stL2, lv_args, Value.category]) ?_
      refine V_iload (v := Int32.ofInt ((j : Int))) mi_165_28 (by simp [stL, stL2, lv_args, Value.category]) ?_
      refine V_iload (v := Int32.ofInt ((i : Int))) mi_165_29 (by simp [stL, stL2, lv_args, Value.category]) ?_
      refine V_lpush mi_165_31 ?_
      refine V_cO (As := [.int (Int32.ofInt ((j : Int))), .int (Int32.ofInt ((i : Int))), .long (Int64.ofInt (0))]) (st := []) mi_165_32 (by omega) (by decide +kernel) (by decide +kernel) (by omega) g39o hG (setX_ct (j := j) (i := i) (z := n) (wd := wd) (v := Int64.ofInt 0) hG hj hz (by omega) (by omega) hw hwb) (by omega) (show 3 = mN 166 by decide +kernel) (by simp [Value.category]) ?_
      rintro r w1 ⟨rfl, G1, U1⟩
      rw [cut_z] at U1
      refine V_iinc (v := Int32.ofInt ((i : Int))) mi_165_35 (by simp [stL, stL2, lv_args, Value.category]) ?_
      rw [ia2]
      refine V_goto mi_165_38 ?_
      refine V_sub (lv' := [(0, .ref (ad 39)), (1, .int (Int32.ofInt ((j : Int)))), (2, .int (Int32.ofInt (wd))), (3, .int (Int32.ofInt (n))), (4, .int (Int32.ofInt (((i + 1 : Nat) : Int))))]) (fun q hq => ?_) ?_
      · simp only [List.mem_cons, List.not_mem_nil, or_false] at hq
        rcases hq with rfl | rfl | rfl | rfl | rfl <;> simp [stL, stL2, lv_args, Value.category]
      refine mkX_21 hj hwb nb m (i + 1) w1 (by omega) G1 ((upd_ne U1 (by omega)).trans hz) ((upd_ne U1 (by omega)).trans hw) (fun x hx => ?_) (fun c p h => (upd_ne U1 (by omega)).trans (ho c p h)) kk
      by_cases e : x = i
      · rw [e]
        exact upd_eq U1
      · exact (upd_ne U1 (by omega)).trans (hn x (by omega))
theorem mkX_ct {sz wds : Nat → Int} {nm : Nat → Int64} {j : Nat} {wd n : Int} (hG : GOK ad tys GG ws) (h : SLX sz wds nm ws) (b : SLB sz wds nm) (hj : j < 4) (hwb : 0 ≤ wd ∧ wd ≤ 3) (nb : 0 ≤ n ∧ n ≤ 60) : CT l D tys A 165 4 0 0 [.ref (ad 39), .int (Int32.ofInt ((j : Int))), .int (Int32.ofInt (wd)), .int (Int32.ofInt (n))] ws (fun r w => r = none ∧ GOK ad tys GG w ∧ SLX (updI sz j n) (updI wds j wd) (rowN nm j) w ∧ (∀ c p, ¬ (40 ≤ c ∧ c ≤ 42) → rd w c p = rd ws c p)) := by
  refine CT_of_V (by omega) (show (4 : Nat) ≤ mML 165 by decide +kernel) ?_
  obtain ⟨s42, e42, f42⟩ := a42
  obtain ⟨s41, e41, f41⟩ := a41
  refine V_aload (v := ad 39) mi_165_0 (by simp [stL, stL2, lv_args, Value.category]) ?_
  refine V_gR mi_165_1 g39r2 (by omega) hG ?_
  refine V_iload (v := Int32.ofInt ((j : Int))) mi_165_4 (by simp [stL, stL2, lv_args, Value.category]) ?_
  refine V_iload (v := Int32.ofInt (n)) mi_165_5 (by simp [stL, stL2, lv_args, Value.category]) ?_
  refine V_stat (As := [.ref (ad 42), .int (Int32.ofInt ((j : Int))), .int (Int32.ofInt (n))]) (st := []) mi_165_6 (by omega) (put_ct (j := j) hG e42 hj (by omega) (f42 j hj) (by rw [Int32.toInt_ofInt_of_le (by omega) (by omega)]; omega) (by rw [Int32.toInt_ofInt_of_le (by omega) (by omega)]; omega)) (by omega) (show 3 = mN 148 by decide +kernel) (by simp [Value.category]) ⟨Nat.le_refl _, Nat.le_refl _⟩ ?_
  rintro r w1 ⟨rfl, G1, U1⟩
  refine V_aload (v := ad 39) mi_165_9 (by simp [stL, stL2, lv_args, Value.category]) ?_
  refine V_gR mi_165_10 g39r1 (by omega) G1 ?_
  refine V_iload (v := Int32.ofInt ((j : Int))) mi_165_13 (by simp [stL, stL2, lv_args, Value.category]) ?_
  refine V_iload (v := Int32.ofInt (wd)) mi_165_14 (by simp [stL, stL2, lv_args, Value.category]) ?_
  refine V_stat (As := [.ref (ad 41), .int (Int32.ofInt ((j : Int))), .int (Int32.ofInt (wd))]) (st := []) mi_165_15 (by omega) (put_ct (j := j) G1 e41 hj (by omega) (f41 j hj) (by rw [Int32.toInt_ofInt_of_le (by omega) (by omega)]; omega) (by rw [Int32.toInt_ofInt_of_le (by omega) (by omega)]; omega)) (by omega) (show 3 = mN 148 by decide +kernel) (by simp [Value.category]) ⟨Nat.le_refl _, Nat.le_refl _⟩ ?_
  rintro r w2 ⟨rfl, G2, U2⟩
  refine V_ipush mi_165_18 ?_
  refine V_istore mi_165_19 ?_
  refine V_sub (lv' := [(0, .ref (ad 39)), (1, .int (Int32.ofInt ((j : Int)))), (2, .int (Int32.ofInt (wd))), (3, .int (Int32.ofInt (n))), (4, .int (Int32.ofInt (((0 : Nat) : Int))))]) (fun q hq => ?_) ?_
  · simp only [List.mem_cons, List.not_mem_nil, or_false] at hq
    rcases hq with rfl | rfl | rfl | rfl | rfl <;> simp [stL, stL2, lv_args, Value.category]
  refine mkX_21 (w0 := w2) hj hwb nb n.toNat 0 w2 (by omega) G2 ((upd_ne U2 (by omega)).trans (upd_eq U1)) (upd_eq U2) (fun x hx => absurd hx (by omega)) (fun _ _ _ => rfl) (fun w g hz hw hn ho => ⟨rfl, g, fun k hk => ?_, fun c p h => (ho c p (by omega)).trans ((upd_ne U2 (by omega)).trans (upd_ne U1 (by omega)))⟩)
  by_cases e : k = j
  · subst e
    rw [show updI sz k n k = n from if_pos rfl, show updI wds k wd k = wd from if_pos rfl]
    exact ⟨hz, hw, fun i hi => by rw [rowN_in (by omega)]; exact hn i hi⟩
  · rw [updI_ne e, updI_ne e]
    have g0 := h k hk
    have gb := b k hk
    exact ⟨(ho _ _ (by omega)).trans ((upd_ne U2 (by omega)).trans ((upd_ne U1 (by omega)).trans g0.1)), (ho _ _ (by omega)).trans ((upd_ne U2 (by omega)).trans ((upd_ne U1 (by omega)).trans g0.2.1)), fun i hi => by rw [rowN_out e (by omega)]; exact (ho _ _ (by omega)).trans ((upd_ne U2 (by omega)).trans ((upd_ne U1 (by omega)).trans (g0.2.2 i hi)))⟩
theorem rowX_ct {sz wds : Nat → Int} {nm : Nat → Int64} {s wd n : Int} (sI : I32 s) (wI : I32 wd) (nI : I32 n) (hG : GOK ad tys GG ws) (hS : SLX sz wds nm ws) (hB : SLB sz wds nm) : CT l D tys A 70 5 0 0 [.ref (ad 0), .int (Int32.ofInt (s)), .int (Int32.ofInt (wd)), .int (Int32.ofInt (n))] ws (fun r w => r = some (.int (Int32.ofInt (if ((0 ≤ s ∧ s < 4) ∧ (0 ≤ wd ∧ wd < 4) ∧ n ≤ 60) then (if n < 0 then -3 else 0) else -2))) ∧ GOK ad tys GG w ∧ ((((0 ≤ s ∧ s < 4) ∧ (0 ≤ wd ∧ wd < 4) ∧ n ≤ 60) ∧ 0 ≤ n → SLX (updI sz s.toNat n) (updI wds s.toNat wd) (rowN nm s.toNat) w) ∧ (¬ (((0 ≤ s ∧ s < 4) ∧ (0 ≤ wd ∧ wd < 4) ∧ n ≤ 60) ∧ 0 ≤ n) → w = ws)) ∧ (∀ c p, ¬ (40 ≤ c ∧ c ≤ 42) → rd w c p = rd ws c p)) := by
  refine CT_of_V (by omega) (show (4 : Nat) ≤ mML 70 by decide +kernel) ?_
  refine V_aload (v := ad 0) mi_70_0 (by simp [stL, stL2, lv_args, Value.category]) ?_
  refine V_gR mi_70_1 g0r7 (by omega) hG ?_
  refine V_iload (v := Int32.ofInt (s)) mi_70_4 (by simp [stL, stL2, lv_args, Value.category]) ?_
  refine V_cO (As := [.int (Int32.ofInt (s))]) (st := []) mi_70_5 (by omega) (by decide +kernel) (by decide +kernel) (by omega) g39o hG (hsX_ct sI) (by omega) (show 1 = mN 160 by decide +kernel) (by simp [Value.category]) ?_
  rintro r w1 ⟨rfl, rfl⟩
  refine V_beq mi_70_8  (fun c1 => ?_) (fun c1 => ?_)
  · refine V_ipush mi_70_26 ?_
    exact V_retI mi_70_28 (fun h => absurd h (by decide +kernel)) ⟨by rw [if_neg (fun k => of_decide_eq_false c1 k.1)], hG, ⟨fun k => absurd k (fun k => (fun k => of_decide_eq_false c1 k.1) k.1), fun _ => rfl⟩, fun _ _ _ => rfl⟩
  · refine V_iload (v := Int32.ofInt (wd)) mi_70_11 (by simp [stL, stL2, lv_args, Value.category]) ?_
    refine V_zlt mi_70_12 wI (fun q => ?_) (fun q => ?_)
    · refine V_ipush mi_70_26 ?_
      exact V_retI mi_70_28 (fun h => absurd h (by decide +kernel)) ⟨by rw [if_neg (fun k => by have := k.2.1; omega)], hG, ⟨fun k => absurd k (fun k => (fun k => by have := k.2.1; omega) k.1), fun _ => rfl⟩, fun _ _ _ => rfl⟩
    · refine V_iload (v := Int32.ofInt (wd)) mi_70_15 (by simp [stL, stL2, lv_args, Value.category]) ?_
      refine V_ipush mi_70_16 ?_
      refine V_cge mi_70_17 wI ⟨by omega, by omega⟩ (fun q2 => ?_) (fun q2 => ?_)
      · refine V_ipush mi_70_26 ?_
        exact V_retI mi_70_28 (fun h => absurd h (by decide +kernel)) ⟨by rw [if_neg (fun k => by have := k.2.1; omega)], hG, ⟨fun k => absurd k (fun k => (fun k => by have := k.2.1; omega) k.1), fun _ => rfl⟩, fun _ _ _ => rfl⟩
      · refine V_iload (v := Int32.ofInt (n)) mi_70_20 (by simp [stL, stL2, lv_args, Value.category]) ?_
        refine V_ipush mi_70_21 ?_
        refine V_cle mi_70_23 nI ⟨by omega, by omega⟩ (fun q3 => ?_) (fun q3 => ?_)
        · refine V_iload (v := Int32.ofInt (n)) mi_70_29 (by simp [stL, stL2, lv_args, Value.category]) ?_
          refine V_zge mi_70_30 nI (fun q4 => ?_) (fun q4 => ?_)
          · have k1 := of_decide_eq_true c1
            obtain ⟨j, rfl⟩ := Int.eq_ofNat_of_zero_le k1.1
            refine V_aload (v := ad 0) mi_70_36 (by simp [stL, stL2, lv_args, Value.category]) ?_
            refine V_gR mi_70_37 g0r7 (by omega) hG ?_
            refine V_iload (v := Int32.ofInt ((j : Int))) mi_70_40 (by simp [stL, stL2, lv_args, Value.category]) ?_
            refine V_iload (v := Int32.ofInt (wd)) mi_70_41 (by simp [stL, stL2, lv_args, Value.category]) ?_
            refine V_iload (v := Int32.ofInt (n)) mi_70_42 (by simp [stL, stL2, lv_args, Value.category]) ?_
            refine V_cO (As := [.int (Int32.ofInt ((j : Int))), .int (Int32.ofInt (wd)), .int (Int32.ofInt (n))]) (st := []) mi_70_43 (by omega) (by decide +kernel) (by decide +kernel) (by omega) g39o hG (mkX_ct (j := j) (wd := wd) (n := n) hG hS hB (by omega) (by omega) (by omega)) (by omega) (show 3 = mN 165 by decide +kernel) (by simp [Value.category]) ?_
            rintro r w5 ⟨rfl, G5, S5, O5⟩
            refine V_ipush mi_70_46 ?_
            exact V_retI mi_70_47 (fun h => absurd h (by decide +kernel)) ⟨by rw [if_pos ⟨k1, ⟨by omega, by omega⟩, by omega⟩, if_neg (by omega)], G5, ⟨fun _ => by rw [Int.toNat_natCast]; exact S5, fun k => absurd ⟨⟨k1, ⟨by omega, by omega⟩, by omega⟩, by omega⟩ k⟩, O5⟩
          · refine V_ipush mi_70_33 ?_
            exact V_retI mi_70_35 (fun h => absurd h (by decide +kernel)) ⟨by rw [if_pos ⟨of_decide_eq_true c1, ⟨by omega, by omega⟩, by omega⟩, if_pos q4], hG, ⟨fun k => absurd k.2 (by omega), fun _ => rfl⟩, fun _ _ _ => rfl⟩
        · refine V_ipush mi_70_26 ?_
          exact V_retI mi_70_28 (fun h => absurd h (by decide +kernel)) ⟨by rw [if_neg (fun k => by have := k.2.2; omega)], hG, ⟨fun k => absurd k (fun k => (fun k => by have := k.2.2; omega) k.1), fun _ => rfl⟩, fun _ _ _ => rfl⟩
end XVB
end
