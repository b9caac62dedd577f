section
section XHE
variable {l : Launch} {D : va_G} {tys : List (ClassId × FieldType)} {A : Nat → Prop} {ad : Nat → Nat} {ws : va_W}
/-- the same hill stands on both sides; the same images are kept -/
noncomputable def HIL (w : va_W) : Prop := ∃ G : Nat → Int, hOK G ∧ HX 4 G w ∧ W91 G w
noncomputable def IMG (q : Nat) (w : va_W) : Prop := ∃ G : Nat → Int, hOK G ∧ HX (54 + 12 * q) G w ∧ ∀ j, j < 294 → rd w 92 (294 * q + j) = some (.int (Int32.ofInt (G j)))
noncomputable def IMGS (w : va_W) : Prop := ∃ z : Nat, z < 8 ∧ rd w 0 12 = some (.int (Int32.ofInt (z : Int))) ∧ ∀ q, q < 3 → rd w 93 q = some (.int (bI (z.testBit q))) ∧ (z.testBit q = true → IMG q w)
noncomputable def RELH (w : va_W) : Prop := (TAPE w ∧ FLT w) ∧ HIL w ∧ IMGS w
theorem hil_keep {w0 w : va_W} (h : HIL w0) (k : ∀ c, 4 ≤ c → c ≤ 15 → ∀ j, rd w c j = rd w0 c j) (k2 : ∀ j, rd w 91 j = rd w0 91 j) : HIL w := by
  obtain ⟨G, o, x, y⟩ := h
  exact ⟨G, o, HX_keep x (fun c i h1 h2 => k c h1 (by omega) i), fun j hj => (k2 j).trans (y j hj)⟩
theorem img_keep {q : Nat} {w0 w : va_W} (h : IMG q w0) (k : ∀ c, 54 + 12 * q ≤ c → c < 66 + 12 * q → ∀ j, rd w c j = rd w0 c j) (k2 : ∀ j, 294 * q ≤ j → j < 294 * q + 294 → rd w 92 j = rd w0 92 j) : IMG q w := by
  obtain ⟨G, o, x, y⟩ := h
  exact ⟨G, o, HX_keep x (fun c i h1 h2 => k c h1 (by omega) i), fun j hj => (k2 _ (by omega) (by omega)).trans (y j hj)⟩
theorem imgs_keep {w0 w : va_W} (h : IMGS w0) (k0 : rd w 0 12 = rd w0 0 12) (k : ∀ c, 54 ≤ c → c ≤ 89 → ∀ j, rd w c j = rd w0 c j) (k2 : ∀ j, rd w 92 j = rd w0 92 j) (k3 : ∀ j, rd w 93 j = rd w0 93 j) : IMGS w := by
  obtain ⟨z, z8, hz, hq⟩ := h
  exact ⟨z, z8, k0.trans hz, fun q q3 => ⟨(k3 q).trans (hq q q3).1, fun hb => img_keep ((hq q q3).2 hb) (fun c h1 h2 => k c (by omega) (by omega)) (fun j _ _ => k2 j)⟩⟩
theorem relh_keep {w0 w : va_W} (h : RELH w0) (k : ∀ c, c ≤ 15 ∨ (54 ≤ c ∧ c ≤ 89) ∨ (91 ≤ c ∧ c ≤ 94) → ∀ j, rd w c j = rd w0 c j) (k2 : ∀ j, spK j → rd w 90 j = rd w0 90 j) : RELH w :=
  ⟨relf_keep h.1 (fun c hc j => k c (by omega) j) k2, hil_keep h.2.1 (fun c h1 h2 => k c (by omega)) (k 91 (by omega)), imgs_keep h.2.2 (k 0 (by omega) 12) (fun c h1 h2 => k c (by omega)) (k 92 (by omega)) (k 93 (by omega))⟩
theorem oi (a : Int32) : Int32.ofInt a.toInt = a := Int32.ofInt_toInt a
theorem three {a : Int32} (h : 0 ≤ a.toInt ∧ a.toInt ≤ 2) : a = Int32.ofInt 0 ∨ a = Int32.ofInt 1 ∨ a = Int32.ofInt 2 := by
  rcases (show a.toInt = 0 ∨ a.toInt = 1 ∨ a.toInt = 2 by omega) with e | e | e
  · exact Or.inl (by rw [← oi a, e])
  · exact Or.inr (Or.inl (by rw [← oi a, e]))
  · exact Or.inr (Or.inr (by rw [← oi a, e]))
theorem imgs_new {q z : Nat} {w0 w1 w2 : va_W} {G : Nat → Int} (q3 : q < 3) (z8 : z < 8) (hR : RELH w0) (o : hOK G) (hW : W91 G w0) (hX : HX 4 G w0) (hq : ∀ p, p < 3 → rd w0 93 p = some (.int (bI (z.testBit p))) ∧ (z.testBit p = true → IMG p w0)) (hx : (∀ c i, ¬ (54 + 12 * q ≤ c ∧ c ≤ 65 + 12 * q) → ¬ (c = 0 ∧ i = 12) → rd w1 c i = rd w0 c i) ∧ rd w1 0 12 = some (.int (Int32.ofInt ((z ||| 1 <<< q : Nat) : Int))) ∧ HX (54 + 12 * q) G w1) (hm : (∀ c j, ¬ (c = 92 ∧ 294 * q ≤ j ∧ j < 294 * q + 294) → ¬ (c = 93 ∧ j = q) → rd w2 c j = rd w1 c j) ∧ (∀ j, j < 294 → rd w2 92 (294 * q + j) = rd w1 91 j) ∧ rd w2 93 q = some (.int (Int32.ofInt 1))) : RELH w2 := by
  obtain ⟨x1, x2, x3⟩ := hx
  obtain ⟨m1, m2, m3⟩ := hm
  obtain ⟨-, k2, -, k4⟩ := kep_k z8 q3
  have oo : ∀ c j, ¬ (54 ≤ c ∧ c ≤ 89) → c ≠ 92 → c ≠ 93 → c ≠ 0 → rd w2 c j = rd w0 c j := fun c j h1 h2 h3 h4 => (m1 c j (by omega) (by omega)).trans (x1 c j (by omega) (by omega))
  refine ⟨relf_keep hR.1 (fun c hc j => oo c j (by omega) (by omega) (by omega) (by omega)) (fun j _ => oo _ _ (by omega) (by omega) (by omega) (by omega)), hil_keep hR.2.1 (fun c h1 h2 j => oo c j (by omega) (by omega) (by omega) (by omega)) (fun j => oo _ _ (by omega) (by omega) (by omega) (by omega)), z ||| 1 <<< q, k2, (m1 _ _ (by omega) (by omega)).trans x2, fun p p3 => ?_⟩
  rw [k4 p p3]
  by_cases e : p = q
  · subst e
    rw [Nat.beq_refl, Bool.or_true]
    refine ⟨m3, fun _ => ⟨G, o, HX_keep x3 (fun c i h1 h2 => m1 c i (by omega) (by omega)), fun j hj => ?_⟩⟩
    rw [m2 j hj, x1 _ _ (by omega) (by omega)]
    exact hW j hj
  · have eb : Nat.beq p q = false := by
      cases h : Nat.beq p q
      · rfl
      · exact absurd (Nat.eq_of_beq_eq_true h) e
    rw [eb, Bool.or_false]
    refine ⟨(m1 _ _ (by omega) (by omega)).trans ((x1 _ _ (by omega) (by omega)).trans (hq p p3).1), fun hb => img_keep ((hq p p3).2 hb) (fun c h1 h2 j => (m1 c j (by omega) (by omega)).trans (x1 c j (by omega) (by omega))) (fun j h1 h2 => (m1 _ _ (by omega) (by omega)).trans (x1 _ _ (by omega) (by omega)))⟩
theorem img_some {q z : Nat} {w : va_W} (h : z.testBit q = true → IMG q w) : ∃ G0 : Nat → Int, z.testBit q = true → HX (54 + 12 * q) G0 w := by
  by_cases k : z.testBit q = true
  · obtain ⟨G, o, x, y⟩ := h k
    exact ⟨G, fun _ => x⟩
  · exact ⟨fun _ => 0, fun q => absurd q k⟩
theorem endG_ok {x : TS × (Nat → Int) × (Nat → Int)} (h1 : frB x.2.1) (h2 : tdOK x.2.2) : hOK (endG x) := fun j hj => by
  unfold endG fx
  split
  · next q =>
    have b := sprV_bd h2 (f := (j - 102) / 24) (by omega) (m := (j - 102) % 24 + 1) (by omega)
    unfold sprT
    exact ⟨by omega, by omega⟩
  · have := h1 j hj
    exact ⟨by omega, by omega⟩
end XHE
end
section
section XHF
variable {l : Launch} {D : va_G} {tys : List (ClassId × FieldType)} {A : Nat → Prop} {ad : Nat → Nat} {ws : va_W}
theorem or0 (s : Int32) : ibF 6 s (Int32.ofInt 0) = s := by
  show s ||| 0 = s
  exact Int32.or_zero
noncomputable def meP (G : Nat → Int) (f o h : Nat) : Bool := decide (G (102 + (24 * f + h)) = G (102 + (24 * o + h)))
theorem mmt_ct {G : Nat → Int} (hG : GOK ad tys GG ws) (hW : W91 G ws) (hB : HB G) {f o h : Nat} (hf : f < 6) (ho : o < 6) (hh : h < 24) : CT l D tys A 264 1 0 0 [.ref (ad 90), .int (Int32.ofInt ((f : Int))), .int (Int32.ofInt ((o : Int))), .int (Int32.ofInt ((h : Int)))] ws (fun r w => w = ws ∧ r = some (.int (bI (meP G f o h)))) := by
  refine CT_of_V (by omega) (show (4 : Nat) ≤ mML 264 by decide +kernel) ?_
  refine V_aload (v := ad 90) mi_264_0 (by simp [stL, lv_args, Value.category]) ?_
  refine V_iload (v := Int32.ofInt ((f : Int))) mi_264_1 (by simp [stL, lv_args, Value.category]) ?_
  refine V_iload (v := Int32.ofInt ((h : Int))) mi_264_2 (by simp [stL, lv_args, Value.category]) ?_
  refine V_callM (As := [.int (Int32.ofInt ((f : Int))), .int (Int32.ofInt ((h : Int)))]) (st := []) mi_264_3 (by omega) (by decide +kernel) (by decide +kernel) hG (mpl_ct (f := f) (h := h) hG hW hB hf hh) (by omega) (show 2 = mN 207 by decide +kernel) (by simp [Value.category]) ?_
  rintro r w1 ⟨rfl, rfl⟩
  refine V_aload (v := ad 90) mi_264_6 (by simp [stL, lv_args, Value.category]) ?_
  refine V_iload (v := Int32.ofInt ((o : Int))) mi_264_7 (by simp [stL, lv_args, Value.category]) ?_
  refine V_iload (v := Int32.ofInt ((h : Int))) mi_264_8 (by simp [stL, lv_args, Value.category]) ?_
  refine V_callM (As := [.int (Int32.ofInt ((o : Int))), .int (Int32.ofInt ((h : Int)))]) (st := [.int (Int32.ofInt (G (102 + (24 * f + h))))]) mi_264_9 (by omega) (by decide +kernel) (by decide +kernel) hG (mpl_ct (f := o) (h := h) hG hW hB ho hh) (by omega) (show 2 = mN 207 by decide +kernel) (by simp [Value.category]) ?_
  rintro r w2 ⟨rfl, rfl⟩
  have p1 := hB.bp (24 * f + h) (by omega)
  have p2 := hB.bp (24 * o + h) (by omega)
  refine V_cne mi_264_12 ⟨by omega, by omega⟩ ⟨by omega, by omega⟩ (fun q => ?_) (fun q => ?_)
  · refine V_ipush mi_264_19 ?_
    refine V_retI mi_264_20 (fun _ => by decide) ⟨rfl, ?_⟩
    unfold meP
    rw [decide_eq_false q]
    rfl
  · refine V_ipush mi_264_15 ?_
    refine V_goto mi_264_16 ?_
    refine V_retI mi_264_20 (fun _ => by decide) ⟨rfl, ?_⟩
    unfold meP
    rw [decide_eq_true q]
    rfl
end XHF
end
section
section XSA
variable {l : Launch} {D : va_G} {tys : List (ClassId × FieldType)} {A : Nat → Prop} {ad : Nat → Nat} {ws : va_W}
theorem gr16 : ∃ g, GG[90]? = some ((0, 11, 36), g) ∧ segAt g 16 = some (2, ((98 : Nat) : Int), ((98 : Nat) : Int)) := ⟨_, rfl, by decide +kernel⟩
theorem gr17 : ∃ g, GG[90]? = some ((0, 11, 36), g) ∧ segAt g 17 = some (2, ((99 : Nat) : Int), ((99 : Nat) : Int)) := ⟨_, rfl, by decide +kernel⟩
theorem gr19 : ∃ g, GG[90]? = some ((0, 11, 36), g) ∧ segAt g 19 = some (2, ((100 : Nat) : Int), ((100 : Nat) : Int)) := ⟨_, rfl, by decide +kernel⟩
theorem gr20 : ∃ g, GG[90]? = some ((0, 11, 36), g) ∧ segAt g 20 = some (2, ((101 : Nat) : Int), ((101 : Nat) : Int)) := ⟨_, rfl, by decide +kernel⟩
theorem a98 : gA 98 900 0 63 := gA_of rfl
theorem a99 : gA 99 36 0 63 := gA_of rfl
theorem a100 : gA 100 12 0 63 := gA_of rfl
theorem a101 : gA 101 12 0 63 := gA_of rfl
/-- bit i of a -/
noncomputable def tb (a i : Int) : Bool := decide ((ibF 5 (ibF 9 (Int32.ofInt a) (Int32.ofInt i)) (Int32.ofInt 1)).toInt = 1)
theorem tb_all : (List.range 64).all (fun a => (List.range 6).all (fun i => decide (ibF 5 (ibF 9 (Int32.ofInt (a : Nat)) (Int32.ofInt (i : Nat))) (Int32.ofInt 1) = bI (tb (a : Nat) (i : Nat))) && (!(tb (a : Nat) (i : Nat)) || decide (bitO (a : Nat) (i : Nat) = (a : Nat))) && decide (ibF 5 (Int32.ofInt (a : Nat)) (ibF 8 (Int32.ofInt 1) (Int32.ofInt (i : Nat))) = 0 ↔ tb (a : Nat) (i : Nat) = false))) = true := by decide +kernel
theorem tb_k {a i : Int} (a0 : 0 ≤ a) (a1 : a ≤ 63) (i0 : 0 ≤ i) (i1 : i ≤ 5) : ibF 5 (ibF 9 (Int32.ofInt a) (Int32.ofInt i)) (Int32.ofInt 1) = bI (tb a i) ∧ (tb a i = true → bitO a i = a) ∧ (ibF 5 (Int32.ofInt a) (ibF 8 (Int32.ofInt 1) (Int32.ofInt i)) = 0 ↔ tb a i = false) := by
  have h := List.all_eq_true.mp (List.all_eq_true.mp tb_all a.toNat (List.mem_range.mpr (by omega))) i.toNat (List.mem_range.mpr (by omega))
  rw [Int.toNat_of_nonneg a0, Int.toNat_of_nonneg i0, Bool.and_eq_true, Bool.and_eq_true, decide_eq_true_eq, decide_eq_true_eq] at h
  obtain ⟨⟨h1, h2⟩, h3⟩ := h
  refine ⟨h1, fun q => ?_, h3⟩
  rw [q, Bool.not_true, Bool.false_or, decide_eq_true_eq] at h2
  exact h2
theorem bitO_i (a i : Int) : ibF 6 (Int32.ofInt a) (ibF 8 (Int32.ofInt 1) (Int32.ofInt i)) = Int32.ofInt (bitO a i) := by
  unfold bitO
  rw [Int32.ofInt_toInt]
/-- those below n that P holds of, as bits -/
noncomputable def orI (P : Nat → Bool) : Nat → Int
  | 0 => 0
  | f + 1 => if P f = true then bitO (orI P f) (f : Int) else orI P f
theorem orI_bd {P : Nat → Bool} : ∀ {f : Nat}, f ≤ 6 → 0 ≤ orI P f ∧ orI P f ≤ 63
  | 0, _ => ⟨by show (0 : Int) ≤ 0; omega, by show (0 : Int) ≤ 63; omega⟩
  | f + 1, h => by
    have q := orI_bd (P := P) (f := f) (by omega)
    unfold orI
    split
    · exact bitO_bd q.1 q.2 (by omega) (by omega)
    · exact q
noncomputable def sWho (G : Nat → Int) (s : Nat) : Nat := (G (246 + 4 * s)).toNat
noncomputable def sWhs (G : Nat → Int) (s : Nat) : Nat := (G (246 + 4 * s + 1)).toNat
noncomputable def sWhi (G : Nat → Int) (s : Nat) : Nat := (G (246 + 4 * s + 2)).toNat
noncomputable def sWhn (G : Nat → Int) (s : Nat) : Nat := (G (246 + 4 * s + 3)).toNat
/-- who is there when it is said, but for the one who says it -/
noncomputable def preP (G : Nat → Int) (s f : Nat) : Bool := !(Nat.beq f (sWho G s)) && decide (G (102 + (24 * f + sWhn G s)) = G (102 + (24 * sWho G s + sWhn G s)))
noncomputable def lrnP (G K : Nat → Int) (s f : Nat) : Bool := preP G s f && !(tb (K (6 * f + sWhs G s)) (sWhi G s : Int))
noncomputable def canB (G K : Nat → Int) (s : Nat) : Bool := tb (K (6 * sWho G s + sWhs G s)) (sWhi G s : Int)
/-- what is known once the first n folk have heard it -/
noncomputable def spQ (G : Nat → Int) (s n : Nat) (K : Nat → Int) (j : Nat) : Int := if j % 6 = sWhs G s ∧ j / 6 < n ∧ preP G s (j / 6) = true then bitO (K j) (sWhi G s : Int) else K j
noncomputable def kOK (K : Nat → Int) : Prop := ∀ j, j < 36 → 0 ≤ K j ∧ K j ≤ 63
theorem say_b {G : Nat → Int} (hB : HB G) {s : Nat} (hs : s < 12) : (sWho G s < 6 ∧ sWhs G s < 6 ∧ sWhi G s < 6 ∧ sWhn G s < 24) ∧ G (246 + 4 * s) = (sWho G s : Int) ∧ G (246 + 4 * s + 1) = (sWhs G s : Int) ∧ G (246 + 4 * s + 2) = (sWhi G s : Int) ∧ G (246 + 4 * s + 3) = (sWhn G s : Int) := by
  obtain ⟨b0, b1, b2, b3⟩ := hB.by_ s hs
  unfold sWho sWhs sWhi sWhn
  omega
theorem spK_skip {G K : Nat → Int} {s n : Nat} (h : preP G s n = false) : spQ G s (n + 1) K = spQ G s n K := by
  funext j
  unfold spQ
  by_cases e : j / 6 = n
  · rw [if_neg (fun q => by rw [e, h] at q; exact absurd q.2.2 Bool.false_ne_true), if_neg (fun q => by omega)]
  · by_cases q : j % 6 = sWhs G s ∧ j / 6 < n ∧ preP G s (j / 6) = true
    · rw [if_pos q, if_pos ⟨q.1, by omega, q.2.2⟩]
    · rw [if_neg q, if_neg (fun u => q ⟨u.1, by omega, u.2.2⟩)]
theorem spK_step {G K : Nat → Int} {s n : Nat} (h : preP G s n = true) (hw : sWhs G s < 6) : spQ G s (n + 1) K = updI (spQ G s n K) (6 * n + sWhs G s) (bitO (K (6 * n + sWhs G s)) (sWhi G s : Int)) := by
  funext j
  show (if j % 6 = sWhs G s ∧ j / 6 < n + 1 ∧ preP G s (j / 6) = true then bitO (K j) (sWhi G s : Int) else K j) = (if j = 6 * n + sWhs G s then _ else (if j % 6 = sWhs G s ∧ j / 6 < n ∧ preP G s (j / 6) = true then bitO (K j) (sWhi G s : Int) else K j))
  by_cases e : j = 6 * n + sWhs G s
  · have e2 : j / 6 = n := by omega
    have e3 : j % 6 = sWhs G s := by omega
    rw [if_pos e, if_pos ⟨e3, by omega, by rw [e2]; exact h⟩, e]
  · rw [if_neg e]
    by_cases q : j % 6 = sWhs G s ∧ j / 6 < n ∧ preP G s (j / 6) = true
    · rw [if_pos q, if_pos ⟨q.1, by omega, q.2.2⟩]
    · rw [if_neg q, if_neg (fun u => q ⟨u.1, by omega, u.2.2⟩)]
theorem spK_new {G K : Nat → Int} {s n : Nat} (hw : sWhs G s < 6) : spQ G s n K (6 * n + sWhs G s) = K (6 * n + sWhs G s) := by
  unfold spQ
  rw [if_neg (fun q => by omega)]
theorem spK_0 {G K : Nat → Int} {s : Nat} : spQ G s 0 K = K := by
  funext j
  unfold spQ
  rw [if_neg (fun q => by omega)]
theorem spK_ok {G K : Nat → Int} {s n : Nat} (h : kOK K) (hi : sWhi G s < 6) : kOK (spQ G s n K) := fun j hj => by
  have b := h j hj
  unfold spQ
  split
  · exact bitO_bd b.1 b.2 (by omega) (by omega)
  · exact b
theorem hea_ct {f s : Nat} (hf : f < 6) (hs : s < 12) (hG : GOK ad tys GG ws) (h24 : rd ws 90 24 = some (.int (Int32.ofInt 0))) (h22 : rd ws 90 22 = some (.int (Int32.ofInt (-1)))) : CT l D tys A 235 1 0 0 [.ref (ad 90), .int (Int32.ofInt ((f : Int))), .int (Int32.ofInt ((s : Int)))] ws (fun r w => w = ws ∧ r = some (.int (bI true))) := by
  refine CT_of_V (by omega) (show (3 : Nat) ≤ mML 235 by decide +kernel) ?_
  refine V_aload (v := ad 90) mi_235_0 (by simp [stL, lv_args, Value.category]) ?_
  refine V_getI mi_235_1 hG (h24) ?_
  refine V_zeq mi_235_4 ⟨by omega, by omega⟩ (fun q => ?_) (fun q => ?_)
  · refine V_iload (v := Int32.ofInt ((f : Int))) mi_235_29 (by simp [stL, lv_args, Value.category]) ?_
    refine V_aload (v := ad 90) mi_235_30 (by simp [stL, lv_args, Value.category]) ?_
    refine V_getI mi_235_31 hG (h22) ?_
    refine V_cne mi_235_34 ⟨by omega, by omega⟩ ⟨by omega, by omega⟩ (fun q2 => ?_) (fun q2 => ?_)
    · refine V_ipush mi_235_48 ?_
      refine V_goto mi_235_49 ?_
      exact V_retI mi_235_53 (fun _ => by decide) ⟨rfl, rfl⟩
    · exact absurd q2 (by omega)
  · exact absurd rfl q
theorem sy_77 {G K : Nat → Int} {s : Nat} {w0 : va_W} {post : Option Value → va_W → Prop} (hB : HB G) (hs : s < 12) (hW0 : W91 G w0) (h24 : rd w0 90 24 = some (.int (Int32.ofInt 0))) (h22 : rd w0 90 22 = some (.int (Int32.ofInt (-1)))) : ∀ (m f : Nat) (w : va_W), ((f + m : Nat) : Int) = G 3 → GOK ad tys GG w → (∀ j, j < 36 → rd w 99 j = some (.int (Int32.ofInt (spQ G s f K j)))) → rd w 100 s = some (.int (Int32.ofInt (orI (preP G s) f))) → rd w 101 s = some (.int (Int32.ofInt (orI (lrnP G K s) f))) → (∀ c j, c ≠ 99 → ¬ (c = 100 ∧ j = s) → ¬ (c = 101 ∧ j = s) → rd w c j = rd w0 c j) → kOK K → (∀ w' : va_W, GOK ad tys GG w' → (∀ j, j < 36 → rd w' 99 j = some (.int (Int32.ofInt (spQ G s (G 3).toNat K j)))) → rd w' 100 s = some (.int (Int32.ofInt (orI (preP G s) (G 3).toNat))) → rd w' 101 s = some (.int (Int32.ofInt (orI (lrnP G K s) (G 3).toNat))) → (∀ c j, c ≠ 99 → ¬ (c = 100 ∧ j = s) → ¬ (c = 101 ∧ j = s) → rd w' c j = rd w0 c j) → post none w') → V l D tys A 236 5 0 0 post 0 0 77 [(0, .ref (ad 90)), (1, .int (Int32.ofInt (s : Int))), (2, .int (Int32.ofInt (sWho G s : Int))), (3, .int (Int32.ofInt (sWhs G s : Int))), (4, .int (Int32.ofInt (sWhi G s : Int))), (5, .int (Int32.ofInt (sWhn G s : Int))), (6, .int (Int32.ofInt (f : Int)))] [] w
  | 0, f, w, hm, hG, hK, hh, hl, ho, hk, kk => by
    obtain ⟨s91, e91, -⟩ := g91s
    have b3 := hB.b3
    have hW : W91 G w := fun j hj => (ho 91 j (by omega) (by omega) (by omega)).trans (hW0 j hj)
    refine V_iload (v := Int32.ofInt ((f : Int))) mi_236_77 (by simp [stL, lv_args, Value.category]) ?_
    refine V_aload (v := ad 90) mi_236_79 (by simp [stL, lv_args, Value.category]) ?_
    refine V_getI mi_236_80 hG (rref gr1m (by omega) hG) ?_
    refine V_ipush mi_236_83 ?_
    refine V_aldX (j := 3) mi_236_84 rfl hG e91 (by omega) (by omega) (hW _ (by omega)) ?_
    refine V_cge mi_236_85 ⟨by omega, by omega⟩ ⟨by omega, by omega⟩ (fun q => ?_) (fun q => ?_)
    · have e : f = (G 3).toNat := by omega
      subst e
      exact V_retV mi_236_200 (kk w hG hK hh hl ho)
    · exact absurd q (by omega)
  | m + 1, f, w, hm, hG, hK, hh, hl, ho, hk, kk => by
    obtain ⟨s91, e91, -⟩ := g91s
    have b3 := hB.b3
    obtain ⟨⟨w6, o6, i6, n24⟩, -⟩ := say_b hB hs
    have hW : W91 G w := fun j hj => (ho 91 j (by omega) (by omega) (by omega)).trans (hW0 j hj)
    refine V_iload (v := Int32.ofInt ((f : Int))) mi_236_77 (by simp [stL, lv_args, Value.category]) ?_
    refine V_aload (v := ad 90) mi_236_79 (by simp [stL, lv_args, Value.category]) ?_
    refine V_getI mi_236_80 hG (rref gr1m (by omega) hG) ?_
    refine V_ipush mi_236_83 ?_
    refine V_aldX (j := 3) mi_236_84 rfl hG e91 (by omega) (by omega) (hW _ (by omega)) ?_
    refine V_cge mi_236_85 ⟨by omega, by omega⟩ ⟨by omega, by omega⟩ (fun q => ?_) (fun q => ?_)
    · exact absurd q (by omega)
    · refine V_iload (v := Int32.ofInt ((f : Int))) mi_236_88 (by simp [stL, lv_args, Value.category]) ?_
      refine V_iload (v := Int32.ofInt ((sWho G s : Int))) mi_236_90 (by simp [stL, lv_args, Value.category]) ?_
      refine V_ceq mi_236_91 ⟨by omega, by omega⟩ ⟨by omega, by omega⟩ (fun q2 => ?_) (fun q2 => ?_)
      · refine V_iinc (v := Int32.ofInt ((f : Int))) mi_236_194 (by simp [stL, lv_args, Value.category]) ?_
        rw [ia2]
        refine V_goto mi_236_197 ?_
        refine V_sub (lv' := [(0, .ref (ad 90)), (1, .int (Int32.ofInt (s : Int))), (2, .int (Int32.ofInt (sWho G s : Int))), (3, .int (Int32.ofInt (sWhs G s : Int))), (4, .int (Int32.ofInt (sWhi G s : Int))), (5, .int (Int32.ofInt (sWhn G s : Int))), (6, .int (Int32.ofInt ((f + 1 : Nat) : Int)))]) (fun q hq => ?_) ?_
        · simp only [List.mem_cons, List.not_mem_nil, or_false] at hq
          rcases hq with rfl | rfl | rfl | rfl | rfl | rfl | rfl <;> simp [stL, lv_args, Value.category]
        have pf : preP G s f = false := by unfold preP; rw [show f = sWho G s by omega, Nat.beq_refl]; rfl
        have lf : lrnP G K s f = false := by unfold lrnP; rw [pf, Bool.false_and]
        exact sy_77 hB hs hW0 h24 h22 m (f + 1) w (by omega) hG (by rw [spK_skip pf]; exact hK) (by unfold orI; rw [pf, if_neg Bool.false_ne_true]; exact hh) (by unfold orI; rw [lf, if_neg Bool.false_ne_true]; exact hl) ho hk kk
      · have nb : Nat.beq f (sWho G s) = false := by
          cases h : Nat.beq f (sWho G s)
          · rfl
          · exact absurd (by rw [Nat.eq_of_beq_eq_true h]) q2
        refine V_aload (v := ad 90) mi_236_94 (by simp [stL, lv_args, Value.category]) ?_
        refine V_iload (v := Int32.ofInt ((f : Int))) mi_236_95 (by simp [stL, lv_args, Value.category]) ?_
        refine V_iload (v := Int32.ofInt ((sWhn G s : Int))) mi_236_97 (by simp [stL, lv_args, Value.category]) ?_
        refine V_callM (As := [.int (Int32.ofInt ((f : Int))), .int (Int32.ofInt ((sWhn G s : Int)))]) (st := []) mi_236_99 (by omega) (by decide +kernel) (by decide +kernel) hG (mpl_ct (f := f) (h := sWhn G s) hG hW hB (by omega) n24) (by omega) (show 2 = mN 207 by decide +kernel) (by simp [Value.category]) ?_
        rintro r w1 ⟨e1, rfl⟩
        rw [e1]
        refine V_aload (v := ad 90) mi_236_102 (by simp [stL, lv_args, Value.category]) ?_
        refine V_iload (v := Int32.ofInt ((sWho G s : Int))) mi_236_103 (by simp [stL, lv_args, Value.category]) ?_
        refine V_iload (v := Int32.ofInt ((sWhn G s : Int))) mi_236_104 (by simp [stL, lv_args, Value.category]) ?_
        refine V_callM (As := [.int (Int32.ofInt ((sWho G s : Int))), .int (Int32.ofInt ((sWhn G s : Int)))]) (st := [.int (Int32.ofInt (G (102 + (24 * f + sWhn G s))))]) mi_236_106 (by omega) (by decide +kernel) (by decide +kernel) hG (mpl_ct (f := sWho G s) (h := sWhn G s) hG hW hB w6 n24) (by omega) (show 2 = mN 207 by decide +kernel) (by simp [Value.category]) ?_
        rintro r w2 ⟨e2, rfl⟩
        rw [e2]
        have p1 := hB.bp (24 * f + sWhn G s) (by omega)
        have p2 := hB.bp (24 * sWho G s + sWhn G s) (by omega)
        refine V_cne mi_236_109 ⟨by omega, by omega⟩ ⟨by omega, by omega⟩ (fun q3 => ?_) (fun q3 => ?_)
        · refine V_iinc (v := Int32.ofInt ((f : Int))) mi_236_194 (by simp [stL, lv_args, Value.category]) ?_
          rw [ia2]
          refine V_goto mi_236_197 ?_
          refine V_sub (lv' := [(0, .ref (ad 90)), (1, .int (Int32.ofInt (s : Int))), (2, .int (Int32.ofInt (sWho G s : Int))), (3, .int (Int32.ofInt (sWhs G s : Int))), (4, .int (Int32.ofInt (sWhi G s : Int))), (5, .int (Int32.ofInt (sWhn G s : Int))), (6, .int (Int32.ofInt ((f + 1 : Nat) : Int)))]) (fun q hq => ?_) ?_
          · simp only [List.mem_cons, List.not_mem_nil, or_false] at hq
            rcases hq with rfl | rfl | rfl | rfl | rfl | rfl | rfl <;> simp [stL, lv_args, Value.category]
          have pf : preP G s f = false := by unfold preP; rw [decide_eq_false q3, Bool.and_false]
          have lf : lrnP G K s f = false := by unfold lrnP; rw [pf, Bool.false_and]
          exact sy_77 hB hs hW0 h24 h22 m (f + 1) w (by omega) hG (by rw [spK_skip pf]; exact hK) (by unfold orI; rw [pf, if_neg Bool.false_ne_true]; exact hh) (by unfold orI; rw [lf, if_neg Bool.false_ne_true]; exact hl) ho hk kk
        · refine V_aload (v := ad 90) mi_236_112 (by simp [stL, lv_args, Value.category]) ?_
          refine V_iload (v := Int32.ofInt ((f : Int))) mi_236_113 (by simp [stL, lv_args, Value.category]) ?_
          refine V_iload (v := Int32.ofInt ((s : Int))) mi_236_115 (by simp [stL, lv_args, Value.category]) ?_
          refine V_callM (As := [.int (Int32.ofInt ((f : Int))), .int (Int32.ofInt ((s : Int)))]) (st := []) mi_236_116 (by omega) (by decide +kernel) (by decide +kernel) hG (hea_ct (f := f) (s := s) (by omega) hs hG ((ho _ _ (by omega) (by omega) (by omega)).trans h24) ((ho _ _ (by omega) (by omega) (by omega)).trans h22)) (by omega) (show 2 = mN 235 by decide +kernel) (by simp [Value.category]) ?_
          rintro r w3 ⟨e3, rfl⟩
          rw [e3]
          refine V_bne mi_236_119  (fun q4 => ?_) (fun q4 => ?_)
          · have pf : preP G s f = true := by unfold preP; rw [nb, decide_eq_true q3]; rfl
            obtain ⟨s99, e99, f99⟩ := a99
            obtain ⟨s100, e100, f100⟩ := a100
            obtain ⟨s101, e101, f101⟩ := a101
            have bh := orI_bd (P := preP G s) (f := f) (by omega)
            have bl := orI_bd (P := lrnP G K s) (f := f) (by omega)
            have bk := hk (6 * f + sWhs G s) (by omega)
            obtain ⟨t1, t2, t3⟩ := tb_k (a := K (6 * f + sWhs G s)) (i := (sWhi G s : Int)) bk.1 bk.2 (by omega) (by omega)
            have bb := bitO_bd bh.1 bh.2 (i := (f : Int)) (by omega) (by omega)
            have bc := bitO_bd bk.1 bk.2 (i := (sWhi G s : Int)) (by omega) (by omega)
            have hKn : rd w 99 (6 * f + sWhs G s) = some (.int (Int32.ofInt (K (6 * f + sWhs G s)))) := by rw [hK _ (by omega), spK_new o6]
            refine V_aload (v := ad 90) mi_236_125 (by simp [stL, lv_args, Value.category]) ?_
            refine V_getI mi_236_126 hG (rref gr19 (by omega) hG) ?_
            refine V_iload (v := Int32.ofInt ((s : Int))) mi_236_129 (by simp [stL, lv_args, Value.category]) ?_
            refine V_dup2 mi_236_130 (by simp [Value.category]) (by simp [Value.category]) ?_
            refine V_aldX (j := s) mi_236_131 rfl hG e100 (by omega) (by omega) (hh) ?_
            refine V_ipush mi_236_132 ?_
            refine V_iload (v := Int32.ofInt ((f : Int))) mi_236_133 (by simp [stL, lv_args, Value.category]) ?_
            refine V_ibin mi_236_135 (by omega) ?_
            refine V_ibin mi_236_136 (by omega) ?_
            rw [bitO_i]
            refine V_astX (j := s) mi_236_137 rfl hG e100 hs (by omega) (f100 s hs) (by rw [Int32.toInt_ofInt_of_le (by omega) (by omega)]; omega) (by rw [Int32.toInt_ofInt_of_le (by omega) (by omega)]; omega) (fun w4 G4 U4 => ?_)
            refine V_aload (v := ad 90) mi_236_138 (by simp [stL, lv_args, Value.category]) ?_
            refine V_getI mi_236_139 G4 (rref gr20 (by omega) G4) ?_
            refine V_iload (v := Int32.ofInt ((s : Int))) mi_236_142 (by simp [stL, lv_args, Value.category]) ?_
            refine V_dup2 mi_236_143 (by simp [Value.category]) (by simp [Value.category]) ?_
            refine V_aldX (j := s) mi_236_144 rfl G4 e101 (by omega) (by omega) ((upd_ne U4 (by omega)).trans hl) ?_
            refine V_aload (v := ad 90) mi_236_145 (by simp [stL, lv_args, Value.category]) ?_
            refine V_getI mi_236_146 G4 (rref gr17 (by omega) G4) ?_
            refine V_ipush mi_236_149 ?_
            refine V_iload (v := Int32.ofInt ((f : Int))) mi_236_151 (by simp [stL, lv_args, Value.category]) ?_
            refine V_ibin mi_236_153 (by omega) ?_
            rw [ib2]
            refine V_iload (v := Int32.ofInt ((sWhs G s : Int))) mi_236_154 (by simp [stL, lv_args, Value.category]) ?_
            refine V_ibin mi_236_155 (by omega) ?_
            rw [ib0]
            refine V_aldX (j := 6 * f + sWhs G s) mi_236_156 (by rw [show ((6) * ((f : Int))) + ((sWhs G s : Int)) = ((6 * f + sWhs G s : Nat) : Int) by omega]) G4 e99 (by omega) (by omega) ((upd_ne U4 (by omega)).trans hKn) ?_
            refine V_iload (v := Int32.ofInt ((sWhi G s : Int))) mi_236_157 (by simp [stL, lv_args, Value.category]) ?_
            refine V_stat (As := [.int (Int32.ofInt (K (6 * f + sWhs G s))), .int (Int32.ofInt ((sWhi G s : Int)))]) (st := [.int (Int32.ofInt (orI (lrnP G K s) f)), .int (Int32.ofInt ((s : Int))), .ref (ad 101)]) mi_236_159 (by omega) (bit_ct _ _ _) (by omega) (show 2 = mN 195 by decide +kernel) (by simp [Value.category]) ⟨Nat.le_refl _, Nat.le_refl _⟩ ?_
            rintro r w5 ⟨e5, rfl⟩
            rw [e5, t1]
            change V l D tys A 236 5 0 0 _ 0 0 _ _ (.int (bI (tb (K (6 * f + sWhs G s)) (sWhi G s : Int))) :: _) _
            refine V_bne mi_236_162  (fun q5 => ?_) (fun q5 => ?_)
            · have lf : lrnP G K s f = false := by unfold lrnP; rw [pf, q5]; rfl
              refine V_ipush mi_236_172 ?_
              refine V_ibin mi_236_173 (by omega) ?_
              rw [or0]
              refine V_astX (j := s) mi_236_174 rfl G4 e101 hs (by omega) (f101 s hs) (by rw [Int32.toInt_ofInt_of_le (by omega) (by omega)]; omega) (by rw [Int32.toInt_ofInt_of_le (by omega) (by omega)]; omega) (fun w6 G6 U6 => ?_)
              refine V_aload (v := ad 90) mi_236_175 (by simp [stL, lv_args, Value.category]) ?_
              refine V_getI mi_236_176 G6 (rref gr17 (by omega) G6) ?_
              refine V_ipush mi_236_179 ?_
              refine V_iload (v := Int32.ofInt ((f : Int))) mi_236_181 (by simp [stL, lv_args, Value.category]) ?_
              refine V_ibin mi_236_183 (by omega) ?_
              rw [ib2]
              refine V_iload (v := Int32.ofInt ((sWhs G s : Int))) mi_236_184 (by simp [stL, lv_args, Value.category]) ?_
              refine V_ibin mi_236_185 (by omega) ?_
              rw [ib0]
              rw [show 6 * (f : Int) + (sWhs G s : Int) = ((6 * f + sWhs G s : Nat) : Int) by omega]
              refine V_dup2 mi_236_186 (by simp [Value.category]) (by simp [Value.category]) ?_
              refine V_aldX (j := 6 * f + sWhs G s) mi_236_187 rfl G6 e99 (by omega) (by omega) ((upd_ne U6 (by omega)).trans ((upd_ne U4 (by omega)).trans hKn)) ?_
              refine V_ipush mi_236_188 ?_
              refine V_iload (v := Int32.ofInt ((sWhi G s : Int))) mi_236_189 (by simp [stL, lv_args, Value.category]) ?_
              refine V_ibin mi_236_191 (by omega) ?_
              refine V_ibin mi_236_192 (by omega) ?_
              rw [bitO_i]
              refine V_astX (j := 6 * f + sWhs G s) mi_236_193 rfl G6 e99 (by omega) (by omega) (f99 _ (by omega)) (by rw [Int32.toInt_ofInt_of_le (by omega) (by omega)]; omega) (by rw [Int32.toInt_ofInt_of_le (by omega) (by omega)]; omega) (fun w7 G7 U7 => ?_)
              refine V_iinc (v := Int32.ofInt ((f : Int))) mi_236_194 (by simp [stL, lv_args, Value.category]) ?_
              rw [ia2]
              refine V_goto mi_236_197 ?_
              refine V_sub (lv' := [(0, .ref (ad 90)), (1, .int (Int32.ofInt (s : Int))), (2, .int (Int32.ofInt (sWho G s : Int))), (3, .int (Int32.ofInt (sWhs G s : Int))), (4, .int (Int32.ofInt (sWhi G s : Int))), (5, .int (Int32.ofInt (sWhn G s : Int))), (6, .int (Int32.ofInt ((f + 1 : Nat) : Int)))]) (fun q hq => ?_) ?_
              · simp only [List.mem_cons, List.not_mem_nil, or_false] at hq
                rcases hq with rfl | rfl | rfl | rfl | rfl | rfl | rfl <;> simp [stL, lv_args, Value.category]
              have oo : ∀ c j, c ≠ 99 → ¬ (c = 100 ∧ j = s) → ¬ (c = 101 ∧ j = s) → rd w7 c j = rd w c j := fun c j h1 h2 h3 => (upd_ne U7 (by omega)).trans ((upd_ne U6 (by omega)).trans (upd_ne U4 (by omega)))
              refine sy_77 hB hs hW0 h24 h22 m (f + 1) w7 (by omega) G7 (fun j hj => ?_) ?_ ?_ (fun c j h1 h2 h3 => (oo c j h1 h2 h3).trans (ho c j h1 h2 h3)) hk kk
              · rw [spK_step pf o6]
                show _ = some (Value.int (Int32.ofInt (if j = 6 * f + sWhs G s then _ else _)))
                by_cases e : j = 6 * f + sWhs G s
                · rw [if_pos e, e]
                  exact upd_eq U7
                · rw [if_neg e]
                  exact (upd_ne U7 (by omega)).trans ((upd_ne U6 (by omega)).trans ((upd_ne U4 (by omega)).trans (hK j hj)))
              · unfold orI
                rw [pf, if_pos rfl]
                exact (upd_ne U7 (by omega)).trans ((upd_ne U6 (by omega)).trans (upd_eq U4))
              · unfold orI
                rw [lf, if_neg Bool.false_ne_true]
                exact (upd_ne U7 (by omega)).trans (upd_eq U6)
            · have lf : lrnP G K s f = true := by unfold lrnP; rw [pf, q5]; rfl
              have bd := bitO_bd bl.1 bl.2 (i := (f : Int)) (by omega) (by omega)
              refine V_ipush mi_236_165 ?_
              refine V_iload (v := Int32.ofInt ((f : Int))) mi_236_166 (by simp [stL, lv_args, Value.category]) ?_
              refine V_ibin mi_236_168 (by omega) ?_
              refine V_goto mi_236_169 ?_
              refine V_ibin mi_236_173 (by omega) ?_
              rw [bitO_i]
              refine V_astX (j := s) mi_236_174 rfl G4 e101 hs (by omega) (f101 s hs) (by rw [Int32.toInt_ofInt_of_le (by omega) (by omega)]; omega) (by rw [Int32.toInt_ofInt_of_le (by omega) (by omega)]; omega) (fun w6 G6 U6 => ?_)
              refine V_aload (v := ad 90) mi_236_175 (by simp [stL, lv_args, Value.category]) ?_
              refine V_getI mi_236_176 G6 (rref gr17 (by omega) G6) ?_
              refine V_ipush mi_236_179 ?_
              refine V_iload (v := Int32.ofInt ((f : Int))) mi_236_181 (by simp [stL, lv_args, Value.category]) ?_
              refine V_ibin mi_236_183 (by omega) ?_
              rw [ib2]
              refine V_iload (v := Int32.ofInt ((sWhs G s : Int))) mi_236_184 (by simp [stL, lv_args, Value.category]) ?_
              refine V_ibin mi_236_185 (by omega) ?_
              rw [ib0]
              rw [show 6 * (f : Int) + (sWhs G s : Int) = ((6 * f + sWhs G s : Nat) : Int) by omega]
              refine V_dup2 mi_236_186 (by simp [Value.category]) (by simp [Value.category]) ?_
              refine V_aldX (j := 6 * f + sWhs G s) mi_236_187 rfl G6 e99 (by omega) (by omega) ((upd_ne U6 (by omega)).trans ((upd_ne U4 (by omega)).trans hKn)) ?_
              refine V_ipush mi_236_188 ?_
              refine V_iload (v := Int32.ofInt ((sWhi G s : Int))) mi_236_189 (by simp [stL, lv_args, Value.category]) ?_
              refine V_ibin mi_236_191 (by omega) ?_
              refine V_ibin mi_236_192 (by omega) ?_
              rw [bitO_i]
              refine V_astX (j := 6 * f + sWhs G s) mi_236_193 rfl G6 e99 (by omega) (by omega) (f99 _ (by omega)) (by rw [Int32.toInt_ofInt_of_le (by omega) (by omega)]; omega) (by rw [Int32.toInt_ofInt_of_le (by omega) (by omega)]; omega) (fun w7 G7 U7 => ?_)
              refine V_iinc (v := Int32.ofInt ((f : Int))) mi_236_194 (by simp [stL, lv_args, Value.category]) ?_
              rw [ia2]
              refine V_goto mi_236_197 ?_
              refine V_sub (lv' := [(0, .ref (ad 90)), (1, .int (Int32.ofInt (s : Int))), (2, .int (Int32.ofInt (sWho G s : Int))), (3, .int (Int32.ofInt (sWhs G s : Int))), (4, .int (Int32.ofInt (sWhi G s : Int))), (5, .int (Int32.ofInt (sWhn G s : Int))), (6, .int (Int32.ofInt ((f + 1 : Nat) : Int)))]) (fun q hq => ?_) ?_
              · simp only [List.mem_cons, List.not_mem_nil, or_false] at hq
                rcases hq with rfl | rfl | rfl | rfl | rfl | rfl | rfl <;> simp [stL, lv_args, Value.category]
              have oo : ∀ c j, c ≠ 99 → ¬ (c = 100 ∧ j = s) → ¬ (c = 101 ∧ j = s) → rd w7 c j = rd w c j := fun c j h1 h2 h3 => (upd_ne U7 (by omega)).trans ((upd_ne U6 (by omega)).trans (upd_ne U4 (by omega)))
              refine sy_77 hB hs hW0 h24 h22 m (f + 1) w7 (by omega) G7 (fun j hj => ?_) ?_ ?_ (fun c j h1 h2 h3 => (oo c j h1 h2 h3).trans (ho c j h1 h2 h3)) hk kk
              · rw [spK_step pf o6]
                show _ = some (Value.int (Int32.ofInt (if j = 6 * f + sWhs G s then _ else _)))
                by_cases e : j = 6 * f + sWhs G s
                · rw [if_pos e, e]
                  exact upd_eq U7
                · rw [if_neg e]
                  exact (upd_ne U7 (by omega)).trans ((upd_ne U6 (by omega)).trans ((upd_ne U4 (by omega)).trans (hK j hj)))
              · unfold orI
                rw [pf, if_pos rfl]
                exact (upd_ne U7 (by omega)).trans ((upd_ne U6 (by omega)).trans (upd_eq U4))
              · unfold orI
                rw [lf, if_pos rfl]
                exact (upd_ne U7 (by omega)).trans (upd_eq U6)
          · exact absurd q4.symm Bool.false_ne_true
end XSA
section XSB
variable {l : Launch} {D : va_G} {tys : List (ClassId × FieldType)} {A : Nat → Prop} {ad : Nat → Nat} {ws : va_W}
/-- how far the telling is: what is known, what is said, who heard, who learnt -/
noncomputable abbrev TT : Type := (Nat → Int) × Int32 × (Nat → Int) × (Nat → Int)
noncomputable abbrev TT.K (T : TT) : Nat → Int := T.1
noncomputable abbrev TT.sd (T : TT) : Int32 := T.2.1
noncomputable abbrev TT.hb (T : TT) : Nat → Int := T.2.2.1
noncomputable abbrev TT.lb (T : TT) : Nat → Int := T.2.2.2
noncomputable def oneT (G : Nat → Int) (s : Nat) (T : TT) : TT := if canB G T.K s = true then ⟨spQ G s (G 3).toNat T.K, ibF 6 T.sd (ibF 8 (Int32.ofInt 1) (Int32.ofInt (s : Int))), updI T.hb s (orI (preP G s) (G 3).toNat), updI T.lb s (orI (lrnP G T.K s) (G 3).toNat)⟩ else T
noncomputable def sayT (G : Nat → Int) (h : Nat) : Nat → Nat → TT → TT
  | 0, _, T => T
  | m + 1, s, T => sayT G h m (s + 1) (if sWhn G s = h then oneT G s T else T)
noncomputable def hrsT (G : Nat → Int) (h : Nat) (T : TT) : TT := sayT G h (G 4).toNat 0 T
noncomputable def allV (n : Int) : Int := (ibF 1 (ibF 8 (Int32.ofInt 1) (Int32.ofInt n)) (Int32.ofInt 1)).toInt
noncomputable def iniK (G : Nat → Int) (j : Nat) : Int := if j / 6 = j % 6 then allV (G (6 + 7 * (j % 6))) else G (66 + j)
noncomputable def iniT (G : Nat → Int) : TT := ⟨iniK G, Int32.ofInt 0, fun _ => 0, fun _ => 0⟩
noncomputable def tellT (G : Nat → Int) : Nat → TT
  | 0 => iniT G
  | h + 1 => hrsT G h (tellT G h)
theorem allV_k {n : Int} (n0 : 0 ≤ n) (n6 : n ≤ 6) : ibF 1 (ibF 8 (Int32.ofInt 1) (Int32.ofInt n)) (Int32.ofInt 1) = Int32.ofInt (allV n) ∧ 0 ≤ allV n ∧ allV n ≤ 63 := by
  refine ⟨by unfold allV; rw [Int32.ofInt_toInt], ?_⟩
  have h : (List.range 7).all (fun n => decide (0 ≤ allV (n : Nat)) && decide (allV (n : Nat) ≤ 63)) = true := by decide +kernel
  have q := List.all_eq_true.mp h n.toNat (List.mem_range.mpr (by omega))
  rw [Bool.and_eq_true, decide_eq_true_eq, decide_eq_true_eq, Int.toNat_of_nonneg n0] at q
  exact q
/-- the reference has told so far -/
noncomputable abbrev TM (ad : Nat → Nat) (tys : List (ClassId × FieldType)) (G : Nat → Int) (T : TT) (w0 w : va_W) : Prop :=
  (GOK ad tys GG w) ∧
  (∀ j, j < 36 → rd w 99 j = some (.int (Int32.ofInt (T.K j)))) ∧
  (rd w 90 18 = some (.int T.sd)) ∧
  (∀ i, i < 12 → rd w 100 i = some (.int (Int32.ofInt (T.hb i)))) ∧
  (∀ i, i < 12 → rd w 101 i = some (.int (Int32.ofInt (T.lb i)))) ∧
  (∀ c j, ¬ (99 ≤ c ∧ c ≤ 101) → ¬ (c = 90 ∧ j = 18) → rd w c j = rd w0 c j) ∧
  (kOK T.K)
theorem TM.g {ad : Nat → Nat} {tys : List (ClassId × FieldType)} {G : Nat → Int} {T : TT} {w0 w : va_W} (h : TM ad tys G T w0 w) : GOK ad tys GG w := h.1
theorem TM.k {ad : Nat → Nat} {tys : List (ClassId × FieldType)} {G : Nat → Int} {T : TT} {w0 w : va_W} (h : TM ad tys G T w0 w) : ∀ j, j < 36 → rd w 99 j = some (.int (Int32.ofInt (T.K j))) := h.2.1
theorem TM.s {ad : Nat → Nat} {tys : List (ClassId × FieldType)} {G : Nat → Int} {T : TT} {w0 w : va_W} (h : TM ad tys G T w0 w) : rd w 90 18 = some (.int T.sd) := h.2.2.1
theorem TM.h {ad : Nat → Nat} {tys : List (ClassId × FieldType)} {G : Nat → Int} {T : TT} {w0 w : va_W} (h : TM ad tys G T w0 w) : ∀ i, i < 12 → rd w 100 i = some (.int (Int32.ofInt (T.hb i))) := h.2.2.2.1
theorem TM.lr {ad : Nat → Nat} {tys : List (ClassId × FieldType)} {G : Nat → Int} {T : TT} {w0 w : va_W} (h : TM ad tys G T w0 w) : ∀ i, i < 12 → rd w 101 i = some (.int (Int32.ofInt (T.lb i))) := h.2.2.2.2.1
theorem TM.o {ad : Nat → Nat} {tys : List (ClassId × FieldType)} {G : Nat → Int} {T : TT} {w0 w : va_W} (h : TM ad tys G T w0 w) : ∀ c j, ¬ (99 ≤ c ∧ c ≤ 101) → ¬ (c = 90 ∧ j = 18) → rd w c j = rd w0 c j := h.2.2.2.2.2.1
theorem TM.b {ad : Nat → Nat} {tys : List (ClassId × FieldType)} {G : Nat → Int} {T : TT} {w0 w : va_W} (h : TM ad tys G T w0 w) : kOK T.K := h.2.2.2.2.2.2
theorem f18m : gF 18 (-2147483648) 2147483647 := ⟨_, rfl, by decide +kernel⟩
theorem hsh0 {s : Nat} (h : s < 12) : ibF 5 (ibF 9 (Int32.ofInt 0) (Int32.ofInt (s : Int))) (Int32.ofInt 1) = Int32.ofInt 0 := by
  have q : (List.range 12).all (fun s => decide (ibF 5 (ibF 9 (Int32.ofInt 0) (Int32.ofInt (s : Nat))) (Int32.ofInt 1) = Int32.ofInt 0)) = true := by decide +kernel
  exact of_decide_eq_true (List.all_eq_true.mp q s (List.mem_range.mpr h))
theorem say_ct {G : Nat → Int} {T : TT} {w0 : va_W} {s : Nat} (hB : HB G) (hs : s < 12) (hW0 : W91 G w0) (h24 : rd w0 90 24 = some (.int (Int32.ofInt 0))) (h22 : rd w0 90 22 = some (.int (Int32.ofInt (-1)))) (h21 : rd w0 90 21 = some (.int (Int32.ofInt 0))) (hT : TM ad tys G T w0 ws) (hb0 : T.hb s = 0) (lb0 : T.lb s = 0) : CT l D tys A 236 5 0 0 [.ref (ad 90), .int (Int32.ofInt ((s : Int)))] ws (fun r w => r = none ∧ TM ad tys G (oneT G s T) w0 w) := by
  refine CT_of_V (by omega) (show (2 : Nat) ≤ mML 236 by decide +kernel) ?_
  obtain ⟨⟨w6, o6, i6, n24⟩, g0, g1, g2, g3⟩ := say_b hB hs
  obtain ⟨s99, e99, f99⟩ := a99
  have hW : W91 G ws := fun j hj => (hT.o 91 j (by omega) (by omega)).trans (hW0 j hj)
  have bk := hT.b (6 * sWho G s + sWhs G s) (by omega)
  obtain ⟨t1, t2, t3⟩ := tb_k (a := T.K (6 * sWho G s + sWhs G s)) (i := (sWhi G s : Int)) bk.1 bk.2 (by omega) (by omega)
  refine V_aload (v := ad 90) mi_236_0 (by simp [stL, lv_args, Value.category]) ?_
  refine V_iload (v := Int32.ofInt ((s : Int))) mi_236_1 (by simp [stL, lv_args, Value.category]) ?_
  refine V_ipush mi_236_2 ?_
  refine V_callM (As := [.int (Int32.ofInt ((s : Int))), .int (Int32.ofInt (0))]) (st := []) mi_236_3 (by omega) (by decide +kernel) (by decide +kernel) hT.g (mos_ct (k := s) (a := 0) hT.g hW hB hs (by omega)) (by omega) (show 2 = mN 208 by decide +kernel) (by simp [Value.category]) ?_
  rintro r w1 ⟨e1, rfl⟩
  rw [e1]
  rw [show G (246 + 4 * s + 0) = G (246 + 4 * s) from rfl, g0]
  refine V_istore mi_236_6 ?_
  refine V_aload (v := ad 90) mi_236_7 (by simp [stL, lv_args, Value.category]) ?_
  refine V_iload (v := Int32.ofInt ((s : Int))) mi_236_8 (by simp [stL, lv_args, Value.category]) ?_
  refine V_ipush mi_236_9 ?_
  refine V_callM (As := [.int (Int32.ofInt ((s : Int))), .int (Int32.ofInt (1))]) (st := []) mi_236_10 (by omega) (by decide +kernel) (by decide +kernel) hT.g (mos_ct (k := s) (a := 1) hT.g hW hB hs (by omega)) (by omega) (show 2 = mN 208 by decide +kernel) (by simp [Value.category]) ?_
  rintro r w1 ⟨e1, rfl⟩
  rw [e1]
  rw [g1]
  refine V_istore mi_236_13 ?_
  refine V_aload (v := ad 90) mi_236_14 (by simp [stL, lv_args, Value.category]) ?_
  refine V_iload (v := Int32.ofInt ((s : Int))) mi_236_15 (by simp [stL, lv_args, Value.category]) ?_
  refine V_ipush mi_236_16 ?_
  refine V_callM (As := [.int (Int32.ofInt ((s : Int))), .int (Int32.ofInt (2))]) (st := []) mi_236_17 (by omega) (by decide +kernel) (by decide +kernel) hT.g (mos_ct (k := s) (a := 2) hT.g hW hB hs (by omega)) (by omega) (show 2 = mN 208 by decide +kernel) (by simp [Value.category]) ?_
  rintro r w1 ⟨e1, rfl⟩
  rw [e1]
  rw [g2]
  refine V_istore mi_236_20 ?_
  refine V_aload (v := ad 90) mi_236_22 (by simp [stL, lv_args, Value.category]) ?_
  refine V_getI mi_236_23 hT.g ((hT.o _ _ (by omega) (by omega)).trans h21) ?_
  refine V_iload (v := Int32.ofInt ((s : Int))) mi_236_26 (by simp [stL, lv_args, Value.category]) ?_
  refine V_stat (As := [.int (Int32.ofInt (0)), .int (Int32.ofInt ((s : Int)))]) (st := []) mi_236_27 (by omega) (bit_ct _ _ _) (by omega) (show 2 = mN 195 by decide +kernel) (by simp [Value.category]) ⟨Nat.le_refl _, Nat.le_refl _⟩ ?_
  rintro r w1 ⟨e1, rfl⟩
  rw [e1, hsh0 hs]
  change V l D tys A 236 5 0 0 _ 0 0 _ _ (.int (Int32.ofInt 0) :: _) _
  refine V_ipush mi_236_30 ?_
  refine V_ceq mi_236_31 ⟨by omega, by omega⟩ ⟨by omega, by omega⟩ (fun q => ?_) (fun q => ?_)
  · exact absurd q (by omega)
  · refine V_aload (v := ad 90) mi_236_34 (by simp [stL, lv_args, Value.category]) ?_
    refine V_getI mi_236_35 hT.g (rref gr17 (by omega) hT.g) ?_
    refine V_ipush mi_236_38 ?_
    refine V_iload (v := Int32.ofInt ((sWho G s : Int))) mi_236_40 (by simp [stL, lv_args, Value.category]) ?_
    refine V_ibin mi_236_41 (by omega) ?_
    rw [ib2]
    refine V_iload (v := Int32.ofInt ((sWhs G s : Int))) mi_236_42 (by simp [stL, lv_args, Value.category]) ?_
    refine V_ibin mi_236_43 (by omega) ?_
    rw [ib0]
    refine V_aldX (j := 6 * sWho G s + sWhs G s) mi_236_44 (by rw [show ((6) * ((sWho G s : Int))) + ((sWhs G s : Int)) = ((6 * sWho G s + sWhs G s : Nat) : Int) by omega]) hT.g e99 (by omega) (by omega) (hT.k _ (by omega)) ?_
    refine V_iload (v := Int32.ofInt ((sWhi G s : Int))) mi_236_45 (by simp [stL, lv_args, Value.category]) ?_
    refine V_stat (As := [.int (Int32.ofInt (T.K (6 * sWho G s + sWhs G s))), .int (Int32.ofInt ((sWhi G s : Int)))]) (st := []) mi_236_47 (by omega) (bit_ct _ _ _) (by omega) (show 2 = mN 195 by decide +kernel) (by simp [Value.category]) ⟨Nat.le_refl _, Nat.le_refl _⟩ ?_
    rintro r w2 ⟨e2, rfl⟩
    rw [e2, t1]
    change V l D tys A 236 5 0 0 _ 0 0 _ _ (.int (bI (canB G T.K s)) :: _) _
    refine V_bne mi_236_50  (fun q2 => ?_) (fun q2 => ?_)
    · refine V_aload (v := ad 90) mi_236_54 (by simp [stL, lv_args, Value.category]) ?_
      refine V_dup mi_236_55 (by simp [Value.category]) ?_
      refine V_getI mi_236_56 hT.g (hT.s) ?_
      refine V_ipush mi_236_59 ?_
      refine V_iload (v := Int32.ofInt ((s : Int))) mi_236_60 (by simp [stL, lv_args, Value.category]) ?_
      refine V_ibin mi_236_61 (by omega) ?_
      refine V_ibin mi_236_62 (by omega) ?_
      refine V_putI mi_236_63 hT.g f18m (by omega) rfl (by decide +kernel) (i32b _).1 (i32b _).2 (fun w3 G3 U3 => ?_)
      have hW3 : W91 G w3 := fun j hj => (upd_ne U3 (by omega)).trans (hW j hj)
      refine V_aload (v := ad 90) mi_236_66 (by simp [stL, lv_args, Value.category]) ?_
      refine V_iload (v := Int32.ofInt ((s : Int))) mi_236_67 (by simp [stL, lv_args, Value.category]) ?_
      refine V_ipush mi_236_68 ?_
      refine V_callM (As := [.int (Int32.ofInt ((s : Int))), .int (Int32.ofInt (3))]) (st := []) mi_236_69 (by omega) (by decide +kernel) (by decide +kernel) G3 (mos_ct (k := s) (a := 3) G3 hW3 hB hs (by omega)) (by omega) (show 2 = mN 208 by decide +kernel) (by simp [Value.category]) ?_
      rintro r w4 ⟨e4, rfl⟩
      rw [e4, g3]
      refine V_istore mi_236_72 ?_
      refine V_ipush mi_236_74 ?_
      refine V_istore mi_236_75 ?_
      have b3 := hB.b3
      refine V_sub (lv' := [(0, .ref (ad 90)), (1, .int (Int32.ofInt (s : Int))), (2, .int (Int32.ofInt (sWho G s : Int))), (3, .int (Int32.ofInt (sWhs G s : Int))), (4, .int (Int32.ofInt (sWhi G s : Int))), (5, .int (Int32.ofInt (sWhn G s : Int))), (6, .int (Int32.ofInt ((0 : Nat) : Int)))]) (fun q hq => ?_) (sy_77 (K := T.K) hB hs hW3 ((upd_ne U3 (by omega)).trans ((hT.o _ _ (by omega) (by omega)).trans h24)) ((upd_ne U3 (by omega)).trans ((hT.o _ _ (by omega) (by omega)).trans h22)) (G 3).toNat 0 w3 (by rw [Nat.zero_add, Int.toNat_of_nonneg b3.1]) G3 (fun j hj => by rw [spK_0]; exact (upd_ne U3 (by omega)).trans (hT.k j hj)) ((upd_ne U3 (by omega)).trans (by rw [hT.h s hs, hb0]; rfl)) ((upd_ne U3 (by omega)).trans (by rw [hT.lr s hs, lb0]; rfl)) (fun _ _ _ _ _ => rfl) hT.b (fun w5 G5 k5 h5 l5 o5 => ?_))
      · simp only [List.mem_cons, List.not_mem_nil, or_false] at hq
        rcases hq with rfl | rfl | rfl | rfl | rfl | rfl | rfl <;> simp [stL, lv_args, Value.category]
      · refine ⟨rfl, ?_⟩
        unfold oneT
        rw [if_pos q2]
        refine ⟨G5, k5, (o5 _ _ (by omega) (by omega) (by omega)).trans (upd_eq U3), fun i hi => ?_, fun i hi => ?_, fun c j h1 h2 => (o5 _ _ (by omega) (by omega) (by omega)).trans ((upd_ne U3 (by omega)).trans (hT.o c j h1 h2)), spK_ok hT.b i6⟩
        · show _ = some (Value.int (Int32.ofInt (if i = s then _ else T.hb i)))
          by_cases e : i = s
          · rw [if_pos e, e]
            exact h5
          · rw [if_neg e]
            exact (o5 _ _ (by omega) (by omega) (by omega)).trans ((upd_ne U3 (by omega)).trans (hT.h i hi))
        · show _ = some (Value.int (Int32.ofInt (if i = s then _ else T.lb i)))
          by_cases e : i = s
          · rw [if_pos e, e]
            exact l5
          · rw [if_neg e]
            exact (o5 _ _ (by omega) (by omega) (by omega)).trans ((upd_ne U3 (by omega)).trans (hT.lr i hi))
    · refine V_retV mi_236_53 ⟨rfl, ?_⟩
      unfold oneT
      rw [if_neg (by rw [q2]; exact Bool.false_ne_true)]
      exact hT
end XSB
end
section
section XSC
variable {l : Launch} {D : va_G} {tys : List (ClassId × FieldType)} {A : Nat → Prop} {ad : Nat → Nat} {ws : va_W}
theorem go_7 {w0 : va_W} {post : Option Value → va_W → Prop} : ∀ (m i : Nat) (w : va_W), i + m = 12 → GOK ad tys GG w → (∀ j, j < i → rd w 100 j = some (.int (Int32.ofInt 0))) → (∀ j, j < i → rd w 101 j = some (.int (Int32.ofInt 0))) → (∀ c j, c ≠ 100 → c ≠ 101 → rd w c j = rd w0 c j) → (∀ w' : va_W, GOK ad tys GG w' → (∀ j, j < 12 → rd w' 100 j = some (.int (Int32.ofInt 0))) → (∀ j, j < 12 → rd w' 101 j = some (.int (Int32.ofInt 0))) → (∀ c j, c ≠ 100 → c ≠ 101 → rd w' c j = rd w0 c j) → V l D tys A 237 7 0 0 post 0 0 33 [(0, .ref (ad 90))] [] w') → V l D tys A 237 7 0 0 post 0 0 7 [(0, .ref (ad 90)), (1, .int (Int32.ofInt ((i : Int))))] [] w
  | 0, i, w, hm, hG, hh, hl, ho, kk => by
    refine V_iload (v := Int32.ofInt ((i : Int))) mi_237_7 (by simp [stL, lv_args, Value.category]) ?_
    refine V_ipush mi_237_8 ?_
    refine V_cge mi_237_10 ⟨by omega, by omega⟩ ⟨by omega, by omega⟩ (fun q => ?_) (fun q => ?_)
    · have e : i = 12 := by omega
      subst e
      refine V_sub (lv' := [(0, .ref (ad 90))]) (fun q hq => ?_) (kk w hG hh hl ho)
      simp only [List.mem_cons, List.not_mem_nil, or_false] at hq
      subst hq
      simp [stL, lv_args, Value.category]
    · exact absurd q (by omega)
  | m + 1, i, w, hm, hG, hh, hl, ho, kk => by
    obtain ⟨s100, e100, f100⟩ := a100
    obtain ⟨s101, e101, f101⟩ := a101
    refine V_iload (v := Int32.ofInt ((i : Int))) mi_237_7 (by simp [stL, lv_args, Value.category]) ?_
    refine V_ipush mi_237_8 ?_
    refine V_cge mi_237_10 ⟨by omega, by omega⟩ ⟨by omega, by omega⟩ (fun q => ?_) (fun q => ?_)
    · exact absurd q (by omega)
    · refine V_aload (v := ad 90) mi_237_13 (by simp [stL, lv_args, Value.category]) ?_
      refine V_getI mi_237_14 hG (rref gr19 (by omega) hG) ?_
      refine V_iload (v := Int32.ofInt ((i : Int))) mi_237_17 (by simp [stL, lv_args, Value.category]) ?_
      refine V_ipush mi_237_18 ?_
      refine V_astX (j := i) mi_237_19 rfl hG e100 (by omega) (by omega) (f100 i (by omega)) (by rw [Int32.toInt_ofInt_of_le (by omega) (by omega)]; omega) (by rw [Int32.toInt_ofInt_of_le (by omega) (by omega)]; omega) (fun w2 Gw2 Uw2 => ?_)
      refine V_aload (v := ad 90) mi_237_20 (by simp [stL, lv_args, Value.category]) ?_
      refine V_getI mi_237_21 Gw2 (rref gr20 (by omega) Gw2) ?_
      refine V_iload (v := Int32.ofInt ((i : Int))) mi_237_24 (by simp [stL, lv_args, Value.category]) ?_
      refine V_ipush mi_237_25 ?_
      refine V_astX (j := i) mi_237_26 rfl Gw2 e101 (by omega) (by omega) (f101 i (by omega)) (by rw [Int32.toInt_ofInt_of_le (by omega) (by omega)]; omega) (by rw [Int32.toInt_ofInt_of_le (by omega) (by omega)]; omega) (fun w3 Gw3 Uw3 => ?_)
      refine V_iinc (v := Int32.ofInt ((i : Int))) mi_237_27 (by simp [stL, lv_args, Value.category]) ?_
      rw [ia2]
      refine V_goto mi_237_30 ?_
      refine V_sub (lv' := [(0, .ref (ad 90)), (1, .int (Int32.ofInt (((i + 1 : Nat) : Int))))]) (fun q hq => ?_) ?_
      · simp only [List.mem_cons, List.not_mem_nil, or_false] at hq
        rcases hq with rfl | rfl <;> simp [stL, lv_args, Value.category]
      · refine go_7 m (i + 1) w3 (by omega) Gw3 (fun j hj => ?_) (fun j hj => ?_) (fun c j h1 h2 => (upd_ne Uw3 (by omega)).trans ((upd_ne Uw2 (by omega)).trans (ho c j h1 h2))) kk
        · by_cases e : j = i
          · subst e
            exact (upd_ne Uw3 (by omega)).trans (upd_eq Uw2)
          · exact (upd_ne Uw3 (by omega)).trans ((upd_ne Uw2 (by omega)).trans (hh j (by omega)))
        · by_cases e : j = i
          · subst e
            exact upd_eq Uw3
          · exact (upd_ne Uw3 (by omega)).trans ((upd_ne Uw2 (by omega)).trans (hl j (by omega)))
theorem who_ct {G : Nat → Int} {o : Nat} (ho : o < 6) (hG : GOK ad tys GG ws) (hW : W91 G ws) (hB : HB G) : CT l D tys A 206 1 0 0 [.ref (ad 90), .int (Int32.ofInt ((o : Int)))] ws (fun r w => w = ws ∧ r = some (.int (Int32.ofInt (allV (G (6 + 7 * o)))))) := by
  refine CT_of_V (by omega) (show (2 : Nat) ≤ mML 206 by decide +kernel) ?_
  have bl := hB.bl o ho
  obtain ⟨v1, v2, v3⟩ := allV_k bl.1 bl.2
  refine V_ipush mi_206_0 ?_
  refine V_aload (v := ad 90) mi_206_1 (by simp [stL, lv_args, Value.category]) ?_
  refine V_iload (v := Int32.ofInt ((o : Int))) mi_206_2 (by simp [stL, lv_args, Value.category]) ?_
  refine V_callM (As := [.int (Int32.ofInt ((o : Int)))]) (st := [.int (Int32.ofInt (1))]) mi_206_3 (by omega) (by decide +kernel) (by decide +kernel) hG (mle_ct (f := o) hG hW hB ho) (by omega) (show 1 = mN 204 by decide +kernel) (by simp [Value.category]) ?_
  rintro r w1 ⟨rfl, rfl⟩
  refine V_ibin mi_206_6 (by omega) ?_
  refine V_ipush mi_206_7 ?_
  refine V_ibin mi_206_8 (by omega) ?_
  rw [v1]
  exact V_retI mi_206_9 (fun h => absurd h (by decide +kernel)) ⟨rfl, rfl⟩
theorem go_43 {G : Nat → Int} {w0 : va_W} {post : Option Value → va_W → Prop} {f : Nat} (hB : HB G) (hW0 : W91 G w0) (hf : f < 6) : ∀ (m o : Nat) (w : va_W), o + m = 6 → GOK ad tys GG w → (∀ j, j < 6 * f + o → rd w 99 j = some (.int (Int32.ofInt (iniK G j)))) → (∀ c j, c ≠ 99 → rd w c j = rd w0 c j) → (∀ w' : va_W, GOK ad tys GG w' → (∀ j, j < 6 * f + 6 → rd w' 99 j = some (.int (Int32.ofInt (iniK G j)))) → (∀ c j, c ≠ 99 → rd w' c j = rd w0 c j) → V l D tys A 237 7 0 0 post 0 0 93 [(0, .ref (ad 90)), (1, .int (Int32.ofInt ((f : Int))))] [] w') → V l D tys A 237 7 0 0 post 0 0 43 [(0, .ref (ad 90)), (1, .int (Int32.ofInt ((f : Int)))), (2, .int (Int32.ofInt ((o : Int))))] [] w
  | 0, o, w, hm, hG, hk, ho, kk => by
    refine V_iload (v := Int32.ofInt ((o : Int))) mi_237_43 (by simp [stL, lv_args, Value.category]) ?_
    refine V_ipush mi_237_44 ?_
    refine V_cge mi_237_46 ⟨by omega, by omega⟩ ⟨by omega, by omega⟩ (fun q => ?_) (fun q => ?_)
    · have e : o = 6 := by omega
      subst e
      refine V_sub (lv' := [(0, .ref (ad 90)), (1, .int (Int32.ofInt ((f : Int))))]) (fun q hq => ?_) (kk w hG hk ho)
      simp only [List.mem_cons, List.not_mem_nil, or_false] at hq
      rcases hq with rfl | rfl <;> simp [stL, lv_args, Value.category]
    · exact absurd q (by omega)
  | m + 1, o, w, hm, hG, hk, ho, kk => by
    obtain ⟨s99, e99, f99⟩ := a99
    obtain ⟨s91, e91, -⟩ := g91s
    have hW : W91 G w := fun j hj => (ho 91 j (by omega)).trans (hW0 j hj)
    refine V_iload (v := Int32.ofInt ((o : Int))) mi_237_43 (by simp [stL, lv_args, Value.category]) ?_
    refine V_ipush mi_237_44 ?_
    refine V_cge mi_237_46 ⟨by omega, by omega⟩ ⟨by omega, by omega⟩ (fun q => ?_) (fun q => ?_)
    · exact absurd q (by omega)
    · refine V_aload (v := ad 90) mi_237_49 (by simp [stL, lv_args, Value.category]) ?_
      refine V_getI mi_237_50 hG (rref gr17 (by omega) hG) ?_
      refine V_ipush mi_237_53 ?_
      refine V_iload (v := Int32.ofInt ((f : Int))) mi_237_55 (by simp [stL, lv_args, Value.category]) ?_
      refine V_ibin mi_237_56 (by omega) ?_
      rw [ib2]
      refine V_iload (v := Int32.ofInt ((o : Int))) mi_237_57 (by simp [stL, lv_args, Value.category]) ?_
      refine V_ibin mi_237_58 (by omega) ?_
      rw [ib0]
      refine V_iload (v := Int32.ofInt ((f : Int))) mi_237_59 (by simp [stL, lv_args, Value.category]) ?_
      refine V_iload (v := Int32.ofInt ((o : Int))) mi_237_60 (by simp [stL, lv_args, Value.category]) ?_
      refine V_cne mi_237_61 ⟨by omega, by omega⟩ ⟨by omega, by omega⟩ (fun q2 => ?_) (fun q2 => ?_)
      · have ini : iniK G (6 * f + o) = G (66 + (6 * f + o)) := by
          unfold iniK
          rw [if_neg (by omega)]
        have bt := hB.bt (6 * f + o) (by omega)
        refine V_aload (v := ad 90) mi_237_72 (by simp [stL, lv_args, Value.category]) ?_
        refine V_getI mi_237_73 hG (rref gr1m (by omega) hG) ?_
        refine V_ipush mi_237_76 ?_
        refine V_ipush mi_237_78 ?_
        refine V_iload (v := Int32.ofInt ((f : Int))) mi_237_80 (by simp [stL, lv_args, Value.category]) ?_
        refine V_ibin mi_237_81 (by omega) ?_
        rw [ib2]
        refine V_ibin mi_237_82 (by omega) ?_
        rw [ib0]
        refine V_iload (v := Int32.ofInt ((o : Int))) mi_237_83 (by simp [stL, lv_args, Value.category]) ?_
        refine V_ibin mi_237_84 (by omega) ?_
        rw [ib0]
        refine V_aldX (j := 66 + (6 * f + o)) mi_237_85 (by rw [show ((66) + ((6) * ((f : Int)))) + ((o : Int)) = ((66 + (6 * f + o) : Nat) : Int) by omega]) hG e91 (by omega) (by omega) (hW _ (by omega)) ?_
        refine V_astX (j := 6 * f + o) mi_237_86 (by rw [show 6 * (f : Int) + (o : Int) = ((6 * f + o : Nat) : Int) by omega]) hG e99 (by omega) (by omega) (f99 _ (by omega)) (by rw [Int32.toInt_ofInt_of_le (by omega) (by omega)]; omega) (by rw [Int32.toInt_ofInt_of_le (by omega) (by omega)]; omega) (fun w2 Gw2 Uw2 => ?_)
        refine V_iinc (v := Int32.ofInt ((o : Int))) mi_237_87 (by simp [stL, lv_args, Value.category]) ?_
        rw [ia2]
        refine V_goto mi_237_90 ?_
        refine V_sub (lv' := [(0, .ref (ad 90)), (1, .int (Int32.ofInt ((f : Int)))), (2, .int (Int32.ofInt (((o + 1 : Nat) : Int))))]) (fun q hq => ?_) ?_
        · simp only [List.mem_cons, List.not_mem_nil, or_false] at hq
          rcases hq with rfl | rfl | rfl <;> simp [stL, lv_args, Value.category]
        · refine go_43 hB hW0 hf m (o + 1) w2 (by omega) Gw2 (fun j hj => ?_) (fun c j h1 => (upd_ne Uw2 (by omega)).trans (ho c j h1)) kk
          by_cases e : j = 6 * f + o
          · rw [e, ini]
            exact upd_eq Uw2
          · exact (upd_ne Uw2 (by omega)).trans (hk j (by omega))
      · have ini : iniK G (6 * f + o) = allV (G (6 + 7 * o)) := by
          unfold iniK
          rw [if_pos (by omega), show (6 * f + o) % 6 = o by omega]
        have bl := hB.bl o (by omega)
        obtain ⟨v1, v2, v3⟩ := allV_k bl.1 bl.2
        refine V_aload (v := ad 90) mi_237_64 (by simp [stL, lv_args, Value.category]) ?_
        refine V_iload (v := Int32.ofInt ((o : Int))) mi_237_65 (by simp [stL, lv_args, Value.category]) ?_
        refine V_callM (As := [.int (Int32.ofInt ((o : Int)))]) (st := [.int (Int32.ofInt (((6) * ((f : Int))) + ((o : Int)))), .ref (ad 99)]) mi_237_66 (by omega) (by decide +kernel) (by decide +kernel) hG (who_ct (o := o) (by omega) hG hW hB) (by omega) (show 1 = mN 206 by decide +kernel) (by simp [Value.category]) ?_
        rintro r w3 ⟨e3, rfl⟩
        rw [e3]
        refine V_goto mi_237_69 ?_
        refine V_astX (j := 6 * f + o) mi_237_86 (by rw [show 6 * (f : Int) + (o : Int) = ((6 * f + o : Nat) : Int) by omega]) hG e99 (by omega) (by omega) (f99 _ (by omega)) (by rw [Int32.toInt_ofInt_of_le (by omega) (by omega)]; omega) (by rw [Int32.toInt_ofInt_of_le (by omega) (by omega)]; omega) (fun w2 Gw2 Uw2 => ?_)
        refine V_iinc (v := Int32.ofInt ((o : Int))) mi_237_87 (by simp [stL, lv_args, Value.category]) ?_
        rw [ia2]
        refine V_goto mi_237_90 ?_
        refine V_sub (lv' := [(0, .ref (ad 90)), (1, .int (Int32.ofInt ((f : Int)))), (2, .int (Int32.ofInt (((o + 1 : Nat) : Int))))]) (fun q hq => ?_) ?_
        · simp only [List.mem_cons, List.not_mem_nil, or_false] at hq
          rcases hq with rfl | rfl | rfl <;> simp [stL, lv_args, Value.category]
        · refine go_43 hB hW0 hf m (o + 1) w2 (by omega) Gw2 (fun j hj => ?_) (fun c j h1 => (upd_ne Uw2 (by omega)).trans (ho c j h1)) kk
          by_cases e : j = 6 * f + o
          · rw [e, ini]
            exact upd_eq Uw2
          · exact (upd_ne Uw2 (by omega)).trans (hk j (by omega))
theorem go_35 {G : Nat → Int} {w0 : va_W} {post : Option Value → va_W → Prop} (hB : HB G) (hW0 : W91 G w0) : ∀ (m f : Nat) (w : va_W), f + m = 6 → GOK ad tys GG w → (∀ j, j < 6 * f → rd w 99 j = some (.int (Int32.ofInt (iniK G j)))) → (∀ c j, c ≠ 99 → rd w c j = rd w0 c j) → (∀ w' : va_W, GOK ad tys GG w' → (∀ j, j < 36 → rd w' 99 j = some (.int (Int32.ofInt (iniK G j)))) → (∀ c j, c ≠ 99 → rd w' c j = rd w0 c j) → V l D tys A 237 7 0 0 post 0 0 99 [(0, .ref (ad 90))] [] w') → V l D tys A 237 7 0 0 post 0 0 35 [(0, .ref (ad 90)), (1, .int (Int32.ofInt ((f : Int))))] [] w
  | 0, f, w, hm, hG, hk, ho, kk => by
    refine V_iload (v := Int32.ofInt ((f : Int))) mi_237_35 (by simp [stL, lv_args, Value.category]) ?_
    refine V_ipush mi_237_36 ?_
    refine V_cge mi_237_38 ⟨by omega, by omega⟩ ⟨by omega, by omega⟩ (fun q => ?_) (fun q => ?_)
    · have e : f = 6 := by omega
      subst e
      refine V_sub (lv' := [(0, .ref (ad 90))]) (fun q hq => ?_) (kk w hG (fun j hj => hk j (by omega)) ho)
      simp only [List.mem_cons, List.not_mem_nil, or_false] at hq
      subst hq
      simp [stL, lv_args, Value.category]
    · exact absurd q (by omega)
  | m + 1, f, w, hm, hG, hk, ho, kk => by
    refine V_iload (v := Int32.ofInt ((f : Int))) mi_237_35 (by simp [stL, lv_args, Value.category]) ?_
    refine V_ipush mi_237_36 ?_
    refine V_cge mi_237_38 ⟨by omega, by omega⟩ ⟨by omega, by omega⟩ (fun q => ?_) (fun q => ?_)
    · exact absurd q (by omega)
    · refine V_ipush mi_237_41 ?_
      refine V_istore mi_237_42 ?_
      refine V_sub (lv' := [(0, .ref (ad 90)), (1, .int (Int32.ofInt ((f : Int)))), (2, .int (Int32.ofInt (((0 : Nat) : Int))))]) (fun q hq => ?_) ?_
      · simp only [List.mem_cons, List.not_mem_nil, or_false] at hq
        rcases hq with rfl | rfl | rfl <;> simp [stL, lv_args, Value.category]
      refine go_43 hB hW0 (by omega) 6 0 w (by omega) hG (fun j hj => hk j (by omega)) ho (fun w2 G2 k2 o2 => ?_)
      refine V_iinc (v := Int32.ofInt ((f : Int))) mi_237_93 (by simp [stL, lv_args, Value.category]) ?_
      rw [ia2]
      refine V_goto mi_237_96 ?_
      refine V_sub (lv' := [(0, .ref (ad 90)), (1, .int (Int32.ofInt (((f + 1 : Nat) : Int))))]) (fun q hq => ?_) ?_
      · simp only [List.mem_cons, List.not_mem_nil, or_false] at hq
        rcases hq with rfl | rfl <;> simp [stL, lv_args, Value.category]
      exact go_35 hB hW0 m (f + 1) w2 (by omega) G2 (fun j hj => k2 j (by omega)) o2 kk
end XSC
section XSD
variable {l : Launch} {D : va_G} {tys : List (ClassId × FieldType)} {A : Nat → Prop} {ad : Nat → Nat} {ws : va_W}
/-- what is known ahead of each of the first n hours, as the reference keeps it -/
noncomputable def KNM (G : Nat → Int) (n : Nat) (w : va_W) : Prop := ∀ h, h < n → ∀ j, j < 36 → rd w 98 (36 * h + j) = some (.int (Int32.ofInt ((tellT G h).K j)))
/-- nobody has heard yet what is to come -/
noncomputable def unp (G : Nat → Int) (T : TT) (h s0 : Nat) : Prop := ∀ s, s < 12 → (h < sWhn G s ∨ (sWhn G s = h ∧ s0 ≤ s)) → T.hb s = 0 ∧ T.lb s = 0
theorem unp_one {G : Nat → Int} {T : TT} {h s : Nat} (u : unp G T h s) (e : sWhn G s = h) : unp G (oneT G s T) h (s + 1) := fun i hi hq => by
  have q := u i hi (by omega)
  have ne : i ≠ s := fun q => by rw [q] at hq; omega
  unfold oneT
  split
  · exact ⟨(updI_ne ne).trans q.1, (updI_ne ne).trans q.2⟩
  · exact q
theorem unp_skip {G : Nat → Int} {T : TT} {h s : Nat} (u : unp G T h s) : unp G T h (s + 1) := fun i hi hq => u i hi (by omega)
theorem unp_next {G : Nat → Int} {T : TT} {h s : Nat} (u : unp G T h s) : unp G T (h + 1) 0 := fun i hi hq => u i hi (by omega)
theorem TM_re {G : Nat → Int} {T : TT} {w0 w : va_W} (h : TM ad tys G T w0 w) : TM ad tys G T w w := ⟨h.g, h.k, h.s, h.h, h.lr, fun _ _ _ _ => rfl, h.b⟩
theorem go_113 {G : Nat → Int} {T : TT} {w0 : va_W} {post : Option Value → va_W → Prop} {h : Nat} (h24 : h ≤ 24) : ∀ (m k : Nat) (w : va_W), k + m = 36 → TM ad tys G T w w → (∀ c j, c ≠ 98 → rd w c j = rd w0 c j) → (∀ j, j < 36 * h → rd w 98 j = rd w0 98 j) → (∀ j, j < k → rd w 98 (36 * h + j) = some (.int (Int32.ofInt (T.K j)))) → (∀ w' : va_W, TM ad tys G T w' w' → (∀ c j, c ≠ 98 → rd w' c j = rd w0 c j) → (∀ j, j < 36 * h → rd w' 98 j = rd w0 98 j) → (∀ j, j < 36 → rd w' 98 (36 * h + j) = some (.int (Int32.ofInt (T.K j)))) → V l D tys A 237 7 0 0 post 0 0 145 [(0, .ref (ad 90)), (1, .int (Int32.ofInt ((h : Int))))] [] w') → V l D tys A 237 7 0 0 post 0 0 113 [(0, .ref (ad 90)), (1, .int (Int32.ofInt ((h : Int)))), (2, .int (Int32.ofInt ((k : Int))))] [] w
  | 0, k, w, hm, hT, ho, hp, hd, kk => by
    obtain ⟨s99, e99, f99⟩ := a99
    obtain ⟨s98, e98, f98⟩ := a98
    refine V_iload (v := Int32.ofInt ((k : Int))) mi_237_113 (by simp [stL, lv_args, Value.category]) ?_
    refine V_aload (v := ad 90) mi_237_114 (by simp [stL, lv_args, Value.category]) ?_
    refine V_getI mi_237_115 hT.g (rref gr17 (by omega) hT.g) ?_
    refine V_lenA mi_237_118 hT.g e99 ?_
    refine V_cge mi_237_119 ⟨by omega, by omega⟩ ⟨by omega, by omega⟩ (fun q => ?_) (fun q => ?_)
    · have e : k = 36 := by omega
      subst e
      refine V_sub (lv' := [(0, .ref (ad 90)), (1, .int (Int32.ofInt ((h : Int))))]) (fun q hq => ?_) (kk w hT ho hp hd)
      simp only [List.mem_cons, List.not_mem_nil, or_false] at hq
      rcases hq with rfl | rfl <;> simp [stL, lv_args, Value.category]
    · exact absurd q (by omega)
  | m + 1, k, w, hm, hT, ho, hp, hd, kk => by
    obtain ⟨s99, e99, f99⟩ := a99
    obtain ⟨s98, e98, f98⟩ := a98
    refine V_iload (v := Int32.ofInt ((k : Int))) mi_237_113 (by simp [stL, lv_args, Value.category]) ?_
    refine V_aload (v := ad 90) mi_237_114 (by simp [stL, lv_args, Value.category]) ?_
    refine V_getI mi_237_115 hT.g (rref gr17 (by omega) hT.g) ?_
    refine V_lenA mi_237_118 hT.g e99 ?_
    refine V_cge mi_237_119 ⟨by omega, by omega⟩ ⟨by omega, by omega⟩ (fun q => ?_) (fun q => ?_)
    · exact absurd q (by omega)
    · have bk := hT.b k (by omega)
      refine V_aload (v := ad 90) mi_237_122 (by simp [stL, lv_args, Value.category]) ?_
      refine V_getI mi_237_123 hT.g (rref gr16 (by omega) hT.g) ?_
      refine V_ipush mi_237_126 ?_
      refine V_iload (v := Int32.ofInt ((h : Int))) mi_237_128 (by simp [stL, lv_args, Value.category]) ?_
      refine V_ibin mi_237_129 (by omega) ?_
      rw [ib2]
      refine V_iload (v := Int32.ofInt ((k : Int))) mi_237_130 (by simp [stL, lv_args, Value.category]) ?_
      refine V_ibin mi_237_131 (by omega) ?_
      rw [ib0]
      refine V_aload (v := ad 90) mi_237_132 (by simp [stL, lv_args, Value.category]) ?_
      refine V_getI mi_237_133 hT.g (rref gr17 (by omega) hT.g) ?_
      refine V_iload (v := Int32.ofInt ((k : Int))) mi_237_136 (by simp [stL, lv_args, Value.category]) ?_
      refine V_aldX (j := k) mi_237_137 rfl hT.g e99 (by omega) (by omega) (hT.k _ (by omega)) ?_
      refine V_astX (j := 36 * h + k) mi_237_138 (by rw [show 36 * (h : Int) + (k : Int) = ((36 * h + k : Nat) : Int) by omega]) hT.g e98 (by omega) (by omega) (f98 _ (by omega)) (by rw [Int32.toInt_ofInt_of_le (by omega) (by omega)]; omega) (by rw [Int32.toInt_ofInt_of_le (by omega) (by omega)]; omega) (fun w2 Gw2 Uw2 => ?_)
      refine V_iinc (v := Int32.ofInt ((k : Int))) mi_237_139 (by simp [stL, lv_args, Value.category]) ?_
      rw [ia2]
      refine V_goto mi_237_142 ?_
      refine V_sub (lv' := [(0, .ref (ad 90)), (1, .int (Int32.ofInt ((h : Int)))), (2, .int (Int32.ofInt (((k + 1 : Nat) : Int))))]) (fun q hq => ?_) ?_
      · simp only [List.mem_cons, List.not_mem_nil, or_false] at hq
        rcases hq with rfl | rfl | rfl <;> simp [stL, lv_args, Value.category]
      · refine go_113 h24 m (k + 1) w2 (by omega) ⟨Gw2, fun j hj => (upd_ne Uw2 (by omega)).trans (hT.k j hj), (upd_ne Uw2 (by omega)).trans hT.s, fun j hj => (upd_ne Uw2 (by omega)).trans (hT.h j hj), fun j hj => (upd_ne Uw2 (by omega)).trans (hT.lr j hj), fun _ _ _ _ => rfl, hT.b⟩ (fun c j hc => (upd_ne Uw2 (by omega)).trans (ho c j hc)) (fun j hj => (upd_ne Uw2 (by omega)).trans (hp j hj)) (fun j hj => ?_) kk
        by_cases e : j = k
        · subst e
          exact upd_eq Uw2
        · exact (upd_ne Uw2 (by omega)).trans (hd j (by omega))
theorem go_147 {G : Nat → Int} {w0 : va_W} {post : Option Value → va_W → Prop} {h : Nat} (hh : h ≤ 24) (hB : HB G) (hW0 : W91 G w0) (h24 : rd w0 90 24 = some (.int (Int32.ofInt 0))) (h22 : rd w0 90 22 = some (.int (Int32.ofInt (-1)))) (h21 : rd w0 90 21 = some (.int (Int32.ofInt 0))) : ∀ (m s : Nat) (T : TT) (w : va_W), ((s + m : Nat) : Int) = G 4 → TM ad tys G T w0 w → unp G T h s → (∀ w' : va_W, TM ad tys G (sayT G h m s T) w0 w' → unp G (sayT G h m s T) h (s + m) → V l D tys A 237 7 0 0 post 0 0 178 [(0, .ref (ad 90)), (1, .int (Int32.ofInt ((h : Int))))] [] w') → V l D tys A 237 7 0 0 post 0 0 147 [(0, .ref (ad 90)), (1, .int (Int32.ofInt ((h : Int)))), (2, .int (Int32.ofInt ((s : Int))))] [] w
  | 0, s, T, w, hm, hT, u, kk => by
    obtain ⟨s91, e91, -⟩ := g91s
    have b4 := hB.b4
    have hW : W91 G w := fun j hj => (hT.o 91 j (by omega) (by omega)).trans (hW0 j hj)
    refine V_iload (v := Int32.ofInt ((s : Int))) mi_237_147 (by simp [stL, lv_args, Value.category]) ?_
    refine V_aload (v := ad 90) mi_237_148 (by simp [stL, lv_args, Value.category]) ?_
    refine V_getI mi_237_149 hT.g (rref gr1m (by omega) hT.g) ?_
    refine V_ipush mi_237_152 ?_
    refine V_aldX (j := 4) mi_237_153 rfl hT.g e91 (by omega) (by omega) (hW _ (by omega)) ?_
    refine V_cge mi_237_154 ⟨by omega, by omega⟩ ⟨by omega, by omega⟩ (fun q => ?_) (fun q => ?_)
    · refine V_sub (lv' := [(0, .ref (ad 90)), (1, .int (Int32.ofInt ((h : Int))))]) (fun q hq => ?_) (kk w hT u)
      simp only [List.mem_cons, List.not_mem_nil, or_false] at hq
      rcases hq with rfl | rfl <;> simp [stL, lv_args, Value.category]
    · exact absurd q (by omega)
  | m + 1, s, T, w, hm, hT, u, kk => by
    rw [show s + (m + 1) = s + 1 + m by omega] at kk
    obtain ⟨s91, e91, -⟩ := g91s
    have b4 := hB.b4
    have hW : W91 G w := fun j hj => (hT.o 91 j (by omega) (by omega)).trans (hW0 j hj)
    refine V_iload (v := Int32.ofInt ((s : Int))) mi_237_147 (by simp [stL, lv_args, Value.category]) ?_
    refine V_aload (v := ad 90) mi_237_148 (by simp [stL, lv_args, Value.category]) ?_
    refine V_getI mi_237_149 hT.g (rref gr1m (by omega) hT.g) ?_
    refine V_ipush mi_237_152 ?_
    refine V_aldX (j := 4) mi_237_153 rfl hT.g e91 (by omega) (by omega) (hW _ (by omega)) ?_
    refine V_cge mi_237_154 ⟨by omega, by omega⟩ ⟨by omega, by omega⟩ (fun q => ?_) (fun q => ?_)
    · exact absurd q (by omega)
    · obtain ⟨⟨w6, o6, i6, n24⟩, g0, g1, g2, g3⟩ := say_b hB (s := s) (by omega)
      refine V_aload (v := ad 90) mi_237_157 (by simp [stL, lv_args, Value.category]) ?_
      refine V_iload (v := Int32.ofInt ((s : Int))) mi_237_158 (by simp [stL, lv_args, Value.category]) ?_
      refine V_ipush mi_237_159 ?_
      refine V_callM (As := [.int (Int32.ofInt ((s : Int))), .int (Int32.ofInt (3))]) (st := []) mi_237_160 (by omega) (by decide +kernel) (by decide +kernel) hT.g (mos_ct (k := s) (a := 3) hT.g hW hB (by omega) (by omega)) (by omega) (show 2 = mN 208 by decide +kernel) (by simp [Value.category]) ?_
      rintro r w1 ⟨e1, rfl⟩
      rw [e1, g3]
      refine V_iload (v := Int32.ofInt ((h : Int))) mi_237_163 (by simp [stL, lv_args, Value.category]) ?_
      refine V_cne mi_237_164 ⟨by omega, by omega⟩ ⟨by omega, by omega⟩ (fun q2 => ?_) (fun q2 => ?_)
      · refine V_iinc (v := Int32.ofInt ((s : Int))) mi_237_172 (by simp [stL, lv_args, Value.category]) ?_
        rw [ia2]
        refine V_goto mi_237_175 ?_
        refine V_sub (lv' := [(0, .ref (ad 90)), (1, .int (Int32.ofInt ((h : Int)))), (2, .int (Int32.ofInt (((s + 1 : Nat) : Int))))]) (fun q hq => ?_) ?_
        · simp only [List.mem_cons, List.not_mem_nil, or_false] at hq
          rcases hq with rfl | rfl | rfl <;> simp [stL, lv_args, Value.category]
        · have es : sayT G h (m + 1) s T = sayT G h m (s + 1) (T) := by
            show sayT G h m (s + 1) (if sWhn G s = h then oneT G s T else T) = _
            rw [if_neg (by omega)]
          rw [es] at kk
          exact go_147 hh hB hW0 h24 h22 h21 m (s + 1) (T) w (by omega) hT (unp_skip u) kk
      · have z := u s (by omega) (by omega)
        refine V_aload (v := ad 90) mi_237_167 (by simp [stL, lv_args, Value.category]) ?_
        refine V_iload (v := Int32.ofInt ((s : Int))) mi_237_168 (by simp [stL, lv_args, Value.category]) ?_
        refine V_callM (As := [.int (Int32.ofInt ((s : Int)))]) (st := []) mi_237_169 (by omega) (by decide +kernel) (by decide +kernel) hT.g (say_ct hB (by omega) hW0 h24 h22 h21 hT z.1 z.2) (by omega) (show 1 = mN 236 by decide +kernel) (by simp [Value.category]) ?_
        rintro r w2 ⟨rfl, h2⟩
        refine V_iinc (v := Int32.ofInt ((s : Int))) mi_237_172 (by simp [stL, lv_args, Value.category]) ?_
        rw [ia2]
        refine V_goto mi_237_175 ?_
        refine V_sub (lv' := [(0, .ref (ad 90)), (1, .int (Int32.ofInt ((h : Int)))), (2, .int (Int32.ofInt (((s + 1 : Nat) : Int))))]) (fun q hq => ?_) ?_
        · simp only [List.mem_cons, List.not_mem_nil, or_false] at hq
          rcases hq with rfl | rfl | rfl <;> simp [stL, lv_args, Value.category]
        · have es : sayT G h (m + 1) s T = sayT G h m (s + 1) (oneT G s T) := by
            show sayT G h m (s + 1) (if sWhn G s = h then oneT G s T else T) = _
            rw [if_pos (by omega)]
          rw [es] at kk
          exact go_147 hh hB hW0 h24 h22 h21 m (s + 1) (oneT G s T) w2 (by omega) h2 (unp_one u (by omega)) kk
theorem go_101 {G : Nat → Int} {w0 : va_W} {post : Option Value → va_W → Prop} (hB : HB G) (hW0 : W91 G w0) (h24 : rd w0 90 24 = some (.int (Int32.ofInt 0))) (h22 : rd w0 90 22 = some (.int (Int32.ofInt (-1)))) (h21 : rd w0 90 21 = some (.int (Int32.ofInt 0))) : ∀ (m h : Nat) (w : va_W), ((h + m : Nat) : Int) = G 2 + 1 → TM ad tys G (tellT G h) w w → unp G (tellT G h) h 0 → KNM G h w → (∀ c j, ¬ (98 ≤ c ∧ c ≤ 101) → ¬ (c = 90 ∧ j = 18) → rd w c j = rd w0 c j) → (∀ w' : va_W, TM ad tys G (tellT G ((G 2).toNat + 1)) w' w' → KNM G ((G 2).toNat + 1) w' → (∀ c j, ¬ (98 ≤ c ∧ c ≤ 101) → ¬ (c = 90 ∧ j = 18) → rd w' c j = rd w0 c j) → post none w') → V l D tys A 237 7 0 0 post 0 0 101 [(0, .ref (ad 90)), (1, .int (Int32.ofInt ((h : Int))))] [] w
  | 0, h, w, hm, hT, u, hk, ho, kk => by
    obtain ⟨s91, e91, -⟩ := g91s
    have b2 := hB.b2
    have b4 := hB.b4
    have hW : W91 G w := fun j hj => (ho 91 j (by omega) (by omega)).trans (hW0 j hj)
    refine V_iload (v := Int32.ofInt ((h : Int))) mi_237_101 (by simp [stL, lv_args, Value.category]) ?_
    refine V_aload (v := ad 90) mi_237_102 (by simp [stL, lv_args, Value.category]) ?_
    refine V_getI mi_237_103 hT.g (rref gr1m (by omega) hT.g) ?_
    refine V_ipush mi_237_106 ?_
    refine V_aldX (j := 2) mi_237_107 rfl hT.g e91 (by omega) (by omega) (hW _ (by omega)) ?_
    refine V_cgt mi_237_108 ⟨by omega, by omega⟩ ⟨by omega, by omega⟩ (fun q => ?_) (fun q => ?_)
    · have e : h = (G 2).toNat + 1 := by omega
      rw [e] at hT hk
      exact V_retV mi_237_184 (kk w hT hk ho)
    · exact absurd q (by omega)
  | m + 1, h, w, hm, hT, u, hk, ho, kk => by
    obtain ⟨s91, e91, -⟩ := g91s
    have b2 := hB.b2
    have b4 := hB.b4
    have hW : W91 G w := fun j hj => (ho 91 j (by omega) (by omega)).trans (hW0 j hj)
    refine V_iload (v := Int32.ofInt ((h : Int))) mi_237_101 (by simp [stL, lv_args, Value.category]) ?_
    refine V_aload (v := ad 90) mi_237_102 (by simp [stL, lv_args, Value.category]) ?_
    refine V_getI mi_237_103 hT.g (rref gr1m (by omega) hT.g) ?_
    refine V_ipush mi_237_106 ?_
    refine V_aldX (j := 2) mi_237_107 rfl hT.g e91 (by omega) (by omega) (hW _ (by omega)) ?_
    refine V_cgt mi_237_108 ⟨by omega, by omega⟩ ⟨by omega, by omega⟩ (fun q => ?_) (fun q => ?_)
    · exact absurd q (by omega)
    · refine V_ipush mi_237_111 ?_
      refine V_istore mi_237_112 ?_
      refine V_sub (lv' := [(0, .ref (ad 90)), (1, .int (Int32.ofInt ((h : Int)))), (2, .int (Int32.ofInt (((0 : Nat) : Int))))]) (fun q hq => ?_) ?_
      · simp only [List.mem_cons, List.not_mem_nil, or_false] at hq
        rcases hq with rfl | rfl | rfl <;> simp [stL, lv_args, Value.category]
      refine go_113 (w0 := w) (by omega) 36 0 w (by omega) (TM_re hT) (fun _ _ _ => rfl) (fun _ _ => rfl) (fun j hj => absurd hj (by omega)) (fun w2 T2 o2 p2 d2 => ?_)
      refine V_ipush mi_237_145 ?_
      refine V_istore mi_237_146 ?_
      refine V_sub (lv' := [(0, .ref (ad 90)), (1, .int (Int32.ofInt ((h : Int)))), (2, .int (Int32.ofInt (((0 : Nat) : Int))))]) (fun q hq => ?_) ?_
      · simp only [List.mem_cons, List.not_mem_nil, or_false] at hq
        rcases hq with rfl | rfl | rfl <;> simp [stL, lv_args, Value.category]
      have oo : ∀ c j, ¬ (98 ≤ c ∧ c ≤ 101) → ¬ (c = 90 ∧ j = 18) → rd w2 c j = rd w0 c j := fun c j h1 h2 => (o2 c j (by omega)).trans (ho c j h1 h2)
      refine go_147 (w0 := w2) (by omega) hB (fun j hj => (oo 91 j (by omega) (by omega)).trans (hW0 j hj)) ((oo _ _ (by omega) (by omega)).trans h24) ((oo _ _ (by omega) (by omega)).trans h22) ((oo _ _ (by omega) (by omega)).trans h21) (G 4).toNat 0 (tellT G h) w2 (by rw [Nat.zero_add, Int.toNat_of_nonneg b4.1]) T2 u (fun w3 T3 u3 => ?_)
      refine V_iinc (v := Int32.ofInt ((h : Int))) mi_237_178 (by simp [stL, lv_args, Value.category]) ?_
      rw [ia2]
      refine V_goto mi_237_181 ?_
      refine V_sub (lv' := [(0, .ref (ad 90)), (1, .int (Int32.ofInt (((h + 1 : Nat) : Int))))]) (fun q hq => ?_) ?_
      · simp only [List.mem_cons, List.not_mem_nil, or_false] at hq
        rcases hq with rfl | rfl <;> simp [stL, lv_args, Value.category]
      · refine go_101 hB hW0 h24 h22 h21 m (h + 1) w3 (by omega) (show TM ad tys G (tellT G (h + 1)) w3 w3 from TM_re T3) (unp_next u3) (fun g hg j hj => ?_) (fun c j h1 h2 => (T3.o c j (by omega) h2).trans (oo c j h1 h2)) kk
        rw [T3.o _ _ (by omega) (by omega)]
        by_cases e : g = h
        · subst e
          exact d2 j hj
        · rw [p2 _ (by omega)]
          exact hk g (by omega) j hj
theorem ini_ok {G : Nat → Int} (hB : HB G) : kOK (iniK G) := fun j hj => by
  unfold iniK
  split
  · have bl := hB.bl (j % 6) (by omega)
    exact (allV_k bl.1 bl.2).2
  · exact hB.bt j hj
theorem gon_ct {G : Nat → Int} (hB : HB G) (hG : GOK ad tys GG ws) (hW : W91 G ws) (h24 : rd ws 90 24 = some (.int (Int32.ofInt 0))) (h22 : rd ws 90 22 = some (.int (Int32.ofInt (-1)))) (h21 : rd ws 90 21 = some (.int (Int32.ofInt 0))) : CT l D tys A 237 7 0 0 [.ref (ad 90)] ws (fun r w => r = none ∧ TM ad tys G (tellT G ((G 2).toNat + 1)) w w ∧ KNM G ((G 2).toNat + 1) w ∧ ∀ c j, ¬ (98 ≤ c ∧ c ≤ 101) → ¬ (c = 90 ∧ j = 18) → rd w c j = rd ws c j) := by
  refine CT_of_V (by omega) (show (1 : Nat) ≤ mML 237 by decide +kernel) ?_
  refine V_aload (v := ad 90) mi_237_0 (by simp [stL, lv_args, Value.category]) ?_
  refine V_ipush mi_237_1 ?_
  refine V_putI mi_237_2 hG f18m (by omega) rfl (by decide +kernel) (i32b _).1 (i32b _).2 (fun w1 G1 U1 => ?_)
  refine V_ipush mi_237_5 ?_
  refine V_istore mi_237_6 ?_
  refine V_sub (lv' := [(0, .ref (ad 90)), (1, .int (Int32.ofInt (((0 : Nat) : Int))))]) (fun q hq => ?_) ?_
  · simp only [List.mem_cons, List.not_mem_nil, or_false] at hq
    rcases hq with rfl | rfl <;> simp [stL, lv_args, Value.category]
  refine go_7 (w0 := w1) 12 0 w1 (by omega) G1 (fun j hj => absurd hj (by omega)) (fun j hj => absurd hj (by omega)) (fun _ _ _ _ => rfl) (fun w2 G2 h2 l2 o2 => ?_)
  refine V_ipush mi_237_33 ?_
  refine V_istore mi_237_34 ?_
  refine V_sub (lv' := [(0, .ref (ad 90)), (1, .int (Int32.ofInt (((0 : Nat) : Int))))]) (fun q hq => ?_) ?_
  · simp only [List.mem_cons, List.not_mem_nil, or_false] at hq
    rcases hq with rfl | rfl <;> simp [stL, lv_args, Value.category]
  have hW2 : W91 G w2 := fun j hj => (o2 _ _ (by omega) (by omega)).trans ((upd_ne U1 (by omega)).trans (hW j hj))
  refine go_35 (w0 := w2) hB hW2 6 0 w2 (by omega) G2 (fun j hj => absurd hj (by omega)) (fun _ _ _ => rfl) (fun w3 G3 k3 o3 => ?_)
  refine V_ipush mi_237_99 ?_
  refine V_istore mi_237_100 ?_
  refine V_sub (lv' := [(0, .ref (ad 90)), (1, .int (Int32.ofInt (((0 : Nat) : Int))))]) (fun q hq => ?_) ?_
  · simp only [List.mem_cons, List.not_mem_nil, or_false] at hq
    rcases hq with rfl | rfl <;> simp [stL, lv_args, Value.category]
  have b2 := hB.b2
  have oo : ∀ c j, ¬ (98 ≤ c ∧ c ≤ 101) → ¬ (c = 90 ∧ j = 18) → rd w3 c j = rd ws c j := fun c j h1 h3 => (o3 c j (by omega)).trans ((o2 c j (by omega) (by omega)).trans (upd_ne U1 (by omega)))
  exact go_101 (w0 := ws) hB hW h24 h22 h21 ((G 2).toNat + 1) 0 w3 (by omega) ⟨G3, k3, (o3 _ _ (by omega)).trans ((o2 _ _ (by omega) (by omega)).trans (upd_eq U1)), fun j hj => (o3 _ _ (by omega)).trans (h2 j hj), fun j hj => (o3 _ _ (by omega)).trans (l2 j hj), fun _ _ _ _ => rfl, ini_ok hB⟩ (fun _ _ _ => ⟨rfl, rfl⟩) (fun g hg => absurd hg (by omega)) oo (fun w4 T4 k4 o4 => ⟨rfl, T4, k4, o4⟩)
theorem f21m : gF 21 (-2147483648) 2147483647 := ⟨_, rfl, by decide +kernel⟩
/-- as told: what is known, said, heard, learnt -/
theorem gat_ct {G : Nat → Int} (hB : HB G) (hG : GOK ad tys GG ws) (hW : W91 G ws) (h24 : rd ws 90 24 = some (.int (Int32.ofInt 0))) (h22 : rd ws 90 22 = some (.int (Int32.ofInt (-1)))) : CT l D tys A 238 8 0 0 [.ref (ad 90)] ws (fun r w => r = none ∧ TM ad tys G (tellT G ((G 2).toNat + 1)) w w ∧ KNM G ((G 2).toNat + 1) w ∧ ∀ c j, ¬ (98 ≤ c ∧ c ≤ 101) → ¬ (c = 90 ∧ j = 18) → ¬ (c = 90 ∧ j = 21) → rd w c j = rd ws c j) := by
  refine CT_of_V (by omega) (show (1 : Nat) ≤ mML 238 by decide +kernel) ?_
  refine V_aload (v := ad 90) mi_238_0 (by simp [stL, lv_args, Value.category]) ?_
  refine V_ipush mi_238_1 ?_
  refine V_putI mi_238_2 hG f21m (by omega) rfl (by decide +kernel) (i32b _).1 (i32b _).2 (fun w1 G1 U1 => ?_)
  refine V_aload (v := ad 90) mi_238_5 (by simp [stL, lv_args, Value.category]) ?_
  refine V_callM (As := []) (st := []) mi_238_6 (by omega) (by decide +kernel) (by decide +kernel) G1 (gon_ct hB G1 (fun j hj => (upd_ne U1 (by omega)).trans (hW j hj)) ((upd_ne U1 (by omega)).trans h24) ((upd_ne U1 (by omega)).trans h22) (upd_eq U1)) (by omega) (show 0 = mN 237 by decide +kernel) (by simp [Value.category]) ?_
  rintro r w2 ⟨rfl, T2, k2, o2⟩
  exact V_retV mi_238_9 ⟨rfl, T2, k2, fun c j h1 h2 h3 => (o2 c j h1 h2).trans (upd_ne U1 (by omega))⟩
end XSD
end
section
theorem mi_25_0 : mI 25 0 = (5, 0, 0, 0, 0) := by decide +kernel
theorem mi_25_1 : mI 25 1 = (17, 299, 24, 10, 2) := by decide +kernel
theorem mi_25_4 : mI 25 4 = (3, 0, 1, 0, 0) := by decide +kernel
theorem mi_25_5 : mI 25 5 = (26, 607, 113, 102, 0) := by decide +kernel
theorem mi_25_8 : mI 25 8 = (14, 14, 0, 22, 0) := by decide +kernel
theorem mi_25_11 : mI 25 11 = (5, 0, 0, 0, 0) := by decide +kernel
theorem mi_25_12 : mI 25 12 = (17, 299, 24, 10, 2) := by decide +kernel
theorem mi_25_15 : mI 25 15 = (3, 0, 2, 0, 0) := by decide +kernel
theorem mi_25_16 : mI 25 16 = (26, 630, 145, 103, 0) := by decide +kernel
theorem mi_25_19 : mI 25 19 = (14, 6, 1, 25, 0) := by decide +kernel
theorem mi_25_22 : mI 25 22 = (1, (-2), 1, 0, 0) := by decide +kernel
theorem mi_25_24 : mI 25 24 = (27, 0, 0, 0, 0) := by decide +kernel
theorem mi_25_25 : mI 25 25 = (1, 0, 0, 0, 0) := by decide +kernel
theorem mi_25_26 : mI 25 26 = (6, 0, 3, 0, 0) := by decide +kernel
theorem mi_25_27 : mI 25 27 = (1, 0, 0, 0, 0) := by decide +kernel
theorem mi_25_28 : mI 25 28 = (6, 0, 4, 1, 0) := by decide +kernel
theorem mi_25_30 : mI 25 30 = (3, 0, 4, 1, 0) := by decide +kernel
theorem mi_25_32 : mI 25 32 = (5, 0, 0, 0, 0) := by decide +kernel
theorem mi_25_33 : mI 25 33 = (17, 299, 24, 10, 2) := by decide +kernel
theorem mi_25_36 : mI 25 36 = (17, 107, 196, 2, 4) := by decide +kernel
theorem mi_25_39 : mI 25 39 = (15, 33, 3, 72, 0) := by decide +kernel
theorem mi_25_42 : mI 25 42 = (3, 0, 4, 1, 0) := by decide +kernel
theorem mi_25_44 : mI 25 44 = (3, 0, 1, 0, 0) := by decide +kernel
theorem mi_25_45 : mI 25 45 = (15, 21, 0, 66, 0) := by decide +kernel
theorem mi_25_48 : mI 25 48 = (5, 0, 0, 0, 0) := by decide +kernel
theorem mi_25_49 : mI 25 49 = (3, 0, 4, 1, 0) := by decide +kernel
theorem mi_25_51 : mI 25 51 = (3, 0, 1, 0, 0) := by decide +kernel
theorem mi_25_52 : mI 25 52 = (3, 0, 2, 0, 0) := by decide +kernel
theorem mi_25_53 : mI 25 53 = (26, 732, 202, 26, 0) := by decide +kernel
theorem mi_25_56 : mI 25 56 = (14, 10, 2, 66, 0) := by decide +kernel
theorem mi_25_59 : mI 25 59 = (3, 0, 3, 0, 0) := by decide +kernel
theorem mi_25_60 : mI 25 60 = (1, 1, 0, 0, 0) := by decide +kernel
theorem mi_25_61 : mI 25 61 = (3, 0, 4, 1, 0) := by decide +kernel
theorem mi_25_63 : mI 25 63 = (10, 0, 8, 0, 0) := by decide +kernel
theorem mi_25_64 : mI 25 64 = (10, 0, 6, 0, 0) := by decide +kernel
theorem mi_25_65 : mI 25 65 = (6, 0, 3, 0, 0) := by decide +kernel
theorem mi_25_66 : mI 25 66 = (9, 1, 4, 0, 0) := by decide +kernel
theorem mi_25_69 : mI 25 69 = (16, (-39), 0, 30, 0) := by decide +kernel
theorem mi_25_72 : mI 25 72 = (3, 0, 3, 0, 0) := by decide +kernel
theorem mi_25_73 : mI 25 73 = (27, 0, 0, 0, 0) := by decide +kernel
theorem mi_26_0 : mI 26 0 = (5, 0, 0, 0, 0) := by decide +kernel
theorem mi_26_1 : mI 26 1 = (17, 302, 41, 10, 5) := by decide +kernel
theorem mi_26_4 : mI 26 4 = (5, 0, 0, 0, 0) := by decide +kernel
theorem mi_26_5 : mI 26 5 = (17, 299, 24, 10, 2) := by decide +kernel
theorem mi_26_8 : mI 26 8 = (3, 0, 1, 0, 0) := by decide +kernel
theorem mi_26_9 : mI 26 9 = (3, 0, 2, 0, 0) := by decide +kernel
theorem mi_26_10 : mI 26 10 = (3, 0, 3, 0, 0) := by decide +kernel
theorem mi_26_11 : mI 26 11 = (26, 736, 208, 177, 0) := by decide +kernel
theorem mi_26_14 : mI 26 14 = (14, 6, 1, 20, 0) := by decide +kernel
theorem mi_26_17 : mI 26 17 = (1, (-5), 1, 0, 0) := by decide +kernel
theorem mi_26_19 : mI 26 19 = (27, 0, 0, 0, 0) := by decide +kernel
theorem mi_26_20 : mI 26 20 = (3, 0, 3, 0, 0) := by decide +kernel
theorem mi_26_21 : mI 26 21 = (5, 0, 0, 0, 0) := by decide +kernel
theorem mi_26_22 : mI 26 22 = (17, 299, 24, 10, 2) := by decide +kernel
theorem mi_26_25 : mI 26 25 = (3, 0, 2, 0, 0) := by decide +kernel
theorem mi_26_26 : mI 26 26 = (26, 620, 125, 106, 0) := by decide +kernel
theorem mi_26_29 : mI 26 29 = (5, 0, 0, 0, 0) := by decide +kernel
theorem mi_26_30 : mI 26 30 = (17, 299, 24, 10, 2) := by decide +kernel
theorem mi_26_33 : mI 26 33 = (17, 119, 129, 2, 8) := by decide +kernel
theorem mi_26_36 : mI 26 36 = (3, 0, 1, 0, 0) := by decide +kernel
theorem mi_26_37 : mI 26 37 = (26, 625, 133, 147, 1) := by decide +kernel
theorem mi_26_40 : mI 26 40 = (10, 0, 2, 0, 0) := by decide +kernel
theorem mi_26_41 : mI 26 41 = (10, 0, 0, 0, 0) := by decide +kernel
theorem mi_26_42 : mI 26 42 = (1, 1, 0, 0, 0) := by decide +kernel
theorem mi_26_43 : mI 26 43 = (10, 0, 1, 0, 0) := by decide +kernel
theorem mi_26_44 : mI 26 44 = (6, 0, 4, 1, 0) := by decide +kernel
theorem mi_26_46 : mI 26 46 = (5, 0, 0, 0, 0) := by decide +kernel
theorem mi_26_47 : mI 26 47 = (17, 299, 24, 10, 2) := by decide +kernel
theorem mi_26_50 : mI 26 50 = (3, 0, 4, 1, 0) := by decide +kernel
theorem mi_26_52 : mI 26 52 = (26, 630, 145, 103, 0) := by decide +kernel
theorem mi_26_55 : mI 26 55 = (14, 5, 1, 60, 0) := by decide +kernel
theorem mi_26_58 : mI 26 58 = (1, (-1), 0, 0, 0) := by decide +kernel
theorem mi_26_59 : mI 26 59 = (27, 0, 0, 0, 0) := by decide +kernel
theorem mi_26_60 : mI 26 60 = (3, 0, 3, 0, 0) := by decide +kernel
theorem mi_26_61 : mI 26 61 = (6, 0, 5, 1, 0) := by decide +kernel
theorem mi_26_63 : mI 26 63 = (3, 0, 5, 1, 0) := by decide +kernel
theorem mi_26_65 : mI 26 65 = (3, 0, 4, 1, 0) := by decide +kernel
theorem mi_26_67 : mI 26 67 = (15, 34, 4, 101, 0) := by decide +kernel
theorem mi_26_70 : mI 26 70 = (5, 0, 0, 0, 0) := by decide +kernel
theorem mi_26_71 : mI 26 71 = (17, 299, 24, 10, 2) := by decide +kernel
theorem mi_26_74 : mI 26 74 = (3, 0, 1, 0, 0) := by decide +kernel
theorem mi_26_75 : mI 26 75 = (3, 0, 5, 1, 0) := by decide +kernel
theorem mi_26_77 : mI 26 77 = (26, 631, 148, 110, 0) := by decide +kernel
theorem mi_26_80 : mI 26 80 = (5, 0, 0, 0, 0) := by decide +kernel
theorem mi_26_81 : mI 26 81 = (17, 299, 24, 10, 2) := by decide +kernel
theorem mi_26_84 : mI 26 84 = (3, 0, 2, 0, 0) := by decide +kernel
theorem mi_26_85 : mI 26 85 = (3, 0, 5, 1, 0) := by decide +kernel
theorem mi_26_87 : mI 26 87 = (26, 631, 148, 110, 0) := by decide +kernel
theorem mi_26_90 : mI 26 90 = (15, 5, 0, 95, 0) := by decide +kernel
theorem mi_26_93 : mI 26 93 = (1, (-1), 0, 0, 0) := by decide +kernel
theorem mi_26_94 : mI 26 94 = (27, 0, 0, 0, 0) := by decide +kernel
theorem mi_26_95 : mI 26 95 = (9, 1, 5, 0, 0) := by decide +kernel
theorem mi_26_98 : mI 26 98 = (16, (-35), 0, 63, 0) := by decide +kernel
theorem mi_26_101 : mI 26 101 = (3, 0, 4, 1, 0) := by decide +kernel
theorem mi_26_103 : mI 26 103 = (27, 0, 0, 0, 0) := by decide +kernel
theorem mi_73_0 : mI 73 0 = (5, 0, 0, 0, 0) := by decide +kernel
theorem mi_73_1 : mI 73 1 = (17, 301, 34, 10, 4) := by decide +kernel
theorem mi_73_4 : mI 73 4 = (5, 0, 0, 0, 0) := by decide +kernel
theorem mi_73_5 : mI 73 5 = (17, 299, 24, 10, 2) := by decide +kernel
theorem mi_73_8 : mI 73 8 = (26, 532, 404, 85, 0) := by decide +kernel
theorem mi_73_11 : mI 73 11 = (5, 0, 0, 0, 0) := by decide +kernel
theorem mi_73_12 : mI 73 12 = (17, 302, 41, 10, 5) := by decide +kernel
theorem mi_73_15 : mI 73 15 = (5, 0, 0, 0, 0) := by decide +kernel
theorem mi_73_16 : mI 73 16 = (17, 299, 24, 10, 2) := by decide +kernel
theorem mi_73_19 : mI 73 19 = (5, 0, 0, 0, 0) := by decide +kernel
theorem mi_73_20 : mI 73 20 = (17, 301, 34, 10, 4) := by decide +kernel
theorem mi_73_23 : mI 73 23 = (26, 553, 407, 173, 0) := by decide +kernel
theorem mi_73_26 : mI 73 26 = (27, 0, 2, 0, 0) := by decide +kernel
theorem mi_85_0 : mI 85 0 = (1, 0, 0, 0, 0) := by decide +kernel
theorem mi_85_1 : mI 85 1 = (6, 0, 2, 0, 0) := by decide +kernel
theorem mi_85_2 : mI 85 2 = (1, 0, 0, 0, 0) := by decide +kernel
theorem mi_85_3 : mI 85 3 = (6, 0, 3, 0, 0) := by decide +kernel
theorem mi_85_4 : mI 85 4 = (3, 0, 3, 0, 0) := by decide +kernel
theorem mi_85_5 : mI 85 5 = (5, 0, 1, 0, 0) := by decide +kernel
theorem mi_85_6 : mI 85 6 = (17, 94, 21, 2, 3) := by decide +kernel
theorem mi_85_9 : mI 85 9 = (15, 53, 3, 62, 0) := by decide +kernel
theorem mi_85_12 : mI 85 12 = (1, 0, 0, 0, 0) := by decide +kernel
theorem mi_85_13 : mI 85 13 = (6, 0, 4, 1, 0) := by decide +kernel
theorem mi_85_15 : mI 85 15 = (3, 0, 4, 1, 0) := by decide +kernel
theorem mi_85_17 : mI 85 17 = (5, 0, 1, 0, 0) := by decide +kernel
theorem mi_85_18 : mI 85 18 = (17, 108, 27, 2, 5) := by decide +kernel
theorem mi_85_21 : mI 85 21 = (15, 35, 3, 56, 0) := by decide +kernel
theorem mi_85_24 : mI 85 24 = (5, 0, 1, 0, 0) := by decide +kernel
theorem mi_85_25 : mI 85 25 = (17, 145, 30, 2, 16) := by decide +kernel
theorem mi_85_28 : mI 85 28 = (3, 0, 4, 1, 0) := by decide +kernel
theorem mi_85_30 : mI 85 30 = (26, 536, 33, 147, 1) := by decide +kernel
theorem mi_85_33 : mI 85 33 = (3, 0, 3, 0, 0) := by decide +kernel
theorem mi_85_34 : mI 85 34 = (15, 16, 1, 50, 0) := by decide +kernel
theorem mi_85_37 : mI 85 37 = (5, 0, 0, 0, 0) := by decide +kernel
theorem mi_85_38 : mI 85 38 = (17, 190, 9, 1, 0) := by decide +kernel
theorem mi_85_41 : mI 85 41 = (3, 0, 2, 0, 0) := by decide +kernel
theorem mi_85_42 : mI 85 42 = (3, 0, 4, 1, 0) := by decide +kernel
theorem mi_85_44 : mI 85 44 = (26, 537, 39, 148, 1) := by decide +kernel
theorem mi_85_47 : mI 85 47 = (9, 1, 2, 0, 0) := by decide +kernel
theorem mi_85_50 : mI 85 50 = (9, 1, 4, 0, 0) := by decide +kernel
theorem mi_85_53 : mI 85 53 = (16, (-38), 0, 15, 0) := by decide +kernel
theorem mi_85_56 : mI 85 56 = (9, 1, 3, 0, 0) := by decide +kernel
theorem mi_85_59 : mI 85 59 = (16, (-55), 0, 4, 0) := by decide +kernel
theorem mi_85_62 : mI 85 62 = (1, 0, 0, 0, 0) := by decide +kernel
theorem mi_85_63 : mI 85 63 = (6, 0, 3, 0, 0) := by decide +kernel
theorem mi_85_64 : mI 85 64 = (3, 0, 3, 0, 0) := by decide +kernel
theorem mi_85_65 : mI 85 65 = (5, 0, 1, 0, 0) := by decide +kernel
theorem mi_85_66 : mI 85 66 = (17, 108, 27, 2, 5) := by decide +kernel
theorem mi_85_69 : mI 85 69 = (15, 37, 3, 106, 0) := by decide +kernel
theorem mi_85_72 : mI 85 72 = (5, 0, 0, 0, 0) := by decide +kernel
theorem mi_85_73 : mI 85 73 = (17, 191, 15, 1, 1) := by decide +kernel
theorem mi_85_76 : mI 85 76 = (3, 0, 3, 0, 0) := by decide +kernel
theorem mi_85_77 : mI 85 77 = (5, 0, 1, 0, 0) := by decide +kernel
theorem mi_85_78 : mI 85 78 = (5, 0, 1, 0, 0) := by decide +kernel
theorem mi_85_79 : mI 85 79 = (17, 136, 43, 2, 13) := by decide +kernel
theorem mi_85_82 : mI 85 82 = (3, 0, 3, 0, 0) := by decide +kernel
theorem mi_85_83 : mI 85 83 = (26, 536, 33, 147, 1) := by decide +kernel
theorem mi_85_86 : mI 85 86 = (5, 0, 1, 0, 0) := by decide +kernel
theorem mi_85_87 : mI 85 87 = (17, 145, 30, 2, 16) := by decide +kernel
theorem mi_85_90 : mI 85 90 = (3, 0, 3, 0, 0) := by decide +kernel
theorem mi_85_91 : mI 85 91 = (26, 536, 33, 147, 1) := by decide +kernel
theorem mi_85_94 : mI 85 94 = (26, 538, 46, 86, 1) := by decide +kernel
theorem mi_85_97 : mI 85 97 = (26, 537, 39, 148, 1) := by decide +kernel
theorem mi_85_100 : mI 85 100 = (9, 1, 3, 0, 0) := by decide +kernel
theorem mi_85_103 : mI 85 103 = (16, (-39), 0, 64, 0) := by decide +kernel
theorem mi_85_106 : mI 85 106 = (27, 0, 2, 0, 0) := by decide +kernel
theorem mi_86_0 : mI 86 0 = (1, 0, 0, 0, 0) := by decide +kernel
theorem mi_86_1 : mI 86 1 = (6, 0, 3, 0, 0) := by decide +kernel
theorem mi_86_2 : mI 86 2 = (1, 0, 0, 0, 0) := by decide +kernel
theorem mi_86_3 : mI 86 3 = (6, 0, 4, 1, 0) := by decide +kernel
theorem mi_86_5 : mI 86 5 = (3, 0, 4, 1, 0) := by decide +kernel
theorem mi_86_7 : mI 86 7 = (5, 0, 0, 0, 0) := by decide +kernel
theorem mi_86_8 : mI 86 8 = (17, 104, 50, 2, 4) := by decide +kernel
theorem mi_86_11 : mI 86 11 = (15, 38, 3, 49, 0) := by decide +kernel
theorem mi_86_14 : mI 86 14 = (3, 0, 4, 1, 0) := by decide +kernel
theorem mi_86_16 : mI 86 16 = (3, 0, 1, 0, 0) := by decide +kernel
theorem mi_86_17 : mI 86 17 = (15, 26, 0, 43, 0) := by decide +kernel
theorem mi_86_20 : mI 86 20 = (5, 0, 0, 0, 0) := by decide +kernel
theorem mi_86_21 : mI 86 21 = (3, 0, 4, 1, 0) := by decide +kernel
theorem mi_86_23 : mI 86 23 = (3, 0, 2, 0, 0) := by decide +kernel
theorem mi_86_24 : mI 86 24 = (26, 541, 53, 110, 0) := by decide +kernel
theorem mi_86_27 : mI 86 27 = (5, 0, 0, 0, 0) := by decide +kernel
theorem mi_86_28 : mI 86 28 = (3, 0, 1, 0, 0) := by decide +kernel
theorem mi_86_29 : mI 86 29 = (3, 0, 2, 0, 0) := by decide +kernel
theorem mi_86_30 : mI 86 30 = (26, 541, 53, 110, 0) := by decide +kernel
theorem mi_86_33 : mI 86 33 = (15, 10, 1, 43, 0) := by decide +kernel
theorem mi_86_36 : mI 86 36 = (3, 0, 3, 0, 0) := by decide +kernel
theorem mi_86_37 : mI 86 37 = (1, 1, 0, 0, 0) := by decide +kernel
theorem mi_86_38 : mI 86 38 = (3, 0, 4, 1, 0) := by decide +kernel
theorem mi_86_40 : mI 86 40 = (10, 0, 8, 0, 0) := by decide +kernel
theorem mi_86_41 : mI 86 41 = (10, 0, 6, 0, 0) := by decide +kernel
theorem mi_86_42 : mI 86 42 = (6, 0, 3, 0, 0) := by decide +kernel
theorem mi_86_43 : mI 86 43 = (9, 1, 4, 0, 0) := by decide +kernel
theorem mi_86_46 : mI 86 46 = (16, (-41), 0, 5, 0) := by decide +kernel
theorem mi_86_49 : mI 86 49 = (3, 0, 3, 0, 0) := by decide +kernel
theorem mi_86_50 : mI 86 50 = (27, 0, 0, 0, 0) := by decide +kernel
theorem mi_87_0 : mI 87 0 = (5, 0, 1, 0, 0) := by decide +kernel
theorem mi_87_1 : mI 87 1 = (17, 132, 57, 2, 12) := by decide +kernel
theorem mi_87_4 : mI 87 4 = (5, 0, 0, 0, 0) := by decide +kernel
theorem mi_87_5 : mI 87 5 = (17, 192, 18, 1, 2) := by decide +kernel
theorem mi_87_8 : mI 87 8 = (26, 562, 60, 150, 1) := by decide +kernel
theorem mi_87_11 : mI 87 11 = (1, 0, 0, 0, 0) := by decide +kernel
theorem mi_87_12 : mI 87 12 = (6, 0, 2, 0, 0) := by decide +kernel
theorem mi_87_13 : mI 87 13 = (3, 0, 2, 0, 0) := by decide +kernel
theorem mi_87_14 : mI 87 14 = (5, 0, 1, 0, 0) := by decide +kernel
theorem mi_87_15 : mI 87 15 = (17, 104, 50, 2, 4) := by decide +kernel
theorem mi_87_18 : mI 87 18 = (15, 27, 3, 45, 0) := by decide +kernel
theorem mi_87_21 : mI 87 21 = (5, 0, 0, 0, 0) := by decide +kernel
theorem mi_87_22 : mI 87 22 = (17, 192, 18, 1, 2) := by decide +kernel
theorem mi_87_25 : mI 87 25 = (3, 0, 2, 0, 0) := by decide +kernel
theorem mi_87_26 : mI 87 26 = (1, 6, 1, 0, 0) := by decide +kernel
theorem mi_87_28 : mI 87 28 = (10, 0, 2, 0, 0) := by decide +kernel
theorem mi_87_29 : mI 87 29 = (3, 0, 2, 0, 0) := by decide +kernel
theorem mi_87_30 : mI 87 30 = (10, 0, 0, 0, 0) := by decide +kernel
theorem mi_87_31 : mI 87 31 = (5, 0, 1, 0, 0) := by decide +kernel
theorem mi_87_32 : mI 87 32 = (3, 0, 2, 0, 0) := by decide +kernel
theorem mi_87_33 : mI 87 33 = (26, 563, 64, 108, 0) := by decide +kernel
theorem mi_87_36 : mI 87 36 = (26, 537, 39, 148, 1) := by decide +kernel
theorem mi_87_39 : mI 87 39 = (9, 1, 2, 0, 0) := by decide +kernel
theorem mi_87_42 : mI 87 42 = (16, (-29), 0, 13, 0) := by decide +kernel
theorem mi_87_45 : mI 87 45 = (27, 0, 2, 0, 0) := by decide +kernel
theorem mi_88_0 : mI 88 0 = (5, 0, 0, 0, 0) := by decide +kernel
theorem mi_88_1 : mI 88 1 = (17, 192, 18, 1, 2) := by decide +kernel
theorem mi_88_4 : mI 88 4 = (3, 0, 1, 0, 0) := by decide +kernel
theorem mi_88_5 : mI 88 5 = (1, 6, 1, 0, 0) := by decide +kernel
theorem mi_88_7 : mI 88 7 = (10, 0, 2, 0, 0) := by decide +kernel
theorem mi_88_8 : mI 88 8 = (3, 0, 2, 0, 0) := by decide +kernel
theorem mi_88_9 : mI 88 9 = (10, 0, 0, 0, 0) := by decide +kernel
theorem mi_88_10 : mI 88 10 = (26, 536, 33, 147, 1) := by decide +kernel
theorem mi_88_13 : mI 88 13 = (27, 0, 0, 0, 0) := by decide +kernel
theorem mi_89_0 : mI 89 0 = (5, 0, 0, 0, 0) := by decide +kernel
theorem mi_89_1 : mI 89 1 = (17, 191, 15, 1, 1) := by decide +kernel
theorem mi_89_4 : mI 89 4 = (3, 0, 1, 0, 0) := by decide +kernel
theorem mi_89_5 : mI 89 5 = (26, 536, 33, 147, 1) := by decide +kernel
theorem mi_89_8 : mI 89 8 = (27, 0, 0, 0, 0) := by decide +kernel
theorem mi_90_0 : mI 90 0 = (5, 0, 0, 0, 0) := by decide +kernel
theorem mi_90_1 : mI 90 1 = (17, 190, 9, 1, 0) := by decide +kernel
theorem mi_90_4 : mI 90 4 = (3, 0, 1, 0, 0) := by decide +kernel
theorem mi_90_5 : mI 90 5 = (26, 536, 33, 147, 1) := by decide +kernel
theorem mi_90_8 : mI 90 8 = (27, 0, 0, 0, 0) := by decide +kernel
theorem mi_91_0 : mI 91 0 = (5, 0, 0, 0, 0) := by decide +kernel
theorem mi_91_1 : mI 91 1 = (5, 0, 1, 0, 0) := by decide +kernel
theorem mi_91_2 : mI 91 2 = (17, 136, 43, 2, 13) := by decide +kernel
theorem mi_91_5 : mI 91 5 = (3, 0, 2, 0, 0) := by decide +kernel
theorem mi_91_6 : mI 91 6 = (26, 536, 33, 147, 1) := by decide +kernel
theorem mi_91_9 : mI 91 9 = (5, 0, 1, 0, 0) := by decide +kernel
theorem mi_91_10 : mI 91 10 = (17, 139, 68, 2, 14) := by decide +kernel
theorem mi_91_13 : mI 91 13 = (3, 0, 2, 0, 0) := by decide +kernel
theorem mi_91_14 : mI 91 14 = (26, 536, 33, 147, 1) := by decide +kernel
theorem mi_91_17 : mI 91 17 = (26, 590, 71, 88, 0) := by decide +kernel
theorem mi_91_20 : mI 91 20 = (6, 0, 3, 0, 0) := by decide +kernel
theorem mi_91_21 : mI 91 21 = (3, 0, 3, 0, 0) := by decide +kernel
theorem mi_91_22 : mI 91 22 = (5, 0, 1, 0, 0) := by decide +kernel
theorem mi_91_23 : mI 91 23 = (17, 142, 74, 2, 15) := by decide +kernel
theorem mi_91_26 : mI 91 26 = (3, 0, 2, 0, 0) := by decide +kernel
theorem mi_91_27 : mI 91 27 = (26, 536, 33, 147, 1) := by decide +kernel
theorem mi_91_30 : mI 91 30 = (10, 0, 9, 0, 0) := by decide +kernel
theorem mi_91_31 : mI 91 31 = (1, 1, 0, 0, 0) := by decide +kernel
theorem mi_91_32 : mI 91 32 = (10, 0, 5, 0, 0) := by decide +kernel
theorem mi_91_33 : mI 91 33 = (14, 7, 0, 40, 0) := by decide +kernel
theorem mi_91_36 : mI 91 36 = (1, 1, 0, 0, 0) := by decide +kernel
theorem mi_91_37 : mI 91 37 = (16, 4, 0, 41, 0) := by decide +kernel
theorem mi_91_40 : mI 91 40 = (1, 0, 0, 0, 0) := by decide +kernel
theorem mi_91_41 : mI 91 41 = (27, 0, 0, 0, 0) := by decide +kernel
theorem mi_92_0 : mI 92 0 = (5, 0, 1, 0, 0) := by decide +kernel
theorem mi_92_1 : mI 92 1 = (17, 139, 68, 2, 14) := by decide +kernel
theorem mi_92_4 : mI 92 4 = (3, 0, 2, 0, 0) := by decide +kernel
theorem mi_92_5 : mI 92 5 = (26, 536, 33, 147, 1) := by decide +kernel
theorem mi_92_8 : mI 92 8 = (6, 0, 4, 1, 0) := by decide +kernel
theorem mi_92_10 : mI 92 10 = (1, 1, 0, 0, 0) := by decide +kernel
theorem mi_92_11 : mI 92 11 = (5, 0, 1, 0, 0) := by decide +kernel
theorem mi_92_12 : mI 92 12 = (17, 142, 74, 2, 15) := by decide +kernel
theorem mi_92_15 : mI 92 15 = (3, 0, 2, 0, 0) := by decide +kernel
theorem mi_92_16 : mI 92 16 = (26, 536, 33, 147, 1) := by decide +kernel
theorem mi_92_19 : mI 92 19 = (10, 0, 8, 0, 0) := by decide +kernel
theorem mi_92_20 : mI 92 20 = (6, 0, 5, 1, 0) := by decide +kernel
theorem mi_92_22 : mI 92 22 = (1, 0, 0, 0, 0) := by decide +kernel
theorem mi_92_23 : mI 92 23 = (6, 0, 6, 1, 0) := by decide +kernel
theorem mi_92_25 : mI 92 25 = (1, 0, 0, 0, 0) := by decide +kernel
theorem mi_92_26 : mI 92 26 = (6, 0, 7, 1, 0) := by decide +kernel
theorem mi_92_28 : mI 92 28 = (3, 0, 7, 1, 0) := by decide +kernel
theorem mi_92_30 : mI 92 30 = (5, 0, 1, 0, 0) := by decide +kernel
theorem mi_92_31 : mI 92 31 = (17, 104, 50, 2, 4) := by decide +kernel
theorem mi_92_34 : mI 92 34 = (15, 67, 3, 101, 0) := by decide +kernel
theorem mi_92_37 : mI 92 37 = (3, 0, 3, 0, 0) := by decide +kernel
theorem mi_92_38 : mI 92 38 = (3, 0, 7, 1, 0) := by decide +kernel
theorem mi_92_40 : mI 92 40 = (10, 0, 9, 0, 0) := by decide +kernel
theorem mi_92_41 : mI 92 41 = (1, 1, 0, 0, 0) := by decide +kernel
theorem mi_92_42 : mI 92 42 = (10, 0, 5, 0, 0) := by decide +kernel
theorem mi_92_43 : mI 92 43 = (14, 52, 0, 95, 0) := by decide +kernel
theorem mi_92_46 : mI 92 46 = (5, 0, 0, 0, 0) := by decide +kernel
theorem mi_92_47 : mI 92 47 = (3, 0, 7, 1, 0) := by decide +kernel
theorem mi_92_49 : mI 92 49 = (3, 0, 4, 1, 0) := by decide +kernel
theorem mi_92_51 : mI 92 51 = (26, 590, 71, 88, 0) := by decide +kernel
theorem mi_92_54 : mI 92 54 = (3, 0, 5, 1, 0) := by decide +kernel
theorem mi_92_56 : mI 92 56 = (10, 0, 5, 0, 0) := by decide +kernel
theorem mi_92_57 : mI 92 57 = (14, 38, 1, 95, 0) := by decide +kernel
theorem mi_92_60 : mI 92 60 = (5, 0, 0, 0, 0) := by decide +kernel
theorem mi_92_61 : mI 92 61 = (17, 192, 18, 1, 2) := by decide +kernel
theorem mi_92_64 : mI 92 64 = (3, 0, 7, 1, 0) := by decide +kernel
theorem mi_92_66 : mI 92 66 = (1, 6, 1, 0, 0) := by decide +kernel
theorem mi_92_68 : mI 92 68 = (10, 0, 2, 0, 0) := by decide +kernel
theorem mi_92_69 : mI 92 69 = (3, 0, 4, 1, 0) := by decide +kernel
theorem mi_92_71 : mI 92 71 = (10, 0, 0, 0, 0) := by decide +kernel
theorem mi_92_72 : mI 92 72 = (5, 0, 0, 0, 0) := by decide +kernel
theorem mi_92_73 : mI 92 73 = (3, 0, 7, 1, 0) := by decide +kernel
theorem mi_92_75 : mI 92 75 = (3, 0, 4, 1, 0) := by decide +kernel
theorem mi_92_77 : mI 92 77 = (26, 590, 71, 88, 0) := by decide +kernel
theorem mi_92_80 : mI 92 80 = (3, 0, 5, 1, 0) := by decide +kernel
theorem mi_92_82 : mI 92 82 = (10, 0, 6, 0, 0) := by decide +kernel
theorem mi_92_83 : mI 92 83 = (26, 537, 39, 148, 1) := by decide +kernel
theorem mi_92_86 : mI 92 86 = (3, 0, 6, 1, 0) := by decide +kernel
theorem mi_92_88 : mI 92 88 = (1, 1, 0, 0, 0) := by decide +kernel
theorem mi_92_89 : mI 92 89 = (3, 0, 7, 1, 0) := by decide +kernel
theorem mi_92_91 : mI 92 91 = (10, 0, 8, 0, 0) := by decide +kernel
theorem mi_92_92 : mI 92 92 = (10, 0, 6, 0, 0) := by decide +kernel
theorem mi_92_93 : mI 92 93 = (6, 0, 6, 1, 0) := by decide +kernel
theorem mi_92_95 : mI 92 95 = (9, 1, 7, 0, 0) := by decide +kernel
theorem mi_92_98 : mI 92 98 = (16, (-70), 0, 28, 0) := by decide +kernel
theorem mi_92_101 : mI 92 101 = (3, 0, 6, 1, 0) := by decide +kernel
theorem mi_92_103 : mI 92 103 = (27, 0, 0, 0, 0) := by decide +kernel
theorem mi_108_0 : mI 108 0 = (1, 1, 0, 0, 0) := by decide +kernel
theorem mi_108_1 : mI 108 1 = (5, 0, 0, 0, 0) := by decide +kernel
theorem mi_108_2 : mI 108 2 = (3, 0, 1, 0, 0) := by decide +kernel
theorem mi_108_3 : mI 108 3 = (26, 567, 78, 106, 0) := by decide +kernel
theorem mi_108_6 : mI 108 6 = (10, 0, 8, 0, 0) := by decide +kernel
theorem mi_108_7 : mI 108 7 = (1, 1, 0, 0, 0) := by decide +kernel
theorem mi_108_8 : mI 108 8 = (10, 0, 1, 0, 0) := by decide +kernel
theorem mi_108_9 : mI 108 9 = (27, 0, 0, 0, 0) := by decide +kernel
theorem mi_173_0 : mI 173 0 = (5, 0, 0, 0, 0) := by decide +kernel
theorem mi_173_1 : mI 173 1 = (1, 0, 0, 0, 0) := by decide +kernel
theorem mi_173_2 : mI 173 2 = (18, 211, 21, 8, 3) := by decide +kernel
theorem mi_173_5 : mI 173 5 = (5, 0, 0, 0, 0) := by decide +kernel
theorem mi_173_6 : mI 173 6 = (17, 207, 15, 8, 1) := by decide +kernel
theorem mi_173_9 : mI 173 9 = (1, 0, 0, 0, 0) := by decide +kernel
theorem mi_173_10 : mI 173 10 = (26, 557, 25, 149, 1) := by decide +kernel
theorem mi_173_13 : mI 173 13 = (5, 0, 0, 0, 0) := by decide +kernel
theorem mi_173_14 : mI 173 14 = (17, 209, 18, 8, 2) := by decide +kernel
theorem mi_173_17 : mI 173 17 = (1, 0, 0, 0, 0) := by decide +kernel
theorem mi_173_18 : mI 173 18 = (26, 557, 25, 149, 1) := by decide +kernel
theorem mi_173_21 : mI 173 21 = (5, 0, 2, 0, 0) := by decide +kernel
theorem mi_173_22 : mI 173 22 = (5, 0, 1, 0, 0) := by decide +kernel
theorem mi_173_23 : mI 173 23 = (26, 558, 31, 87, 0) := by decide +kernel
theorem mi_173_26 : mI 173 26 = (5, 0, 0, 0, 0) := by decide +kernel
theorem mi_173_27 : mI 173 27 = (5, 0, 2, 0, 0) := by decide +kernel
theorem mi_173_28 : mI 173 28 = (1, 0, 0, 0, 0) := by decide +kernel
theorem mi_173_29 : mI 173 29 = (26, 568, 37, 175, 0) := by decide +kernel
theorem mi_173_32 : mI 173 32 = (1, 0, 0, 0, 0) := by decide +kernel
theorem mi_173_33 : mI 173 33 = (6, 0, 3, 0, 0) := by decide +kernel
theorem mi_173_34 : mI 173 34 = (1, 0, 0, 0, 0) := by decide +kernel
theorem mi_173_35 : mI 173 35 = (6, 0, 4, 1, 0) := by decide +kernel
theorem mi_173_37 : mI 173 37 = (3, 0, 4, 1, 0) := by decide +kernel
theorem mi_173_39 : mI 173 39 = (5, 0, 1, 0, 0) := by decide +kernel
theorem mi_173_40 : mI 173 40 = (17, 97, 41, 2, 3) := by decide +kernel
theorem mi_173_43 : mI 173 43 = (15, 60, 3, 103, 0) := by decide +kernel
theorem mi_173_46 : mI 173 46 = (3, 0, 3, 0, 0) := by decide +kernel
theorem mi_173_47 : mI 173 47 = (5, 0, 1, 0, 0) := by decide +kernel
theorem mi_173_48 : mI 173 48 = (17, 110, 46, 2, 5) := by decide +kernel
theorem mi_173_51 : mI 173 51 = (15, 37, 3, 88, 0) := by decide +kernel
theorem mi_173_54 : mI 173 54 = (5, 0, 1, 0, 0) := by decide +kernel
theorem mi_173_55 : mI 173 55 = (17, 146, 49, 2, 16) := by decide +kernel
theorem mi_173_58 : mI 173 58 = (5, 0, 2, 0, 0) := by decide +kernel
theorem mi_173_59 : mI 173 59 = (3, 0, 3, 0, 0) := by decide +kernel
theorem mi_173_60 : mI 173 60 = (26, 577, 52, 90, 0) := by decide +kernel
theorem mi_173_63 : mI 173 63 = (26, 581, 56, 147, 1) := by decide +kernel
theorem mi_173_66 : mI 173 66 = (3, 0, 4, 1, 0) := by decide +kernel
theorem mi_173_68 : mI 173 68 = (15, 20, 1, 88, 0) := by decide +kernel
theorem mi_173_71 : mI 173 71 = (5, 0, 0, 0, 0) := by decide +kernel
theorem mi_173_72 : mI 173 72 = (5, 0, 1, 0, 0) := by decide +kernel
theorem mi_173_73 : mI 173 73 = (5, 0, 2, 0, 0) := by decide +kernel
theorem mi_173_74 : mI 173 74 = (5, 0, 2, 0, 0) := by decide +kernel
theorem mi_173_75 : mI 173 75 = (3, 0, 3, 0, 0) := by decide +kernel
theorem mi_173_76 : mI 173 76 = (26, 577, 52, 90, 0) := by decide +kernel
theorem mi_173_79 : mI 173 79 = (26, 582, 60, 174, 0) := by decide +kernel
theorem mi_173_82 : mI 173 82 = (9, 1, 3, 0, 0) := by decide +kernel
theorem mi_173_85 : mI 173 85 = (16, (-39), 0, 46, 0) := by decide +kernel
theorem mi_173_88 : mI 173 88 = (5, 0, 0, 0, 0) := by decide +kernel
theorem mi_173_89 : mI 173 89 = (5, 0, 2, 0, 0) := by decide +kernel
theorem mi_173_90 : mI 173 90 = (3, 0, 4, 1, 0) := by decide +kernel
theorem mi_173_92 : mI 173 92 = (1, 1, 0, 0, 0) := by decide +kernel
theorem mi_173_93 : mI 173 93 = (10, 0, 0, 0, 0) := by decide +kernel
theorem mi_173_94 : mI 173 94 = (26, 568, 37, 175, 0) := by decide +kernel
theorem mi_173_97 : mI 173 97 = (9, 1, 4, 0, 0) := by decide +kernel
theorem mi_173_100 : mI 173 100 = (16, (-63), 0, 37, 0) := by decide +kernel
theorem mi_173_103 : mI 173 103 = (27, 0, 2, 0, 0) := by decide +kernel
theorem mi_174_0 : mI 174 0 = (5, 0, 2, 0, 0) := by decide +kernel
theorem mi_174_1 : mI 174 1 = (5, 0, 1, 0, 0) := by decide +kernel
theorem mi_174_2 : mI 174 2 = (3, 0, 3, 0, 0) := by decide +kernel
theorem mi_174_3 : mI 174 3 = (26, 586, 64, 91, 0) := by decide +kernel
theorem mi_174_6 : mI 174 6 = (14, 47, 0, 53, 0) := by decide +kernel
theorem mi_174_9 : mI 174 9 = (5, 0, 0, 0, 0) := by decide +kernel
theorem mi_174_10 : mI 174 10 = (22, 0, 0, 0, 0) := by decide +kernel
theorem mi_174_11 : mI 174 11 = (17, 211, 21, 8, 3) := by decide +kernel
theorem mi_174_14 : mI 174 14 = (1, 1, 0, 0, 0) := by decide +kernel
theorem mi_174_15 : mI 174 15 = (3, 0, 3, 0, 0) := by decide +kernel
theorem mi_174_16 : mI 174 16 = (10, 0, 8, 0, 0) := by decide +kernel
theorem mi_174_17 : mI 174 17 = (10, 0, 6, 0, 0) := by decide +kernel
theorem mi_174_18 : mI 174 18 = (18, 211, 21, 8, 3) := by decide +kernel
theorem mi_174_21 : mI 174 21 = (5, 0, 0, 0, 0) := by decide +kernel
theorem mi_174_22 : mI 174 22 = (17, 207, 15, 8, 1) := by decide +kernel
theorem mi_174_25 : mI 174 25 = (3, 0, 3, 0, 0) := by decide +kernel
theorem mi_174_26 : mI 174 26 = (5, 0, 2, 0, 0) := by decide +kernel
theorem mi_174_27 : mI 174 27 = (3, 0, 3, 0, 0) := by decide +kernel
theorem mi_174_28 : mI 174 28 = (26, 591, 68, 89, 0) := by decide +kernel
theorem mi_174_31 : mI 174 31 = (26, 576, 71, 148, 1) := by decide +kernel
theorem mi_174_34 : mI 174 34 = (5, 0, 0, 0, 0) := by decide +kernel
theorem mi_174_35 : mI 174 35 = (17, 209, 18, 8, 2) := by decide +kernel
theorem mi_174_38 : mI 174 38 = (3, 0, 3, 0, 0) := by decide +kernel
theorem mi_174_39 : mI 174 39 = (5, 0, 2, 0, 0) := by decide +kernel
theorem mi_174_40 : mI 174 40 = (5, 0, 1, 0, 0) := by decide +kernel
theorem mi_174_41 : mI 174 41 = (3, 0, 3, 0, 0) := by decide +kernel
theorem mi_174_42 : mI 174 42 = (5, 0, 2, 0, 0) := by decide +kernel
theorem mi_174_43 : mI 174 43 = (3, 0, 3, 0, 0) := by decide +kernel
theorem mi_174_44 : mI 174 44 = (26, 591, 68, 89, 0) := by decide +kernel
theorem mi_174_47 : mI 174 47 = (26, 595, 75, 92, 0) := by decide +kernel
theorem mi_174_50 : mI 174 50 = (26, 576, 71, 148, 1) := by decide +kernel
theorem mi_174_53 : mI 174 53 = (27, 0, 2, 0, 0) := by decide +kernel
theorem mi_175_0 : mI 175 0 = (1, 0, 0, 0, 0) := by decide +kernel
theorem mi_175_1 : mI 175 1 = (6, 0, 3, 0, 0) := by decide +kernel
theorem mi_175_2 : mI 175 2 = (3, 0, 3, 0, 0) := by decide +kernel
theorem mi_175_3 : mI 175 3 = (1, 6, 1, 0, 0) := by decide +kernel
theorem mi_175_5 : mI 175 5 = (15, 51, 3, 56, 0) := by decide +kernel
theorem mi_175_8 : mI 175 8 = (1, 0, 0, 0, 0) := by decide +kernel
theorem mi_175_9 : mI 175 9 = (6, 0, 4, 1, 0) := by decide +kernel
theorem mi_175_11 : mI 175 11 = (3, 0, 4, 1, 0) := by decide +kernel
theorem mi_175_13 : mI 175 13 = (1, 6, 1, 0, 0) := by decide +kernel
theorem mi_175_15 : mI 175 15 = (15, 35, 3, 50, 0) := by decide +kernel
theorem mi_175_18 : mI 175 18 = (5, 0, 0, 0, 0) := by decide +kernel
theorem mi_175_19 : mI 175 19 = (17, 206, 9, 8, 0) := by decide +kernel
theorem mi_175_22 : mI 175 22 = (3, 0, 2, 0, 0) := by decide +kernel
theorem mi_175_23 : mI 175 23 = (1, 36, 1, 0, 0) := by decide +kernel
theorem mi_175_25 : mI 175 25 = (10, 0, 2, 0, 0) := by decide +kernel
theorem mi_175_26 : mI 175 26 = (3, 0, 3, 0, 0) := by decide +kernel
theorem mi_175_27 : mI 175 27 = (1, 6, 1, 0, 0) := by decide +kernel
theorem mi_175_29 : mI 175 29 = (10, 0, 2, 0, 0) := by decide +kernel
theorem mi_175_30 : mI 175 30 = (10, 0, 0, 0, 0) := by decide +kernel
theorem mi_175_31 : mI 175 31 = (3, 0, 4, 1, 0) := by decide +kernel
theorem mi_175_33 : mI 175 33 = (10, 0, 0, 0, 0) := by decide +kernel
theorem mi_175_34 : mI 175 34 = (5, 0, 1, 0, 0) := by decide +kernel
theorem mi_175_35 : mI 175 35 = (3, 0, 3, 0, 0) := by decide +kernel
theorem mi_175_36 : mI 175 36 = (3, 0, 4, 1, 0) := by decide +kernel
theorem mi_175_38 : mI 175 38 = (26, 572, 79, 88, 0) := by decide +kernel
theorem mi_175_41 : mI 175 41 = (26, 576, 71, 148, 1) := by decide +kernel
theorem mi_175_44 : mI 175 44 = (9, 1, 4, 0, 0) := by decide +kernel
theorem mi_175_47 : mI 175 47 = (16, (-36), 0, 11, 0) := by decide +kernel
theorem mi_175_50 : mI 175 50 = (9, 1, 3, 0, 0) := by decide +kernel
theorem mi_175_53 : mI 175 53 = (16, (-51), 0, 2, 0) := by decide +kernel
theorem mi_175_56 : mI 175 56 = (27, 0, 2, 0, 0) := by decide +kernel
theorem mi_176_0 : mI 176 0 = (5, 0, 0, 0, 0) := by decide +kernel
theorem mi_176_1 : mI 176 1 = (17, 206, 9, 8, 0) := by decide +kernel
theorem mi_176_4 : mI 176 4 = (3, 0, 3, 0, 0) := by decide +kernel
theorem mi_176_5 : mI 176 5 = (1, 36, 1, 0, 0) := by decide +kernel
theorem mi_176_7 : mI 176 7 = (10, 0, 2, 0, 0) := by decide +kernel
theorem mi_176_8 : mI 176 8 = (3, 0, 1, 0, 0) := by decide +kernel
theorem mi_176_9 : mI 176 9 = (1, 6, 1, 0, 0) := by decide +kernel
theorem mi_176_11 : mI 176 11 = (10, 0, 2, 0, 0) := by decide +kernel
theorem mi_176_12 : mI 176 12 = (10, 0, 0, 0, 0) := by decide +kernel
theorem mi_176_13 : mI 176 13 = (3, 0, 2, 0, 0) := by decide +kernel
theorem mi_176_14 : mI 176 14 = (10, 0, 0, 0, 0) := by decide +kernel
theorem mi_176_15 : mI 176 15 = (26, 581, 56, 147, 1) := by decide +kernel
theorem mi_176_18 : mI 176 18 = (27, 0, 0, 0, 0) := by decide +kernel
theorem mi_177_0 : mI 177 0 = (5, 0, 0, 0, 0) := by decide +kernel
theorem mi_177_1 : mI 177 1 = (3, 0, 2, 0, 0) := by decide +kernel
theorem mi_177_2 : mI 177 2 = (3, 0, 3, 0, 0) := by decide +kernel
theorem mi_177_3 : mI 177 3 = (3, 0, 4, 1, 0) := by decide +kernel
theorem mi_177_5 : mI 177 5 = (26, 680, 83, 176, 0) := by decide +kernel
theorem mi_177_8 : mI 177 8 = (5, 0, 1, 0, 0) := by decide +kernel
theorem mi_177_9 : mI 177 9 = (3, 0, 3, 0, 0) := by decide +kernel
theorem mi_177_10 : mI 177 10 = (26, 681, 86, 108, 0) := by decide +kernel
theorem mi_177_13 : mI 177 13 = (15, 7, 1, 20, 0) := by decide +kernel
theorem mi_177_16 : mI 177 16 = (1, 1, 0, 0, 0) := by decide +kernel
theorem mi_177_17 : mI 177 17 = (16, 4, 0, 21, 0) := by decide +kernel
theorem mi_177_20 : mI 177 20 = (1, 0, 0, 0, 0) := by decide +kernel
theorem mi_177_21 : mI 177 21 = (27, 0, 0, 0, 0) := by decide +kernel
theorem mi_239_0 : mI 239 0 = (5, 0, 0, 0, 0) := by decide +kernel
theorem mi_239_1 : mI 239 1 = (17, 1222, 37, 11, 16) := by decide +kernel
theorem mi_239_4 : mI 239 4 = (1, 36, 1, 0, 0) := by decide +kernel
theorem mi_239_6 : mI 239 6 = (3, 0, 3, 0, 0) := by decide +kernel
theorem mi_239_7 : mI 239 7 = (10, 0, 2, 0, 0) := by decide +kernel
theorem mi_239_8 : mI 239 8 = (1, 6, 1, 0, 0) := by decide +kernel
theorem mi_239_10 : mI 239 10 = (3, 0, 1, 0, 0) := by decide +kernel
theorem mi_239_11 : mI 239 11 = (10, 0, 2, 0, 0) := by decide +kernel
theorem mi_239_12 : mI 239 12 = (10, 0, 0, 0, 0) := by decide +kernel
theorem mi_239_13 : mI 239 13 = (3, 0, 2, 0, 0) := by decide +kernel
theorem mi_239_14 : mI 239 14 = (10, 0, 0, 0, 0) := by decide +kernel
theorem mi_239_15 : mI 239 15 = (19, 0, 0, 0, 0) := by decide +kernel
theorem mi_239_16 : mI 239 16 = (27, 0, 0, 0, 0) := by decide +kernel
theorem mi_241_0 : mI 241 0 = (5, 0, 0, 0, 0) := by decide +kernel
theorem mi_241_1 : mI 241 1 = (3, 0, 1, 0, 0) := by decide +kernel
theorem mi_241_2 : mI 241 2 = (3, 0, 2, 0, 0) := by decide +kernel
theorem mi_241_3 : mI 241 3 = (3, 0, 3, 0, 0) := by decide +kernel
theorem mi_241_4 : mI 241 4 = (26, 1533, 282, 239, 0) := by decide +kernel
theorem mi_241_7 : mI 241 7 = (5, 0, 0, 0, 0) := by decide +kernel
theorem mi_241_8 : mI 241 8 = (3, 0, 2, 0, 0) := by decide +kernel
theorem mi_241_9 : mI 241 9 = (26, 1497, 274, 206, 0) := by decide +kernel
theorem mi_241_12 : mI 241 12 = (15, 7, 1, 19, 0) := by decide +kernel
theorem mi_241_15 : mI 241 15 = (1, 1, 0, 0, 0) := by decide +kernel
theorem mi_241_16 : mI 241 16 = (16, 4, 0, 20, 0) := by decide +kernel
theorem mi_241_19 : mI 241 19 = (1, 0, 0, 0, 0) := by decide +kernel
theorem mi_241_20 : mI 241 20 = (27, 0, 0, 0, 0) := by decide +kernel
theorem mi_265_0 : mI 265 0 = (5, 0, 0, 0, 0) := by decide +kernel
theorem mi_265_1 : mI 265 1 = (3, 0, 1, 0, 0) := by decide +kernel
theorem mi_265_2 : mI 265 2 = (3, 0, 2, 0, 0) := by decide +kernel
theorem mi_265_3 : mI 265 3 = (3, 0, 3, 0, 0) := by decide +kernel
theorem mi_265_4 : mI 265 4 = (26, 1561, 286, 241, 0) := by decide +kernel
theorem mi_265_7 : mI 265 7 = (14, 6, 1, 13, 0) := by decide +kernel
theorem mi_265_10 : mI 265 10 = (1, (-5), 1, 0, 0) := by decide +kernel
theorem mi_265_12 : mI 265 12 = (27, 0, 0, 0, 0) := by decide +kernel
theorem mi_265_13 : mI 265 13 = (3, 0, 3, 0, 0) := by decide +kernel
theorem mi_265_14 : mI 265 14 = (5, 0, 0, 0, 0) := by decide +kernel
theorem mi_265_15 : mI 265 15 = (3, 0, 2, 0, 0) := by decide +kernel
theorem mi_265_16 : mI 265 16 = (26, 1452, 93, 204, 0) := by decide +kernel
theorem mi_265_19 : mI 265 19 = (5, 0, 0, 0, 0) := by decide +kernel
theorem mi_265_20 : mI 265 20 = (17, 1207, 9, 11, 1) := by decide +kernel
theorem mi_265_23 : mI 265 23 = (1, 48, 1, 0, 0) := by decide +kernel
theorem mi_265_25 : mI 265 25 = (3, 0, 1, 0, 0) := by decide +kernel
theorem mi_265_26 : mI 265 26 = (10, 0, 0, 0, 0) := by decide +kernel
theorem mi_265_27 : mI 265 27 = (19, 0, 0, 0, 0) := by decide +kernel
theorem mi_265_28 : mI 265 28 = (10, 0, 2, 0, 0) := by decide +kernel
theorem mi_265_29 : mI 265 29 = (10, 0, 0, 0, 0) := by decide +kernel
theorem mi_265_30 : mI 265 30 = (1, 1, 0, 0, 0) := by decide +kernel
theorem mi_265_31 : mI 265 31 = (10, 0, 1, 0, 0) := by decide +kernel
theorem mi_265_32 : mI 265 32 = (6, 0, 4, 1, 0) := by decide +kernel
theorem mi_265_34 : mI 265 34 = (3, 0, 4, 1, 0) := by decide +kernel
theorem mi_265_36 : mI 265 36 = (5, 0, 0, 0, 0) := by decide +kernel
theorem mi_265_37 : mI 265 37 = (17, 1207, 9, 11, 1) := by decide +kernel
theorem mi_265_40 : mI 265 40 = (1, 2, 0, 0, 0) := by decide +kernel
theorem mi_265_41 : mI 265 41 = (19, 0, 0, 0, 0) := by decide +kernel
theorem mi_265_42 : mI 265 42 = (15, 5, 2, 47, 0) := by decide +kernel
theorem mi_265_45 : mI 265 45 = (1, (-1), 0, 0, 0) := by decide +kernel
theorem mi_265_46 : mI 265 46 = (27, 0, 0, 0, 0) := by decide +kernel
theorem mi_265_47 : mI 265 47 = (3, 0, 3, 0, 0) := by decide +kernel
theorem mi_265_48 : mI 265 48 = (6, 0, 5, 1, 0) := by decide +kernel
theorem mi_265_50 : mI 265 50 = (3, 0, 5, 1, 0) := by decide +kernel
theorem mi_265_52 : mI 265 52 = (3, 0, 4, 1, 0) := by decide +kernel
theorem mi_265_54 : mI 265 54 = (15, 22, 4, 76, 0) := by decide +kernel
theorem mi_265_57 : mI 265 57 = (5, 0, 0, 0, 0) := by decide +kernel
theorem mi_265_58 : mI 265 58 = (3, 0, 1, 0, 0) := by decide +kernel
theorem mi_265_59 : mI 265 59 = (3, 0, 2, 0, 0) := by decide +kernel
theorem mi_265_60 : mI 265 60 = (3, 0, 5, 1, 0) := by decide +kernel
theorem mi_265_62 : mI 265 62 = (26, 1613, 323, 264, 0) := by decide +kernel
theorem mi_265_65 : mI 265 65 = (14, 5, 1, 70, 0) := by decide +kernel
theorem mi_265_68 : mI 265 68 = (1, (-1), 0, 0, 0) := by decide +kernel
theorem mi_265_69 : mI 265 69 = (27, 0, 0, 0, 0) := by decide +kernel
theorem mi_265_70 : mI 265 70 = (9, 1, 5, 0, 0) := by decide +kernel
theorem mi_265_73 : mI 265 73 = (16, (-23), 0, 50, 0) := by decide +kernel
theorem mi_265_76 : mI 265 76 = (3, 0, 4, 1, 0) := by decide +kernel
theorem mi_265_78 : mI 265 78 = (27, 0, 0, 0, 0) := by decide +kernel
theorem mi_269_0 : mI 269 0 = (5, 0, 0, 0, 0) := by decide +kernel
theorem mi_269_1 : mI 269 1 = (3, 0, 1, 0, 0) := by decide +kernel
theorem mi_269_2 : mI 269 2 = (26, 1448, 89, 199, 0) := by decide +kernel
theorem mi_269_5 : mI 269 5 = (14, 11, 0, 16, 0) := by decide +kernel
theorem mi_269_8 : mI 269 8 = (5, 0, 0, 0, 0) := by decide +kernel
theorem mi_269_9 : mI 269 9 = (3, 0, 2, 0, 0) := by decide +kernel
theorem mi_269_10 : mI 269 10 = (26, 1472, 293, 201, 0) := by decide +kernel
theorem mi_269_13 : mI 269 13 = (14, 6, 1, 19, 0) := by decide +kernel
theorem mi_269_16 : mI 269 16 = (1, (-2), 1, 0, 0) := by decide +kernel
theorem mi_269_18 : mI 269 18 = (27, 0, 0, 0, 0) := by decide +kernel
theorem mi_269_19 : mI 269 19 = (5, 0, 0, 0, 0) := by decide +kernel
theorem mi_269_20 : mI 269 20 = (26, 1505, 301, 238, 0) := by decide +kernel
theorem mi_269_23 : mI 269 23 = (1, 0, 0, 0, 0) := by decide +kernel
theorem mi_269_24 : mI 269 24 = (6, 0, 3, 0, 0) := by decide +kernel
theorem mi_269_25 : mI 269 25 = (1, 0, 0, 0, 0) := by decide +kernel
theorem mi_269_26 : mI 269 26 = (6, 0, 4, 1, 0) := by decide +kernel
theorem mi_269_28 : mI 269 28 = (3, 0, 4, 1, 0) := by decide +kernel
theorem mi_269_30 : mI 269 30 = (5, 0, 0, 0, 0) := by decide +kernel
theorem mi_269_31 : mI 269 31 = (17, 1207, 9, 11, 1) := by decide +kernel
theorem mi_269_34 : mI 269 34 = (1, 3, 0, 0, 0) := by decide +kernel
theorem mi_269_35 : mI 269 35 = (19, 0, 0, 0, 0) := by decide +kernel
theorem mi_269_36 : mI 269 36 = (15, 37, 3, 73, 0) := by decide +kernel
theorem mi_269_39 : mI 269 39 = (3, 0, 3, 0, 0) := by decide +kernel
theorem mi_269_40 : mI 269 40 = (3, 0, 4, 1, 0) := by decide +kernel
theorem mi_269_42 : mI 269 42 = (3, 0, 1, 0, 0) := by decide +kernel
theorem mi_269_43 : mI 269 43 = (15, 21, 0, 64, 0) := by decide +kernel
theorem mi_269_46 : mI 269 46 = (5, 0, 0, 0, 0) := by decide +kernel
theorem mi_269_47 : mI 269 47 = (3, 0, 4, 1, 0) := by decide +kernel
theorem mi_269_49 : mI 269 49 = (3, 0, 1, 0, 0) := by decide +kernel
theorem mi_269_50 : mI 269 50 = (3, 0, 2, 0, 0) := by decide +kernel
theorem mi_269_51 : mI 269 51 = (26, 1609, 326, 265, 0) := by decide +kernel
theorem mi_269_54 : mI 269 54 = (14, 10, 2, 64, 0) := by decide +kernel
theorem mi_269_57 : mI 269 57 = (1, 1, 0, 0, 0) := by decide +kernel
theorem mi_269_58 : mI 269 58 = (3, 0, 4, 1, 0) := by decide +kernel
theorem mi_269_60 : mI 269 60 = (10, 0, 8, 0, 0) := by decide +kernel
theorem mi_269_61 : mI 269 61 = (16, 4, 0, 65, 0) := by decide +kernel
theorem mi_269_64 : mI 269 64 = (1, 0, 0, 0, 0) := by decide +kernel
theorem mi_269_65 : mI 269 65 = (10, 0, 6, 0, 0) := by decide +kernel
theorem mi_269_66 : mI 269 66 = (6, 0, 3, 0, 0) := by decide +kernel
theorem mi_269_67 : mI 269 67 = (9, 1, 4, 0, 0) := by decide +kernel
theorem mi_269_70 : mI 269 70 = (16, (-42), 0, 28, 0) := by decide +kernel
theorem mi_269_73 : mI 269 73 = (3, 0, 3, 0, 0) := by decide +kernel
theorem mi_269_74 : mI 269 74 = (27, 0, 0, 0, 0) := by decide +kernel
section XSE
variable {l : Launch} {D : va_G} {tys : List (ClassId × FieldType)} {A : Nat → Prop} {ad : Nat → Nat} {ws : va_W}
theorem g28o : gO 28 1 3 := ⟨_, rfl⟩
theorem g32o : gO 32 8 4 := ⟨_, rfl⟩
theorem g28r0 : gOr 28 1 3 0 29 := ⟨_, rfl, by decide +kernel⟩
theorem g28r1 : gOr 28 1 3 1 30 := ⟨_, rfl, by decide +kernel⟩
theorem g28r2 : gOr 28 1 3 2 31 := ⟨_, rfl, by decide +kernel⟩
theorem g32r0 : gOr 32 8 4 0 33 := ⟨_, rfl, by decide +kernel⟩
theorem g32r1 : gOr 32 8 4 1 34 := ⟨_, rfl, by decide +kernel⟩
theorem g32r2 : gOr 32 8 4 2 35 := ⟨_, rfl, by decide +kernel⟩
theorem g32f3 : gOf 32 8 4 3 (-2147483648) 2147483647 := ⟨_, rfl, by decide +kernel⟩
theorem a29 : gA 29 12 (-2147483648) 2147483647 := gA_of rfl
theorem a30 : gA 30 12 (-2147483648) 2147483647 := gA_of rfl
theorem a31 : gA 31 36 (-2147483648) 2147483647 := gA_of rfl
theorem a33 : gA 33 900 (-2147483648) 2147483647 := gA_of rfl
theorem a34 : gA 34 12 (-2147483648) 2147483647 := gA_of rfl
theorem a35 : gA 35 12 (-2147483648) 2147483647 := gA_of rfl
theorem atk_ct {c n j : Nat} {lo hi : Int} {v : Int32} (hg : gA c n lo hi) (hG : GOK ad tys GG ws) (hn : n ≤ 100000) (hj : j < n) (h : rd ws c j = some (.int v)) : CT l D tys A 147 0 0 0 [.ref (ad c), .int (Int32.ofInt (j : Int))] ws (fun r w => w = ws ∧ r = some (.int v)) :=
  CT_post (atx_ct hg hG hn) (fun r w q => by
    obtain ⟨e, u, e2, k⟩ := q
    refine ⟨e, ?_⟩
    have z := k j hj rfl
    rw [h] at z
    rw [e2, z])
theorem putk_ct {c n j : Nat} {v : Int32} (hg : gA c n (-2147483648) 2147483647) (hG : GOK ad tys GG ws) (hn : n ≤ 100000) (hj : j < n) : CT l D tys A 148 0 0 0 [.ref (ad c), .int (Int32.ofInt (j : Int)), .int v] ws (fun r w => r = none ∧ GOK ad tys GG w ∧ Upd1 ws w c j (.int v)) :=
  CT_post (putx_ct hg hG hn (i32b _).1 (i32b _).2) (fun r w q => ⟨q.1, q.2.1, q.2.2.2 j hj rfl⟩)
theorem say_rd {G : Nat → Int} {w : va_W} (hX : HX 4 G w) {k r : Nat} (hk : k < 12) (hr : r < 4) : rd w (12 + r) k = some (.int (Int32.ofInt (G (246 + 4 * k + r)))) := by
  obtain ⟨a, b, c⟩ := say_hy hk hr
  rw [b]
  have q := hX _ a
  rw [← c] at q
  exact q
/-- whose sayings are by folk that are there, at hours that are there -/
noncomputable def WF (G : Nat → Int) : Prop := ∀ s : Nat, (s : Int) < G 4 → G (246 + 4 * s) < G 3 ∧ G (246 + 4 * s + 3) < G 2
noncomputable def othP (G : Nat → Int) (f h o : Nat) : Bool := !(Nat.beq o f) && decide (G (102 + (24 * o + h)) = G (102 + (24 * f + h)))
theorem orI_s1 {P : Nat → Bool} {o : Nat} (h : P o = true) : orI P (o + 1) = bitO (orI P o) (o : Int) := by
  show (if P o = true then bitO (orI P o) (o : Int) else orI P o) = _
  rw [if_pos h]
theorem orI_s0 {P : Nat → Bool} {o : Nat} (h : P o = false) : orI P (o + 1) = orI P o := by
  show (if P o = true then bitO (orI P o) (o : Int) else orI P o) = _
  rw [if_neg (by rw [h]; exact Bool.false_ne_true)]
theorem othP_f {G : Nat → Int} {f h : Nat} : othP G f h f = false := by
  unfold othP
  rw [Nat.beq_refl]
  rfl
theorem othP_n {G : Nat → Int} {f h o : Nat} (n : o ≠ f) : othP G f h o = decide (G (102 + (24 * o + h)) = G (102 + (24 * f + h))) := by
  unfold othP
  rw [show Nat.beq o f = false from Bool.eq_false_iff.mpr (fun e => n (Nat.eq_of_beq_eq_true e))]
  rfl
theorem ow_5 {G : Nat → Int} (hG : GOK ad tys GG ws) (hX : HX 4 G ws) (hB : HB G) {f h : Nat} {post : Option Value → va_W → Prop} (hf : (f : Int) < G 3) (hh : (h : Int) < G 2) : ∀ (m o : Nat), ((o + m : Nat) : Int) = G 3 → post (some (.int (Int32.ofInt (orI (othP G f h) (G 3).toNat)))) ws → V l D tys A 86 2 0 0 post 0 0 5 [(0, .ref (ad 4)), (1, .int (Int32.ofInt ((f : Int)))), (2, .int (Int32.ofInt ((h : Int)))), (3, .int (Int32.ofInt (orI (othP G f h) o))), (4, .int (Int32.ofInt ((o : Int))))] [] ws
  | 0, o, hm, kk => by
    have b2 := hB.b2
    have b3 := hB.b3
    refine V_iload (v := Int32.ofInt ((o : Int))) mi_86_5 (by simp [stL, lv_args, Value.category]) ?_
    refine V_aload (v := ad 4) mi_86_7 (by simp [stL, lv_args, Value.category]) ?_
    refine V_gO mi_86_8 g4o hG (show rd _ 4 4 = some (.int (Int32.ofInt (G 3))) from hx0 hX (i := 4) (by omega)) ?_
    refine V_cge mi_86_11 ⟨by omega, by omega⟩ ⟨by omega, by omega⟩ (fun q => ?_) (fun q => ?_)
    · have e : o = (G 3).toNat := by omega
      rw [← e] at kk
      refine V_iload (v := Int32.ofInt (orI (othP G f h) o)) mi_86_49 (by simp [stL, lv_args, Value.category]) ?_
      exact V_retI mi_86_50 (fun h => absurd h (by decide +kernel)) kk
    · exact absurd q (by omega)
  | m + 1, o, hm, kk => by
    have b2 := hB.b2
    have b3 := hB.b3
    refine V_iload (v := Int32.ofInt ((o : Int))) mi_86_5 (by simp [stL, lv_args, Value.category]) ?_
    refine V_aload (v := ad 4) mi_86_7 (by simp [stL, lv_args, Value.category]) ?_
    refine V_gO mi_86_8 g4o hG (show rd _ 4 4 = some (.int (Int32.ofInt (G 3))) from hx0 hX (i := 4) (by omega)) ?_
    refine V_cge mi_86_11 ⟨by omega, by omega⟩ ⟨by omega, by omega⟩ (fun q => ?_) (fun q => ?_)
    · exact absurd q (by omega)
    · refine V_iload (v := Int32.ofInt ((o : Int))) mi_86_14 (by simp [stL, lv_args, Value.category]) ?_
      refine V_iload (v := Int32.ofInt ((f : Int))) mi_86_16 (by simp [stL, lv_args, Value.category]) ?_
      refine V_ceq mi_86_17 ⟨by omega, by omega⟩ ⟨by omega, by omega⟩ (fun q2 => ?_) (fun q2 => ?_)
      · have z : orI (othP G f h) (o + 1) = orI (othP G f h) o := orI_s0 (by rw [show o = f by omega]; exact othP_f)
        rw [← z]
        refine V_iinc (v := Int32.ofInt ((o : Int))) mi_86_43 (by simp [stL, lv_args, Value.category]) ?_
        rw [ia2]
        refine V_goto mi_86_46 ?_
        refine V_sub (lv' := [(0, .ref (ad 4)), (1, .int (Int32.ofInt ((f : Int)))), (2, .int (Int32.ofInt ((h : Int)))), (3, .int (Int32.ofInt (orI (othP G f h) (o + 1)))), (4, .int (Int32.ofInt (((o + 1 : Nat) : Int))))]) (fun q hq => ?_) ?_
        · simp only [List.mem_cons, List.not_mem_nil, or_false] at hq
          rcases hq with rfl | rfl | rfl | rfl | rfl <;> simp [stL, lv_args, Value.category]
        exact ow_5 hG hX hB hf hh m (o + 1) (by omega) kk
      · have bo := hB.bp (24 * o + h) (by omega)
        have bf := hB.bp (24 * f + h) (by omega)
        have hn : o ≠ f := by omega
        refine V_aload (v := ad 4) mi_86_20 (by simp [stL, lv_args, Value.category]) ?_
        refine V_iload (v := Int32.ofInt ((o : Int))) mi_86_21 (by simp [stL, lv_args, Value.category]) ?_
        refine V_iload (v := Int32.ofInt ((h : Int))) mi_86_23 (by simp [stL, lv_args, Value.category]) ?_
        refine V_cO (As := [.int (Int32.ofInt ((o : Int))), .int (Int32.ofInt ((h : Int)))]) (st := []) mi_86_24 (by omega) (by decide +kernel) (by decide +kernel) (by omega) g4o hG (hpl_ct (f := o) (h := h) hG hX hB (by omega) hh) (by omega) (show 2 = mN 110 by decide +kernel) (by simp [Value.category]) ?_
        rintro r w1 ⟨e1, rfl⟩
        rw [e1]
        refine V_aload (v := ad 4) mi_86_27 (by simp [stL, lv_args, Value.category]) ?_
        refine V_iload (v := Int32.ofInt ((f : Int))) mi_86_28 (by simp [stL, lv_args, Value.category]) ?_
        refine V_iload (v := Int32.ofInt ((h : Int))) mi_86_29 (by simp [stL, lv_args, Value.category]) ?_
        refine V_cO (As := [.int (Int32.ofInt ((f : Int))), .int (Int32.ofInt ((h : Int)))]) (st := [.int (Int32.ofInt (G (102 + (24 * o + h))))]) mi_86_30 (by omega) (by decide +kernel) (by decide +kernel) (by omega) g4o hG (hpl_ct (f := f) (h := h) hG hX hB hf hh) (by omega) (show 2 = mN 110 by decide +kernel) (by simp [Value.category]) ?_
        rintro r w1 ⟨e1, rfl⟩
        rw [e1]
        refine V_cne mi_86_33 ⟨by omega, by omega⟩ ⟨by omega, by omega⟩ (fun q3 => ?_) (fun q3 => ?_)
        · have z : orI (othP G f h) (o + 1) = orI (othP G f h) o := orI_s0 (by rw [othP_n hn]; exact decide_eq_false q3)
          rw [← z]
          refine V_iinc (v := Int32.ofInt ((o : Int))) mi_86_43 (by simp [stL, lv_args, Value.category]) ?_
          rw [ia2]
          refine V_goto mi_86_46 ?_
          refine V_sub (lv' := [(0, .ref (ad 4)), (1, .int (Int32.ofInt ((f : Int)))), (2, .int (Int32.ofInt ((h : Int)))), (3, .int (Int32.ofInt (orI (othP G f h) (o + 1)))), (4, .int (Int32.ofInt (((o + 1 : Nat) : Int))))]) (fun q hq => ?_) ?_
          · simp only [List.mem_cons, List.not_mem_nil, or_false] at hq
            rcases hq with rfl | rfl | rfl | rfl | rfl <;> simp [stL, lv_args, Value.category]
          exact ow_5 hG hX hB hf hh m (o + 1) (by omega) kk
        · refine V_iload (v := Int32.ofInt (orI (othP G f h) o)) mi_86_36 (by simp [stL, lv_args, Value.category]) ?_
          refine V_ipush mi_86_37 ?_
          refine V_iload (v := Int32.ofInt ((o : Int))) mi_86_38 (by simp [stL, lv_args, Value.category]) ?_
          refine V_ibin mi_86_40 (by omega) ?_
          refine V_ibin mi_86_41 (by omega) ?_
          rw [bitO_i, ← orI_s1 (P := othP G f h) (by rw [othP_n hn]; exact decide_eq_true q3)]
          refine V_istore mi_86_42 ?_
          refine V_iinc (v := Int32.ofInt ((o : Int))) mi_86_43 (by simp [stL, lv_args, Value.category]) ?_
          rw [ia2]
          refine V_goto mi_86_46 ?_
          refine V_sub (lv' := [(0, .ref (ad 4)), (1, .int (Int32.ofInt ((f : Int)))), (2, .int (Int32.ofInt ((h : Int)))), (3, .int (Int32.ofInt (orI (othP G f h) (o + 1)))), (4, .int (Int32.ofInt (((o + 1 : Nat) : Int))))]) (fun q hq => ?_) ?_
          · simp only [List.mem_cons, List.not_mem_nil, or_false] at hq
            rcases hq with rfl | rfl | rfl | rfl | rfl <;> simp [stL, lv_args, Value.category]
          exact ow_5 hG hX hB hf hh m (o + 1) (by omega) kk
theorem ow_ct {G : Nat → Int} (hG : GOK ad tys GG ws) (hX : HX 4 G ws) (hB : HB G) {f h : Nat} (hf : (f : Int) < G 3) (hh : (h : Int) < G 2) : CT l D tys A 86 2 0 0 [.ref (ad 4), .int (Int32.ofInt ((f : Int))), .int (Int32.ofInt ((h : Int)))] ws (fun r w => w = ws ∧ r = some (.int (Int32.ofInt (orI (othP G f h) (G 3).toNat)))) := by
  refine CT_of_V (by omega) (show (3 : Nat) ≤ mML 86 by decide +kernel) ?_
  refine V_ipush mi_86_0 ?_
  refine V_istore mi_86_1 ?_
  refine V_ipush mi_86_2 ?_
  refine V_istore mi_86_3 ?_
  refine V_sub (lv' := [(0, .ref (ad 4)), (1, .int (Int32.ofInt ((f : Int)))), (2, .int (Int32.ofInt ((h : Int)))), (3, .int (Int32.ofInt (0))), (4, .int (Int32.ofInt (((0 : Nat) : Int))))]) (fun q hq => ?_) ?_
  · simp only [List.mem_cons, List.not_mem_nil, or_false] at hq
    rcases hq with rfl | rfl | rfl | rfl | rfl <;> simp [stL, lv_args, Value.category]
  have b3 := hB.b3
  exact ow_5 hG hX hB hf hh (G 3).toNat 0 (by omega) ⟨rfl, rfl⟩
/-- how many of the first s sayings are in hour h -/
noncomputable def cntS (G : Nat → Int) (h : Nat) : Nat → Nat
  | 0 => 0
  | s + 1 => cntS G h s + (if sWhn G s = h then 1 else 0)
/-- how many of the first n are ahead of hour h -/
noncomputable def cntH (G : Nat → Int) (n : Nat) : Nat → Nat
  | 0 => 0
  | h + 1 => cntH G n h + cntS G h n
theorem cntS_le {G : Nat → Int} {h s : Nat} : ∀ t : Nat, s ≤ t → cntS G h s ≤ cntS G h t
  | 0, e => by rw [show s = 0 by omega]; exact Nat.le_refl _
  | t + 1, e => by
    by_cases q : s = t + 1
    · rw [q]; exact Nat.le_refl _
    · exact Nat.le_trans (cntS_le t (by omega)) (Nat.le_add_right _ _)
theorem cntH_le {G : Nat → Int} {n h : Nat} : ∀ t : Nat, h ≤ t → cntH G n h ≤ cntH G n t
  | 0, e => by rw [show h = 0 by omega]; exact Nat.le_refl _
  | t + 1, e => by
    by_cases q : h = t + 1
    · rw [q]; exact Nat.le_refl _
    · exact Nat.le_trans (cntH_le t (by omega)) (Nat.le_add_right _ _)
theorem cntS_hit {G : Nat → Int} {h s : Nat} (e : sWhn G s = h) : cntS G h (s + 1) = cntS G h s + 1 := by
  show cntS G h s + (if sWhn G s = h then 1 else 0) = _
  rw [if_pos e]
theorem cntS_no {G : Nat → Int} {h s : Nat} (e : sWhn G s ≠ h) : cntS G h (s + 1) = cntS G h s := by
  show cntS G h s + (if sWhn G s = h then 1 else 0) = _
  rw [if_neg e, Nat.add_zero]
theorem cntH_z {G : Nat → Int} : ∀ h : Nat, cntH G 0 h = 0
  | 0 => rfl
  | h + 1 => by
    show cntH G 0 h + 0 = 0
    rw [cntH_z h]
theorem cntH_s {G : Nat → Int} {s : Nat} : ∀ h : Nat, cntH G (s + 1) h = cntH G s h + (if sWhn G s < h then 1 else 0)
  | 0 => by rw [if_neg (by omega)]; rfl
  | h + 1 => by
    show cntH G (s + 1) h + cntS G h (s + 1) = cntH G s h + cntS G h s + _
    rw [cntH_s h]
    by_cases e : sWhn G s = h
    · rw [cntS_hit e, if_neg (by omega), if_pos (by omega)]
      omega
    · rw [cntS_no e]
      by_cases q : sWhn G s < h
      · rw [if_pos q, if_pos (by omega)]
        omega
      · rw [if_neg q, if_neg (by omega)]
        omega
theorem cntH_all {G : Nat → Int} {H : Nat} : ∀ n : Nat, (∀ s, s < n → sWhn G s < H) → cntH G n H = n
  | 0, _ => cntH_z H
  | n + 1, w => by
    rw [cntH_s, cntH_all n (fun s hs => w s (by omega)), if_pos (w n (by omega))]
/-- where a saying stands in the order -/
noncomputable def pos (G : Nat → Int) (n s : Nat) : Nat := cntH G n (sWhn G s) + cntS G (sWhn G s) s
theorem pos_h {G : Nat → Int} {n s h : Nat} (hs : s < n) (e : sWhn G s < h) : pos G n s < cntH G n h := by
  have a := cntS_le (G := G) (h := sWhn G s) (s := s + 1) n (by omega)
  rw [cntS_hit rfl] at a
  have b := cntH_le (G := G) (n := n) (h := sWhn G s + 1) h (by omega)
  have c : cntH G n (sWhn G s + 1) = cntH G n (sWhn G s) + cntS G (sWhn G s) n := rfl
  unfold pos
  omega
theorem pos_s {G : Nat → Int} {n s t : Nat} (e : sWhn G s = sWhn G t) (hs : s < t) : pos G n s < pos G n t := by
  have a := cntS_le (G := G) (h := sWhn G s) (s := s + 1) t (by omega)
  rw [cntS_hit rfl] at a
  unfold pos
  rw [← e]
  omega
theorem pos_n {G : Nat → Int} {n H s : Nat} (w : ∀ s, s < n → sWhn G s < H) (hs : s < n) : pos G n s < n := by
  have a := pos_h hs (w s hs)
  rw [cntH_all n w] at a
  exact a
theorem cntS_ex {G : Nat → Int} {h : Nat} : ∀ n : Nat, 0 < cntS G h n → ∃ s, s < n ∧ sWhn G s = h ∧ cntS G h s = 0
  | 0, q => absurd q (Nat.lt_irrefl _)
  | n + 1, q => by
    by_cases z : 0 < cntS G h n
    · obtain ⟨s, a, b, c⟩ := cntS_ex n z
      exact ⟨s, by omega, b, c⟩
    · by_cases e : sWhn G n = h
      · exact ⟨n, by omega, e, by omega⟩
      · rw [cntS_no e] at q
        exact absurd q z
/-- what comes behind hour h is of a later hour -/
theorem pos_ex {G : Nat → Int} {n h : Nat} : ∀ H : Nat, h ≤ H → cntH G n h < cntH G n H → ∃ s, s < n ∧ h ≤ sWhn G s ∧ pos G n s = cntH G n h
  | 0, e, q => by rw [show h = 0 by omega] at q; exact absurd q (Nat.lt_irrefl _)
  | H + 1, e, q => by
    by_cases z : h = H + 1
    · rw [z] at q; exact absurd q (Nat.lt_irrefl _)
    · by_cases y : cntH G n h < cntH G n H
      · exact pos_ex H (by omega) y
      · have c : cntH G n (H + 1) = cntH G n H + cntS G H n := rfl
        have d := cntH_le (G := G) (n := n) (h := h) H (by omega)
        obtain ⟨s, s1, s2, s3⟩ := cntS_ex (G := G) (h := H) n (by omega)
        refine ⟨s, s1, by omega, ?_⟩
        unfold pos
        rw [s2, s3]
        omega
noncomputable def ORD (G : Nat → Int) (n : Nat) (w : va_W) : Prop := ∀ s, s < n → rd w 29 (pos G n s) = some (.int (Int32.ofInt (s : Int)))
noncomputable def PRS (G : Nat → Int) (n : Nat) (w : va_W) : Prop := ∀ s, s < n → rd w 30 s = some (.int (Int32.ofInt (orI (preP G s) (G 3).toNat)))
noncomputable def ORp (G : Nat → Int) (n h s0 : Nat) (w : va_W) : Prop := ∀ s, s < n → (sWhn G s < h ∨ (sWhn G s = h ∧ s < s0)) → rd w 29 (pos G n s) = some (.int (Int32.ofInt (s : Int)))
theorem WF_n {G : Nat → Int} (hB : HB G) (wf : WF G) : ∀ s, s < (G 4).toNat → sWhn G s < (G 2).toNat := fun s hs => by
  have b4 := hB.b4
  obtain ⟨-, -, -, -, g3⟩ := say_b hB (s := s) (by omega)
  have q := (wf s (by omega)).2
  omega
end XSE
section XSF
variable {l : Launch} {D : va_G} {tys : List (ClassId × FieldType)} {A : Nat → Prop} {ad : Nat → Nat} {ws : va_W}
theorem V_rne {k pc d y z : Nat} {a : Int} {post : Option Value → va_W → Prop} {lv : List (Nat × Value)} {st : List Value} {u : Int32} (hi : mI k pc = (14, a, 1, y, z)) (kt : u ≠ 0 → V l D tys A k d 0 0 post 0 0 y lv st ws) (kf : u = 0 → V l D tys A k d 0 0 post 0 0 (pc + 3) lv st ws) : V l D tys A k d 0 0 post 0 0 pc lv (.int u :: st) ws := by
  have q := V_zne (u := u.toInt) hi (i32b u) (fun h => kt (fun e => h (by rw [e]; rfl))) (fun h => kf (Int32.toInt_inj.mp (h.trans rfl)))
  rw [Int32.ofInt_toInt] at q
  exact q
theorem pl_15 {G : Nat → Int} {S : Nat} {w0 : va_W} {post : Option Value → va_W → Prop} {h : Nat} (hB : HB G) (hX0 : HX 4 G w0) (hS : (S : Int) = G 4) (hw : ∀ s, s < S → sWhn G s < (G 2).toNat) : ∀ (m s : Nat) (w : va_W), s + m = S → GOK ad tys GG w → ORp G S h s w → (∀ c j, c ≠ 29 → rd w c j = rd w0 c j) → (∀ w' : va_W, GOK ad tys GG w' → ORp G S (h + 1) 0 w' → (∀ c j, c ≠ 29 → rd w' c j = rd w0 c j) → V l D tys A 85 3 0 0 post 0 0 56 [(0, .ref (ad 28)), (1, .ref (ad 4)), (2, .int (Int32.ofInt (((cntH G S (h + 1) : Nat) : Int)))), (3, .int (Int32.ofInt ((h : Int))))] [] w') → (h : Int) < G 2 → V l D tys A 85 3 0 0 post 0 0 15 [(0, .ref (ad 28)), (1, .ref (ad 4)), (2, .int (Int32.ofInt (((cntH G S h + cntS G h s : Nat) : Int)))), (3, .int (Int32.ofInt ((h : Int)))), (4, .int (Int32.ofInt ((s : Int))))] [] w
  | 0, s, w, hm, hG, hR, ho, kk, hh => by
    have hX : HX 4 G w := HX_keep hX0 (fun c' i h1 h2 => ho _ _ (by omega))
    have b4 := hB.b4
    have b2 := hB.b2
    refine V_iload (v := Int32.ofInt ((s : Int))) mi_85_15 (by simp [stL, lv_args, Value.category]) ?_
    refine V_aload (v := ad 4) mi_85_17 (by simp [stL, lv_args, Value.category]) ?_
    refine V_gO mi_85_18 g4o hG (show rd _ 4 5 = some (.int (Int32.ofInt (G 4))) from hx0 hX (i := 5) (by omega)) ?_
    refine V_cge mi_85_21 ⟨by omega, by omega⟩ ⟨by omega, by omega⟩ (fun q => ?_) (fun q => ?_)
    · have e : s = S := by omega
      refine V_sub (lv' := [(0, .ref (ad 28)), (1, .ref (ad 4)), (2, .int (Int32.ofInt (((cntH G S h + cntS G h s : Nat) : Int)))), (3, .int (Int32.ofInt ((h : Int))))]) (fun q hq => ?_) ?_
      · simp only [List.mem_cons, List.not_mem_nil, or_false] at hq
        rcases hq with rfl | rfl | rfl | rfl <;> simp [stL, lv_args, Value.category]
      · rw [e] at hR ⊢
        exact kk w hG (fun t ht q => hR t ht (by omega)) ho
    · exact absurd q (by omega)
  | m + 1, s, w, hm, hG, hR, ho, kk, hh => by
    have hX : HX 4 G w := HX_keep hX0 (fun c' i h1 h2 => ho _ _ (by omega))
    have b4 := hB.b4
    have b2 := hB.b2
    refine V_iload (v := Int32.ofInt ((s : Int))) mi_85_15 (by simp [stL, lv_args, Value.category]) ?_
    refine V_aload (v := ad 4) mi_85_17 (by simp [stL, lv_args, Value.category]) ?_
    refine V_gO mi_85_18 g4o hG (show rd _ 4 5 = some (.int (Int32.ofInt (G 4))) from hx0 hX (i := 5) (by omega)) ?_
    refine V_cge mi_85_21 ⟨by omega, by omega⟩ ⟨by omega, by omega⟩ (fun q => ?_) (fun q => ?_)
    · exact absurd q (by omega)
    · obtain ⟨⟨w6, o6, i6, n24⟩, g0, g1, g2, g3⟩ := say_b hB (s := s) (by omega)
      have hs : s < S := by omega
      refine V_aload (v := ad 4) mi_85_24 (by simp [stL, lv_args, Value.category]) ?_
      refine V_gR mi_85_25 g4r16 (by omega) hG ?_
      refine V_iload (v := Int32.ofInt ((s : Int))) mi_85_28 (by simp [stL, lv_args, Value.category]) ?_
      refine V_stat (As := [.ref (ad 15), .int (Int32.ofInt ((s : Int)))]) (st := []) mi_85_30 (by omega) (atk_ct a15 hG (by omega) (by omega) (say_rd hX (k := s) (r := 3) (by omega) (by omega))) (by omega) (show 2 = mN 147 by decide +kernel) (by simp [Value.category]) ⟨Nat.le_refl _, Nat.le_refl _⟩ ?_
      rintro r w1 ⟨e1, rfl⟩
      rw [e1, g3]
      refine V_iload (v := Int32.ofInt ((h : Int))) mi_85_33 (by simp [stL, lv_args, Value.category]) ?_
      refine V_cne mi_85_34 ⟨by omega, by omega⟩ ⟨by omega, by omega⟩ (fun q2 => ?_) (fun q2 => ?_)
      · have hne : sWhn G s ≠ h := by omega
        rw [show cntH G S h + cntS G h s = cntH G S h + cntS G h (s + 1) by rw [cntS_no hne]]
        refine V_iinc (v := Int32.ofInt ((s : Int))) mi_85_50 (by simp [stL, lv_args, Value.category]) ?_
        rw [ia2]
        refine V_goto mi_85_53 ?_
        refine V_sub (lv' := [(0, .ref (ad 28)), (1, .ref (ad 4)), (2, .int (Int32.ofInt (((cntH G S h + cntS G h (s + 1) : Nat) : Int)))), (3, .int (Int32.ofInt ((h : Int)))), (4, .int (Int32.ofInt (((s + 1 : Nat) : Int))))]) (fun q hq => ?_) ?_
        · simp only [List.mem_cons, List.not_mem_nil, or_false] at hq
          rcases hq with rfl | rfl | rfl | rfl | rfl <;> simp [stL, lv_args, Value.category]
        exact pl_15 hB hX0 hS hw m (s + 1) w (by omega) hG (fun t ht q => hR t ht (by rcases q with q | q; exact Or.inl q; exact Or.inr ⟨q.1, Nat.lt_of_le_of_ne (by omega) (fun e => hne (by rw [← e]; exact q.1))⟩)) ho kk hh
      · have heq : sWhn G s = h := by omega
        have hp : pos G S s = cntH G S h + cntS G h s := by unfold pos; rw [heq]
        have hp2 := pos_n hw hs
        refine V_aload (v := ad 28) mi_85_37 (by simp [stL, lv_args, Value.category]) ?_
        refine V_gR mi_85_38 g28r0 (by omega) hG ?_
        refine V_iload (v := Int32.ofInt (((cntH G S h + cntS G h s : Nat) : Int))) mi_85_41 (by simp [stL, lv_args, Value.category]) ?_
        refine V_iload (v := Int32.ofInt ((s : Int))) mi_85_42 (by simp [stL, lv_args, Value.category]) ?_
        refine V_stat (As := [.ref (ad 29), .int (Int32.ofInt (((cntH G S h + cntS G h s : Nat) : Int))), .int (Int32.ofInt ((s : Int)))]) (st := []) mi_85_44 (by omega) (putk_ct (j := cntH G S h + cntS G h s) a29 hG (by omega) (by omega)) (by omega) (show 3 = mN 148 by decide +kernel) (by simp [Value.category]) ⟨Nat.le_refl _, Nat.le_refl _⟩ ?_
        rintro r w2 ⟨rfl, G2, U2⟩
        refine V_iinc (v := Int32.ofInt (((cntH G S h + cntS G h s : Nat) : Int))) mi_85_47 (by simp [stL, lv_args, Value.category]) ?_
        rw [ia2]
        rw [show ((cntH G S h + cntS G h s : Nat) : Int) + (1) = ((cntH G S h + cntS G h (s + 1) : Nat) : Int) by rw [cntS_hit heq]; omega]
        refine V_iinc (v := Int32.ofInt ((s : Int))) mi_85_50 (by simp [stL, lv_args, Value.category]) ?_
        rw [ia2]
        refine V_goto mi_85_53 ?_
        refine V_sub (lv' := [(0, .ref (ad 28)), (1, .ref (ad 4)), (2, .int (Int32.ofInt (((cntH G S h + cntS G h (s + 1) : Nat) : Int)))), (3, .int (Int32.ofInt ((h : Int)))), (4, .int (Int32.ofInt (((s + 1 : Nat) : Int))))]) (fun q hq => ?_) ?_
        · simp only [List.mem_cons, List.not_mem_nil, or_false] at hq
          rcases hq with rfl | rfl | rfl | rfl | rfl <;> simp [stL, lv_args, Value.category]
        · refine pl_15 hB hX0 hS hw m (s + 1) w2 (by omega) G2 (fun t ht q => ?_) (fun c j hc => (upd_ne U2 (by omega)).trans (ho c j hc)) kk hh
          by_cases e : t = s
          · rw [e, hp]
            exact upd_eq U2
          · have hlt : pos G S t < pos G S s := by
              rcases q with q | q
              · have a := pos_h (n := S) ht q
                omega
              · exact pos_s (q.1.trans heq.symm) (by omega)
            exact (upd_ne U2 (by omega)).trans (hR t ht (by rcases q with q | q; exact Or.inl q; exact Or.inr ⟨q.1, by omega⟩))
theorem pl_4 {G : Nat → Int} {S : Nat} {w0 : va_W} {post : Option Value → va_W → Prop} (hB : HB G) (hX0 : HX 4 G w0) (hS : (S : Int) = G 4) (hw : ∀ s, s < S → sWhn G s < (G 2).toNat) : ∀ (m h : Nat) (w : va_W), ((h + m : Nat) : Int) = G 2 → GOK ad tys GG w → ORp G S h 0 w → (∀ c j, c ≠ 29 → rd w c j = rd w0 c j) → (∀ w' : va_W, GOK ad tys GG w' → ORD G S w' → (∀ c j, c ≠ 29 → rd w' c j = rd w0 c j) → V l D tys A 85 3 0 0 post 0 0 64 [(0, .ref (ad 28)), (1, .ref (ad 4)), (3, .int (Int32.ofInt (((0 : Nat) : Int))))] [] w') → V l D tys A 85 3 0 0 post 0 0 4 [(0, .ref (ad 28)), (1, .ref (ad 4)), (2, .int (Int32.ofInt (((cntH G S h : Nat) : Int)))), (3, .int (Int32.ofInt ((h : Int))))] [] w
  | 0, h, w, hm, hG, hR, ho, kk => by
    have hX : HX 4 G w := HX_keep hX0 (fun c' i h1 h2 => ho _ _ (by omega))
    have b4 := hB.b4
    have b2 := hB.b2
    refine V_iload (v := Int32.ofInt ((h : Int))) mi_85_4 (by simp [stL, lv_args, Value.category]) ?_
    refine V_aload (v := ad 4) mi_85_5 (by simp [stL, lv_args, Value.category]) ?_
    refine V_gO mi_85_6 g4o hG (show rd _ 4 3 = some (.int (Int32.ofInt (G 2))) from hx0 hX (i := 3) (by omega)) ?_
    refine V_cge mi_85_9 ⟨by omega, by omega⟩ ⟨by omega, by omega⟩ (fun q => ?_) (fun q => ?_)
    · have e : h = (G 2).toNat := by omega
      rw [e] at hR
      refine V_ipush mi_85_62 ?_
      refine V_istore mi_85_63 ?_
      refine V_sub (lv' := [(0, .ref (ad 28)), (1, .ref (ad 4)), (3, .int (Int32.ofInt (((0 : Nat) : Int))))]) (fun q hq => ?_) ?_
      · simp only [List.mem_cons, List.not_mem_nil, or_false] at hq
        rcases hq with rfl | rfl | rfl <;> simp [stL, lv_args, Value.category]
      exact kk w hG (fun t ht => hR t ht (Or.inl (hw t ht))) ho
    · exact absurd q (by omega)
  | m + 1, h, w, hm, hG, hR, ho, kk => by
    have hX : HX 4 G w := HX_keep hX0 (fun c' i h1 h2 => ho _ _ (by omega))
    have b4 := hB.b4
    have b2 := hB.b2
    refine V_iload (v := Int32.ofInt ((h : Int))) mi_85_4 (by simp [stL, lv_args, Value.category]) ?_
    refine V_aload (v := ad 4) mi_85_5 (by simp [stL, lv_args, Value.category]) ?_
    refine V_gO mi_85_6 g4o hG (show rd _ 4 3 = some (.int (Int32.ofInt (G 2))) from hx0 hX (i := 3) (by omega)) ?_
    refine V_cge mi_85_9 ⟨by omega, by omega⟩ ⟨by omega, by omega⟩ (fun q => ?_) (fun q => ?_)
    · exact absurd q (by omega)
    · refine V_ipush mi_85_12 ?_
      refine V_istore mi_85_13 ?_
      refine V_sub (lv' := [(0, .ref (ad 28)), (1, .ref (ad 4)), (2, .int (Int32.ofInt (((cntH G S h : Nat) : Int)))), (3, .int (Int32.ofInt ((h : Int)))), (4, .int (Int32.ofInt (((0 : Nat) : Int))))]) (fun q hq => ?_) ?_
      · simp only [List.mem_cons, List.not_mem_nil, or_false] at hq
        rcases hq with rfl | rfl | rfl | rfl | rfl <;> simp [stL, lv_args, Value.category]
      refine pl_15 (h := h) hB hX0 hS hw S 0 w (by omega) hG hR ho (fun w2 G2 R2 o2 => ?_) (by omega)
      refine V_iinc (v := Int32.ofInt ((h : Int))) mi_85_56 (by simp [stL, lv_args, Value.category]) ?_
      rw [ia2]
      refine V_goto mi_85_59 ?_
      refine V_sub (lv' := [(0, .ref (ad 28)), (1, .ref (ad 4)), (2, .int (Int32.ofInt (((cntH G S (h + 1) : Nat) : Int)))), (3, .int (Int32.ofInt (((h + 1 : Nat) : Int))))]) (fun q hq => ?_) ?_
      · simp only [List.mem_cons, List.not_mem_nil, or_false] at hq
        rcases hq with rfl | rfl | rfl | rfl <;> simp [stL, lv_args, Value.category]
      exact pl_4 hB hX0 hS hw m (h + 1) w2 (by omega) G2 R2 o2 kk
theorem pl_64 {G : Nat → Int} {S : Nat} {w0 : va_W} {post : Option Value → va_W → Prop} (hB : HB G) (wf : WF G) (hX0 : HX 4 G w0) (hS : (S : Int) = G 4) : ∀ (m s : Nat) (w : va_W), s + m = S → GOK ad tys GG w → PRS G s w → (∀ c j, c ≠ 30 → rd w c j = rd w0 c j) → (∀ w' : va_W, GOK ad tys GG w' → PRS G S w' → (∀ c j, c ≠ 30 → rd w' c j = rd w0 c j) → post none w') → V l D tys A 85 3 0 0 post 0 0 64 [(0, .ref (ad 28)), (1, .ref (ad 4)), (3, .int (Int32.ofInt ((s : Int))))] [] w
  | 0, s, w, hm, hG, hR, ho, kk => by
    have hX : HX 4 G w := HX_keep hX0 (fun c' i h1 h2 => ho _ _ (by omega))
    have b4 := hB.b4
    have b2 := hB.b2
    refine V_iload (v := Int32.ofInt ((s : Int))) mi_85_64 (by simp [stL, lv_args, Value.category]) ?_
    refine V_aload (v := ad 4) mi_85_65 (by simp [stL, lv_args, Value.category]) ?_
    refine V_gO mi_85_66 g4o hG (show rd _ 4 5 = some (.int (Int32.ofInt (G 4))) from hx0 hX (i := 5) (by omega)) ?_
    refine V_cge mi_85_69 ⟨by omega, by omega⟩ ⟨by omega, by omega⟩ (fun q => ?_) (fun q => ?_)
    · have e : s = S := by omega
      rw [e] at hR
      exact V_retV mi_85_106 (kk w hG hR ho)
    · exact absurd q (by omega)
  | m + 1, s, w, hm, hG, hR, ho, kk => by
    have hX : HX 4 G w := HX_keep hX0 (fun c' i h1 h2 => ho _ _ (by omega))
    have b4 := hB.b4
    have b2 := hB.b2
    refine V_iload (v := Int32.ofInt ((s : Int))) mi_85_64 (by simp [stL, lv_args, Value.category]) ?_
    refine V_aload (v := ad 4) mi_85_65 (by simp [stL, lv_args, Value.category]) ?_
    refine V_gO mi_85_66 g4o hG (show rd _ 4 5 = some (.int (Int32.ofInt (G 4))) from hx0 hX (i := 5) (by omega)) ?_
    refine V_cge mi_85_69 ⟨by omega, by omega⟩ ⟨by omega, by omega⟩ (fun q => ?_) (fun q => ?_)
    · exact absurd q (by omega)
    · obtain ⟨⟨w6, o6, i6, n24⟩, g0, g1, g2, g3⟩ := say_b hB (s := s) (by omega)
      obtain ⟨wf1, wf2⟩ := wf s (by omega)
      have b3 := hB.b3
      refine V_aload (v := ad 28) mi_85_72 (by simp [stL, lv_args, Value.category]) ?_
      refine V_gR mi_85_73 g28r1 (by omega) hG ?_
      refine V_iload (v := Int32.ofInt ((s : Int))) mi_85_76 (by simp [stL, lv_args, Value.category]) ?_
      refine V_aload (v := ad 4) mi_85_77 (by simp [stL, lv_args, Value.category]) ?_
      refine V_aload (v := ad 4) mi_85_78 (by simp [stL, lv_args, Value.category]) ?_
      refine V_gR mi_85_79 g4r13 (by omega) hG ?_
      refine V_iload (v := Int32.ofInt ((s : Int))) mi_85_82 (by simp [stL, lv_args, Value.category]) ?_
      refine V_stat (As := [.ref (ad 12), .int (Int32.ofInt ((s : Int)))]) (st := [.ref (ad 4), .int (Int32.ofInt ((s : Int))), .ref (ad 30)]) mi_85_83 (by omega) (atk_ct a12 hG (by omega) (by omega) (say_rd hX (k := s) (r := 0) (by omega) (by omega))) (by omega) (show 2 = mN 147 by decide +kernel) (by simp [Value.category]) ⟨Nat.le_refl _, Nat.le_refl _⟩ ?_
      rintro r w1 ⟨e1, rfl⟩
      rw [e1, show G (246 + 4 * s + 0) = G (246 + 4 * s) from rfl, g0]
      refine V_aload (v := ad 4) mi_85_86 (by simp [stL, lv_args, Value.category]) ?_
      refine V_gR mi_85_87 g4r16 (by omega) hG ?_
      refine V_iload (v := Int32.ofInt ((s : Int))) mi_85_90 (by simp [stL, lv_args, Value.category]) ?_
      refine V_stat (As := [.ref (ad 15), .int (Int32.ofInt ((s : Int)))]) (st := [.int (Int32.ofInt ((sWho G s : Int))), .ref (ad 4), .int (Int32.ofInt ((s : Int))), .ref (ad 30)]) mi_85_91 (by omega) (atk_ct a15 hG (by omega) (by omega) (say_rd hX (k := s) (r := 3) (by omega) (by omega))) (by omega) (show 2 = mN 147 by decide +kernel) (by simp [Value.category]) ⟨Nat.le_refl _, Nat.le_refl _⟩ ?_
      rintro r w2 ⟨e2, rfl⟩
      rw [e2, g3]
      refine V_stat (As := [.ref (ad 4), .int (Int32.ofInt ((sWho G s : Int))), .int (Int32.ofInt ((sWhn G s : Int)))]) (st := [.int (Int32.ofInt ((s : Int))), .ref (ad 30)]) mi_85_94 (by omega) (ow_ct (f := sWho G s) (h := sWhn G s) hG hX hB (by omega) (by omega)) (by omega) (show 3 = mN 86 by decide +kernel) (by simp [Value.category]) ⟨Nat.le_refl _, Nat.le_refl _⟩ ?_
      rintro r w3 ⟨e3, rfl⟩
      rw [e3]
      refine V_stat (As := [.ref (ad 30), .int (Int32.ofInt ((s : Int))), .int (Int32.ofInt (orI (othP G (sWho G s) (sWhn G s)) (G 3).toNat))]) (st := []) mi_85_97 (by omega) (putk_ct (j := s) a30 hG (by omega) (by omega)) (by omega) (show 3 = mN 148 by decide +kernel) (by simp [Value.category]) ⟨Nat.le_refl _, Nat.le_refl _⟩ ?_
      rintro r w4 ⟨rfl, G4, U4⟩
      refine V_iinc (v := Int32.ofInt ((s : Int))) mi_85_100 (by simp [stL, lv_args, Value.category]) ?_
      rw [ia2]
      refine V_goto mi_85_103 ?_
      refine V_sub (lv' := [(0, .ref (ad 28)), (1, .ref (ad 4)), (3, .int (Int32.ofInt (((s + 1 : Nat) : Int))))]) (fun q hq => ?_) ?_
      · simp only [List.mem_cons, List.not_mem_nil, or_false] at hq
        rcases hq with rfl | rfl | rfl <;> simp [stL, lv_args, Value.category]
      · refine pl_64 hB wf hX0 hS m (s + 1) w4 (by omega) G4 (fun t ht => ?_) (fun c j hc => (upd_ne U4 (by omega)).trans (ho c j hc)) kk
        by_cases e : t = s
        · rw [e]
          exact upd_eq U4
        · exact (upd_ne U4 (by omega)).trans (hR t (by omega))
theorem pla_ct {G : Nat → Int} (hG : GOK ad tys GG ws) (hX : HX 4 G ws) (hB : HB G) (wf : WF G) : CT l D tys A 85 3 0 0 [.ref (ad 28), .ref (ad 4)] ws (fun r w => r = none ∧ GOK ad tys GG w ∧ ORD G (G 4).toNat w ∧ PRS G (G 4).toNat w ∧ ∀ c j, c ≠ 29 → c ≠ 30 → rd w c j = rd ws c j) := by
  refine CT_of_V (by omega) (show (2 : Nat) ≤ mML 85 by decide +kernel) ?_
  have b4 := hB.b4
  have b2 := hB.b2
  refine V_ipush mi_85_0 ?_
  refine V_istore mi_85_1 ?_
  refine V_ipush mi_85_2 ?_
  refine V_istore mi_85_3 ?_
  refine V_sub (lv' := [(0, .ref (ad 28)), (1, .ref (ad 4)), (2, .int (Int32.ofInt (((0 : Nat) : Int)))), (3, .int (Int32.ofInt (((0 : Nat) : Int))))]) (fun q hq => ?_) ?_
  · simp only [List.mem_cons, List.not_mem_nil, or_false] at hq
    rcases hq with rfl | rfl | rfl | rfl <;> simp [stL, lv_args, Value.category]
  refine pl_4 (w0 := ws) (S := (G 4).toNat) hB hX (by omega) (WF_n hB wf) (G 2).toNat 0 ws (by omega) hG (fun t ht q => absurd q (by omega)) (fun _ _ _ => rfl) (fun w1 G1 R1 o1 => ?_)
  refine pl_64 (w0 := w1) (S := (G 4).toNat) hB wf (HX_keep hX (fun c' i h1 h2 => o1 _ _ (by omega))) (by omega) (G 4).toNat 0 w1 (by omega) G1 (fun t ht => absurd ht (by omega)) (fun _ _ _ => rfl) (fun w2 G2 R2 o2 => ?_)
  exact ⟨rfl, G2, fun t ht => (o2 _ _ (by omega)).trans (R1 t ht), R2, fun c j h1 h2 => (o2 c j h2).trans (o1 c j h1)⟩
end XSF
end
section
section XSG
variable {l : Launch} {D : va_G} {tys : List (ClassId × FieldType)} {A : Nat → Prop} {ad : Nat → Nat} {ws : va_W}
theorem alf_ct {G : Nat → Int} (hG : GOK ad tys GG ws) (hX : HX 4 G ws) (hB : HB G) {f : Nat} (hf : f < 6) : CT l D tys A 108 1 0 0 [.ref (ad 4), .int (Int32.ofInt ((f : Int)))] ws (fun r w => w = ws ∧ r = some (.int (Int32.ofInt (allV (G (6 + 7 * f)))))) := by
  refine CT_of_V (by omega) (show (2 : Nat) ≤ mML 108 by decide +kernel) ?_
  have bl := hB.bl f hf
  refine V_ipush mi_108_0 ?_
  refine V_aload (v := ad 4) mi_108_1 (by simp [stL, lv_args, Value.category]) ?_
  refine V_iload (v := Int32.ofInt ((f : Int))) mi_108_2 (by simp [stL, lv_args, Value.category]) ?_
  refine V_cO (As := [.int (Int32.ofInt ((f : Int)))]) (st := [.int (Int32.ofInt (1))]) mi_108_3 (by omega) (by decide +kernel) (by decide +kernel) (by omega) g4o hG (hle_ct (f := f) hG hX hB hf) (by omega) (show 1 = mN 106 by decide +kernel) (by simp [Value.category]) ?_
  rintro r w1 ⟨rfl, rfl⟩
  refine V_ibin mi_108_6 (by omega) ?_
  refine V_ipush mi_108_7 ?_
  refine V_ibin mi_108_8 (by omega) ?_
  rw [(allV_k bl.1 bl.2).1]
  exact V_retI mi_108_9 (fun h => absurd h (by decide +kernel)) ⟨rfl, rfl⟩
/-- what is known once the first n folk know their own -/
noncomputable def bgK (G : Nat → Int) (n j : Nat) : Int := if j / 6 = j % 6 ∧ j / 6 < n then allV (G (6 + 7 * (j % 6))) else G (66 + j)
theorem bgK_i {G : Nat → Int} {n j : Nat} (h : j / 6 < n) : bgK G n j = iniK G j := by
  unfold bgK iniK
  by_cases e : j / 6 = j % 6
  · rw [if_pos ⟨e, h⟩, if_pos e]
  · rw [if_neg (fun q => e q.1), if_neg e]
theorem bgK_s {G : Nat → Int} {n j : Nat} (hn : n < 6) (h : j ≠ 6 * n + n) : bgK G (n + 1) j = bgK G n j := by
  unfold bgK
  by_cases e : j / 6 = j % 6 ∧ j / 6 < n
  · rw [if_pos e, if_pos ⟨e.1, by omega⟩]
  · rw [if_neg e, if_neg (fun q => by omega)]
theorem bgK_d {G : Nat → Int} {n : Nat} (hn : n < 6) : bgK G (n + 1) (6 * n + n) = allV (G (6 + 7 * n)) := by
  unfold bgK
  rw [if_pos (by omega), show (6 * n + n) % 6 = n by omega]
theorem bg_13 {G : Nat → Int} {w0 : va_W} {post : Option Value → va_W → Prop} (hB : HB G) (hX0 : HX 4 G w0) : ∀ (m f : Nat) (w : va_W), ((f + m : Nat) : Int) = G 3 → GOK ad tys GG w → (∀ j, j < 36 → rd w 31 j = some (.int (Int32.ofInt (bgK G f j)))) → (∀ c j, c ≠ 31 → rd w c j = rd w0 c j) → (∀ w' : va_W, GOK ad tys GG w' → (∀ j, j < 36 → rd w' 31 j = some (.int (Int32.ofInt (bgK G (G 3).toNat j)))) → (∀ c j, c ≠ 31 → rd w' c j = rd w0 c j) → post none w') → V l D tys A 87 2 0 0 post 0 0 13 [(0, .ref (ad 28)), (1, .ref (ad 4)), (2, .int (Int32.ofInt ((f : Int))))] [] w
  | 0, f, w, hm, hG, hK, ho, kk => by
    have hX : HX 4 G w := HX_keep hX0 (fun c' i h1 h2 => ho _ _ (by omega))
    have b3 := hB.b3
    refine V_iload (v := Int32.ofInt ((f : Int))) mi_87_13 (by simp [stL, lv_args, Value.category]) ?_
    refine V_aload (v := ad 4) mi_87_14 (by simp [stL, lv_args, Value.category]) ?_
    refine V_gO mi_87_15 g4o hG (show rd _ 4 4 = some (.int (Int32.ofInt (G 3))) from hx0 hX (i := 4) (by omega)) ?_
    refine V_cge mi_87_18 ⟨by omega, by omega⟩ ⟨by omega, by omega⟩ (fun q => ?_) (fun q => ?_)
    · have e : f = (G 3).toNat := by omega
      rw [e] at hK
      exact V_retV mi_87_45 (kk w hG hK ho)
    · exact absurd q (by omega)
  | m + 1, f, w, hm, hG, hK, ho, kk => by
    have hX : HX 4 G w := HX_keep hX0 (fun c' i h1 h2 => ho _ _ (by omega))
    have b3 := hB.b3
    refine V_iload (v := Int32.ofInt ((f : Int))) mi_87_13 (by simp [stL, lv_args, Value.category]) ?_
    refine V_aload (v := ad 4) mi_87_14 (by simp [stL, lv_args, Value.category]) ?_
    refine V_gO mi_87_15 g4o hG (show rd _ 4 4 = some (.int (Int32.ofInt (G 3))) from hx0 hX (i := 4) (by omega)) ?_
    refine V_cge mi_87_18 ⟨by omega, by omega⟩ ⟨by omega, by omega⟩ (fun q => ?_) (fun q => ?_)
    · exact absurd q (by omega)
    · refine V_aload (v := ad 28) mi_87_21 (by simp [stL, lv_args, Value.category]) ?_
      refine V_gR mi_87_22 g28r2 (by omega) hG ?_
      refine V_iload (v := Int32.ofInt ((f : Int))) mi_87_25 (by simp [stL, lv_args, Value.category]) ?_
      refine V_ipush mi_87_26 ?_
      refine V_ibin mi_87_28 (by omega) ?_
      rw [ib2]
      refine V_iload (v := Int32.ofInt ((f : Int))) mi_87_29 (by simp [stL, lv_args, Value.category]) ?_
      refine V_ibin mi_87_30 (by omega) ?_
      rw [ib0]
      rw [show (f : Int) * (6) + (f : Int) = ((6 * f + f : Nat) : Int) by omega]
      refine V_aload (v := ad 4) mi_87_31 (by simp [stL, lv_args, Value.category]) ?_
      refine V_iload (v := Int32.ofInt ((f : Int))) mi_87_32 (by simp [stL, lv_args, Value.category]) ?_
      refine V_cO (As := [.int (Int32.ofInt ((f : Int)))]) (st := [.int (Int32.ofInt (((6 * f + f : Nat) : Int))), .ref (ad 31)]) mi_87_33 (by omega) (by decide +kernel) (by decide +kernel) (by omega) g4o hG (alf_ct (f := f) hG hX hB (by omega)) (by omega) (show 1 = mN 108 by decide +kernel) (by simp [Value.category]) ?_
      rintro r w1 ⟨e1, rfl⟩
      rw [e1]
      refine V_stat (As := [.ref (ad 31), .int (Int32.ofInt (((6 * f + f : Nat) : Int))), .int (Int32.ofInt (allV (G (6 + 7 * f))))]) (st := []) mi_87_36 (by omega) (putk_ct (j := 6 * f + f) a31 hG (by omega) (by omega)) (by omega) (show 3 = mN 148 by decide +kernel) (by simp [Value.category]) ⟨Nat.le_refl _, Nat.le_refl _⟩ ?_
      rintro r w2 ⟨rfl, G2, U2⟩
      refine V_iinc (v := Int32.ofInt ((f : Int))) mi_87_39 (by simp [stL, lv_args, Value.category]) ?_
      rw [ia2]
      refine V_goto mi_87_42 ?_
      refine V_sub (lv' := [(0, .ref (ad 28)), (1, .ref (ad 4)), (2, .int (Int32.ofInt (((f + 1 : Nat) : Int))))]) (fun q hq => ?_) ?_
      · simp only [List.mem_cons, List.not_mem_nil, or_false] at hq
        rcases hq with rfl | rfl | rfl <;> simp [stL, lv_args, Value.category]
      · refine bg_13 hB hX0 m (f + 1) w2 (by omega) G2 (fun j hj => ?_) (fun c j hc => (upd_ne U2 (by omega)).trans (ho c j hc)) kk
        by_cases e : j = 6 * f + f
        · rw [e, bgK_d (by omega)]
          exact upd_eq U2
        · rw [bgK_s (by omega) e]
          exact (upd_ne U2 (by omega)).trans (hK j hj)
theorem bgn_ct {G : Nat → Int} (hG : GOK ad tys GG ws) (hX : HX 4 G ws) (hB : HB G) : CT l D tys A 87 2 0 0 [.ref (ad 28), .ref (ad 4)] ws (fun r w => r = none ∧ GOK ad tys GG w ∧ (∀ j, j < 36 → (j / 6 : Nat) < G 3 → rd w 31 j = some (.int (Int32.ofInt (iniK G j)))) ∧ ∀ c j, c ≠ 31 → rd w c j = rd ws c j) := by
  refine CT_of_V (by omega) (show (2 : Nat) ≤ mML 87 by decide +kernel) ?_
  have b3 := hB.b3
  refine V_aload (v := ad 4) mi_87_0 (by simp [stL, lv_args, Value.category]) ?_
  refine V_gR mi_87_1 g4r12 (by omega) hG ?_
  refine V_aload (v := ad 28) mi_87_4 (by simp [stL, lv_args, Value.category]) ?_
  refine V_gR mi_87_5 g28r2 (by omega) hG ?_
  refine V_stat (As := [.ref (ad 11), .ref (ad 31)]) (st := []) mi_87_8 (by omega) (copy_ct a11 a31 hG (by omega) (by omega) ⟨by omega, by omega⟩ ⟨by omega, by omega⟩) (by omega) (show 2 = mN 150 by decide +kernel) (by simp [Value.category]) ⟨Nat.le_refl _, Nat.le_refl _⟩ ?_
  rintro r w1 ⟨rfl, G1, o1, k1⟩
  refine V_ipush mi_87_11 ?_
  refine V_istore mi_87_12 ?_
  refine V_sub (lv' := [(0, .ref (ad 28)), (1, .ref (ad 4)), (2, .int (Int32.ofInt (((0 : Nat) : Int))))]) (fun q hq => ?_) ?_
  · simp only [List.mem_cons, List.not_mem_nil, or_false] at hq
    rcases hq with rfl | rfl | rfl <;> simp [stL, lv_args, Value.category]
  refine bg_13 (w0 := w1) hB (HX_keep hX (fun c' i h1 h2 => o1 _ _ (by omega))) (G 3).toNat 0 w1 (by omega) G1 (fun j hj => ?_) (fun _ _ _ => rfl) (fun w2 G2 k2 o2 => ?_)
  · rw [k1 j hj]
    unfold bgK
    rw [if_neg (fun q => by omega)]
    have q := HX_HY hX 7 (by omega) j hj
    exact q
  · exact ⟨rfl, G2, fun j hj h6 => by rw [k2 j hj, bgK_i (by omega)], fun c j hc => (o2 c j hc).trans (o1 c j hc)⟩
theorem bts_ct {f o : Nat} {v : Int32} (hG : GOK ad tys GG ws) (hf : f < 6) (ho : o < 6) (h : rd ws 31 (6 * f + o) = some (.int v)) : CT l D tys A 88 1 0 0 [.ref (ad 28), .int (Int32.ofInt ((f : Int))), .int (Int32.ofInt ((o : Int)))] ws (fun r w => w = ws ∧ r = some (.int v)) := by
  refine CT_of_V (by omega) (show (3 : Nat) ≤ mML 88 by decide +kernel) ?_
  refine V_aload (v := ad 28) mi_88_0 (by simp [stL, lv_args, Value.category]) ?_
  refine V_gR mi_88_1 g28r2 (by omega) hG ?_
  refine V_iload (v := Int32.ofInt ((f : Int))) mi_88_4 (by simp [stL, lv_args, Value.category]) ?_
  refine V_ipush mi_88_5 ?_
  refine V_ibin mi_88_7 (by omega) ?_
  rw [ib2]
  refine V_iload (v := Int32.ofInt ((o : Int))) mi_88_8 (by simp [stL, lv_args, Value.category]) ?_
  refine V_ibin mi_88_9 (by omega) ?_
  rw [ib0]
  rw [show (f : Int) * (6) + (o : Int) = ((6 * f + o : Nat) : Int) by omega]
  refine V_stat (As := [.ref (ad 31), .int (Int32.ofInt (((6 * f + o : Nat) : Int)))]) (st := []) mi_88_10 (by omega) (atk_ct (j := 6 * f + o) a31 hG (by omega) (by omega) h) (by omega) (show 2 = mN 147 by decide +kernel) (by simp [Value.category]) ⟨Nat.le_refl _, Nat.le_refl _⟩ ?_
  rintro r w1 ⟨rfl, rfl⟩
  exact V_retI mi_88_13 (fun h => absurd h (by decide +kernel)) ⟨rfl, rfl⟩
theorem prs_ct {s : Nat} {v : Int32} (hG : GOK ad tys GG ws) (hs : s < 12) (h : rd ws 30 s = some (.int v)) : CT l D tys A 89 1 0 0 [.ref (ad 28), .int (Int32.ofInt ((s : Int)))] ws (fun r w => w = ws ∧ r = some (.int v)) := by
  refine CT_of_V (by omega) (show (2 : Nat) ≤ mML 89 by decide +kernel) ?_
  refine V_aload (v := ad 28) mi_89_0 (by simp [stL, lv_args, Value.category]) ?_
  refine V_gR mi_89_1 g28r1 (by omega) hG ?_
  refine V_iload (v := Int32.ofInt ((s : Int))) mi_89_4 (by simp [stL, lv_args, Value.category]) ?_
  refine V_stat (As := [.ref (ad 30), .int (Int32.ofInt ((s : Int)))]) (st := []) mi_89_5 (by omega) (atk_ct (j := s) a30 hG (by omega) hs h) (by omega) (show 2 = mN 147 by decide +kernel) (by simp [Value.category]) ⟨Nat.le_refl _, Nat.le_refl _⟩ ?_
  rintro r w1 ⟨rfl, rfl⟩
  exact V_retI mi_89_8 (fun h => absurd h (by decide +kernel)) ⟨rfl, rfl⟩
theorem ino_ct {s : Nat} {v : Int32} (hG : GOK ad tys GG ws) (hs : s < 12) (h : rd ws 29 s = some (.int v)) : CT l D tys A 90 1 0 0 [.ref (ad 28), .int (Int32.ofInt ((s : Int)))] ws (fun r w => w = ws ∧ r = some (.int v)) := by
  refine CT_of_V (by omega) (show (2 : Nat) ≤ mML 90 by decide +kernel) ?_
  refine V_aload (v := ad 28) mi_90_0 (by simp [stL, lv_args, Value.category]) ?_
  refine V_gR mi_90_1 g28r0 (by omega) hG ?_
  refine V_iload (v := Int32.ofInt ((s : Int))) mi_90_4 (by simp [stL, lv_args, Value.category]) ?_
  refine V_stat (As := [.ref (ad 29), .int (Int32.ofInt ((s : Int)))]) (st := []) mi_90_5 (by omega) (atk_ct (j := s) a29 hG (by omega) hs h) (by omega) (show 2 = mN 147 by decide +kernel) (by simp [Value.category]) ⟨Nat.le_refl _, Nat.le_refl _⟩ ?_
  rintro r w1 ⟨rfl, rfl⟩
  exact V_retI mi_90_8 (fun h => absurd h (by decide +kernel)) ⟨rfl, rfl⟩
/-- what the class's course knows: of those who are there -/
noncomputable def XKN (G : Nat → Int) (K : Nat → Int) (w : va_W) : Prop := ∀ j, j < 36 → (j / 6 : Nat) < G 3 → rd w 31 j = some (.int (Int32.ofInt (K j)))
theorem csy_ct {G : Nat → Int} (hG : GOK ad tys GG ws) (hX : HX 4 G ws) (hB : HB G) (wf : WF G) {K : Nat → Int} (kk : kOK K) (hK : XKN G K ws) {s : Nat} (hs : (s : Int) < G 4) : CT l D tys A 91 2 0 0 [.ref (ad 28), .ref (ad 4), .int (Int32.ofInt ((s : Int)))] ws (fun r w => w = ws ∧ r = some (.int (bI (canB G K s)))) := by
  refine CT_of_V (by omega) (show (3 : Nat) ≤ mML 91 by decide +kernel) ?_
  have b4 := hB.b4
  obtain ⟨⟨w6, o6, i6, n24⟩, g0, g1, g2, g3⟩ := say_b hB (s := s) (by omega)
  obtain ⟨wf1, wf2⟩ := wf s hs
  have bk := kk (6 * sWho G s + sWhs G s) (by omega)
  obtain ⟨t1, t2, t3⟩ := tb_k (a := K (6 * sWho G s + sWhs G s)) (i := (sWhi G s : Int)) bk.1 bk.2 (by omega) (by omega)
  refine V_aload (v := ad 28) mi_91_0 (by simp [stL, lv_args, Value.category]) ?_
  refine V_aload (v := ad 4) mi_91_1 (by simp [stL, lv_args, Value.category]) ?_
  refine V_gR mi_91_2 g4r13 (by omega) hG ?_
  refine V_iload (v := Int32.ofInt ((s : Int))) mi_91_5 (by simp [stL, lv_args, Value.category]) ?_
  refine V_stat (As := [.ref (ad 12), .int (Int32.ofInt ((s : Int)))]) (st := [.ref (ad 28)]) mi_91_6 (by omega) (atk_ct a12 hG (by omega) (by omega) (say_rd hX (k := s) (r := 0) (by omega) (by omega))) (by omega) (show 2 = mN 147 by decide +kernel) (by simp [Value.category]) ⟨Nat.le_refl _, Nat.le_refl _⟩ ?_
  rintro r w1 ⟨e1, rfl⟩
  rw [e1, show G (246 + 4 * s + 0) = G (246 + 4 * s) from rfl, g0]
  refine V_aload (v := ad 4) mi_91_9 (by simp [stL, lv_args, Value.category]) ?_
  refine V_gR mi_91_10 g4r14 (by omega) hG ?_
  refine V_iload (v := Int32.ofInt ((s : Int))) mi_91_13 (by simp [stL, lv_args, Value.category]) ?_
  refine V_stat (As := [.ref (ad 13), .int (Int32.ofInt ((s : Int)))]) (st := [.int (Int32.ofInt ((sWho G s : Int))), .ref (ad 28)]) mi_91_14 (by omega) (atk_ct a13 hG (by omega) (by omega) (say_rd hX (k := s) (r := 1) (by omega) (by omega))) (by omega) (show 2 = mN 147 by decide +kernel) (by simp [Value.category]) ⟨Nat.le_refl _, Nat.le_refl _⟩ ?_
  rintro r w1 ⟨e1, rfl⟩
  rw [e1, g1]
  refine V_cO (As := [.int (Int32.ofInt ((sWho G s : Int))), .int (Int32.ofInt ((sWhs G s : Int)))]) (st := []) mi_91_17 (by omega) (by decide +kernel) (by decide +kernel) (by omega) g28o hG (bts_ct (f := sWho G s) (o := sWhs G s) hG w6 o6 (hK _ (by omega) (by omega))) (by omega) (show 2 = mN 88 by decide +kernel) (by simp [Value.category]) ?_
  rintro r w1 ⟨e1, rfl⟩
  rw [e1]
  refine V_istore mi_91_20 ?_
  refine V_iload (v := Int32.ofInt (K (6 * sWho G s + sWhs G s))) mi_91_21 (by simp [stL, lv_args, Value.category]) ?_
  refine V_aload (v := ad 4) mi_91_22 (by simp [stL, lv_args, Value.category]) ?_
  refine V_gR mi_91_23 g4r15 (by omega) hG ?_
  refine V_iload (v := Int32.ofInt ((s : Int))) mi_91_26 (by simp [stL, lv_args, Value.category]) ?_
  refine V_stat (As := [.ref (ad 14), .int (Int32.ofInt ((s : Int)))]) (st := [.int (Int32.ofInt (K (6 * sWho G s + sWhs G s)))]) mi_91_27 (by omega) (atk_ct a14 hG (by omega) (by omega) (say_rd hX (k := s) (r := 2) (by omega) (by omega))) (by omega) (show 2 = mN 147 by decide +kernel) (by simp [Value.category]) ⟨Nat.le_refl _, Nat.le_refl _⟩ ?_
  rintro r w1 ⟨e1, rfl⟩
  rw [e1, g2]
  refine V_ibin mi_91_30 (by omega) ?_
  refine V_ipush mi_91_31 ?_
  refine V_ibin mi_91_32 (by omega) ?_
  rw [t1]
  refine V_beq mi_91_33  (fun q => ?_) (fun q => ?_)
  · refine V_ipush mi_91_40 ?_
    exact V_retI mi_91_41 (fun _ => by decide) ⟨rfl, by rw [show canB G K s = false from q]; rfl⟩
  · refine V_ipush mi_91_36 ?_
    refine V_goto mi_91_37 ?_
    exact V_retI mi_91_41 (fun _ => by decide) ⟨rfl, by rw [show canB G K s = true from q]; rfl⟩
theorem tb_bit : (List.range 64).all (fun a => (List.range 6).all (fun i => (List.range 6).all (fun j => tb (bitO (a : Nat) (i : Nat)) (j : Nat) == (decide (j = i) || tb (a : Nat) (j : Nat))))) = true := by decide +kernel
theorem tb_bo {a : Int} {i j : Nat} (a0 : 0 ≤ a) (a1 : a ≤ 63) (hi : i < 6) (hj : j < 6) : tb (bitO a (i : Int)) (j : Int) = (decide (j = i) || tb a (j : Int)) := by
  have h := List.all_eq_true.mp (List.all_eq_true.mp (List.all_eq_true.mp tb_bit a.toNat (List.mem_range.mpr (by omega))) i (List.mem_range.mpr hi)) j (List.mem_range.mpr hj)
  rw [Int.toNat_of_nonneg a0] at h
  exact eq_of_beq h
theorem tb_z : (List.range 6).all (fun j => tb 0 (j : Nat) == false) = true := by decide +kernel
theorem tb_orI {P : Nat → Bool} {j : Nat} (hj : j < 6) : ∀ n : Nat, n ≤ 6 → tb (orI P n) (j : Int) = (decide (j < n) && P j)
  | 0, _ => eq_of_beq (List.all_eq_true.mp tb_z j (List.mem_range.mpr hj))
  | n + 1, hn => by
    have b := orI_bd (P := P) (f := n) (by omega)
    have ih := tb_orI (P := P) hj n (by omega)
    cases e : P n
    · rw [orI_s0 e, ih]
      by_cases q : j = n
      · rw [q, e, Bool.and_false, Bool.and_false]
      · rw [show decide (j < n + 1) = decide (j < n) from decide_eq_decide.mpr (by omega)]
    · rw [orI_s1 e, tb_bo b.1 b.2 (by omega) hj, ih]
      by_cases q : j = n
      · rw [q, e, decide_eq_true rfl, Bool.true_or, show decide (n < n + 1) = true from decide_eq_true (by omega)]
        rfl
      · rw [decide_eq_false q, Bool.false_or, show decide (j < n + 1) = decide (j < n) from decide_eq_decide.mpr (by omega)]
theorem spr_28 {G K : Nat → Int} {w0 : va_W} {s : Nat} {post : Option Value → va_W → Prop} (hB : HB G) (hs : s < 12) (hX0 : HX 4 G w0) (hk : kOK K) : ∀ (m f : Nat) (w : va_W), ((f + m : Nat) : Int) = G 3 → GOK ad tys GG w → XKN G (spQ G s f K) w → (∀ c j, c ≠ 31 → rd w c j = rd w0 c j) → (∀ w' : va_W, GOK ad tys GG w' → XKN G (spQ G s (G 3).toNat K) w' → (∀ c j, c ≠ 31 → rd w' c j = rd w0 c j) → post (some (.int (Int32.ofInt (orI (lrnP G K s) (G 3).toNat)))) w') → V l D tys A 92 2 0 0 post 0 0 28 [(0, .ref (ad 28)), (1, .ref (ad 4)), (2, .int (Int32.ofInt ((s : Int)))), (3, .int (Int32.ofInt (orI (preP G s) (G 3).toNat))), (4, .int (Int32.ofInt ((sWhs G s : Int)))), (5, .int (ibF 8 (Int32.ofInt 1) (Int32.ofInt (sWhi G s : Int)))), (6, .int (Int32.ofInt (orI (lrnP G K s) f))), (7, .int (Int32.ofInt ((f : Int))))] [] w
  | 0, f, w, hm, hG, hK, ho, kk => by
    have hX : HX 4 G w := HX_keep hX0 (fun c' i h1 h2 => ho _ _ (by omega))
    have b3 := hB.b3
    have b4 := hB.b4
    obtain ⟨⟨w6, o6, i6, n24⟩, -⟩ := say_b hB (s := s) (by omega)
    refine V_iload (v := Int32.ofInt ((f : Int))) mi_92_28 (by simp [stL, lv_args, Value.category]) ?_
    refine V_aload (v := ad 4) mi_92_30 (by simp [stL, lv_args, Value.category]) ?_
    refine V_gO mi_92_31 g4o hG (show rd _ 4 4 = some (.int (Int32.ofInt (G 3))) from hx0 hX (i := 4) (by omega)) ?_
    refine V_cge mi_92_34 ⟨by omega, by omega⟩ ⟨by omega, by omega⟩ (fun q => ?_) (fun q => ?_)
    · have e : f = (G 3).toNat := by omega
      rw [e] at hK
      rw [e]
      refine V_iload (v := Int32.ofInt (orI (lrnP G K s) (G 3).toNat)) mi_92_101 (by simp [stL, lv_args, Value.category]) ?_
      exact V_retI mi_92_103 (fun h => absurd h (by decide +kernel)) (kk w hG hK ho)
    · exact absurd q (by omega)
  | m + 1, f, w, hm, hG, hK, ho, kk => by
    have hX : HX 4 G w := HX_keep hX0 (fun c' i h1 h2 => ho _ _ (by omega))
    have b3 := hB.b3
    have b4 := hB.b4
    obtain ⟨⟨w6, o6, i6, n24⟩, -⟩ := say_b hB (s := s) (by omega)
    refine V_iload (v := Int32.ofInt ((f : Int))) mi_92_28 (by simp [stL, lv_args, Value.category]) ?_
    refine V_aload (v := ad 4) mi_92_30 (by simp [stL, lv_args, Value.category]) ?_
    refine V_gO mi_92_31 g4o hG (show rd _ 4 4 = some (.int (Int32.ofInt (G 3))) from hx0 hX (i := 4) (by omega)) ?_
    refine V_cge mi_92_34 ⟨by omega, by omega⟩ ⟨by omega, by omega⟩ (fun q => ?_) (fun q => ?_)
    · exact absurd q (by omega)
    · have ob := orI_bd (P := preP G s) (f := (G 3).toNat) (by omega)
      have p1 := (tb_k (a := orI (preP G s) (G 3).toNat) (i := (f : Int)) ob.1 ob.2 (by omega) (by omega)).1
      rw [tb_orI (by omega) _ (by omega), decide_eq_true (show f < (G 3).toNat by omega), Bool.true_and] at p1
      have bk := hk (6 * f + sWhs G s) (by omega)
      obtain ⟨t1, t2, t3⟩ := tb_k (a := K (6 * f + sWhs G s)) (i := (sWhi G s : Int)) bk.1 bk.2 (by omega) (by omega)
      have hKn : rd w 31 (6 * f + sWhs G s) = some (.int (Int32.ofInt (K (6 * f + sWhs G s)))) := by rw [hK _ (by omega) (by omega), spK_new o6]
      refine V_iload (v := Int32.ofInt (orI (preP G s) (G 3).toNat)) mi_92_37 (by simp [stL, lv_args, Value.category]) ?_
      refine V_iload (v := Int32.ofInt ((f : Int))) mi_92_38 (by simp [stL, lv_args, Value.category]) ?_
      refine V_ibin mi_92_40 (by omega) ?_
      refine V_ipush mi_92_41 ?_
      refine V_ibin mi_92_42 (by omega) ?_
      rw [p1]
      refine V_beq mi_92_43  (fun q2 => ?_) (fun q2 => ?_)
      · have lf : lrnP G K s f = false := by unfold lrnP; rw [q2, Bool.false_and]
        rw [← orI_s0 (P := lrnP G K s) lf]
        refine V_iinc (v := Int32.ofInt ((f : Int))) mi_92_95 (by simp [stL, lv_args, Value.category]) ?_
        rw [ia2]
        refine V_goto mi_92_98 ?_
        refine V_sub (lv' := [(0, .ref (ad 28)), (1, .ref (ad 4)), (2, .int (Int32.ofInt ((s : Int)))), (3, .int (Int32.ofInt (orI (preP G s) (G 3).toNat))), (4, .int (Int32.ofInt ((sWhs G s : Int)))), (5, .int (ibF 8 (Int32.ofInt 1) (Int32.ofInt (sWhi G s : Int)))), (6, .int (Int32.ofInt (orI (lrnP G K s) (f + 1)))), (7, .int (Int32.ofInt (((f + 1 : Nat) : Int))))]) (fun q hq => ?_) ?_
        · simp only [List.mem_cons, List.not_mem_nil, or_false] at hq
          rcases hq with rfl | rfl | rfl | rfl | rfl | rfl | rfl | rfl <;> simp [stL, lv_args, Value.category]
        exact spr_28 hB hs hX0 hk m (f + 1) w (by omega) hG (by rw [spK_skip q2]; exact hK) ho kk
      · refine V_aload (v := ad 28) mi_92_46 (by simp [stL, lv_args, Value.category]) ?_
        refine V_iload (v := Int32.ofInt ((f : Int))) mi_92_47 (by simp [stL, lv_args, Value.category]) ?_
        refine V_iload (v := Int32.ofInt ((sWhs G s : Int))) mi_92_49 (by simp [stL, lv_args, Value.category]) ?_
        refine V_cO (As := [.int (Int32.ofInt ((f : Int))), .int (Int32.ofInt ((sWhs G s : Int)))]) (st := []) mi_92_51 (by omega) (by decide +kernel) (by decide +kernel) (by omega) g28o hG (bts_ct (f := f) (o := sWhs G s) hG (by omega) o6 hKn) (by omega) (show 2 = mN 88 by decide +kernel) (by simp [Value.category]) ?_
        rintro r w1 ⟨e1, rfl⟩
        rw [e1]
        refine V_iload (v := ibF 8 (Int32.ofInt 1) (Int32.ofInt (sWhi G s : Int))) mi_92_54 (by simp [stL, lv_args, Value.category]) ?_
        refine V_ibin mi_92_56 (by omega) ?_
        refine V_rne mi_92_57 (fun q3 => ?_) (fun q3 => ?_)
        · have tt : tb (K (6 * f + sWhs G s)) (sWhi G s : Int) = true := by
            cases h : tb (K (6 * f + sWhs G s)) (sWhi G s : Int)
            · exact absurd (t3.mpr h) q3
            · rfl
          have lf : lrnP G K s f = false := by unfold lrnP; rw [q2, tt]; rfl
          rw [← orI_s0 (P := lrnP G K s) lf]
          refine V_iinc (v := Int32.ofInt ((f : Int))) mi_92_95 (by simp [stL, lv_args, Value.category]) ?_
          rw [ia2]
          refine V_goto mi_92_98 ?_
          refine V_sub (lv' := [(0, .ref (ad 28)), (1, .ref (ad 4)), (2, .int (Int32.ofInt ((s : Int)))), (3, .int (Int32.ofInt (orI (preP G s) (G 3).toNat))), (4, .int (Int32.ofInt ((sWhs G s : Int)))), (5, .int (ibF 8 (Int32.ofInt 1) (Int32.ofInt (sWhi G s : Int)))), (6, .int (Int32.ofInt (orI (lrnP G K s) (f + 1)))), (7, .int (Int32.ofInt (((f + 1 : Nat) : Int))))]) (fun q hq => ?_) ?_
          · simp only [List.mem_cons, List.not_mem_nil, or_false] at hq
            rcases hq with rfl | rfl | rfl | rfl | rfl | rfl | rfl | rfl <;> simp [stL, lv_args, Value.category]
          refine spr_28 hB hs hX0 hk m (f + 1) w (by omega) hG (fun j hj hp => ?_) ho kk
          rw [spK_step q2 o6]
          show _ = some (Value.int (Int32.ofInt (if j = 6 * f + sWhs G s then _ else _)))
          by_cases e : j = 6 * f + sWhs G s
          · rw [if_pos e, e, t2 tt]
            exact hKn
          · rw [if_neg e]
            exact hK j hj hp
        · have lf : lrnP G K s f = true := by unfold lrnP; rw [q2, t3.mp q3]; rfl
          refine V_aload (v := ad 28) mi_92_60 (by simp [stL, lv_args, Value.category]) ?_
          refine V_gR mi_92_61 g28r2 (by omega) hG ?_
          refine V_iload (v := Int32.ofInt ((f : Int))) mi_92_64 (by simp [stL, lv_args, Value.category]) ?_
          refine V_ipush mi_92_66 ?_
          refine V_ibin mi_92_68 (by omega) ?_
          rw [ib2]
          refine V_iload (v := Int32.ofInt ((sWhs G s : Int))) mi_92_69 (by simp [stL, lv_args, Value.category]) ?_
          refine V_ibin mi_92_71 (by omega) ?_
          rw [ib0]
          rw [show (f : Int) * (6) + (sWhs G s : Int) = ((6 * f + sWhs G s : Nat) : Int) by omega]
          refine V_aload (v := ad 28) mi_92_72 (by simp [stL, lv_args, Value.category]) ?_
          refine V_iload (v := Int32.ofInt ((f : Int))) mi_92_73 (by simp [stL, lv_args, Value.category]) ?_
          refine V_iload (v := Int32.ofInt ((sWhs G s : Int))) mi_92_75 (by simp [stL, lv_args, Value.category]) ?_
          refine V_cO (As := [.int (Int32.ofInt ((f : Int))), .int (Int32.ofInt ((sWhs G s : Int)))]) (st := [.int (Int32.ofInt (((6 * f + sWhs G s : Nat) : Int))), .ref (ad 31)]) mi_92_77 (by omega) (by decide +kernel) (by decide +kernel) (by omega) g28o hG (bts_ct (f := f) (o := sWhs G s) hG (by omega) o6 hKn) (by omega) (show 2 = mN 88 by decide +kernel) (by simp [Value.category]) ?_
          rintro r w2 ⟨e2, rfl⟩
          rw [e2]
          refine V_iload (v := ibF 8 (Int32.ofInt 1) (Int32.ofInt (sWhi G s : Int))) mi_92_80 (by simp [stL, lv_args, Value.category]) ?_
          refine V_ibin mi_92_82 (by omega) ?_
          rw [bitO_i]
          refine V_stat (As := [.ref (ad 31), .int (Int32.ofInt (((6 * f + sWhs G s : Nat) : Int))), .int (Int32.ofInt (bitO (K (6 * f + sWhs G s)) (sWhi G s : Int)))]) (st := []) mi_92_83 (by omega) (putk_ct (j := 6 * f + sWhs G s) a31 hG (by omega) (by omega)) (by omega) (show 3 = mN 148 by decide +kernel) (by simp [Value.category]) ⟨Nat.le_refl _, Nat.le_refl _⟩ ?_
          rintro r w3 ⟨rfl, G3, U3⟩
          refine V_iload (v := Int32.ofInt (orI (lrnP G K s) f)) mi_92_86 (by simp [stL, lv_args, Value.category]) ?_
          refine V_ipush mi_92_88 ?_
          refine V_iload (v := Int32.ofInt ((f : Int))) mi_92_89 (by simp [stL, lv_args, Value.category]) ?_
          refine V_ibin mi_92_91 (by omega) ?_
          refine V_ibin mi_92_92 (by omega) ?_
          rw [bitO_i, ← orI_s1 (P := lrnP G K s) lf]
          refine V_istore mi_92_93 ?_
          refine V_iinc (v := Int32.ofInt ((f : Int))) mi_92_95 (by simp [stL, lv_args, Value.category]) ?_
          rw [ia2]
          refine V_goto mi_92_98 ?_
          refine V_sub (lv' := [(0, .ref (ad 28)), (1, .ref (ad 4)), (2, .int (Int32.ofInt ((s : Int)))), (3, .int (Int32.ofInt (orI (preP G s) (G 3).toNat))), (4, .int (Int32.ofInt ((sWhs G s : Int)))), (5, .int (ibF 8 (Int32.ofInt 1) (Int32.ofInt (sWhi G s : Int)))), (6, .int (Int32.ofInt (orI (lrnP G K s) (f + 1)))), (7, .int (Int32.ofInt (((f + 1 : Nat) : Int))))]) (fun q hq => ?_) ?_
          · simp only [List.mem_cons, List.not_mem_nil, or_false] at hq
            rcases hq with rfl | rfl | rfl | rfl | rfl | rfl | rfl | rfl <;> simp [stL, lv_args, Value.category]
          · refine spr_28 hB hs hX0 hk m (f + 1) w3 (by omega) G3 (fun j hj hp => ?_) (fun c j hc => (upd_ne U3 (by omega)).trans (ho c j hc)) kk
            rw [spK_step q2 o6]
            show _ = some (Value.int (Int32.ofInt (if j = 6 * f + sWhs G s then _ else _)))
            by_cases e : j = 6 * f + sWhs G s
            · rw [if_pos e, e]
              exact upd_eq U3
            · rw [if_neg e]
              exact (upd_ne U3 (by omega)).trans (hK j hj hp)
theorem sprd_ct {G : Nat → Int} (hG : GOK ad tys GG ws) (hX : HX 4 G ws) (hB : HB G) {K : Nat → Int} (hk : kOK K) (hK : XKN G K ws) {s : Nat} (hs : s < 12) : CT l D tys A 92 2 0 0 [.ref (ad 28), .ref (ad 4), .int (Int32.ofInt ((s : Int))), .int (Int32.ofInt (orI (preP G s) (G 3).toNat))] ws (fun r w => r = some (.int (Int32.ofInt (orI (lrnP G K s) (G 3).toNat))) ∧ GOK ad tys GG w ∧ XKN G (spQ G s (G 3).toNat K) w ∧ ∀ c j, c ≠ 31 → rd w c j = rd ws c j) := by
  refine CT_of_V (by omega) (show (4 : Nat) ≤ mML 92 by decide +kernel) ?_
  have b4 := hB.b4
  have b3 := hB.b3
  obtain ⟨⟨w6, o6, i6, n24⟩, g0, g1, g2, g3⟩ := say_b hB (s := s) (by omega)
  refine V_aload (v := ad 4) mi_92_0 (by simp [stL, lv_args, Value.category]) ?_
  refine V_gR mi_92_1 g4r14 (by omega) hG ?_
  refine V_iload (v := Int32.ofInt ((s : Int))) mi_92_4 (by simp [stL, lv_args, Value.category]) ?_
  refine V_stat (As := [.ref (ad 13), .int (Int32.ofInt ((s : Int)))]) (st := []) mi_92_5 (by omega) (atk_ct a13 hG (by omega) (by omega) (say_rd hX (k := s) (r := 1) (by omega) (by omega))) (by omega) (show 2 = mN 147 by decide +kernel) (by simp [Value.category]) ⟨Nat.le_refl _, Nat.le_refl _⟩ ?_
  rintro r w1 ⟨e1, rfl⟩
  rw [e1, g1]
  refine V_istore mi_92_8 ?_
  refine V_ipush mi_92_10 ?_
  refine V_aload (v := ad 4) mi_92_11 (by simp [stL, lv_args, Value.category]) ?_
  refine V_gR mi_92_12 g4r15 (by omega) hG ?_
  refine V_iload (v := Int32.ofInt ((s : Int))) mi_92_15 (by simp [stL, lv_args, Value.category]) ?_
  refine V_stat (As := [.ref (ad 14), .int (Int32.ofInt ((s : Int)))]) (st := [.int (Int32.ofInt (1))]) mi_92_16 (by omega) (atk_ct a14 hG (by omega) (by omega) (say_rd hX (k := s) (r := 2) (by omega) (by omega))) (by omega) (show 2 = mN 147 by decide +kernel) (by simp [Value.category]) ⟨Nat.le_refl _, Nat.le_refl _⟩ ?_
  rintro r w1 ⟨e1, rfl⟩
  rw [e1, g2]
  refine V_ibin mi_92_19 (by omega) ?_
  refine V_istore mi_92_20 ?_
  refine V_ipush mi_92_22 ?_
  refine V_istore mi_92_23 ?_
  refine V_ipush mi_92_25 ?_
  refine V_istore mi_92_26 ?_
  refine V_sub (lv' := [(0, .ref (ad 28)), (1, .ref (ad 4)), (2, .int (Int32.ofInt ((s : Int)))), (3, .int (Int32.ofInt (orI (preP G s) (G 3).toNat))), (4, .int (Int32.ofInt ((sWhs G s : Int)))), (5, .int (ibF 8 (Int32.ofInt 1) (Int32.ofInt (sWhi G s : Int)))), (6, .int (Int32.ofInt (0))), (7, .int (Int32.ofInt (((0 : Nat) : Int))))]) (fun q hq => ?_) ?_
  · simp only [List.mem_cons, List.not_mem_nil, or_false] at hq
    rcases hq with rfl | rfl | rfl | rfl | rfl | rfl | rfl | rfl <;> simp [stL, lv_args, Value.category]
  exact spr_28 (w0 := ws) hB hs hX hk (G 3).toNat 0 ws (by omega) hG (by rw [spK_0]; exact hK) (fun _ _ _ => rfl) (fun w2 G2 k2 o2 => ⟨rfl, G2, k2, o2⟩)
end XSG
end
section
section XSH
/-- the class has told so far -/
noncomputable abbrev TX (ad : Nat → Nat) (tys : List (ClassId × FieldType)) (G : Nat → Int) (T : TT) (w0 w : va_W) : Prop :=
  (GOK ad tys GG w) ∧
  (XKN G T.K w) ∧
  (rd w 32 3 = some (.int T.sd)) ∧
  (∀ i, i < 12 → rd w 34 i = some (.int (Int32.ofInt (T.hb i)))) ∧
  (∀ i, i < 12 → rd w 35 i = some (.int (Int32.ofInt (T.lb i)))) ∧
  (∀ c j, ¬ (c = 31 ∨ c = 34 ∨ c = 35) → ¬ (c = 32 ∧ j = 3) → rd w c j = rd w0 c j) ∧
  (kOK T.K)
theorem TX.g {ad : Nat → Nat} {tys : List (ClassId × FieldType)} {G : Nat → Int} {T : TT} {w0 w : va_W} (h : TX ad tys G T w0 w) : GOK ad tys GG w := h.1
theorem TX.k {ad : Nat → Nat} {tys : List (ClassId × FieldType)} {G : Nat → Int} {T : TT} {w0 w : va_W} (h : TX ad tys G T w0 w) : XKN G T.K w := h.2.1
theorem TX.s {ad : Nat → Nat} {tys : List (ClassId × FieldType)} {G : Nat → Int} {T : TT} {w0 w : va_W} (h : TX ad tys G T w0 w) : rd w 32 3 = some (.int T.sd) := h.2.2.1
theorem TX.h {ad : Nat → Nat} {tys : List (ClassId × FieldType)} {G : Nat → Int} {T : TT} {w0 w : va_W} (h : TX ad tys G T w0 w) : ∀ i, i < 12 → rd w 34 i = some (.int (Int32.ofInt (T.hb i))) := h.2.2.2.1
theorem TX.lr {ad : Nat → Nat} {tys : List (ClassId × FieldType)} {G : Nat → Int} {T : TT} {w0 w : va_W} (h : TX ad tys G T w0 w) : ∀ i, i < 12 → rd w 35 i = some (.int (Int32.ofInt (T.lb i))) := h.2.2.2.2.1
theorem TX.o {ad : Nat → Nat} {tys : List (ClassId × FieldType)} {G : Nat → Int} {T : TT} {w0 w : va_W} (h : TX ad tys G T w0 w) : ∀ c j, ¬ (c = 31 ∨ c = 34 ∨ c = 35) → ¬ (c = 32 ∧ j = 3) → rd w c j = rd w0 c j := h.2.2.2.2.2.1
theorem TX.b {ad : Nat → Nat} {tys : List (ClassId × FieldType)} {G : Nat → Int} {T : TT} {w0 w : va_W} (h : TX ad tys G T w0 w) : kOK T.K := h.2.2.2.2.2.2
variable {l : Launch} {D : va_G} {tys : List (ClassId × FieldType)} {A : Nat → Prop} {ad : Nat → Nat} {ws : va_W}
theorem g0r4 : gOr 0 10 13 4 28 := ⟨_, rfl, by decide +kernel⟩
theorem g0r5 : gOr 0 10 13 5 32 := ⟨_, rfl, by decide +kernel⟩
theorem tlo_ct {G : Nat → Int} {T : TT} {w0 : va_W} {s : Nat} (hB : HB G) (wf : WF G) (hX0 : HX 4 G w0) (hs : (s : Int) < G 4) (hP0 : rd w0 30 s = some (.int (Int32.ofInt (orI (preP G s) (G 3).toNat)))) (hT : TX ad tys G T w0 ws) : CT l D tys A 174 3 0 0 [.ref (ad 32), .ref (ad 4), .ref (ad 28), .int (Int32.ofInt ((s : Int)))] ws (fun r w => r = none ∧ TX ad tys G (oneT G s T) w0 w) := by
  refine CT_of_V (by omega) (show (4 : Nat) ≤ mML 174 by decide +kernel) ?_
  have b4 := hB.b4
  have b3 := hB.b3
  obtain ⟨⟨w6, o6, i6, n24⟩, g0, g1, g2, g3⟩ := say_b hB (s := s) (by omega)
  have hX : HX 4 G ws := HX_keep hX0 (fun c' i h1 h2 => hT.o _ _ (by omega) (by omega))
  have hP : rd ws 30 s = some (.int (Int32.ofInt (orI (preP G s) (G 3).toNat))) := (hT.o _ _ (by omega) (by omega)).trans hP0
  refine V_aload (v := ad 28) mi_174_0 (by simp [stL, lv_args, Value.category]) ?_
  refine V_aload (v := ad 4) mi_174_1 (by simp [stL, lv_args, Value.category]) ?_
  refine V_iload (v := Int32.ofInt ((s : Int))) mi_174_2 (by simp [stL, lv_args, Value.category]) ?_
  refine V_cO (As := [.ref (ad 4), .int (Int32.ofInt ((s : Int)))]) (st := []) mi_174_3 (by omega) (by decide +kernel) (by decide +kernel) (by omega) g28o hT.g (csy_ct hT.g hX hB wf hT.b hT.k hs) (by omega) (show 2 = mN 91 by decide +kernel) (by simp [Value.category]) ?_
  rintro r w1 ⟨rfl, rfl⟩
  refine V_beq mi_174_6  (fun q => ?_) (fun q => ?_)
  · refine V_retV mi_174_53 ⟨rfl, ?_⟩
    unfold oneT
    rw [if_neg (by rw [q]; exact Bool.false_ne_true)]
    exact hT
  · refine V_aload (v := ad 32) mi_174_9 (by simp [stL, lv_args, Value.category]) ?_
    refine V_dup mi_174_10 (by simp [Value.category]) ?_
    refine V_gO mi_174_11 g32o hT.g (hT.s) ?_
    refine V_ipush mi_174_14 ?_
    refine V_iload (v := Int32.ofInt ((s : Int))) mi_174_15 (by simp [stL, lv_args, Value.category]) ?_
    refine V_ibin mi_174_16 (by omega) ?_
    refine V_ibin mi_174_17 (by omega) ?_
    refine V_pO mi_174_18 g32f3 (by omega) (by decide +kernel) (by decide +kernel) hT.g (i32b _).1 (i32b _).2 (fun w2 G2 U2 => ?_)
    have hX2 : HX 4 G w2 := HX_keep hX (fun c' i h1 h2 => upd_ne U2 (by omega))
    refine V_aload (v := ad 32) mi_174_21 (by simp [stL, lv_args, Value.category]) ?_
    refine V_gR mi_174_22 g32r1 (by omega) G2 ?_
    refine V_iload (v := Int32.ofInt ((s : Int))) mi_174_25 (by simp [stL, lv_args, Value.category]) ?_
    refine V_aload (v := ad 28) mi_174_26 (by simp [stL, lv_args, Value.category]) ?_
    refine V_iload (v := Int32.ofInt ((s : Int))) mi_174_27 (by simp [stL, lv_args, Value.category]) ?_
    refine V_cO (As := [.int (Int32.ofInt ((s : Int)))]) (st := [.int (Int32.ofInt ((s : Int))), .ref (ad 34)]) mi_174_28 (by omega) (by decide +kernel) (by decide +kernel) (by omega) g28o G2 (prs_ct (s := s) G2 (by omega) ((upd_ne U2 (by omega)).trans hP)) (by omega) (show 1 = mN 89 by decide +kernel) (by simp [Value.category]) ?_
    rintro r w3 ⟨rfl, rfl⟩
    refine V_stat (As := [.ref (ad 34), .int (Int32.ofInt ((s : Int))), .int (Int32.ofInt (orI (preP G s) (G 3).toNat))]) (st := []) mi_174_31 (by omega) (putk_ct (j := s) a34 G2 (by omega) (by omega)) (by omega) (show 3 = mN 148 by decide +kernel) (by simp [Value.category]) ⟨Nat.le_refl _, Nat.le_refl _⟩ ?_
    rintro r w4 ⟨rfl, G4, U4⟩
    have hX4 : HX 4 G w4 := HX_keep hX2 (fun c' i h1 h2 => upd_ne U4 (by omega))
    have k4 : XKN G T.K w4 := fun j hj hp => (upd_ne U4 (by omega)).trans ((upd_ne U2 (by omega)).trans (hT.k j hj hp))
    refine V_aload (v := ad 32) mi_174_34 (by simp [stL, lv_args, Value.category]) ?_
    refine V_gR mi_174_35 g32r2 (by omega) G4 ?_
    refine V_iload (v := Int32.ofInt ((s : Int))) mi_174_38 (by simp [stL, lv_args, Value.category]) ?_
    refine V_aload (v := ad 28) mi_174_39 (by simp [stL, lv_args, Value.category]) ?_
    refine V_aload (v := ad 4) mi_174_40 (by simp [stL, lv_args, Value.category]) ?_
    refine V_iload (v := Int32.ofInt ((s : Int))) mi_174_41 (by simp [stL, lv_args, Value.category]) ?_
    refine V_aload (v := ad 28) mi_174_42 (by simp [stL, lv_args, Value.category]) ?_
    refine V_iload (v := Int32.ofInt ((s : Int))) mi_174_43 (by simp [stL, lv_args, Value.category]) ?_
    refine V_cO (As := [.int (Int32.ofInt ((s : Int)))]) (st := [.int (Int32.ofInt ((s : Int))), .ref (ad 4), .ref (ad 28), .int (Int32.ofInt ((s : Int))), .ref (ad 35)]) mi_174_44 (by omega) (by decide +kernel) (by decide +kernel) (by omega) g28o G4 (prs_ct (s := s) G4 (by omega) ((upd_ne U4 (by omega)).trans ((upd_ne U2 (by omega)).trans hP))) (by omega) (show 1 = mN 89 by decide +kernel) (by simp [Value.category]) ?_
    rintro r w5 ⟨rfl, rfl⟩
    refine V_cO (As := [.ref (ad 4), .int (Int32.ofInt ((s : Int))), .int (Int32.ofInt (orI (preP G s) (G 3).toNat))]) (st := [.int (Int32.ofInt ((s : Int))), .ref (ad 35)]) mi_174_47 (by omega) (by decide +kernel) (by decide +kernel) (by omega) g28o G4 (sprd_ct G4 hX4 hB hT.b k4 (s := s) (by omega)) (by omega) (show 3 = mN 92 by decide +kernel) (by simp [Value.category]) ?_
    rintro r w6 ⟨rfl, G6, k6, o6⟩
    refine V_stat (As := [.ref (ad 35), .int (Int32.ofInt ((s : Int))), .int (Int32.ofInt (orI (lrnP G T.K s) (G 3).toNat))]) (st := []) mi_174_50 (by omega) (putk_ct (j := s) a35 G6 (by omega) (by omega)) (by omega) (show 3 = mN 148 by decide +kernel) (by simp [Value.category]) ⟨Nat.le_refl _, Nat.le_refl _⟩ ?_
    rintro r w7 ⟨rfl, G7, U7⟩
    refine V_retV mi_174_53 ⟨rfl, ?_⟩
    unfold oneT
    rw [if_pos q]
    refine ⟨G7, fun j hj hp => (upd_ne U7 (by omega)).trans (k6 j hj hp), (upd_ne U7 (by omega)).trans ((o6 _ _ (by omega)).trans ((upd_ne U4 (by omega)).trans (upd_eq U2))), fun i hi => ?_, fun i hi => ?_, fun c j h1 h2 => (upd_ne U7 (by omega)).trans ((o6 _ _ (by omega)).trans ((upd_ne U4 (by omega)).trans ((upd_ne U2 (by omega)).trans (hT.o c j h1 h2)))), spK_ok hT.b i6⟩
    · show _ = some (Value.int (Int32.ofInt (if i = s then _ else T.hb i)))
      refine (upd_ne U7 (by omega)).trans ((o6 _ _ (by omega)).trans ?_)
      by_cases e : i = s
      · rw [if_pos e, e]
        exact upd_eq U4
      · rw [if_neg e]
        exact (upd_ne U4 (by omega)).trans ((upd_ne U2 (by omega)).trans (hT.h i hi))
    · show _ = some (Value.int (Int32.ofInt (if i = s then _ else T.lb i)))
      by_cases e : i = s
      · rw [if_pos e, e]
        exact upd_eq U7
      · rw [if_neg e]
        exact (upd_ne U7 (by omega)).trans ((o6 _ _ (by omega)).trans ((upd_ne U4 (by omega)).trans ((upd_ne U2 (by omega)).trans (hT.lr i hi))))
theorem ke_11 {mm f : Nat} {w0 : va_W} {post : Option Value → va_W → Prop} (hm24 : mm ≤ 24) (hf : f < 6) : ∀ (m o : Nat) (w : va_W), o + m = 6 → GOK ad tys GG w → (∀ j, j < 6 * f + o → rd w 33 (36 * mm + j) = rd w0 31 j) → (∀ c j, ¬ (c = 33 ∧ 36 * mm ≤ j ∧ j < 36 * mm + 36) → rd w c j = rd w0 c j) → (∀ w' : va_W, GOK ad tys GG w' → (∀ j, j < 6 * (f + 1) → rd w' 33 (36 * mm + j) = rd w0 31 j) → (∀ c j, ¬ (c = 33 ∧ 36 * mm ≤ j ∧ j < 36 * mm + 36) → rd w' c j = rd w0 c j) → V l D tys A 175 2 0 0 post 0 0 2 [(0, .ref (ad 32)), (1, .ref (ad 28)), (2, .int (Int32.ofInt ((mm : Int)))), (3, .int (Int32.ofInt (((f + 1 : Nat) : Int))))] [] w') → V l D tys A 175 2 0 0 post 0 0 11 [(0, .ref (ad 32)), (1, .ref (ad 28)), (2, .int (Int32.ofInt ((mm : Int)))), (3, .int (Int32.ofInt ((f : Int)))), (4, .int (Int32.ofInt ((o : Int))))] [] w
  | 0, o, w, hm, hG, hK, ho, kk => by
    refine V_iload (v := Int32.ofInt ((o : Int))) mi_175_11 (by simp [stL, lv_args, Value.category]) ?_
    refine V_ipush mi_175_13 ?_
    refine V_cge mi_175_15 ⟨by omega, by omega⟩ ⟨by omega, by omega⟩ (fun q => ?_) (fun q => ?_)
    · refine V_iinc (v := Int32.ofInt ((f : Int))) mi_175_50 (by simp [stL, lv_args, Value.category]) ?_
      rw [ia2]
      refine V_goto mi_175_53 ?_
      refine V_sub (lv' := [(0, .ref (ad 32)), (1, .ref (ad 28)), (2, .int (Int32.ofInt ((mm : Int)))), (3, .int (Int32.ofInt (((f + 1 : Nat) : Int))))]) (fun q hq => ?_) ?_
      · simp only [List.mem_cons, List.not_mem_nil, or_false] at hq
        rcases hq with rfl | rfl | rfl | rfl <;> simp [stL, lv_args, Value.category]
      exact kk w hG (fun j hj => hK j (by omega)) ho
    · exact absurd q (by omega)
  | m + 1, o, w, hm, hG, hK, ho, kk => by
    refine V_iload (v := Int32.ofInt ((o : Int))) mi_175_11 (by simp [stL, lv_args, Value.category]) ?_
    refine V_ipush mi_175_13 ?_
    refine V_cge mi_175_15 ⟨by omega, by omega⟩ ⟨by omega, by omega⟩ (fun q => ?_) (fun q => ?_)
    · exact absurd q (by omega)
    · obtain ⟨s31, e31, f31⟩ := a31
      obtain ⟨z, ez, -⟩ := cel hG e31 (j := 6 * f + o) (by omega) (f31 _ (by omega))
      have ez0 : rd w0 31 (6 * f + o) = some (.int (Int32.ofInt z)) := by rw [← ho _ _ (by omega)]; exact ez
      refine V_aload (v := ad 32) mi_175_18 (by simp [stL, lv_args, Value.category]) ?_
      refine V_gR mi_175_19 g32r0 (by omega) hG ?_
      refine V_iload (v := Int32.ofInt ((mm : Int))) mi_175_22 (by simp [stL, lv_args, Value.category]) ?_
      refine V_ipush mi_175_23 ?_
      refine V_ibin mi_175_25 (by omega) ?_
      rw [ib2]
      refine V_iload (v := Int32.ofInt ((f : Int))) mi_175_26 (by simp [stL, lv_args, Value.category]) ?_
      refine V_ipush mi_175_27 ?_
      refine V_ibin mi_175_29 (by omega) ?_
      rw [ib2]
      refine V_ibin mi_175_30 (by omega) ?_
      rw [ib0]
      refine V_iload (v := Int32.ofInt ((o : Int))) mi_175_31 (by simp [stL, lv_args, Value.category]) ?_
      refine V_ibin mi_175_33 (by omega) ?_
      rw [ib0]
      rw [show (mm : Int) * (36) + (f : Int) * (6) + (o : Int) = ((36 * mm + (6 * f + o) : Nat) : Int) by omega]
      refine V_aload (v := ad 28) mi_175_34 (by simp [stL, lv_args, Value.category]) ?_
      refine V_iload (v := Int32.ofInt ((f : Int))) mi_175_35 (by simp [stL, lv_args, Value.category]) ?_
      refine V_iload (v := Int32.ofInt ((o : Int))) mi_175_36 (by simp [stL, lv_args, Value.category]) ?_
      refine V_cO (As := [.int (Int32.ofInt ((f : Int))), .int (Int32.ofInt ((o : Int)))]) (st := [.int (Int32.ofInt (((36 * mm + (6 * f + o) : Nat) : Int))), .ref (ad 33)]) mi_175_38 (by omega) (by decide +kernel) (by decide +kernel) (by omega) g28o hG (bts_ct (f := f) (o := o) hG hf (by omega) ez) (by omega) (show 2 = mN 88 by decide +kernel) (by simp [Value.category]) ?_
      rintro r w1 ⟨e1, rfl⟩
      rw [e1]
      refine V_stat (As := [.ref (ad 33), .int (Int32.ofInt (((36 * mm + (6 * f + o) : Nat) : Int))), .int (Int32.ofInt (z))]) (st := []) mi_175_41 (by omega) (putk_ct (j := 36 * mm + (6 * f + o)) a33 hG (by omega) (by omega)) (by omega) (show 3 = mN 148 by decide +kernel) (by simp [Value.category]) ⟨Nat.le_refl _, Nat.le_refl _⟩ ?_
      rintro r w2 ⟨rfl, G2, U2⟩
      refine V_iinc (v := Int32.ofInt ((o : Int))) mi_175_44 (by simp [stL, lv_args, Value.category]) ?_
      rw [ia2]
      refine V_goto mi_175_47 ?_
      refine V_sub (lv' := [(0, .ref (ad 32)), (1, .ref (ad 28)), (2, .int (Int32.ofInt ((mm : Int)))), (3, .int (Int32.ofInt ((f : Int)))), (4, .int (Int32.ofInt (((o + 1 : Nat) : Int))))]) (fun q hq => ?_) ?_
      · simp only [List.mem_cons, List.not_mem_nil, or_false] at hq
        rcases hq with rfl | rfl | rfl | rfl | rfl <;> simp [stL, lv_args, Value.category]
      · refine ke_11 hm24 hf m (o + 1) w2 (by omega) G2 (fun j hj => ?_) (fun c j hc => (upd_ne U2 (by omega)).trans (ho c j hc)) kk
        by_cases e : j = 6 * f + o
        · rw [e, ez0]
          exact upd_eq U2
        · exact (upd_ne U2 (by omega)).trans (hK j (by omega))
theorem ke_2 {mm : Nat} {w0 : va_W} {post : Option Value → va_W → Prop} (hm24 : mm ≤ 24) : ∀ (m f : Nat) (w : va_W), f + m = 6 → GOK ad tys GG w → (∀ j, j < 6 * f → rd w 33 (36 * mm + j) = rd w0 31 j) → (∀ c j, ¬ (c = 33 ∧ 36 * mm ≤ j ∧ j < 36 * mm + 36) → rd w c j = rd w0 c j) → (∀ w' : va_W, GOK ad tys GG w' → (∀ j, j < 36 → rd w' 33 (36 * mm + j) = rd w0 31 j) → (∀ c j, ¬ (c = 33 ∧ 36 * mm ≤ j ∧ j < 36 * mm + 36) → rd w' c j = rd w0 c j) → post none w') → V l D tys A 175 2 0 0 post 0 0 2 [(0, .ref (ad 32)), (1, .ref (ad 28)), (2, .int (Int32.ofInt ((mm : Int)))), (3, .int (Int32.ofInt ((f : Int))))] [] w
  | 0, f, w, hm, hG, hK, ho, kk => by
    refine V_iload (v := Int32.ofInt ((f : Int))) mi_175_2 (by simp [stL, lv_args, Value.category]) ?_
    refine V_ipush mi_175_3 ?_
    refine V_cge mi_175_5 ⟨by omega, by omega⟩ ⟨by omega, by omega⟩ (fun q => ?_) (fun q => ?_)
    · exact V_retV mi_175_56 (kk w hG (fun j hj => hK j (by omega)) ho)
    · exact absurd q (by omega)
  | m + 1, f, w, hm, hG, hK, ho, kk => by
    refine V_iload (v := Int32.ofInt ((f : Int))) mi_175_2 (by simp [stL, lv_args, Value.category]) ?_
    refine V_ipush mi_175_3 ?_
    refine V_cge mi_175_5 ⟨by omega, by omega⟩ ⟨by omega, by omega⟩ (fun q => ?_) (fun q => ?_)
    · exact absurd q (by omega)
    · refine V_ipush mi_175_8 ?_
      refine V_istore mi_175_9 ?_
      refine V_sub (lv' := [(0, .ref (ad 32)), (1, .ref (ad 28)), (2, .int (Int32.ofInt ((mm : Int)))), (3, .int (Int32.ofInt ((f : Int)))), (4, .int (Int32.ofInt (((0 : Nat) : Int))))]) (fun q hq => ?_) ?_
      · simp only [List.mem_cons, List.not_mem_nil, or_false] at hq
        rcases hq with rfl | rfl | rfl | rfl | rfl <;> simp [stL, lv_args, Value.category]
      exact ke_11 (w0 := w0) hm24 (by omega) 6 0 w (by omega) hG hK ho (fun w2 G2 K2 o2 => ke_2 hm24 m (f + 1) w2 (by omega) G2 K2 o2 kk)
theorem kee_ct {mm : Nat} (hG : GOK ad tys GG ws) (hm24 : mm ≤ 24) : CT l D tys A 175 2 0 0 [.ref (ad 32), .ref (ad 28), .int (Int32.ofInt ((mm : Int)))] ws (fun r w => r = none ∧ GOK ad tys GG w ∧ (∀ j, j < 36 → rd w 33 (36 * mm + j) = rd ws 31 j) ∧ (∀ c j, ¬ (c = 33 ∧ 36 * mm ≤ j ∧ j < 36 * mm + 36) → rd w c j = rd ws c j)) := by
  refine CT_of_V (by omega) (show (3 : Nat) ≤ mML 175 by decide +kernel) ?_
  refine V_ipush mi_175_0 ?_
  refine V_istore mi_175_1 ?_
  refine V_sub (lv' := [(0, .ref (ad 32)), (1, .ref (ad 28)), (2, .int (Int32.ofInt ((mm : Int)))), (3, .int (Int32.ofInt (((0 : Nat) : Int))))]) (fun q hq => ?_) ?_
  · simp only [List.mem_cons, List.not_mem_nil, or_false] at hq
    rcases hq with rfl | rfl | rfl | rfl <;> simp [stL, lv_args, Value.category]
  exact ke_2 (w0 := ws) hm24 6 0 ws (by omega) hG (fun j hj => absurd hj (by omega)) (fun _ _ _ => rfl) (fun w2 G2 k2 o2 => ⟨rfl, G2, k2, o2⟩)
end XSH
section XSI
variable {l : Launch} {D : va_G} {tys : List (ClassId × FieldType)} {A : Nat → Prop} {ad : Nat → Nat} {ws : va_W}
theorem te_46 {G : Nat → Int} {S : Nat} {w0 : va_W} {post : Option Value → va_W → Prop} {h : Nat} (hB : HB G) (wf : WF G) (hX0 : HX 4 G w0) (hS : (S : Int) = G 4) (hw : ∀ s, s < S → sWhn G s < (G 2).toNat) (hO : ORD G S w0) (hP : PRS G S w0) (hh : (h : Int) < G 2) : ∀ (m s : Nat) (T : TT) (w : va_W), s + m = S → TX ad tys G T w0 w → (∀ w' : va_W, TX ad tys G (sayT G h m s T) w0 w' → V l D tys A 173 4 0 0 post 0 0 88 [(0, .ref (ad 32)), (1, .ref (ad 4)), (2, .ref (ad 28)), (3, .int (Int32.ofInt (((cntH G S (h + 1) : Nat) : Int)))), (4, .int (Int32.ofInt ((h : Int))))] [] w') → V l D tys A 173 4 0 0 post 0 0 46 [(0, .ref (ad 32)), (1, .ref (ad 4)), (2, .ref (ad 28)), (3, .int (Int32.ofInt (((cntH G S h + cntS G h s : Nat) : Int)))), (4, .int (Int32.ofInt ((h : Int))))] [] w
  | 0, s, T, w, hm, hT, kk => by
    have hX : HX 4 G w := HX_keep hX0 (fun c' i h1 h2 => hT.o _ _ (by omega) (by omega))
    have b4 := hB.b4
    have b2 := hB.b2
    have e : s = S := by omega
    rw [e]
    have cl0 := cntH_all (G := G) S hw
    have cl1 := cntH_le (G := G) (n := S) (h := h + 1) (G 2).toNat (by omega)
    show V l D tys A 173 4 0 0 post 0 0 46 [(0, .ref (ad 32)), (1, .ref (ad 4)), (2, .ref (ad 28)), (3, .int (Int32.ofInt (((cntH G S (h + 1) : Nat) : Int)))), (4, .int (Int32.ofInt ((h : Int))))] [] w
    refine V_iload (v := Int32.ofInt (((cntH G S (h + 1) : Nat) : Int))) mi_173_46 (by simp [stL, lv_args, Value.category]) ?_
    refine V_aload (v := ad 4) mi_173_47 (by simp [stL, lv_args, Value.category]) ?_
    refine V_gO mi_173_48 g4o hT.g (show rd _ 4 5 = some (.int (Int32.ofInt (G 4))) from hx0 hX (i := 5) (by omega)) ?_
    refine V_cge mi_173_51 ⟨by omega, by omega⟩ ⟨by omega, by omega⟩ (fun q => ?_) (fun q => ?_)
    · refine V_sub (lv' := [(0, .ref (ad 32)), (1, .ref (ad 4)), (2, .ref (ad 28)), (3, .int (Int32.ofInt (((cntH G S (h + 1) : Nat) : Int)))), (4, .int (Int32.ofInt ((h : Int))))]) (fun q hq => ?_) (kk w hT)
      simp only [List.mem_cons, List.not_mem_nil, or_false] at hq
      rcases hq with rfl | rfl | rfl | rfl | rfl <;> simp [stL, lv_args, Value.category]
    · obtain ⟨t, t1, t2, t3⟩ := pos_ex (G := G) (n := S) (h := h + 1) (G 2).toNat (by omega) (by omega)
      obtain ⟨⟨w6, o6, i6, n24⟩, g0, g1, g2, g3⟩ := say_b hB (s := t) (by omega)
      refine V_aload (v := ad 4) mi_173_54 (by simp [stL, lv_args, Value.category]) ?_
      refine V_gR mi_173_55 g4r16 (by omega) hT.g ?_
      refine V_aload (v := ad 28) mi_173_58 (by simp [stL, lv_args, Value.category]) ?_
      refine V_iload (v := Int32.ofInt (((cntH G S (h + 1) : Nat) : Int))) mi_173_59 (by simp [stL, lv_args, Value.category]) ?_
      refine V_cO (As := [.int (Int32.ofInt (((cntH G S (h + 1) : Nat) : Int)))]) (st := [.ref (ad 15)]) mi_173_60 (by omega) (by decide +kernel) (by decide +kernel) (by omega) g28o hT.g (ino_ct (s := cntH G S (h + 1)) hT.g (by omega) (by rw [← t3]; exact (hT.o _ _ (by omega) (by omega)).trans (hO t t1))) (by omega) (show 1 = mN 90 by decide +kernel) (by simp [Value.category]) ?_
      rintro r w1 ⟨e1, rfl⟩
      rw [e1]
      refine V_stat (As := [.ref (ad 15), .int (Int32.ofInt ((t : Int)))]) (st := []) mi_173_63 (by omega) (atk_ct a15 hT.g (by omega) (by omega) (say_rd hX (k := t) (r := 3) (by omega) (by omega))) (by omega) (show 2 = mN 147 by decide +kernel) (by simp [Value.category]) ⟨Nat.le_refl _, Nat.le_refl _⟩ ?_
      rintro r w2 ⟨e2, rfl⟩
      rw [e2, g3]
      refine V_iload (v := Int32.ofInt ((h : Int))) mi_173_66 (by simp [stL, lv_args, Value.category]) ?_
      refine V_cne mi_173_68 ⟨by omega, by omega⟩ ⟨by omega, by omega⟩ (fun q2 => ?_) (fun q2 => ?_)
      · refine V_sub (lv' := [(0, .ref (ad 32)), (1, .ref (ad 4)), (2, .ref (ad 28)), (3, .int (Int32.ofInt (((cntH G S (h + 1) : Nat) : Int)))), (4, .int (Int32.ofInt ((h : Int))))]) (fun q hq => ?_) (kk w hT)
        simp only [List.mem_cons, List.not_mem_nil, or_false] at hq
        rcases hq with rfl | rfl | rfl | rfl | rfl <;> simp [stL, lv_args, Value.category]
      · exact absurd q2 (by omega)
  | m + 1, s, T, w, hm, hT, kk => by
    have hX : HX 4 G w := HX_keep hX0 (fun c' i h1 h2 => hT.o _ _ (by omega) (by omega))
    have b4 := hB.b4
    have b2 := hB.b2
    by_cases heq : sWhn G s = h
    · have hs : s < S := by omega
      have hp : pos G S s = cntH G S h + cntS G h s := by unfold pos; rw [heq]
      have hp2 := pos_n hw hs
      have es : sayT G h (m + 1) s T = sayT G h m (s + 1) (oneT G s T) := by
        show sayT G h m (s + 1) (if sWhn G s = h then oneT G s T else T) = _
        rw [if_pos heq]
      rw [es] at kk
      obtain ⟨⟨w6, o6, i6, n24⟩, g0, g1, g2, g3⟩ := say_b hB (s := s) (by omega)
      refine V_iload (v := Int32.ofInt (((cntH G S h + cntS G h s : Nat) : Int))) mi_173_46 (by simp [stL, lv_args, Value.category]) ?_
      refine V_aload (v := ad 4) mi_173_47 (by simp [stL, lv_args, Value.category]) ?_
      refine V_gO mi_173_48 g4o hT.g (show rd _ 4 5 = some (.int (Int32.ofInt (G 4))) from hx0 hX (i := 5) (by omega)) ?_
      refine V_cge mi_173_51 ⟨by omega, by omega⟩ ⟨by omega, by omega⟩ (fun q => ?_) (fun q => ?_)
      · exact absurd q (by omega)
      · refine V_aload (v := ad 4) mi_173_54 (by simp [stL, lv_args, Value.category]) ?_
        refine V_gR mi_173_55 g4r16 (by omega) hT.g ?_
        refine V_aload (v := ad 28) mi_173_58 (by simp [stL, lv_args, Value.category]) ?_
        refine V_iload (v := Int32.ofInt (((cntH G S h + cntS G h s : Nat) : Int))) mi_173_59 (by simp [stL, lv_args, Value.category]) ?_
        refine V_cO (As := [.int (Int32.ofInt (((cntH G S h + cntS G h s : Nat) : Int)))]) (st := [.ref (ad 15)]) mi_173_60 (by omega) (by decide +kernel) (by decide +kernel) (by omega) g28o hT.g (ino_ct (s := cntH G S h + cntS G h s) hT.g (by omega) (by rw [← hp]; exact (hT.o _ _ (by omega) (by omega)).trans (hO s hs))) (by omega) (show 1 = mN 90 by decide +kernel) (by simp [Value.category]) ?_
        rintro r w1 ⟨e1, rfl⟩
        rw [e1]
        refine V_stat (As := [.ref (ad 15), .int (Int32.ofInt ((s : Int)))]) (st := []) mi_173_63 (by omega) (atk_ct a15 hT.g (by omega) (by omega) (say_rd hX (k := s) (r := 3) (by omega) (by omega))) (by omega) (show 2 = mN 147 by decide +kernel) (by simp [Value.category]) ⟨Nat.le_refl _, Nat.le_refl _⟩ ?_
        rintro r w2 ⟨e2, rfl⟩
        rw [e2, g3]
        refine V_iload (v := Int32.ofInt ((h : Int))) mi_173_66 (by simp [stL, lv_args, Value.category]) ?_
        refine V_cne mi_173_68 ⟨by omega, by omega⟩ ⟨by omega, by omega⟩ (fun q2 => ?_) (fun q2 => ?_)
        · exact absurd q2 (by omega)
        · refine V_aload (v := ad 32) mi_173_71 (by simp [stL, lv_args, Value.category]) ?_
          refine V_aload (v := ad 4) mi_173_72 (by simp [stL, lv_args, Value.category]) ?_
          refine V_aload (v := ad 28) mi_173_73 (by simp [stL, lv_args, Value.category]) ?_
          refine V_aload (v := ad 28) mi_173_74 (by simp [stL, lv_args, Value.category]) ?_
          refine V_iload (v := Int32.ofInt (((cntH G S h + cntS G h s : Nat) : Int))) mi_173_75 (by simp [stL, lv_args, Value.category]) ?_
          refine V_cO (As := [.int (Int32.ofInt (((cntH G S h + cntS G h s : Nat) : Int)))]) (st := [.ref (ad 28), .ref (ad 4), .ref (ad 32)]) mi_173_76 (by omega) (by decide +kernel) (by decide +kernel) (by omega) g28o hT.g (ino_ct (s := cntH G S h + cntS G h s) hT.g (by omega) (by rw [← hp]; exact (hT.o _ _ (by omega) (by omega)).trans (hO s hs))) (by omega) (show 1 = mN 90 by decide +kernel) (by simp [Value.category]) ?_
          rintro r w3 ⟨e3, rfl⟩
          rw [e3]
          refine V_cO (As := [.ref (ad 4), .ref (ad 28), .int (Int32.ofInt ((s : Int)))]) (st := []) mi_173_79 (by omega) (by decide +kernel) (by decide +kernel) (by omega) g32o hT.g (tlo_ct hB wf hX0 (s := s) (by omega) (hP s hs) hT) (by omega) (show 3 = mN 174 by decide +kernel) (by simp [Value.category]) ?_
          rintro r w4 ⟨rfl, T4⟩
          refine V_iinc (v := Int32.ofInt (((cntH G S h + cntS G h s : Nat) : Int))) mi_173_82 (by simp [stL, lv_args, Value.category]) ?_
          rw [ia2]
          rw [show ((cntH G S h + cntS G h s : Nat) : Int) + (1) = ((cntH G S h + cntS G h (s + 1) : Nat) : Int) by rw [cntS_hit heq]; omega]
          refine V_goto mi_173_85 ?_
          refine V_sub (lv' := [(0, .ref (ad 32)), (1, .ref (ad 4)), (2, .ref (ad 28)), (3, .int (Int32.ofInt (((cntH G S h + cntS G h (s + 1) : Nat) : Int)))), (4, .int (Int32.ofInt ((h : Int))))]) (fun q hq => ?_) ?_
          · simp only [List.mem_cons, List.not_mem_nil, or_false] at hq
            rcases hq with rfl | rfl | rfl | rfl | rfl <;> simp [stL, lv_args, Value.category]
          exact te_46 hB wf hX0 hS hw hO hP hh m (s + 1) (oneT G s T) w4 (by omega) T4 kk
    · have es : sayT G h (m + 1) s T = sayT G h m (s + 1) T := by
        show sayT G h m (s + 1) (if sWhn G s = h then oneT G s T else T) = _
        rw [if_neg heq]
      rw [es] at kk
      rw [show cntH G S h + cntS G h s = cntH G S h + cntS G h (s + 1) by rw [cntS_no heq]]
      exact te_46 hB wf hX0 hS hw hO hP hh m (s + 1) T w (by omega) hT kk
/-- what is known ahead of each of the first n hours, as the class keeps it -/
noncomputable def KNX (G : Nat → Int) (n : Nat) (w : va_W) : Prop := ∀ h, h < n → ∀ j, j < 36 → (j / 6 : Nat) < G 3 → rd w 33 (36 * h + j) = some (.int (Int32.ofInt ((tellT G h).K j)))
noncomputable def XTO (w0 w : va_W) : Prop := ∀ c j, ¬ (31 ≤ c ∧ c ≤ 35) → rd w c j = rd w0 c j
theorem te_37 {G : Nat → Int} {S : Nat} {w0 : va_W} {post : Option Value → va_W → Prop} (hB : HB G) (wf : WF G) (hX0 : HX 4 G w0) (hS : (S : Int) = G 4) (hw : ∀ s, s < S → sWhn G s < (G 2).toNat) (hO0 : ORD G S w0) (hP0 : PRS G S w0) : ∀ (m h : Nat) (w : va_W), ((h + m : Nat) : Int) = G 2 → TX ad tys G (tellT G h) w w → KNX G (h + 1) w → XTO w0 w → (∀ w' : va_W, TX ad tys G (tellT G (G 2).toNat) w' w' → KNX G ((G 2).toNat + 1) w' → XTO w0 w' → post none w') → V l D tys A 173 4 0 0 post 0 0 37 [(0, .ref (ad 32)), (1, .ref (ad 4)), (2, .ref (ad 28)), (3, .int (Int32.ofInt (((cntH G S h : Nat) : Int)))), (4, .int (Int32.ofInt ((h : Int))))] [] w
  | 0, h, w, hm, hT, hk, ho, kk => by
    have hX : HX 4 G w := HX_keep hX0 (fun c' i h1 h2 => ho _ _ (by omega))
    have b4 := hB.b4
    have b2 := hB.b2
    refine V_iload (v := Int32.ofInt ((h : Int))) mi_173_37 (by simp [stL, lv_args, Value.category]) ?_
    refine V_aload (v := ad 4) mi_173_39 (by simp [stL, lv_args, Value.category]) ?_
    refine V_gO mi_173_40 g4o hT.g (show rd _ 4 3 = some (.int (Int32.ofInt (G 2))) from hx0 hX (i := 3) (by omega)) ?_
    refine V_cge mi_173_43 ⟨by omega, by omega⟩ ⟨by omega, by omega⟩ (fun q => ?_) (fun q => ?_)
    · have e : h = (G 2).toNat := by omega
      rw [e] at hT hk
      exact V_retV mi_173_103 (kk w hT hk ho)
    · exact absurd q (by omega)
  | m + 1, h, w, hm, hT, hk, ho, kk => by
    have hX : HX 4 G w := HX_keep hX0 (fun c' i h1 h2 => ho _ _ (by omega))
    have b4 := hB.b4
    have b2 := hB.b2
    refine V_iload (v := Int32.ofInt ((h : Int))) mi_173_37 (by simp [stL, lv_args, Value.category]) ?_
    refine V_aload (v := ad 4) mi_173_39 (by simp [stL, lv_args, Value.category]) ?_
    refine V_gO mi_173_40 g4o hT.g (show rd _ 4 3 = some (.int (Int32.ofInt (G 2))) from hx0 hX (i := 3) (by omega)) ?_
    refine V_cge mi_173_43 ⟨by omega, by omega⟩ ⟨by omega, by omega⟩ (fun q => ?_) (fun q => ?_)
    · exact absurd q (by omega)
    · have hO : ORD G S w := fun t ht => (ho _ _ (by omega)).trans (hO0 t ht)
      have hP : PRS G S w := fun t ht => (ho _ _ (by omega)).trans (hP0 t ht)
      refine V_sub (lv' := [(0, .ref (ad 32)), (1, .ref (ad 4)), (2, .ref (ad 28)), (3, .int (Int32.ofInt (((cntH G S h : Nat) : Int)))), (4, .int (Int32.ofInt ((h : Int))))]) (fun q hq => ?_) ?_
      · simp only [List.mem_cons, List.not_mem_nil, or_false] at hq
        rcases hq with rfl | rfl | rfl | rfl | rfl <;> simp [stL, lv_args, Value.category]
      refine te_46 (w0 := w) (h := h) hB wf hX hS hw hO hP (by omega) S 0 (tellT G h) w (by omega) hT (fun w2 T2 => ?_)
      refine V_aload (v := ad 32) mi_173_88 (by simp [stL, lv_args, Value.category]) ?_
      refine V_aload (v := ad 28) mi_173_89 (by simp [stL, lv_args, Value.category]) ?_
      refine V_iload (v := Int32.ofInt ((h : Int))) mi_173_90 (by simp [stL, lv_args, Value.category]) ?_
      refine V_ipush mi_173_92 ?_
      refine V_ibin mi_173_93 (by omega) ?_
      rw [ib0]
      rw [show (h : Int) + (1) = ((h + 1 : Nat) : Int) by omega]
      refine V_cO (As := [.ref (ad 28), .int (Int32.ofInt (((h + 1 : Nat) : Int)))]) (st := []) mi_173_94 (by omega) (by decide +kernel) (by decide +kernel) (by omega) g32o T2.g (kee_ct (mm := h + 1) T2.g (by omega)) (by omega) (show 2 = mN 175 by decide +kernel) (by simp [Value.category]) ?_
      rintro r w3 ⟨rfl, G3, k3, o3⟩
      refine V_iinc (v := Int32.ofInt ((h : Int))) mi_173_97 (by simp [stL, lv_args, Value.category]) ?_
      rw [ia2]
      refine V_goto mi_173_100 ?_
      refine V_sub (lv' := [(0, .ref (ad 32)), (1, .ref (ad 4)), (2, .ref (ad 28)), (3, .int (Int32.ofInt (((cntH G S (h + 1) : Nat) : Int)))), (4, .int (Int32.ofInt (((h + 1 : Nat) : Int))))]) (fun q hq => ?_) ?_
      · simp only [List.mem_cons, List.not_mem_nil, or_false] at hq
        rcases hq with rfl | rfl | rfl | rfl | rfl <;> simp [stL, lv_args, Value.category]
      have oo : ∀ c j, ¬ (31 ≤ c ∧ c ≤ 35) → rd w3 c j = rd w c j := fun c j hc => (o3 c j (by omega)).trans (T2.o c j (by omega) (by omega))
      have e4 : sayT G h S 0 (tellT G h) = tellT G (h + 1) := by
        show _ = sayT G h (G 4).toNat 0 (tellT G h)
        rw [show (G 4).toNat = S by omega]
      rw [e4] at T2
      refine te_37 hB wf hX0 hS hw hO0 hP0 m (h + 1) w3 (by omega) ⟨G3, fun j hj hp => (o3 _ _ (by omega)).trans (T2.k j hj hp), (o3 _ _ (by omega)).trans T2.s, fun i hi => (o3 _ _ (by omega)).trans (T2.h i hi), fun i hi => (o3 _ _ (by omega)).trans (T2.lr i hi), fun _ _ _ _ => rfl, T2.b⟩ (fun g hg j hj hp => ?_) (fun c j hc => (oo c j hc).trans (ho c j hc)) kk
      by_cases e : g = h + 1
      · rw [e, k3 j hj]
        exact T2.k j hj hp
      · rw [o3 _ _ (by omega), T2.o _ _ (by omega) (by omega)]
        exact hk g (by omega) j hj hp
theorem tel_ct {G : Nat → Int} (hG : GOK ad tys GG ws) (hX : HX 4 G ws) (hB : HB G) (wf : WF G) (hO : ORD G (G 4).toNat ws) (hP : PRS G (G 4).toNat ws) : CT l D tys A 173 4 0 0 [.ref (ad 32), .ref (ad 4), .ref (ad 28)] ws (fun r w => r = none ∧ TX ad tys G (tellT G (G 2).toNat) w w ∧ KNX G ((G 2).toNat + 1) w ∧ XTO ws w) := by
  refine CT_of_V (by omega) (show (3 : Nat) ≤ mML 173 by decide +kernel) ?_
  have b3 := hB.b3
  have b2 := hB.b2
  have b4 := hB.b4
  refine V_aload (v := ad 32) mi_173_0 (by simp [stL, lv_args, Value.category]) ?_
  refine V_ipush mi_173_1 ?_
  refine V_pO mi_173_2 g32f3 (by omega) (by decide +kernel) (by decide +kernel) hG (by decide) (by decide) (fun w1 G1 U1 => ?_)
  refine V_aload (v := ad 32) mi_173_5 (by simp [stL, lv_args, Value.category]) ?_
  refine V_gR mi_173_6 g32r1 (by omega) G1 ?_
  refine V_ipush mi_173_9 ?_
  refine V_stat (As := [.ref (ad 34), .int (Int32.ofInt (0))]) (st := []) mi_173_10 (by omega) (fill_ct a34 G1 (by omega) ⟨by omega, by omega⟩ (by omega) (by omega)) (by omega) (show 2 = mN 149 by decide +kernel) (by simp [Value.category]) ⟨Nat.le_refl _, Nat.le_refl _⟩ ?_
  rintro r w2 ⟨rfl, G2, o2, z2⟩
  refine V_aload (v := ad 32) mi_173_13 (by simp [stL, lv_args, Value.category]) ?_
  refine V_gR mi_173_14 g32r2 (by omega) G2 ?_
  refine V_ipush mi_173_17 ?_
  refine V_stat (As := [.ref (ad 35), .int (Int32.ofInt (0))]) (st := []) mi_173_18 (by omega) (fill_ct a35 G2 (by omega) ⟨by omega, by omega⟩ (by omega) (by omega)) (by omega) (show 2 = mN 149 by decide +kernel) (by simp [Value.category]) ⟨Nat.le_refl _, Nat.le_refl _⟩ ?_
  rintro r w3 ⟨rfl, G3, o3, z3⟩
  have oX3 : ∀ c j, ¬ (31 ≤ c ∧ c ≤ 35) → rd w3 c j = rd ws c j := fun c j hc => (o3 _ _ (by omega)).trans ((o2 _ _ (by omega)).trans (upd_ne U1 (by omega)))
  refine V_aload (v := ad 28) mi_173_21 (by simp [stL, lv_args, Value.category]) ?_
  refine V_aload (v := ad 4) mi_173_22 (by simp [stL, lv_args, Value.category]) ?_
  refine V_cO (As := [.ref (ad 4)]) (st := []) mi_173_23 (by omega) (by decide +kernel) (by decide +kernel) (by omega) g28o G3 (bgn_ct G3 (HX_keep hX (fun c' i h1 h2 => oX3 _ _ (by omega))) hB) (by omega) (show 1 = mN 87 by decide +kernel) (by simp [Value.category]) ?_
  rintro r w4 ⟨rfl, G4, k4, o4⟩
  have ik := ini_ok hB
  refine V_aload (v := ad 32) mi_173_26 (by simp [stL, lv_args, Value.category]) ?_
  refine V_aload (v := ad 28) mi_173_27 (by simp [stL, lv_args, Value.category]) ?_
  refine V_ipush mi_173_28 ?_
  refine V_cO (As := [.ref (ad 28), .int (Int32.ofInt (0))]) (st := []) mi_173_29 (by omega) (by decide +kernel) (by decide +kernel) (by omega) g32o G4 (kee_ct (mm := 0) G4 (by omega)) (by omega) (show 2 = mN 175 by decide +kernel) (by simp [Value.category]) ?_
  rintro r w5 ⟨rfl, G5, k5, o5⟩
  refine V_ipush mi_173_32 ?_
  refine V_istore mi_173_33 ?_
  refine V_ipush mi_173_34 ?_
  refine V_istore mi_173_35 ?_
  refine V_sub (lv' := [(0, .ref (ad 32)), (1, .ref (ad 4)), (2, .ref (ad 28)), (3, .int (Int32.ofInt (((0 : Nat) : Int)))), (4, .int (Int32.ofInt (((0 : Nat) : Int))))]) (fun q hq => ?_) ?_
  · simp only [List.mem_cons, List.not_mem_nil, or_false] at hq
    rcases hq with rfl | rfl | rfl | rfl | rfl <;> simp [stL, lv_args, Value.category]
  have oo : ∀ c j, ¬ (31 ≤ c ∧ c ≤ 35) → rd w5 c j = rd ws c j := fun c j hc => (o5 c j (by omega)).trans ((o4 _ _ (by omega)).trans (oX3 c j hc))
  refine te_37 (w0 := ws) (S := (G 4).toNat) hB wf hX (by omega) (WF_n hB wf) hO hP (G 2).toNat 0 w5 (by omega) ⟨G5, fun j hj hp => (o5 _ _ (by omega)).trans (k4 j hj hp), (o5 _ _ (by omega)).trans ((o4 _ _ (by omega)).trans ((o3 _ _ (by omega)).trans ((o2 _ _ (by omega)).trans (upd_eq U1)))), fun i hi => (o5 _ _ (by omega)).trans ((o4 _ _ (by omega)).trans ((o3 _ _ (by omega)).trans (z2 i hi))), fun i hi => (o5 _ _ (by omega)).trans ((o4 _ _ (by omega)).trans (z3 i hi)), fun _ _ _ _ => rfl, ik⟩ (fun g hg j hj hp => ?_) oo (fun w6 T6 k6 o6 => ⟨rfl, T6, k6, o6⟩)
  rw [show g = 0 by omega]
  exact (k5 j hj).trans (k4 j hj hp)
/-- the class's story is that of its hill -/
noncomputable def STO (G : Nat → Int) (w : va_W) : Prop := ORD G (G 4).toNat w ∧ PRS G (G 4).toNat w ∧ KNX G ((G 2).toNat + 1) w ∧ rd w 32 3 = some (.int (tellT G (G 2).toNat).sd) ∧ (∀ i, i < 12 → rd w 34 i = some (.int (Int32.ofInt ((tellT G (G 2).toNat).hb i)))) ∧ ∀ i, i < 12 → rd w 35 i = some (.int (Int32.ofInt ((tellT G (G 2).toNat).lb i)))
theorem STO_keep {G : Nat → Int} {w w' : va_W} (h : STO G w) (o : ∀ c j, (29 ≤ c ∧ c ≤ 35 ∧ c ≠ 31) → rd w' c j = rd w c j) : STO G w' :=
  ⟨fun s hs => (o _ _ (by omega)).trans (h.1 s hs), fun s hs => (o _ _ (by omega)).trans (h.2.1 s hs), fun g hg j hj hp => (o _ _ (by omega)).trans (h.2.2.1 g hg j hj hp), (o _ _ (by omega)).trans h.2.2.2.1, fun i hi => (o _ _ (by omega)).trans (h.2.2.2.2.1 i hi), fun i hi => (o _ _ (by omega)).trans (h.2.2.2.2.2 i hi)⟩
theorem set2_ct {G : Nat → Int} (hG : GOK ad tys GG ws) (hX : HX 4 G ws) (hB : HB G) (wf : WF G) : CT l D tys A 73 5 0 0 [.ref (ad 0)] ws (fun r w => r = none ∧ GOK ad tys GG w ∧ STO G w ∧ ∀ c j, ¬ (29 ≤ c ∧ c ≤ 35) → rd w c j = rd ws c j) := by
  refine CT_of_V (by omega) (show (1 : Nat) ≤ mML 73 by decide +kernel) ?_
  refine V_aload (v := ad 0) mi_73_0 (by simp [stL, lv_args, Value.category]) ?_
  refine V_gR mi_73_1 g0r4 (by omega) hG ?_
  refine V_aload (v := ad 0) mi_73_4 (by simp [stL, lv_args, Value.category]) ?_
  refine V_gR mi_73_5 g0r2 (by omega) hG ?_
  refine V_cO (As := [.ref (ad 4)]) (st := []) mi_73_8 (by omega) (by decide +kernel) (by decide +kernel) (by omega) g28o hG (pla_ct hG hX hB wf) (by omega) (show 1 = mN 85 by decide +kernel) (by simp [Value.category]) ?_
  rintro r w1 ⟨rfl, G1, O1, P1, o1⟩
  refine V_aload (v := ad 0) mi_73_11 (by simp [stL, lv_args, Value.category]) ?_
  refine V_gR mi_73_12 g0r5 (by omega) G1 ?_
  refine V_aload (v := ad 0) mi_73_15 (by simp [stL, lv_args, Value.category]) ?_
  refine V_gR mi_73_16 g0r2 (by omega) G1 ?_
  refine V_aload (v := ad 0) mi_73_19 (by simp [stL, lv_args, Value.category]) ?_
  refine V_gR mi_73_20 g0r4 (by omega) G1 ?_
  refine V_cO (As := [.ref (ad 4), .ref (ad 28)]) (st := []) mi_73_23 (by omega) (by decide +kernel) (by decide +kernel) (by omega) g32o G1 (tel_ct G1 (HX_keep hX (fun c' i h1 h2 => o1 _ _ (by omega) (by omega))) hB wf O1 P1) (by omega) (show 2 = mN 173 by decide +kernel) (by simp [Value.category]) ?_
  rintro r w2 ⟨rfl, T2, k2, o2⟩
  exact V_retV mi_73_26 ⟨rfl, T2.g, ⟨fun s hs => (o2 _ _ (by omega)).trans (O1 s hs), fun s hs => (o2 _ _ (by omega)).trans (P1 s hs), k2, T2.s, T2.h, T2.lr⟩, fun c j hc => (o2 c j (by omega)).trans (o1 c j (by omega) (by omega))⟩
end XSI
end
