section
section XHA
variable {l : Launch} {D : va_G} {tys : List (ClassId × FieldType)} {A : Nat → Prop} {ad : Nat → Nat} {ws : va_W}
theorem V_zgt {k d : Nat} {post : Option Value → va_W → Prop} {pc : Nat} {lv : List (Nat × Value)} {st : List Value} {a : Int} {y z : Nat} {u : Int} (hi : mI k pc = (14, a, 4, y, z)) (b : I32 u) (kt : 0 < u → V l D tys A k d 0 0 post 0 0 y lv st ws) (kf : u ≤ 0 → V l D tys A k d 0 0 post 0 0 (pc + 3) lv st ws) : V l D tys A k d 0 0 post 0 0 pc lv (.int (Int32.ofInt u) :: st) ws := by
  have h : cdP 4 (Int32.ofInt u) 0 ↔ cdZ 4 (u - 0) := cdP_iff (b := 0) b.1 b.2 (by omega) (by omega)
  exact V_if hi (fun q => kt (by have : 0 < u - 0 := h.mp q; omega)) (fun q => kf (by by_cases e : u ≤ 0; exact e; exact absurd (h.mpr (show 0 < u - 0 by omega)) q))
theorem i2lx {e : Int} (h : I32 e) : (Int32.ofInt e).toInt64 = Int64.ofInt e := by
  rw [el_, Int32.toInt_ofInt_of_le (by have := h.1; omega) (by have := h.2; omega)]
/-- the hill that stands, on the reference's side -/
noncomputable def W91 (G : Nat → Int) (w : va_W) : Prop := ∀ j, j < 294 → rd w 91 j = some (.int (Int32.ofInt (G j)))
noncomputable def hOK (G : Nat → Int) : Prop := ∀ j, j < 294 → I32 (G j)
theorem w91_up {G : Nat → Int} {w w' : va_W} {j : Nat} {z : Int} (h : W91 G w) (U : Upd1 w w' 91 j (.int (Int32.ofInt z))) : W91 (updI G j z) w' := fun i hi => by
  by_cases e : i = j
  · subst e
    rw [upd_eq U]
    show _ = some (Value.int (Int32.ofInt (if i = i then z else G i)))
    rw [if_pos rfl]
  · rw [updI_ne e]
    exact (upd_ne U (fun q => e q.2)).trans (h i hi)
theorem g91s : ∃ s, GG[91]? = some ((1, 0, 294), s) ∧ (segAt s 0 = some (0, 0, 9) ∧ segAt s 1 = some (0, 0, 4) ∧ segAt s 2 = some (0, 0, 24) ∧ segAt s 3 = some (0, 0, 6) ∧ segAt s 4 = some (0, 0, 12) ∧ segAt s 5 = some (0, -2147483648, 2147483647)) ∧ (∀ f, f < 6 → segAt s (6 + 7 * f) = some (0, 0, 6) ∧ ∀ k, k < 6 → segAt s (7 + 7 * f + k) = some (0, 0, 8)) ∧ (∀ f, f < 6 → segAt s (48 + f) = some (0, 0, 4) ∧ segAt s (54 + f) = some (0, 0, 100) ∧ segAt s (60 + f) = some (0, 0, 63)) ∧ (∀ j, j < 36 → segAt s (66 + j) = some (0, 0, 63)) ∧ (∀ j, j < 144 → segAt s (102 + j) = some (0, -1, 3)) ∧ (∀ k, k < 12 → segAt s (246 + 4 * k) = some (0, 0, 5) ∧ segAt s (246 + 4 * k + 1) = some (0, 0, 5) ∧ segAt s (246 + 4 * k + 2) = some (0, 0, 5) ∧ segAt s (246 + 4 * k + 3) = some (0, 0, 23)) := by
  refine ⟨_, rfl, ⟨by decide +kernel, by decide +kernel, by decide +kernel, by decide +kernel, by decide +kernel, by decide +kernel⟩, fun f hf => ⟨?_, fun k hk => ?_⟩, fun f hf => ?_, fun j hj => ?_, fun j hj => ?_, fun k hk => ?_⟩
  · exact (show ∀ f : Fin 6, segAt _ (6 + 7 * f.1) = some (0, 0, 6) by decide +kernel) ⟨f, hf⟩
  · exact (show ∀ f : Fin 6, ∀ k : Fin 6, segAt _ (7 + 7 * f.1 + k.1) = some (0, 0, 8) by decide +kernel) ⟨f, hf⟩ ⟨k, hk⟩
  · exact (show ∀ f : Fin 6, segAt _ (48 + f.1) = some (0, 0, 4) ∧ segAt _ (54 + f.1) = some (0, 0, 100) ∧ segAt _ (60 + f.1) = some (0, 0, 63) by decide +kernel) ⟨f, hf⟩
  · exact (show ∀ j : Fin 36, segAt _ (66 + j.1) = some (0, 0, 63) by decide +kernel) ⟨j, hj⟩
  · exact (show ∀ j : Fin 144, segAt _ (102 + j.1) = some (0, -1, 3) by decide +kernel) ⟨j, hj⟩
  · exact (show ∀ k : Fin 12, segAt _ (246 + 4 * k.1) = some (0, 0, 5) ∧ segAt _ (246 + 4 * k.1 + 1) = some (0, 0, 5) ∧ segAt _ (246 + 4 * k.1 + 2) = some (0, 0, 5) ∧ segAt _ (246 + 4 * k.1 + 3) = some (0, 0, 23) by decide +kernel) ⟨k, hk⟩
theorem w91_bd {G : Nat → Int} {w : va_W} {segs : List SG} {j : Nat} {lo hi : Int} (hG : GOK ad tys GG w) (hW : W91 G w) (hO : hOK G) (hg : GG[91]? = some ((1, 0, 294), segs)) (hj : j < 294) (hs : segAt segs j = some (0, lo, hi)) (l0 : -2147483648 ≤ lo) (h0 : hi ≤ 2147483647) : lo ≤ G j ∧ G j ≤ hi := by
  obtain ⟨z, e, z0, z1⟩ := cel hG hg hj hs
  rw [hW j hj] at e
  simp only [Option.some.injEq, Value.int.injEq] at e
  have := ofI (hO j hj) ⟨by omega, by omega⟩ e
  omega
/-- how far what a hill holds goes -/
noncomputable abbrev HB (G : Nat → Int) : Prop :=
  (0 ≤ G 0 ∧ G 0 ≤ 9) ∧
  (0 ≤ G 1 ∧ G 1 ≤ 4) ∧
  (0 ≤ G 2 ∧ G 2 ≤ 24) ∧
  (0 ≤ G 3 ∧ G 3 ≤ 6) ∧
  (0 ≤ G 4 ∧ G 4 ≤ 12) ∧
  (I32 (G 5)) ∧
  (∀ f, f < 6 → 0 ≤ G (6 + 7 * f) ∧ G (6 + 7 * f) ≤ 6) ∧
  (∀ f, f < 6 → ∀ k, k < 6 → 0 ≤ G (7 + 7 * f + k) ∧ G (7 + 7 * f + k) ≤ 8) ∧
  (∀ f, f < 6 → 0 ≤ G (48 + f) ∧ G (48 + f) ≤ 4) ∧
  (∀ f, f < 6 → 0 ≤ G (54 + f) ∧ G (54 + f) ≤ 100) ∧
  (∀ f, f < 6 → 0 ≤ G (60 + f) ∧ G (60 + f) ≤ 63) ∧
  (∀ j, j < 36 → 0 ≤ G (66 + j) ∧ G (66 + j) ≤ 63) ∧
  (∀ j, j < 144 → -1 ≤ G (102 + j) ∧ G (102 + j) ≤ 3) ∧
  (∀ k, k < 12 → (0 ≤ G (246 + 4 * k) ∧ G (246 + 4 * k) ≤ 5) ∧ (0 ≤ G (246 + 4 * k + 1) ∧ G (246 + 4 * k + 1) ≤ 5) ∧ (0 ≤ G (246 + 4 * k + 2) ∧ G (246 + 4 * k + 2) ≤ 5) ∧ (0 ≤ G (246 + 4 * k + 3) ∧ G (246 + 4 * k + 3) ≤ 23))
theorem HB.b0 {G : Nat → Int} (h : HB G) : 0 ≤ G 0 ∧ G 0 ≤ 9 := h.1
theorem HB.b1 {G : Nat → Int} (h : HB G) : 0 ≤ G 1 ∧ G 1 ≤ 4 := h.2.1
theorem HB.b2 {G : Nat → Int} (h : HB G) : 0 ≤ G 2 ∧ G 2 ≤ 24 := h.2.2.1
theorem HB.b3 {G : Nat → Int} (h : HB G) : 0 ≤ G 3 ∧ G 3 ≤ 6 := h.2.2.2.1
theorem HB.b4 {G : Nat → Int} (h : HB G) : 0 ≤ G 4 ∧ G 4 ≤ 12 := h.2.2.2.2.1
theorem HB.b5 {G : Nat → Int} (h : HB G) : I32 (G 5) := h.2.2.2.2.2.1
theorem HB.bl {G : Nat → Int} (h : HB G) : ∀ f, f < 6 → 0 ≤ G (6 + 7 * f) ∧ G (6 + 7 * f) ≤ 6 := h.2.2.2.2.2.2.1
theorem HB.bn {G : Nat → Int} (h : HB G) : ∀ f, f < 6 → ∀ k, k < 6 → 0 ≤ G (7 + 7 * f + k) ∧ G (7 + 7 * f + k) ≤ 8 := h.2.2.2.2.2.2.2.1
theorem HB.bs {G : Nat → Int} (h : HB G) : ∀ f, f < 6 → 0 ≤ G (48 + f) ∧ G (48 + f) ≤ 4 := h.2.2.2.2.2.2.2.2.1
theorem HB.bd {G : Nat → Int} (h : HB G) : ∀ f, f < 6 → 0 ≤ G (54 + f) ∧ G (54 + f) ≤ 100 := h.2.2.2.2.2.2.2.2.2.1
theorem HB.bf {G : Nat → Int} (h : HB G) : ∀ f, f < 6 → 0 ≤ G (60 + f) ∧ G (60 + f) ≤ 63 := h.2.2.2.2.2.2.2.2.2.2.1
theorem HB.bt {G : Nat → Int} (h : HB G) : ∀ j, j < 36 → 0 ≤ G (66 + j) ∧ G (66 + j) ≤ 63 := h.2.2.2.2.2.2.2.2.2.2.2.1
theorem HB.bp {G : Nat → Int} (h : HB G) : ∀ j, j < 144 → -1 ≤ G (102 + j) ∧ G (102 + j) ≤ 3 := h.2.2.2.2.2.2.2.2.2.2.2.2.1
theorem HB.by_ {G : Nat → Int} (h : HB G) : ∀ k, k < 12 → (0 ≤ G (246 + 4 * k) ∧ G (246 + 4 * k) ≤ 5) ∧ (0 ≤ G (246 + 4 * k + 1) ∧ G (246 + 4 * k + 1) ≤ 5) ∧ (0 ≤ G (246 + 4 * k + 2) ∧ G (246 + 4 * k + 2) ≤ 5) ∧ (0 ≤ G (246 + 4 * k + 3) ∧ G (246 + 4 * k + 3) ≤ 23) := h.2.2.2.2.2.2.2.2.2.2.2.2.2
theorem hb_of {G : Nat → Int} {w : va_W} (hG : GOK ad tys GG w) (hW : W91 G w) (hO : hOK G) : HB G := by
  obtain ⟨s, e, ⟨s0, s1, s2, s3, s4, s5⟩, sn, sd, st, sp, sy⟩ := g91s
  exact ⟨w91_bd hG hW hO e (by omega) s0 (by omega) (by omega), w91_bd hG hW hO e (by omega) s1 (by omega) (by omega), w91_bd hG hW hO e (by omega) s2 (by omega) (by omega), w91_bd hG hW hO e (by omega) s3 (by omega) (by omega), w91_bd hG hW hO e (by omega) s4 (by omega) (by omega), hO 5 (by omega), fun f hf => w91_bd hG hW hO e (by omega) (sn f hf).1 (by omega) (by omega), fun f hf k hk => w91_bd hG hW hO e (by omega) ((sn f hf).2 k hk) (by omega) (by omega), fun f hf => w91_bd hG hW hO e (by omega) (sd f hf).1 (by omega) (by omega), fun f hf => w91_bd hG hW hO e (by omega) (sd f hf).2.1 (by omega) (by omega), fun f hf => w91_bd hG hW hO e (by omega) (sd f hf).2.2 (by omega) (by omega), fun j hj => w91_bd hG hW hO e (by omega) (st j hj) (by omega) (by omega), fun j hj => w91_bd hG hW hO e (by omega) (sp j hj) (by omega) (by omega), fun k hk => ⟨w91_bd hG hW hO e (by omega) (sy k hk).1 (by omega) (by omega), w91_bd hG hW hO e (by omega) (sy k hk).2.1 (by omega) (by omega), w91_bd hG hW hO e (by omega) (sy k hk).2.2.1 (by omega) (by omega), w91_bd hG hW hO e (by omega) (sy k hk).2.2.2 (by omega) (by omega)⟩⟩
theorem hfk_ct {G : Nat → Int} (hG : GOK ad tys GG ws) (hX : HX 4 G ws) (hB : HB G) {f : Int} (fI : I32 f) : CT l D tys A 102 0 0 0 [.ref (ad 4), .int (Int32.ofInt (f))] ws (fun r w => w = ws ∧ r = some (.int (bI (decide (0 ≤ f ∧ f < G 3))))) := by
  obtain ⟨b0, b1⟩ := hB.b3
  refine CT_of_V (by omega) (show (2 : Nat) ≤ mML 102 by decide +kernel) ?_
  refine V_iload (v := Int32.ofInt (f)) mi_102_0 (by simp [stL, lv_args, Value.category]) ?_
  refine V_zlt mi_102_1 fI (fun q => ?_) (fun q => ?_)
  · refine V_ipush mi_102_16 ?_
    exact V_retI mi_102_17 (fun _ => by decide) ⟨rfl, by rw [show decide (0 ≤ f ∧ f < G 3) = false from decide_eq_false (by omega)]; rfl⟩
  · refine V_iload (v := Int32.ofInt (f)) mi_102_4 (by simp [stL, lv_args, Value.category]) ?_
    refine V_aload (v := ad 4) mi_102_5 (by simp [stL, lv_args, Value.category]) ?_
    refine V_gO mi_102_6 g4o hG (show rd ws 4 4 = some (.int (Int32.ofInt (G 3))) from hx0 hX (i := 4) (by omega)) ?_
    refine V_cge mi_102_9 fI ⟨by omega, by omega⟩ (fun q2 => ?_) (fun q2 => ?_)
    · refine V_ipush mi_102_16 ?_
      exact V_retI mi_102_17 (fun _ => by decide) ⟨rfl, by rw [show decide (0 ≤ f ∧ f < G 3) = false from decide_eq_false (by omega)]; rfl⟩
    · refine V_ipush mi_102_12 ?_
      refine V_goto mi_102_13 ?_
      exact V_retI mi_102_17 (fun _ => by decide) ⟨rfl, by rw [show decide (0 ≤ f ∧ f < G 3) = true from decide_eq_true (by omega)]; rfl⟩
theorem hho_ct {G : Nat → Int} (hG : GOK ad tys GG ws) (hX : HX 4 G ws) (hB : HB G) {f : Int} (fI : I32 f) : CT l D tys A 103 0 0 0 [.ref (ad 4), .int (Int32.ofInt (f))] ws (fun r w => w = ws ∧ r = some (.int (bI (decide (0 ≤ f ∧ f < G 2))))) := by
  obtain ⟨b0, b1⟩ := hB.b2
  refine CT_of_V (by omega) (show (2 : Nat) ≤ mML 103 by decide +kernel) ?_
  refine V_iload (v := Int32.ofInt (f)) mi_103_0 (by simp [stL, lv_args, Value.category]) ?_
  refine V_zlt mi_103_1 fI (fun q => ?_) (fun q => ?_)
  · refine V_ipush mi_103_16 ?_
    exact V_retI mi_103_17 (fun _ => by decide) ⟨rfl, by rw [show decide (0 ≤ f ∧ f < G 2) = false from decide_eq_false (by omega)]; rfl⟩
  · refine V_iload (v := Int32.ofInt (f)) mi_103_4 (by simp [stL, lv_args, Value.category]) ?_
    refine V_aload (v := ad 4) mi_103_5 (by simp [stL, lv_args, Value.category]) ?_
    refine V_gO mi_103_6 g4o hG (show rd ws 4 3 = some (.int (Int32.ofInt (G 2))) from hx0 hX (i := 3) (by omega)) ?_
    refine V_cge mi_103_9 fI ⟨by omega, by omega⟩ (fun q2 => ?_) (fun q2 => ?_)
    · refine V_ipush mi_103_16 ?_
      exact V_retI mi_103_17 (fun _ => by decide) ⟨rfl, by rw [show decide (0 ≤ f ∧ f < G 2) = false from decide_eq_false (by omega)]; rfl⟩
    · refine V_ipush mi_103_12 ?_
      refine V_goto mi_103_13 ?_
      exact V_retI mi_103_17 (fun _ => by decide) ⟨rfl, by rw [show decide (0 ≤ f ∧ f < G 2) = true from decide_eq_true (by omega)]; rfl⟩
theorem hsa_ct {G : Nat → Int} (hG : GOK ad tys GG ws) (hX : HX 4 G ws) (hB : HB G) {f : Int} (fI : I32 f) : CT l D tys A 104 0 0 0 [.ref (ad 4), .int (Int32.ofInt (f))] ws (fun r w => w = ws ∧ r = some (.int (bI (decide (0 ≤ f ∧ f < G 4))))) := by
  obtain ⟨b0, b1⟩ := hB.b4
  refine CT_of_V (by omega) (show (2 : Nat) ≤ mML 104 by decide +kernel) ?_
  refine V_iload (v := Int32.ofInt (f)) mi_104_0 (by simp [stL, lv_args, Value.category]) ?_
  refine V_zlt mi_104_1 fI (fun q => ?_) (fun q => ?_)
  · refine V_ipush mi_104_16 ?_
    exact V_retI mi_104_17 (fun _ => by decide) ⟨rfl, by rw [show decide (0 ≤ f ∧ f < G 4) = false from decide_eq_false (by omega)]; rfl⟩
  · refine V_iload (v := Int32.ofInt (f)) mi_104_4 (by simp [stL, lv_args, Value.category]) ?_
    refine V_aload (v := ad 4) mi_104_5 (by simp [stL, lv_args, Value.category]) ?_
    refine V_gO mi_104_6 g4o hG (show rd ws 4 5 = some (.int (Int32.ofInt (G 4))) from hx0 hX (i := 5) (by omega)) ?_
    refine V_cge mi_104_9 fI ⟨by omega, by omega⟩ (fun q2 => ?_) (fun q2 => ?_)
    · refine V_ipush mi_104_16 ?_
      exact V_retI mi_104_17 (fun _ => by decide) ⟨rfl, by rw [show decide (0 ≤ f ∧ f < G 4) = false from decide_eq_false (by omega)]; rfl⟩
    · refine V_ipush mi_104_12 ?_
      refine V_goto mi_104_13 ?_
      exact V_retI mi_104_17 (fun _ => by decide) ⟨rfl, by rw [show decide (0 ≤ f ∧ f < G 4) = true from decide_eq_true (by omega)]; rfl⟩
theorem hth_ct {G : Nat → Int} (hG : GOK ad tys GG ws) (hX : HX 4 G ws) (hB : HB G) : CT l D tys A 101 0 0 0 [.ref (ad 4)] ws (fun r w => w = ws ∧ r = some (.int (bI (decide (0 < G 5))))) := by
  refine CT_of_V (by omega) (show (1 : Nat) ≤ mML 101 by decide +kernel) ?_
  refine V_aload (v := ad 4) mi_101_0 (by simp [stL, lv_args, Value.category]) ?_
  refine V_gO mi_101_1 g4o hG (show rd ws 4 0 = some (.int (Int32.ofInt (G 5))) from hx0 hX (i := 0) (by omega)) ?_
  refine V_zle mi_101_4 hB.b5 (fun q => ?_) (fun q => ?_)
  · refine V_ipush mi_101_11 ?_
    exact V_retI mi_101_12 (fun _ => by decide) ⟨rfl, by rw [show decide (0 < G 5) = false from decide_eq_false (by omega)]; rfl⟩
  · refine V_ipush mi_101_7 ?_
    refine V_goto mi_101_8 ?_
    exact V_retI mi_101_12 (fun _ => by decide) ⟨rfl, by rw [show decide (0 < G 5) = true from decide_eq_true (by omega)]; rfl⟩
theorem hle_ct {G : Nat → Int} (hG : GOK ad tys GG ws) (hX : HX 4 G ws) (hB : HB G) {f : Nat} (hf : f < 6) : CT l D tys A 106 0 0 0 [.ref (ad 4), .int (Int32.ofInt ((f : Int)))] ws (fun r w => w = ws ∧ r = some (.int (Int32.ofInt (G (6 + 7 * f))))) := by
  refine CT_of_V (by omega) (show (2 : Nat) ≤ mML 106 by decide +kernel) ?_
  obtain ⟨s5, e5, f5⟩ := a5
  have bl := hB.bl f hf
  refine V_iload (v := Int32.ofInt ((f : Int))) mi_106_0 (by simp [stL, lv_args, Value.category]) ?_
  refine V_zlt mi_106_1 ⟨by omega, by omega⟩ (fun q => ?_) (fun q => ?_)
  · exact absurd q (by omega)
  · refine V_iload (v := Int32.ofInt ((f : Int))) mi_106_4 (by simp [stL, lv_args, Value.category]) ?_
    refine V_aload (v := ad 4) mi_106_5 (by simp [stL, lv_args, Value.category]) ?_
    refine V_gR mi_106_6 g4r6 (by omega) hG ?_
    refine V_lenA mi_106_9 hG e5 ?_
    refine V_cge mi_106_10 ⟨by omega, by omega⟩ ⟨by omega, by omega⟩ (fun q2 => ?_) (fun q2 => ?_)
    · exact absurd q2 (by omega)
    · refine V_aload (v := ad 4) mi_106_13 (by simp [stL, lv_args, Value.category]) ?_
      refine V_gR mi_106_14 g4r6 (by omega) hG ?_
      refine V_iload (v := Int32.ofInt ((f : Int))) mi_106_17 (by simp [stL, lv_args, Value.category]) ?_
      have hx : rd ws 5 f = some (.int (Int32.ofInt (G (6 + 7 * f)))) := HX_HY hX 1 (by omega) f hf
      refine V_aldX (j := f) mi_106_18 rfl hG e5 hf (by omega) hx ?_
      refine V_goto mi_106_19 ?_
      exact V_retI mi_106_23 (fun h => absurd h (by decide +kernel)) ⟨rfl, rfl⟩
theorem hsy_ct {G : Nat → Int} (hG : GOK ad tys GG ws) (hX : HX 4 G ws) (hB : HB G) {o i : Int} (oI : I32 o) (iI : I32 i) : CT l D tys A 105 1 0 0 [.ref (ad 4), .int (Int32.ofInt (o)), .int (Int32.ofInt (i))] ws (fun r w => w = ws ∧ r = some (.int (bI (decide ((0 ≤ o ∧ o < G 3) ∧ 0 ≤ i ∧ i < G (6 + 7 * o.toNat)))))) := by
  refine CT_of_V (by omega) (show (3 : Nat) ≤ mML 105 by decide +kernel) ?_
  refine V_aload (v := ad 4) mi_105_0 (by simp [stL, lv_args, Value.category]) ?_
  refine V_iload (v := Int32.ofInt (o)) mi_105_1 (by simp [stL, lv_args, Value.category]) ?_
  refine V_cO (As := [.int (Int32.ofInt (o))]) (st := []) mi_105_2 (by omega) (by decide +kernel) (by decide +kernel) (by omega) g4o hG (hfk_ct hG hX hB oI) (by omega) (show 1 = mN 102 by decide +kernel) (by simp [Value.category]) ?_
  rintro r w1 ⟨rfl, rfl⟩
  refine V_beq mi_105_5  (fun c1 => ?_) (fun c1 => ?_)
  · refine V_ipush mi_105_25 ?_
    exact V_retI mi_105_26 (fun _ => by decide) ⟨rfl, by rw [show decide ((0 ≤ o ∧ o < G 3) ∧ 0 ≤ i ∧ i < G (6 + 7 * o.toNat)) = false from decide_eq_false (fun h => of_decide_eq_false c1 h.1)]; rfl⟩
  · have c2 := of_decide_eq_true c1
    obtain ⟨b0, b1⟩ := hB.b3
    obtain ⟨m, rfl⟩ := Int.eq_ofNat_of_zero_le c2.1
    have bl := hB.bl m (by omega)
    rw [Int.toNat_natCast]
    refine V_iload (v := Int32.ofInt (i)) mi_105_8 (by simp [stL, lv_args, Value.category]) ?_
    refine V_zlt mi_105_9 iI (fun q2 => ?_) (fun q2 => ?_)
    · refine V_ipush mi_105_25 ?_
      exact V_retI mi_105_26 (fun _ => by decide) ⟨rfl, by rw [show decide ((0 ≤ (m : Int) ∧ (m : Int) < G 3) ∧ 0 ≤ i ∧ i < G (6 + 7 * m)) = false from decide_eq_false (by omega)]; rfl⟩
    · refine V_iload (v := Int32.ofInt (i)) mi_105_12 (by simp [stL, lv_args, Value.category]) ?_
      refine V_aload (v := ad 4) mi_105_13 (by simp [stL, lv_args, Value.category]) ?_
      refine V_iload (v := Int32.ofInt ((m : Int))) mi_105_14 (by simp [stL, lv_args, Value.category]) ?_
      refine V_cO (As := [.int (Int32.ofInt ((m : Int)))]) (st := [.int (Int32.ofInt (i))]) mi_105_15 (by omega) (by decide +kernel) (by decide +kernel) (by omega) g4o hG (hle_ct (f := m) hG hX hB (by omega)) (by omega) (show 1 = mN 106 by decide +kernel) (by simp [Value.category]) ?_
      rintro r w2 ⟨rfl, rfl⟩
      refine V_cge mi_105_18 iI ⟨by omega, by omega⟩ (fun q3 => ?_) (fun q3 => ?_)
      · refine V_ipush mi_105_25 ?_
        exact V_retI mi_105_26 (fun _ => by decide) ⟨rfl, by rw [show decide ((0 ≤ (m : Int) ∧ (m : Int) < G 3) ∧ 0 ≤ i ∧ i < G (6 + 7 * m)) = false from decide_eq_false (by omega)]; rfl⟩
      · refine V_ipush mi_105_21 ?_
        refine V_goto mi_105_22 ?_
        exact V_retI mi_105_26 (fun _ => by decide) ⟨rfl, by rw [show decide ((0 ≤ (m : Int) ∧ (m : Int) < G 3) ∧ 0 ≤ i ∧ i < G (6 + 7 * m)) = true from decide_eq_true (by omega)]; rfl⟩
theorem hsl_ct {G : Nat → Int} (hG : GOK ad tys GG ws) (hX : HX 4 G ws) (hB : HB G) {o i : Nat} (ho : o < 6) (hi : (i : Int) < G (6 + 7 * o)) : CT l D tys A 107 1 0 0 [.ref (ad 4), .int (Int32.ofInt ((o : Int))), .int (Int32.ofInt ((i : Int)))] ws (fun r w => w = ws ∧ r = some (.int (Int32.ofInt (G (7 + 7 * o + i))))) := by
  refine CT_of_V (by omega) (show (3 : Nat) ≤ mML 107 by decide +kernel) ?_
  obtain ⟨s6, e6, f6⟩ := a6
  have bl := hB.bl o ho
  refine V_iload (v := Int32.ofInt ((i : Int))) mi_107_0 (by simp [stL, lv_args, Value.category]) ?_
  refine V_zlt mi_107_1 ⟨by omega, by omega⟩ (fun q => ?_) (fun q => ?_)
  · exact absurd q (by omega)
  · refine V_iload (v := Int32.ofInt ((i : Int))) mi_107_4 (by simp [stL, lv_args, Value.category]) ?_
    refine V_aload (v := ad 4) mi_107_5 (by simp [stL, lv_args, Value.category]) ?_
    refine V_iload (v := Int32.ofInt ((o : Int))) mi_107_6 (by simp [stL, lv_args, Value.category]) ?_
    refine V_cO (As := [.int (Int32.ofInt ((o : Int)))]) (st := [.int (Int32.ofInt ((i : Int)))]) mi_107_7 (by omega) (by decide +kernel) (by decide +kernel) (by omega) g4o hG (hle_ct (f := o) hG hX hB ho) (by omega) (show 1 = mN 106 by decide +kernel) (by simp [Value.category]) ?_
    rintro r w2 ⟨rfl, rfl⟩
    refine V_cge mi_107_10 ⟨by omega, by omega⟩ ⟨by omega, by omega⟩ (fun q2 => ?_) (fun q2 => ?_)
    · exact absurd q2 (by omega)
    · refine V_aload (v := ad 4) mi_107_13 (by simp [stL, lv_args, Value.category]) ?_
      refine V_gR mi_107_14 g4r7 (by omega) hG ?_
      refine V_iload (v := Int32.ofInt ((o : Int))) mi_107_17 (by simp [stL, lv_args, Value.category]) ?_
      refine V_ipush mi_107_18 ?_
      refine V_ibin mi_107_20 (by omega) ?_
      rw [ib2]
      refine V_iload (v := Int32.ofInt ((i : Int))) mi_107_21 (by simp [stL, lv_args, Value.category]) ?_
      refine V_ibin mi_107_22 (by omega) ?_
      rw [ib0]
      have hx : rd w2 6 (6 * o + i) = some (.int (Int32.ofInt (G (7 + 7 * o + i)))) := by
        have h := HX_HY hX 2 (by omega) (6 * o + i) (show 6 * o + i < 36 by omega)
        have e : hxJ 2 (6 * o + i) = 7 + 7 * o + i := by
          unfold hxJ
          rw [if_neg (by omega), if_neg (by omega), if_pos rfl]
          omega
        rw [e] at h
        exact h
      rw [show (o : Int) * 6 + (i : Int) = ((6 * o + i : Nat) : Int) by omega]
      refine V_stat (As := [.ref (ad 6), .int (Int32.ofInt (((6 * o + i : Nat) : Int)))]) (st := []) mi_107_23 (by omega) (at_ct (j := 6 * o + i) hG e6 (by omega) (by omega) hx) (by omega) (show 2 = mN 147 by decide +kernel) (by simp [Value.category]) ⟨Nat.le_refl _, Nat.le_refl _⟩ ?_
      rintro r w3 ⟨rfl, rfl⟩
      refine V_goto mi_107_26 ?_
      exact V_retI mi_107_30 (fun h => absurd h (by decide +kernel)) ⟨rfl, rfl⟩
theorem hpl_ct {G : Nat → Int} (hG : GOK ad tys GG ws) (hX : HX 4 G ws) (hB : HB G) {f h : Nat} (hf : (f : Int) < G 3) (hh : (h : Int) < G 2) : CT l D tys A 110 1 0 0 [.ref (ad 4), .int (Int32.ofInt ((f : Int))), .int (Int32.ofInt ((h : Int)))] ws (fun r w => w = ws ∧ r = some (.int (Int32.ofInt (G (102 + (24 * f + h)))))) := by
  refine CT_of_V (by omega) (show (3 : Nat) ≤ mML 110 by decide +kernel) ?_
  obtain ⟨s10, e10, f10⟩ := a10
  have b3 := hB.b3
  have b2 := hB.b2
  refine V_aload (v := ad 4) mi_110_0 (by simp [stL, lv_args, Value.category]) ?_
  refine V_iload (v := Int32.ofInt ((f : Int))) mi_110_1 (by simp [stL, lv_args, Value.category]) ?_
  refine V_cO (As := [.int (Int32.ofInt ((f : Int)))]) (st := []) mi_110_2 (by omega) (by decide +kernel) (by decide +kernel) (by omega) g4o hG (hfk_ct hG hX hB (f := (f : Int)) ⟨by omega, by omega⟩) (by omega) (show 1 = mN 102 by decide +kernel) (by simp [Value.category]) ?_
  rintro r w1 ⟨rfl, rfl⟩
  refine V_beq mi_110_5  (fun c1 => ?_) (fun c1 => ?_)
  · exact absurd (show 0 ≤ (f : Int) ∧ (f : Int) < G 3 by omega) (of_decide_eq_false c1)
  · refine V_aload (v := ad 4) mi_110_8 (by simp [stL, lv_args, Value.category]) ?_
    refine V_iload (v := Int32.ofInt ((h : Int))) mi_110_9 (by simp [stL, lv_args, Value.category]) ?_
    refine V_cO (As := [.int (Int32.ofInt ((h : Int)))]) (st := []) mi_110_10 (by omega) (by decide +kernel) (by decide +kernel) (by omega) g4o hG (hho_ct hG hX hB (f := (h : Int)) ⟨by omega, by omega⟩) (by omega) (show 1 = mN 103 by decide +kernel) (by simp [Value.category]) ?_
    rintro r w2 ⟨rfl, rfl⟩
    refine V_beq mi_110_13  (fun c2 => ?_) (fun c2 => ?_)
    · exact absurd (show 0 ≤ (h : Int) ∧ (h : Int) < G 2 by omega) (of_decide_eq_false c2)
    · refine V_aload (v := ad 4) mi_110_16 (by simp [stL, lv_args, Value.category]) ?_
      refine V_gR mi_110_17 g4r11 (by omega) hG ?_
      refine V_iload (v := Int32.ofInt ((f : Int))) mi_110_20 (by simp [stL, lv_args, Value.category]) ?_
      refine V_ipush mi_110_21 ?_
      refine V_ibin mi_110_23 (by omega) ?_
      rw [ib2]
      refine V_iload (v := Int32.ofInt ((h : Int))) mi_110_24 (by simp [stL, lv_args, Value.category]) ?_
      refine V_ibin mi_110_25 (by omega) ?_
      rw [ib0]
      have hx : rd w2 10 (24 * f + h) = some (.int (Int32.ofInt (G (102 + (24 * f + h))))) := HX_HY hX 6 (by omega) (24 * f + h) (show 24 * f + h < 144 by omega)
      rw [show (f : Int) * 24 + (h : Int) = ((24 * f + h : Nat) : Int) by omega]
      refine V_stat (As := [.ref (ad 10), .int (Int32.ofInt (((24 * f + h : Nat) : Int)))]) (st := []) mi_110_26 (by omega) (at_ct (j := 24 * f + h) hG e10 (by omega) (by omega) hx) (by omega) (show 2 = mN 147 by decide +kernel) (by simp [Value.category]) ⟨Nat.le_refl _, Nat.le_refl _⟩ ?_
      rintro r w3 ⟨rfl, rfl⟩
      refine V_goto mi_110_29 ?_
      exact V_retI mi_110_33 (fun h => absurd h (by decide +kernel)) ⟨rfl, rfl⟩
theorem x2_ct {G : Nat → Int} (hG : GOK ad tys GG ws) (hX : HX 4 G ws) (hB : HB G) {f o : Int} (fI : I32 f) (oI : I32 o) : CT l D tys A 74 1 0 0 [.ref (ad 0), .int (Int32.ofInt (f)), .int (Int32.ofInt (o))] ws (fun r w => w = ws ∧ r = some (.int (bI (decide ((0 ≤ f ∧ f < G 3) ∧ (0 ≤ o ∧ o < G 3) ∧ f ≠ o))))) := by
  refine CT_of_V (by omega) (show (3 : Nat) ≤ mML 74 by decide +kernel) ?_
  refine V_aload (v := ad 0) mi_74_0 (by simp [stL, lv_args, Value.category]) ?_
  refine V_gR mi_74_1 g0r2 (by omega) hG ?_
  refine V_iload (v := Int32.ofInt (f)) mi_74_4 (by simp [stL, lv_args, Value.category]) ?_
  refine V_cO (As := [.int (Int32.ofInt (f))]) (st := []) mi_74_5 (by omega) (by decide +kernel) (by decide +kernel) (by omega) g4o hG (hfk_ct hG hX hB fI) (by omega) (show 1 = mN 102 by decide +kernel) (by simp [Value.category]) ?_
  rintro r w1 ⟨rfl, rfl⟩
  refine V_beq mi_74_8  (fun c1 => ?_) (fun c1 => ?_)
  · refine V_ipush mi_74_31 ?_
    exact V_retI mi_74_32 (fun _ => by decide) ⟨rfl, by rw [show decide ((0 ≤ f ∧ f < G 3) ∧ (0 ≤ o ∧ o < G 3) ∧ f ≠ o) = false from decide_eq_false (fun h => of_decide_eq_false c1 h.1)]; rfl⟩
  · refine V_aload (v := ad 0) mi_74_11 (by simp [stL, lv_args, Value.category]) ?_
    refine V_gR mi_74_12 g0r2 (by omega) hG ?_
    refine V_iload (v := Int32.ofInt (o)) mi_74_15 (by simp [stL, lv_args, Value.category]) ?_
    refine V_cO (As := [.int (Int32.ofInt (o))]) (st := []) mi_74_16 (by omega) (by decide +kernel) (by decide +kernel) (by omega) g4o hG (hfk_ct hG hX hB oI) (by omega) (show 1 = mN 102 by decide +kernel) (by simp [Value.category]) ?_
    rintro r w2 ⟨rfl, rfl⟩
    refine V_beq mi_74_19  (fun c2 => ?_) (fun c2 => ?_)
    · refine V_ipush mi_74_31 ?_
      exact V_retI mi_74_32 (fun _ => by decide) ⟨rfl, by rw [show decide ((0 ≤ f ∧ f < G 3) ∧ (0 ≤ o ∧ o < G 3) ∧ f ≠ o) = false from decide_eq_false (fun h => of_decide_eq_false c2 h.2.1)]; rfl⟩
    · refine V_iload (v := Int32.ofInt (f)) mi_74_22 (by simp [stL, lv_args, Value.category]) ?_
      refine V_iload (v := Int32.ofInt (o)) mi_74_23 (by simp [stL, lv_args, Value.category]) ?_
      refine V_ceq mi_74_24 fI oI (fun q3 => ?_) (fun q3 => ?_)
      · refine V_ipush mi_74_31 ?_
        exact V_retI mi_74_32 (fun _ => by decide) ⟨rfl, by rw [show decide ((0 ≤ f ∧ f < G 3) ∧ (0 ≤ o ∧ o < G 3) ∧ f ≠ o) = false from decide_eq_false (fun h => h.2.2 q3)]; rfl⟩
      · refine V_ipush mi_74_27 ?_
        refine V_goto mi_74_28 ?_
        exact V_retI mi_74_32 (fun _ => by decide) ⟨rfl, by rw [show decide ((0 ≤ f ∧ f < G 3) ∧ (0 ≤ o ∧ o < G 3) ∧ f ≠ o) = true from decide_eq_true ⟨of_decide_eq_true c1, of_decide_eq_true c2, q3⟩]; rfl⟩
theorem mfk_ct {G : Nat → Int} (hG : GOK ad tys GG ws) (hW : W91 G ws) (hB : HB G) {f : Int} (fI : I32 f) : CT l D tys A 199 1 0 0 [.ref (ad 90), .int (Int32.ofInt (f))] ws (fun r w => w = ws ∧ r = some (.int (bI (decide (0 ≤ f ∧ f < G 3))))) := by
  obtain ⟨s91, e91, -⟩ := g91s
  obtain ⟨b0, b1⟩ := hB.b3
  refine CT_of_V (by omega) (show (2 : Nat) ≤ mML 199 by decide +kernel) ?_
  refine V_iload (v := Int32.ofInt (f)) mi_199_0 (by simp [stL, lv_args, Value.category]) ?_
  refine V_i2l mi_199_1 ?_
  rw [i2lx ⟨by omega, by omega⟩]
  refine V_lpush mi_199_2 ?_
  refine V_aload (v := ad 90) mi_199_3 (by simp [stL, lv_args, Value.category]) ?_
  refine V_getI mi_199_4 hG (rref gr1m (by omega) hG) ?_
  refine V_ipush mi_199_7 ?_
  refine V_aldX (j := 3) mi_199_8 rfl hG e91 (by omega) (by omega) (hW _ (by omega)) ?_
  refine V_ipush mi_199_9 ?_
  refine V_ibin mi_199_10 (by omega) ?_
  rw [ib1]
  refine V_i2l mi_199_11 ?_
  rw [i2lx ⟨by omega, by omega⟩]
  refine V_stat (As := [.long (Int64.ofInt (f)), .long (Int64.ofInt (0)), .long (Int64.ofInt ((G 3) - (1)))]) (st := []) mi_199_12 (by omega) (inM2 (m := f) (lo := 0) (hi := G 3 - 1) (by omega) (by omega) (by omega) (by omega) (by omega) (by omega)) (by omega) (show 3 = mN 193 by decide +kernel) (by simp [Value.category]) ⟨Nat.le_refl _, Nat.le_refl _⟩ ?_
  rintro r w1 ⟨rfl, rfl⟩
  refine V_retI mi_199_15 (fun _ => bI1) ⟨rfl, ?_⟩
  rw [show decide (0 ≤ f ∧ f ≤ G 3 - 1) = decide (0 ≤ f ∧ f < G 3) from decide_eq_decide.mpr (by omega)]
theorem mho_ct {G : Nat → Int} (hG : GOK ad tys GG ws) (hW : W91 G ws) (hB : HB G) {f : Int} (fI : I32 f) : CT l D tys A 201 1 0 0 [.ref (ad 90), .int (Int32.ofInt (f))] ws (fun r w => w = ws ∧ r = some (.int (bI (decide (0 ≤ f ∧ f < G 2))))) := by
  obtain ⟨s91, e91, -⟩ := g91s
  obtain ⟨b0, b1⟩ := hB.b2
  refine CT_of_V (by omega) (show (2 : Nat) ≤ mML 201 by decide +kernel) ?_
  refine V_iload (v := Int32.ofInt (f)) mi_201_0 (by simp [stL, lv_args, Value.category]) ?_
  refine V_i2l mi_201_1 ?_
  rw [i2lx ⟨by omega, by omega⟩]
  refine V_lpush mi_201_2 ?_
  refine V_aload (v := ad 90) mi_201_3 (by simp [stL, lv_args, Value.category]) ?_
  refine V_getI mi_201_4 hG (rref gr1m (by omega) hG) ?_
  refine V_ipush mi_201_7 ?_
  refine V_aldX (j := 2) mi_201_8 rfl hG e91 (by omega) (by omega) (hW _ (by omega)) ?_
  refine V_ipush mi_201_9 ?_
  refine V_ibin mi_201_10 (by omega) ?_
  rw [ib1]
  refine V_i2l mi_201_11 ?_
  rw [i2lx ⟨by omega, by omega⟩]
  refine V_stat (As := [.long (Int64.ofInt (f)), .long (Int64.ofInt (0)), .long (Int64.ofInt ((G 2) - (1)))]) (st := []) mi_201_12 (by omega) (inM2 (m := f) (lo := 0) (hi := G 2 - 1) (by omega) (by omega) (by omega) (by omega) (by omega) (by omega)) (by omega) (show 3 = mN 193 by decide +kernel) (by simp [Value.category]) ⟨Nat.le_refl _, Nat.le_refl _⟩ ?_
  rintro r w1 ⟨rfl, rfl⟩
  refine V_retI mi_201_15 (fun _ => bI1) ⟨rfl, ?_⟩
  rw [show decide (0 ≤ f ∧ f ≤ G 2 - 1) = decide (0 ≤ f ∧ f < G 2) from decide_eq_decide.mpr (by omega)]
theorem msa_ct {G : Nat → Int} (hG : GOK ad tys GG ws) (hW : W91 G ws) (hB : HB G) {f : Int} (fI : I32 f) : CT l D tys A 202 1 0 0 [.ref (ad 90), .int (Int32.ofInt (f))] ws (fun r w => w = ws ∧ r = some (.int (bI (decide (0 ≤ f ∧ f < G 4))))) := by
  obtain ⟨s91, e91, -⟩ := g91s
  obtain ⟨b0, b1⟩ := hB.b4
  refine CT_of_V (by omega) (show (2 : Nat) ≤ mML 202 by decide +kernel) ?_
  refine V_iload (v := Int32.ofInt (f)) mi_202_0 (by simp [stL, lv_args, Value.category]) ?_
  refine V_i2l mi_202_1 ?_
  rw [i2lx ⟨by omega, by omega⟩]
  refine V_lpush mi_202_2 ?_
  refine V_aload (v := ad 90) mi_202_3 (by simp [stL, lv_args, Value.category]) ?_
  refine V_getI mi_202_4 hG (rref gr1m (by omega) hG) ?_
  refine V_ipush mi_202_7 ?_
  refine V_aldX (j := 4) mi_202_8 rfl hG e91 (by omega) (by omega) (hW _ (by omega)) ?_
  refine V_ipush mi_202_9 ?_
  refine V_ibin mi_202_10 (by omega) ?_
  rw [ib1]
  refine V_i2l mi_202_11 ?_
  rw [i2lx ⟨by omega, by omega⟩]
  refine V_stat (As := [.long (Int64.ofInt (f)), .long (Int64.ofInt (0)), .long (Int64.ofInt ((G 4) - (1)))]) (st := []) mi_202_12 (by omega) (inM2 (m := f) (lo := 0) (hi := G 4 - 1) (by omega) (by omega) (by omega) (by omega) (by omega) (by omega)) (by omega) (show 3 = mN 193 by decide +kernel) (by simp [Value.category]) ⟨Nat.le_refl _, Nat.le_refl _⟩ ?_
  rintro r w1 ⟨rfl, rfl⟩
  refine V_retI mi_202_15 (fun _ => bI1) ⟨rfl, ?_⟩
  rw [show decide (0 ≤ f ∧ f ≤ G 4 - 1) = decide (0 ≤ f ∧ f < G 4) from decide_eq_decide.mpr (by omega)]
theorem mth_ct {G : Nat → Int} (hG : GOK ad tys GG ws) (hW : W91 G ws) (hB : HB G) : CT l D tys A 198 0 0 0 [.ref (ad 90)] ws (fun r w => w = ws ∧ r = some (.int (bI (decide (0 < G 5))))) := by
  obtain ⟨s91, e91, -⟩ := g91s
  refine CT_of_V (by omega) (show (1 : Nat) ≤ mML 198 by decide +kernel) ?_
  refine V_aload (v := ad 90) mi_198_0 (by simp [stL, lv_args, Value.category]) ?_
  refine V_getI mi_198_1 hG (rref gr1m (by omega) hG) ?_
  refine V_ipush mi_198_4 ?_
  refine V_aldX (j := 5) mi_198_5 rfl hG e91 (by omega) (by omega) (hW _ (by omega)) ?_
  refine V_zle mi_198_6 hB.b5 (fun q => ?_) (fun q => ?_)
  · refine V_ipush mi_198_13 ?_
    exact V_retI mi_198_14 (fun _ => by decide) ⟨rfl, by rw [show decide (0 < G 5) = false from decide_eq_false (by omega)]; rfl⟩
  · refine V_ipush mi_198_9 ?_
    refine V_goto mi_198_10 ?_
    exact V_retI mi_198_14 (fun _ => by decide) ⟨rfl, by rw [show decide (0 < G 5) = true from decide_eq_true (by omega)]; rfl⟩
theorem mle_ct {G : Nat → Int} (hG : GOK ad tys GG ws) (hW : W91 G ws) (hB : HB G) {f : Nat} (hf : f < 6) : CT l D tys A 204 0 0 0 [.ref (ad 90), .int (Int32.ofInt ((f : Int)))] ws (fun r w => w = ws ∧ r = some (.int (Int32.ofInt (G (6 + 7 * f))))) := by
  obtain ⟨s91, e91, -⟩ := g91s
  refine CT_of_V (by omega) (show (2 : Nat) ≤ mML 204 by decide +kernel) ?_
  refine V_aload (v := ad 90) mi_204_0 (by simp [stL, lv_args, Value.category]) ?_
  refine V_getI mi_204_1 hG (rref gr1m (by omega) hG) ?_
  refine V_ipush mi_204_4 ?_
  refine V_ipush mi_204_6 ?_
  refine V_iload (v := Int32.ofInt ((f : Int))) mi_204_8 (by simp [stL, lv_args, Value.category]) ?_
  refine V_ibin mi_204_9 (by omega) ?_
  rw [ib2]
  refine V_ibin mi_204_10 (by omega) ?_
  rw [ib0]
  refine V_aldX (j := 6 + 7 * f) mi_204_11 (by rw [show (6) + ((7) * ((f : Int))) = ((6 + 7 * f : Nat) : Int) by omega]) hG e91 (by omega) (by omega) (hW _ (by omega)) ?_
  exact V_retI mi_204_12 (fun h => absurd h (by decide +kernel)) ⟨rfl, rfl⟩
theorem msl_ct {G : Nat → Int} (hG : GOK ad tys GG ws) (hW : W91 G ws) (hB : HB G) {o i : Nat} (ho : o < 6) (hi : i < 6) : CT l D tys A 205 0 0 0 [.ref (ad 90), .int (Int32.ofInt ((o : Int))), .int (Int32.ofInt ((i : Int)))] ws (fun r w => w = ws ∧ r = some (.int (Int32.ofInt (G (7 + 7 * o + i))))) := by
  obtain ⟨s91, e91, -⟩ := g91s
  refine CT_of_V (by omega) (show (3 : Nat) ≤ mML 205 by decide +kernel) ?_
  refine V_aload (v := ad 90) mi_205_0 (by simp [stL, lv_args, Value.category]) ?_
  refine V_getI mi_205_1 hG (rref gr1m (by omega) hG) ?_
  refine V_ipush mi_205_4 ?_
  refine V_ipush mi_205_6 ?_
  refine V_iload (v := Int32.ofInt ((o : Int))) mi_205_8 (by simp [stL, lv_args, Value.category]) ?_
  refine V_ibin mi_205_9 (by omega) ?_
  rw [ib2]
  refine V_ibin mi_205_10 (by omega) ?_
  rw [ib0]
  refine V_ipush mi_205_11 ?_
  refine V_ibin mi_205_12 (by omega) ?_
  rw [ib0]
  refine V_iload (v := Int32.ofInt ((i : Int))) mi_205_13 (by simp [stL, lv_args, Value.category]) ?_
  refine V_ibin mi_205_14 (by omega) ?_
  rw [ib0]
  refine V_aldX (j := 7 + 7 * o + i) mi_205_15 (by rw [show (((6) + ((7) * ((o : Int)))) + (1)) + ((i : Int)) = ((7 + 7 * o + i : Nat) : Int) by omega]) hG e91 (by omega) (by omega) (hW _ (by omega)) ?_
  exact V_retI mi_205_16 (fun h => absurd h (by decide +kernel)) ⟨rfl, rfl⟩
theorem mpl_ct {G : Nat → Int} (hG : GOK ad tys GG ws) (hW : W91 G ws) (hB : HB G) {f h : Nat} (hf : f < 6) (hh : h < 24) : CT l D tys A 207 0 0 0 [.ref (ad 90), .int (Int32.ofInt ((f : Int))), .int (Int32.ofInt ((h : Int)))] ws (fun r w => w = ws ∧ r = some (.int (Int32.ofInt (G (102 + (24 * f + h)))))) := by
  obtain ⟨s91, e91, -⟩ := g91s
  refine CT_of_V (by omega) (show (3 : Nat) ≤ mML 207 by decide +kernel) ?_
  refine V_aload (v := ad 90) mi_207_0 (by simp [stL, lv_args, Value.category]) ?_
  refine V_getI mi_207_1 hG (rref gr1m (by omega) hG) ?_
  refine V_ipush mi_207_4 ?_
  refine V_ipush mi_207_6 ?_
  refine V_iload (v := Int32.ofInt ((f : Int))) mi_207_8 (by simp [stL, lv_args, Value.category]) ?_
  refine V_ibin mi_207_9 (by omega) ?_
  rw [ib2]
  refine V_ibin mi_207_10 (by omega) ?_
  rw [ib0]
  refine V_iload (v := Int32.ofInt ((h : Int))) mi_207_11 (by simp [stL, lv_args, Value.category]) ?_
  refine V_ibin mi_207_12 (by omega) ?_
  rw [ib0]
  refine V_aldX (j := 102 + (24 * f + h)) mi_207_13 (by rw [show ((102) + ((24) * ((f : Int)))) + ((h : Int)) = ((102 + (24 * f + h) : Nat) : Int) by omega]) hG e91 (by omega) (by omega) (hW _ (by omega)) ?_
  exact V_retI mi_207_14 (fun h => absurd h (by decide +kernel)) ⟨rfl, rfl⟩
theorem mos_ct {G : Nat → Int} (hG : GOK ad tys GG ws) (hW : W91 G ws) (hB : HB G) {k a : Nat} (hk : k < 12) (ha : a < 4) : CT l D tys A 208 0 0 0 [.ref (ad 90), .int (Int32.ofInt ((k : Int))), .int (Int32.ofInt ((a : Int)))] ws (fun r w => w = ws ∧ r = some (.int (Int32.ofInt (G (246 + 4 * k + a))))) := by
  obtain ⟨s91, e91, -⟩ := g91s
  refine CT_of_V (by omega) (show (3 : Nat) ≤ mML 208 by decide +kernel) ?_
  refine V_aload (v := ad 90) mi_208_0 (by simp [stL, lv_args, Value.category]) ?_
  refine V_getI mi_208_1 hG (rref gr1m (by omega) hG) ?_
  refine V_ipush mi_208_4 ?_
  refine V_ipush mi_208_7 ?_
  refine V_iload (v := Int32.ofInt ((k : Int))) mi_208_8 (by simp [stL, lv_args, Value.category]) ?_
  refine V_ibin mi_208_9 (by omega) ?_
  rw [ib2]
  refine V_ibin mi_208_10 (by omega) ?_
  rw [ib0]
  refine V_iload (v := Int32.ofInt ((a : Int))) mi_208_11 (by simp [stL, lv_args, Value.category]) ?_
  refine V_ibin mi_208_12 (by omega) ?_
  rw [ib0]
  refine V_aldX (j := 246 + 4 * k + a) mi_208_13 (by rw [show ((246) + ((4) * ((k : Int)))) + ((a : Int)) = ((246 + 4 * k + a : Nat) : Int) by omega]) hG e91 (by omega) (by omega) (hW _ (by omega)) ?_
  exact V_retI mi_208_14 (fun h => absurd h (by decide +kernel)) ⟨rfl, rfl⟩
theorem m2_ct {G : Nat → Int} (hG : GOK ad tys GG ws) (hW : W91 G ws) (hB : HB G) {f o : Int} (fI : I32 f) (oI : I32 o) : CT l D tys A 200 2 0 0 [.ref (ad 90), .int (Int32.ofInt (f)), .int (Int32.ofInt (o))] ws (fun r w => w = ws ∧ r = some (.int (bI (decide ((0 ≤ f ∧ f < G 3) ∧ (0 ≤ o ∧ o < G 3) ∧ f ≠ o))))) := by
  refine CT_of_V (by omega) (show (3 : Nat) ≤ mML 200 by decide +kernel) ?_
  refine V_aload (v := ad 90) mi_200_0 (by simp [stL, lv_args, Value.category]) ?_
  refine V_iload (v := Int32.ofInt (f)) mi_200_1 (by simp [stL, lv_args, Value.category]) ?_
  refine V_callM (As := [.int (Int32.ofInt (f))]) (st := []) mi_200_2 (by omega) (by decide +kernel) (by decide +kernel) hG (mfk_ct hG hW hB fI) (by omega) (show 1 = mN 199 by decide +kernel) (by simp [Value.category]) ?_
  rintro r w1 ⟨rfl, rfl⟩
  refine V_beq mi_200_5  (fun c1 => ?_) (fun c1 => ?_)
  · refine V_ipush mi_200_25 ?_
    exact V_retI mi_200_26 (fun _ => by decide) ⟨rfl, by rw [show decide ((0 ≤ f ∧ f < G 3) ∧ (0 ≤ o ∧ o < G 3) ∧ f ≠ o) = false from decide_eq_false (fun h => of_decide_eq_false c1 h.1)]; rfl⟩
  · refine V_aload (v := ad 90) mi_200_8 (by simp [stL, lv_args, Value.category]) ?_
    refine V_iload (v := Int32.ofInt (o)) mi_200_9 (by simp [stL, lv_args, Value.category]) ?_
    refine V_callM (As := [.int (Int32.ofInt (o))]) (st := []) mi_200_10 (by omega) (by decide +kernel) (by decide +kernel) hG (mfk_ct hG hW hB oI) (by omega) (show 1 = mN 199 by decide +kernel) (by simp [Value.category]) ?_
    rintro r w2 ⟨rfl, rfl⟩
    refine V_beq mi_200_13  (fun c2 => ?_) (fun c2 => ?_)
    · refine V_ipush mi_200_25 ?_
      exact V_retI mi_200_26 (fun _ => by decide) ⟨rfl, by rw [show decide ((0 ≤ f ∧ f < G 3) ∧ (0 ≤ o ∧ o < G 3) ∧ f ≠ o) = false from decide_eq_false (fun h => of_decide_eq_false c2 h.2.1)]; rfl⟩
    · refine V_iload (v := Int32.ofInt (f)) mi_200_16 (by simp [stL, lv_args, Value.category]) ?_
      refine V_iload (v := Int32.ofInt (o)) mi_200_17 (by simp [stL, lv_args, Value.category]) ?_
      refine V_ceq mi_200_18 fI oI (fun q3 => ?_) (fun q3 => ?_)
      · refine V_ipush mi_200_25 ?_
        exact V_retI mi_200_26 (fun _ => by decide) ⟨rfl, by rw [show decide ((0 ≤ f ∧ f < G 3) ∧ (0 ≤ o ∧ o < G 3) ∧ f ≠ o) = false from decide_eq_false (fun h => h.2.2 q3)]; rfl⟩
      · refine V_ipush mi_200_21 ?_
        refine V_goto mi_200_22 ?_
        exact V_retI mi_200_26 (fun _ => by decide) ⟨rfl, by rw [show decide ((0 ≤ f ∧ f < G 3) ∧ (0 ≤ o ∧ o < G 3) ∧ f ≠ o) = true from decide_eq_true ⟨of_decide_eq_true c1, of_decide_eq_true c2, q3⟩]; rfl⟩
end XHA
section XHB
variable {l : Launch} {D : va_G} {tys : List (ClassId × FieldType)} {A : Nat → Prop} {ad : Nat → Nat} {ws : va_W}
noncomputable def nameV (G : Nat → Int) (f i : Int) : Int := if 0 ≤ f ∧ f < G 3 then (if 0 ≤ i ∧ i < G (6 + 7 * f.toNat) then G (7 + 7 * f.toNat + i.toNat) else -1) else -2
theorem nmX_ct {G : Nat → Int} (hG : GOK ad tys GG ws) (hX : HX 4 G ws) (hB : HB G) {f i : Int} (fI : I32 f) (iI : I32 i) : CT l D tys A 5 2 0 0 [.ref (ad 0), .int (Int32.ofInt (f)), .int (Int32.ofInt (i))] ws (fun r w => w = ws ∧ r = some (.int (Int32.ofInt (nameV G f i)))) := by
  refine CT_of_V (by omega) (show (3 : Nat) ≤ mML 5 by decide +kernel) ?_
  refine V_aload (v := ad 0) mi_5_0 (by simp [stL, lv_args, Value.category]) ?_
  refine V_gR mi_5_1 g0r2 (by omega) hG ?_
  refine V_iload (v := Int32.ofInt (f)) mi_5_4 (by simp [stL, lv_args, Value.category]) ?_
  refine V_cO (As := [.int (Int32.ofInt (f))]) (st := []) mi_5_5 (by omega) (by decide +kernel) (by decide +kernel) (by omega) g4o hG (hfk_ct hG hX hB fI) (by omega) (show 1 = mN 102 by decide +kernel) (by simp [Value.category]) ?_
  rintro r w1 ⟨rfl, rfl⟩
  refine V_bne mi_5_8  (fun c1 => ?_) (fun c1 => ?_)
  · have c2 := of_decide_eq_true c1
    obtain ⟨b0, b1⟩ := hB.b3
    obtain ⟨m, rfl⟩ := Int.eq_ofNat_of_zero_le c2.1
    refine V_aload (v := ad 0) mi_5_14 (by simp [stL, lv_args, Value.category]) ?_
    refine V_gR mi_5_15 g0r2 (by omega) hG ?_
    refine V_iload (v := Int32.ofInt ((m : Int))) mi_5_18 (by simp [stL, lv_args, Value.category]) ?_
    refine V_iload (v := Int32.ofInt (i)) mi_5_19 (by simp [stL, lv_args, Value.category]) ?_
    refine V_cO (As := [.int (Int32.ofInt ((m : Int))), .int (Int32.ofInt (i))]) (st := []) mi_5_20 (by omega) (by decide +kernel) (by decide +kernel) (by omega) g4o hG (hsy_ct hG hX hB fI iI) (by omega) (show 2 = mN 105 by decide +kernel) (by simp [Value.category]) ?_
    rintro r w2 ⟨rfl, rfl⟩
    refine V_beq mi_5_23  (fun c3 => ?_) (fun c3 => ?_)
    · refine V_ipush mi_5_38 ?_
      have c4 := of_decide_eq_false c3
      rw [Int.toNat_natCast] at c4
      refine V_retI mi_5_39 (fun h => absurd h (by decide +kernel)) ⟨rfl, ?_⟩
      unfold nameV
      rw [Int.toNat_natCast, if_pos c2, if_neg (fun h => c4 ⟨c2, h⟩)]
    · have c4 := of_decide_eq_true c3
      rw [Int.toNat_natCast] at c4
      have c5 := c4.2
      obtain ⟨j, rfl⟩ := Int.eq_ofNat_of_zero_le c5.1
      refine V_aload (v := ad 0) mi_5_26 (by simp [stL, lv_args, Value.category]) ?_
      refine V_gR mi_5_27 g0r2 (by omega) hG ?_
      refine V_iload (v := Int32.ofInt ((m : Int))) mi_5_30 (by simp [stL, lv_args, Value.category]) ?_
      refine V_iload (v := Int32.ofInt ((j : Int))) mi_5_31 (by simp [stL, lv_args, Value.category]) ?_
      refine V_cO (As := [.int (Int32.ofInt ((m : Int))), .int (Int32.ofInt ((j : Int)))]) (st := []) mi_5_32 (by omega) (by decide +kernel) (by decide +kernel) (by omega) g4o hG (hsl_ct (o := m) (i := j) hG hX hB (by omega) c5.2) (by omega) (show 2 = mN 107 by decide +kernel) (by simp [Value.category]) ?_
      rintro r w3 ⟨rfl, rfl⟩
      refine V_goto mi_5_35 ?_
      refine V_retI mi_5_39 (fun h => absurd h (by decide +kernel)) ⟨rfl, ?_⟩
      unfold nameV
      rw [Int.toNat_natCast, Int.toNat_natCast, if_pos c2, if_pos c5]
  · refine V_ipush mi_5_11 ?_
    refine V_retI mi_5_13 (fun h => absurd h (by decide +kernel)) ⟨rfl, ?_⟩
    unfold nameV
    rw [if_neg (of_decide_eq_false c1)]
theorem nmM_ct {G : Nat → Int} (hG : GOK ad tys GG ws) (hW : W91 G ws) (hB : HB G) {f i : Int} (fI : I32 f) (iI : I32 i) : CT l D tys A 243 2 0 0 [.ref (ad 90), .int (Int32.ofInt (f)), .int (Int32.ofInt (i))] ws (fun r w => w = ws ∧ r = some (.int (Int32.ofInt (nameV G f i)))) := by
  refine CT_of_V (by omega) (show (3 : Nat) ≤ mML 243 by decide +kernel) ?_
  refine V_aload (v := ad 90) mi_243_0 (by simp [stL, lv_args, Value.category]) ?_
  refine V_iload (v := Int32.ofInt (f)) mi_243_1 (by simp [stL, lv_args, Value.category]) ?_
  refine V_callM (As := [.int (Int32.ofInt (f))]) (st := []) mi_243_2 (by omega) (by decide +kernel) (by decide +kernel) hG (mfk_ct hG hW hB fI) (by omega) (show 1 = mN 199 by decide +kernel) (by simp [Value.category]) ?_
  rintro r w1 ⟨rfl, rfl⟩
  refine V_bne mi_243_5  (fun c1 => ?_) (fun c1 => ?_)
  · have c2 := of_decide_eq_true c1
    obtain ⟨b0, b1⟩ := hB.b3
    obtain ⟨m, rfl⟩ := Int.eq_ofNat_of_zero_le c2.1
    have bl := hB.bl m (by omega)
    refine V_iload (v := Int32.ofInt (i)) mi_243_13 (by simp [stL, lv_args, Value.category]) ?_
    refine V_i2l mi_243_14 ?_
    rw [i2lx ⟨by omega, by omega⟩]
    refine V_lpush mi_243_15 ?_
    refine V_aload (v := ad 90) mi_243_16 (by simp [stL, lv_args, Value.category]) ?_
    refine V_iload (v := Int32.ofInt ((m : Int))) mi_243_17 (by simp [stL, lv_args, Value.category]) ?_
    refine V_callM (As := [.int (Int32.ofInt ((m : Int)))]) (st := [.long (Int64.ofInt (0)), .long (Int64.ofInt (i))]) mi_243_18 (by omega) (by decide +kernel) (by decide +kernel) hG (mle_ct (f := m) hG hW hB (by omega)) (by omega) (show 1 = mN 204 by decide +kernel) (by simp [Value.category]) ?_
    rintro r w2 ⟨rfl, rfl⟩
    refine V_ipush mi_243_21 ?_
    refine V_ibin mi_243_22 (by omega) ?_
    rw [ib1]
    refine V_i2l mi_243_23 ?_
    rw [i2lx ⟨by omega, by omega⟩]
    refine V_stat (As := [.long (Int64.ofInt (i)), .long (Int64.ofInt (0)), .long (Int64.ofInt ((G (6 + 7 * m)) - (1)))]) (st := []) mi_243_24 (by omega) (inM2 (m := i) (lo := 0) (hi := G (6 + 7 * m) - 1) (by omega) (by omega) (by omega) (by omega) (by omega) (by omega)) (by omega) (show 3 = mN 193 by decide +kernel) (by simp [Value.category]) ⟨Nat.le_refl _, Nat.le_refl _⟩ ?_
    rintro r w3 ⟨rfl, rfl⟩
    refine V_beq mi_243_27  (fun c3 => ?_) (fun c3 => ?_)
    · refine V_ipush mi_243_39 ?_
      have c4 := of_decide_eq_false c3
      refine V_retI mi_243_40 (fun h => absurd h (by decide +kernel)) ⟨rfl, ?_⟩
      unfold nameV
      rw [Int.toNat_natCast, if_pos c2, if_neg (by omega)]
    · have c4 := of_decide_eq_true c3
      obtain ⟨j, rfl⟩ := Int.eq_ofNat_of_zero_le c4.1
      refine V_aload (v := ad 90) mi_243_30 (by simp [stL, lv_args, Value.category]) ?_
      refine V_iload (v := Int32.ofInt ((m : Int))) mi_243_31 (by simp [stL, lv_args, Value.category]) ?_
      refine V_iload (v := Int32.ofInt ((j : Int))) mi_243_32 (by simp [stL, lv_args, Value.category]) ?_
      refine V_callM (As := [.int (Int32.ofInt ((m : Int))), .int (Int32.ofInt ((j : Int)))]) (st := []) mi_243_33 (by omega) (by decide +kernel) (by decide +kernel) hG (msl_ct (o := m) (i := j) hG hW hB (by omega) (by omega)) (by omega) (show 2 = mN 205 by decide +kernel) (by simp [Value.category]) ?_
      rintro r w4 ⟨rfl, rfl⟩
      refine V_goto mi_243_36 ?_
      refine V_retI mi_243_40 (fun h => absurd h (by decide +kernel)) ⟨rfl, ?_⟩
      unfold nameV
      rw [Int.toNat_natCast, Int.toNat_natCast, if_pos c2, if_pos (by omega)]
  · refine V_ipush mi_243_8 ?_
    refine V_goto mi_243_10 ?_
    refine V_retI mi_243_40 (fun h => absurd h (by decide +kernel)) ⟨rfl, ?_⟩
    unfold nameV
    rw [if_neg (of_decide_eq_false c1)]
noncomputable def lenV (G : Nat → Int) (f : Int) : Int := if 0 ≤ f ∧ f < G 3 then G (6 + 7 * f.toNat) else -2
theorem lnX_ct {G : Nat → Int} (hG : GOK ad tys GG ws) (hX : HX 4 G ws) (hB : HB G) {f : Int} (fI : I32 f) : CT l D tys A 6 2 0 0 [.ref (ad 0), .int (Int32.ofInt (f))] ws (fun r w => w = ws ∧ r = some (.int (Int32.ofInt (lenV G f)))) := by
  refine CT_of_V (by omega) (show (2 : Nat) ≤ mML 6 by decide +kernel) ?_
  refine V_aload (v := ad 0) mi_6_0 (by simp [stL, lv_args, Value.category]) ?_
  refine V_gR mi_6_1 g0r2 (by omega) hG ?_
  refine V_iload (v := Int32.ofInt (f)) mi_6_4 (by simp [stL, lv_args, Value.category]) ?_
  refine V_cO (As := [.int (Int32.ofInt (f))]) (st := []) mi_6_5 (by omega) (by decide +kernel) (by decide +kernel) (by omega) g4o hG (hfk_ct hG hX hB fI) (by omega) (show 1 = mN 102 by decide +kernel) (by simp [Value.category]) ?_
  rintro r w1 ⟨rfl, rfl⟩
  refine V_beq mi_6_8  (fun c1 => ?_) (fun c1 => ?_)
  · refine V_ipush mi_6_22 ?_
    refine V_retI mi_6_24 (fun h => absurd h (by decide +kernel)) ⟨rfl, ?_⟩
    unfold lenV
    rw [if_neg (of_decide_eq_false c1)]
  · have c2 := of_decide_eq_true c1
    obtain ⟨b0, b1⟩ := hB.b3
    obtain ⟨m, rfl⟩ := Int.eq_ofNat_of_zero_le c2.1
    refine V_aload (v := ad 0) mi_6_11 (by simp [stL, lv_args, Value.category]) ?_
    refine V_gR mi_6_12 g0r2 (by omega) hG ?_
    refine V_iload (v := Int32.ofInt ((m : Int))) mi_6_15 (by simp [stL, lv_args, Value.category]) ?_
    refine V_cO (As := [.int (Int32.ofInt ((m : Int)))]) (st := []) mi_6_16 (by omega) (by decide +kernel) (by decide +kernel) (by omega) g4o hG (hle_ct (f := m) hG hX hB (by omega)) (by omega) (show 1 = mN 106 by decide +kernel) (by simp [Value.category]) ?_
    rintro r w2 ⟨rfl, rfl⟩
    refine V_goto mi_6_19 ?_
    refine V_retI mi_6_24 (fun h => absurd h (by decide +kernel)) ⟨rfl, ?_⟩
    unfold lenV
    rw [Int.toNat_natCast, if_pos c2]
theorem lnM_ct {G : Nat → Int} (hG : GOK ad tys GG ws) (hW : W91 G ws) (hB : HB G) {f : Int} (fI : I32 f) : CT l D tys A 244 2 0 0 [.ref (ad 90), .int (Int32.ofInt (f))] ws (fun r w => w = ws ∧ r = some (.int (Int32.ofInt (lenV G f)))) := by
  refine CT_of_V (by omega) (show (2 : Nat) ≤ mML 244 by decide +kernel) ?_
  refine V_aload (v := ad 90) mi_244_0 (by simp [stL, lv_args, Value.category]) ?_
  refine V_iload (v := Int32.ofInt (f)) mi_244_1 (by simp [stL, lv_args, Value.category]) ?_
  refine V_callM (As := [.int (Int32.ofInt (f))]) (st := []) mi_244_2 (by omega) (by decide +kernel) (by decide +kernel) hG (mfk_ct hG hW hB fI) (by omega) (show 1 = mN 199 by decide +kernel) (by simp [Value.category]) ?_
  rintro r w1 ⟨rfl, rfl⟩
  refine V_beq mi_244_5  (fun c1 => ?_) (fun c1 => ?_)
  · refine V_ipush mi_244_16 ?_
    refine V_retI mi_244_18 (fun h => absurd h (by decide +kernel)) ⟨rfl, ?_⟩
    unfold lenV
    rw [if_neg (of_decide_eq_false c1)]
  · have c2 := of_decide_eq_true c1
    obtain ⟨b0, b1⟩ := hB.b3
    obtain ⟨m, rfl⟩ := Int.eq_ofNat_of_zero_le c2.1
    refine V_aload (v := ad 90) mi_244_8 (by simp [stL, lv_args, Value.category]) ?_
    refine V_iload (v := Int32.ofInt ((m : Int))) mi_244_9 (by simp [stL, lv_args, Value.category]) ?_
    refine V_callM (As := [.int (Int32.ofInt ((m : Int)))]) (st := []) mi_244_10 (by omega) (by decide +kernel) (by decide +kernel) hG (mle_ct (f := m) hG hW hB (by omega)) (by omega) (show 1 = mN 204 by decide +kernel) (by simp [Value.category]) ?_
    rintro r w2 ⟨rfl, rfl⟩
    refine V_goto mi_244_13 ?_
    refine V_retI mi_244_18 (fun h => absurd h (by decide +kernel)) ⟨rfl, ?_⟩
    unfold lenV
    rw [Int.toNat_natCast, if_pos c2]
noncomputable def folV (G : Nat → Int) (f a : Int) : Int := if 0 ≤ f ∧ f < G 3 then (if a = 0 then G (48 + f.toNat) else if a = 1 then G (54 + f.toNat) else if a = 2 then G (60 + f.toNat) else -2) else -2
theorem foX_ct {G : Nat → Int} (hG : GOK ad tys GG ws) (hX : HX 4 G ws) (hB : HB G) {f a : Int} (fI : I32 f) (aI : I32 a) : CT l D tys A 7 2 0 0 [.ref (ad 0), .int (Int32.ofInt (f)), .int (Int32.ofInt (a))] ws (fun r w => w = ws ∧ r = some (.int (Int32.ofInt (folV G f a)))) := by
  refine CT_of_V (by omega) (show (3 : Nat) ≤ mML 7 by decide +kernel) ?_
  refine V_aload (v := ad 0) mi_7_0 (by simp [stL, lv_args, Value.category]) ?_
  refine V_gR mi_7_1 g0r2 (by omega) hG ?_
  refine V_iload (v := Int32.ofInt (f)) mi_7_4 (by simp [stL, lv_args, Value.category]) ?_
  refine V_cO (As := [.int (Int32.ofInt (f))]) (st := []) mi_7_5 (by omega) (by decide +kernel) (by decide +kernel) (by omega) g4o hG (hfk_ct hG hX hB fI) (by omega) (show 1 = mN 102 by decide +kernel) (by simp [Value.category]) ?_
  rintro r w1 ⟨rfl, rfl⟩
  refine V_bne mi_7_8  (fun c1 => ?_) (fun c1 => ?_)
  · have c2 := of_decide_eq_true c1
    obtain ⟨b0, b1⟩ := hB.b3
    obtain ⟨m, rfl⟩ := Int.eq_ofNat_of_zero_le c2.1
    refine V_iload (v := Int32.ofInt (a)) mi_7_14 (by simp [stL, lv_args, Value.category]) ?_
    have sw : swT 7 15 (Int32.ofInt a).toInt = if a = 0 then 40 else if a = 1 then 52 else if a = 2 then 64 else 76 := by
      rw [Int32.toInt_ofInt_of_le (by have := aI.1; omega) (by have := aI.2; omega)]
      unfold swT
      rw [show mSw 7 15 = (76, 0, [40, 52, 64]) by decide +kernel]
      show (if a < 0 ∨ 0 + ((3 : Nat) : Int) ≤ a then 76 else ([40, 52, 64] : List Nat).getD (a - 0).toNat 76) = _
      by_cases e0 : a = 0
      · rw [if_neg (by omega), if_pos e0, e0]; rfl
      by_cases e1 : a = 1
      · rw [if_neg (by omega), if_neg e0, if_pos e1, e1]; rfl
      by_cases e2 : a = 2
      · rw [if_neg (by omega), if_neg e0, if_neg e1, if_pos e2, e2]; rfl
      rw [if_pos (by omega), if_neg e0, if_neg e1, if_neg e2]
    refine V_sw mi_7_15 ?_
    change V l D tys A 7 2 0 0 _ 0 0 (swT 7 15 (Int32.ofInt a).toInt) _ _ _
    rw [sw]
    by_cases e0 : a = 0
    · rw [if_pos e0]
      obtain ⟨sa, ea, fa⟩ := a7
      refine V_aload (v := ad 0) mi_7_40 (by simp [stL, lv_args, Value.category]) ?_
      refine V_gR mi_7_41 g0r2 (by omega) hG ?_
      refine V_gR mi_7_44 g4r8 (by omega) hG ?_
      refine V_iload (v := Int32.ofInt ((m : Int))) mi_7_47 (by simp [stL, lv_args, Value.category]) ?_
      refine V_stat (As := [.ref (ad 7), .int (Int32.ofInt ((m : Int)))]) (st := []) mi_7_48 (by omega) (at_ct (j := m) hG ea (by omega) (by omega) (show rd _ 7 m = some (.int (Int32.ofInt (G (48 + m)))) from HX_HY hX 3 (by omega) m (show m < 6 by omega))) (by omega) (show 2 = mN 147 by decide +kernel) (by simp [Value.category]) ⟨Nat.le_refl _, Nat.le_refl _⟩ ?_
      rintro r w3 ⟨rfl, rfl⟩
      refine V_retI mi_7_51 (fun h => absurd h (by decide +kernel)) ⟨rfl, ?_⟩
      unfold folV
      rw [Int.toNat_natCast, if_pos c2, if_pos e0]
    · rw [if_neg e0]
      by_cases e1 : a = 1
      · rw [if_pos e1]
        obtain ⟨sa, ea, fa⟩ := a8
        refine V_aload (v := ad 0) mi_7_52 (by simp [stL, lv_args, Value.category]) ?_
        refine V_gR mi_7_53 g0r2 (by omega) hG ?_
        refine V_gR mi_7_56 g4r9 (by omega) hG ?_
        refine V_iload (v := Int32.ofInt ((m : Int))) mi_7_59 (by simp [stL, lv_args, Value.category]) ?_
        refine V_stat (As := [.ref (ad 8), .int (Int32.ofInt ((m : Int)))]) (st := []) mi_7_60 (by omega) (at_ct (j := m) hG ea (by omega) (by omega) (show rd _ 8 m = some (.int (Int32.ofInt (G (54 + m)))) from HX_HY hX 4 (by omega) m (show m < 6 by omega))) (by omega) (show 2 = mN 147 by decide +kernel) (by simp [Value.category]) ⟨Nat.le_refl _, Nat.le_refl _⟩ ?_
        rintro r w3 ⟨rfl, rfl⟩
        refine V_retI mi_7_63 (fun h => absurd h (by decide +kernel)) ⟨rfl, ?_⟩
        unfold folV
        rw [Int.toNat_natCast, if_pos c2, if_neg e0, if_pos e1]
      · rw [if_neg e1]
        by_cases e2 : a = 2
        · rw [if_pos e2]
          obtain ⟨sa, ea, fa⟩ := a9
          refine V_aload (v := ad 0) mi_7_64 (by simp [stL, lv_args, Value.category]) ?_
          refine V_gR mi_7_65 g0r2 (by omega) hG ?_
          refine V_gR mi_7_68 g4r10 (by omega) hG ?_
          refine V_iload (v := Int32.ofInt ((m : Int))) mi_7_71 (by simp [stL, lv_args, Value.category]) ?_
          refine V_stat (As := [.ref (ad 9), .int (Int32.ofInt ((m : Int)))]) (st := []) mi_7_72 (by omega) (at_ct (j := m) hG ea (by omega) (by omega) (show rd _ 9 m = some (.int (Int32.ofInt (G (60 + m)))) from HX_HY hX 5 (by omega) m (show m < 6 by omega))) (by omega) (show 2 = mN 147 by decide +kernel) (by simp [Value.category]) ⟨Nat.le_refl _, Nat.le_refl _⟩ ?_
          rintro r w3 ⟨rfl, rfl⟩
          refine V_retI mi_7_75 (fun h => absurd h (by decide +kernel)) ⟨rfl, ?_⟩
          unfold folV
          rw [Int.toNat_natCast, if_pos c2, if_neg e0, if_neg e1, if_pos e2]
        · rw [if_neg e2]
          refine V_ipush mi_7_76 ?_
          refine V_retI mi_7_78 (fun h => absurd h (by decide +kernel)) ⟨rfl, ?_⟩
          unfold folV
          rw [if_pos c2, if_neg e0, if_neg e1, if_neg e2]
  · refine V_ipush mi_7_11 ?_
    refine V_retI mi_7_13 (fun h => absurd h (by decide +kernel)) ⟨rfl, ?_⟩
    unfold folV
    rw [if_neg (of_decide_eq_false c1)]
theorem foM_ct {G : Nat → Int} (hG : GOK ad tys GG ws) (hW : W91 G ws) (hB : HB G) {f a : Int} (fI : I32 f) (aI : I32 a) : CT l D tys A 245 2 0 0 [.ref (ad 90), .int (Int32.ofInt (f)), .int (Int32.ofInt (a))] ws (fun r w => w = ws ∧ r = some (.int (Int32.ofInt (folV G f a)))) := by
  obtain ⟨s91, e91, -⟩ := g91s
  refine CT_of_V (by omega) (show (3 : Nat) ≤ mML 245 by decide +kernel) ?_
  have hg := hG
  refine V_aload (v := ad 90) mi_245_0 (by simp [stL, lv_args, Value.category]) ?_
  refine V_iload (v := Int32.ofInt (f)) mi_245_1 (by simp [stL, lv_args, Value.category]) ?_
  refine V_callM (As := [.int (Int32.ofInt (f))]) (st := []) mi_245_2 (by omega) (by decide +kernel) (by decide +kernel) hG (mfk_ct hG hW hB fI) (by omega) (show 1 = mN 199 by decide +kernel) (by simp [Value.category]) ?_
  rintro r w1 ⟨rfl, rfl⟩
  refine V_beq mi_245_5  (fun c1 => ?_) (fun c1 => ?_)
  · refine V_ipush mi_245_20 ?_
    refine V_retI mi_245_22 (fun h => absurd h (by decide +kernel)) ⟨rfl, ?_⟩
    unfold folV
    rw [if_neg (of_decide_eq_false c1)]
  · have c2 := of_decide_eq_true c1
    obtain ⟨b0, b1⟩ := hB.b3
    obtain ⟨m, rfl⟩ := Int.eq_ofNat_of_zero_le c2.1
    refine V_iload (v := Int32.ofInt (a)) mi_245_8 (by simp [stL, lv_args, Value.category]) ?_
    refine V_i2l mi_245_9 ?_
    rw [i2lx ⟨by omega, by omega⟩]
    refine V_lpush mi_245_10 ?_
    refine V_lpush mi_245_11 ?_
    refine V_stat (As := [.long (Int64.ofInt (a)), .long (Int64.ofInt (0)), .long (Int64.ofInt (2))]) (st := []) mi_245_14 (by omega) (inM2 (m := a) (lo := 0) (hi := 2) (by omega) (by omega) (by omega) (by omega) (by omega) (by omega)) (by omega) (show 3 = mN 193 by decide +kernel) (by simp [Value.category]) ⟨Nat.le_refl _, Nat.le_refl _⟩ ?_
    rintro r w3 ⟨rfl, rfl⟩
    refine V_bne mi_245_17  (fun c3 => ?_) (fun c3 => ?_)
    · have c4 := of_decide_eq_true c3
      refine V_aload (v := ad 90) mi_245_23 (by simp [stL, lv_args, Value.category]) ?_
      refine V_getI mi_245_24 hG (rref gr1m (by omega) hG) ?_
      refine V_iload (v := Int32.ofInt (a)) mi_245_27 (by simp [stL, lv_args, Value.category]) ?_
      refine V_zne mi_245_28 aI (fun q => ?_) (fun q => ?_)
      · refine V_iload (v := Int32.ofInt (a)) mi_245_36 (by simp [stL, lv_args, Value.category]) ?_
        refine V_ipush mi_245_37 ?_
        refine V_cne mi_245_38 aI ⟨by omega, by omega⟩ (fun q2 => ?_) (fun q2 => ?_)
        · refine V_ipush mi_245_46 ?_
          refine V_iload (v := Int32.ofInt ((m : Int))) mi_245_48 (by simp [stL, lv_args, Value.category]) ?_
          refine V_ibin mi_245_49 (by omega) ?_
          rw [ib0]
          refine V_aldX (j := 60 + m) mi_245_50 (by rw [show (60) + ((m : Int)) = ((60 + m : Nat) : Int) by omega]) hG e91 (by omega) (by omega) (hW _ (by omega)) ?_
          refine V_retI mi_245_51 (fun h => absurd h (by decide +kernel)) ⟨rfl, ?_⟩
          unfold folV
          rw [Int.toNat_natCast, if_pos c2, if_neg q, if_neg q2, if_pos (by omega)]
        · refine V_ipush mi_245_41 ?_
          refine V_goto mi_245_43 ?_
          refine V_iload (v := Int32.ofInt ((m : Int))) mi_245_48 (by simp [stL, lv_args, Value.category]) ?_
          refine V_ibin mi_245_49 (by omega) ?_
          rw [ib0]
          refine V_aldX (j := 54 + m) mi_245_50 (by rw [show (54) + ((m : Int)) = ((54 + m : Nat) : Int) by omega]) hG e91 (by omega) (by omega) (hW _ (by omega)) ?_
          refine V_retI mi_245_51 (fun h => absurd h (by decide +kernel)) ⟨rfl, ?_⟩
          unfold folV
          rw [Int.toNat_natCast, if_pos c2, if_neg q, if_pos q2]
      · refine V_ipush mi_245_31 ?_
        refine V_goto mi_245_33 ?_
        refine V_iload (v := Int32.ofInt ((m : Int))) mi_245_48 (by simp [stL, lv_args, Value.category]) ?_
        refine V_ibin mi_245_49 (by omega) ?_
        rw [ib0]
        refine V_aldX (j := 48 + m) mi_245_50 (by rw [show (48) + ((m : Int)) = ((48 + m : Nat) : Int) by omega]) hG e91 (by omega) (by omega) (hW _ (by omega)) ?_
        refine V_retI mi_245_51 (fun h => absurd h (by decide +kernel)) ⟨rfl, ?_⟩
        unfold folV
        rw [Int.toNat_natCast, if_pos c2, if_pos q]
    · refine V_ipush mi_245_20 ?_
      have c4 := of_decide_eq_false c3
      refine V_retI mi_245_22 (fun h => absurd h (by decide +kernel)) ⟨rfl, ?_⟩
      unfold folV
      rw [if_pos c2, if_neg (by omega), if_neg (by omega), if_neg (by omega)]
noncomputable def plaV (G : Nat → Int) (f h : Int) : Int := if (0 ≤ f ∧ f < G 3) ∧ 0 ≤ h ∧ h < G 2 then G (102 + (24 * f.toNat + h.toNat)) else -2
theorem plX_ct {G : Nat → Int} (hG : GOK ad tys GG ws) (hX : HX 4 G ws) (hB : HB G) {f h : Int} (fI : I32 f) (hI : I32 h) : CT l D tys A 8 3 0 0 [.ref (ad 0), .int (Int32.ofInt (f)), .int (Int32.ofInt (h))] ws (fun r w => w = ws ∧ r = some (.int (Int32.ofInt (plaV G f h)))) := by
  refine CT_of_V (by omega) (show (3 : Nat) ≤ mML 8 by decide +kernel) ?_
  refine V_aload (v := ad 0) mi_8_0 (by simp [stL, lv_args, Value.category]) ?_
  refine V_gR mi_8_1 g0r2 (by omega) hG ?_
  refine V_iload (v := Int32.ofInt (f)) mi_8_4 (by simp [stL, lv_args, Value.category]) ?_
  refine V_cO (As := [.int (Int32.ofInt (f))]) (st := []) mi_8_5 (by omega) (by decide +kernel) (by decide +kernel) (by omega) g4o hG (hfk_ct hG hX hB fI) (by omega) (show 1 = mN 102 by decide +kernel) (by simp [Value.category]) ?_
  rintro r w1 ⟨rfl, rfl⟩
  refine V_beq mi_8_8  (fun c1 => ?_) (fun c1 => ?_)
  · refine V_ipush mi_8_34 ?_
    refine V_retI mi_8_36 (fun h => absurd h (by decide +kernel)) ⟨rfl, ?_⟩
    unfold plaV
    rw [if_neg (fun h => of_decide_eq_false c1 h.1)]
  · have c2 := of_decide_eq_true c1
    obtain ⟨b0, b1⟩ := hB.b3
    obtain ⟨b2, b4⟩ := hB.b2
    obtain ⟨m, rfl⟩ := Int.eq_ofNat_of_zero_le c2.1
    refine V_aload (v := ad 0) mi_8_11 (by simp [stL, lv_args, Value.category]) ?_
    refine V_gR mi_8_12 g0r2 (by omega) hG ?_
    refine V_iload (v := Int32.ofInt (h)) mi_8_15 (by simp [stL, lv_args, Value.category]) ?_
    refine V_cO (As := [.int (Int32.ofInt (h))]) (st := []) mi_8_16 (by omega) (by decide +kernel) (by decide +kernel) (by omega) g4o hG (hho_ct hG hX hB hI) (by omega) (show 1 = mN 103 by decide +kernel) (by simp [Value.category]) ?_
    rintro r w2 ⟨rfl, rfl⟩
    refine V_beq mi_8_19  (fun c3 => ?_) (fun c3 => ?_)
    · refine V_ipush mi_8_34 ?_
      refine V_retI mi_8_36 (fun h => absurd h (by decide +kernel)) ⟨rfl, ?_⟩
      unfold plaV
      rw [if_neg (fun h => of_decide_eq_false c3 h.2)]
    · have c4 := of_decide_eq_true c3
      obtain ⟨j, rfl⟩ := Int.eq_ofNat_of_zero_le c4.1
      refine V_aload (v := ad 0) mi_8_22 (by simp [stL, lv_args, Value.category]) ?_
      refine V_gR mi_8_23 g0r2 (by omega) hG ?_
      refine V_iload (v := Int32.ofInt ((m : Int))) mi_8_26 (by simp [stL, lv_args, Value.category]) ?_
      refine V_iload (v := Int32.ofInt ((j : Int))) mi_8_27 (by simp [stL, lv_args, Value.category]) ?_
      refine V_cO (As := [.int (Int32.ofInt ((m : Int))), .int (Int32.ofInt ((j : Int)))]) (st := []) mi_8_28 (by omega) (by decide +kernel) (by decide +kernel) (by omega) g4o hG (hpl_ct (f := m) (h := j) hG hX hB c2.2 c4.2) (by omega) (show 2 = mN 110 by decide +kernel) (by simp [Value.category]) ?_
      rintro r w3 ⟨rfl, rfl⟩
      refine V_goto mi_8_31 ?_
      refine V_retI mi_8_36 (fun h => absurd h (by decide +kernel)) ⟨rfl, ?_⟩
      unfold plaV
      rw [Int.toNat_natCast, Int.toNat_natCast, if_pos ⟨c2, c4⟩]
theorem plM_ct {G : Nat → Int} (hG : GOK ad tys GG ws) (hW : W91 G ws) (hB : HB G) {f h : Int} (fI : I32 f) (hI : I32 h) : CT l D tys A 246 3 0 0 [.ref (ad 90), .int (Int32.ofInt (f)), .int (Int32.ofInt (h))] ws (fun r w => w = ws ∧ r = some (.int (Int32.ofInt (plaV G f h)))) := by
  refine CT_of_V (by omega) (show (3 : Nat) ≤ mML 246 by decide +kernel) ?_
  refine V_aload (v := ad 90) mi_246_0 (by simp [stL, lv_args, Value.category]) ?_
  refine V_iload (v := Int32.ofInt (f)) mi_246_1 (by simp [stL, lv_args, Value.category]) ?_
  refine V_callM (As := [.int (Int32.ofInt (f))]) (st := []) mi_246_2 (by omega) (by decide +kernel) (by decide +kernel) hG (mfk_ct hG hW hB fI) (by omega) (show 1 = mN 199 by decide +kernel) (by simp [Value.category]) ?_
  rintro r w1 ⟨rfl, rfl⟩
  refine V_beq mi_246_5  (fun c1 => ?_) (fun c1 => ?_)
  · refine V_ipush mi_246_25 ?_
    refine V_retI mi_246_27 (fun h => absurd h (by decide +kernel)) ⟨rfl, ?_⟩
    unfold plaV
    rw [if_neg (fun h => of_decide_eq_false c1 h.1)]
  · have c2 := of_decide_eq_true c1
    obtain ⟨b0, b1⟩ := hB.b3
    obtain ⟨b2, b4⟩ := hB.b2
    obtain ⟨m, rfl⟩ := Int.eq_ofNat_of_zero_le c2.1
    refine V_aload (v := ad 90) mi_246_8 (by simp [stL, lv_args, Value.category]) ?_
    refine V_iload (v := Int32.ofInt (h)) mi_246_9 (by simp [stL, lv_args, Value.category]) ?_
    refine V_callM (As := [.int (Int32.ofInt (h))]) (st := []) mi_246_10 (by omega) (by decide +kernel) (by decide +kernel) hG (mho_ct hG hW hB hI) (by omega) (show 1 = mN 201 by decide +kernel) (by simp [Value.category]) ?_
    rintro r w2 ⟨rfl, rfl⟩
    refine V_beq mi_246_13  (fun c3 => ?_) (fun c3 => ?_)
    · refine V_ipush mi_246_25 ?_
      refine V_retI mi_246_27 (fun h => absurd h (by decide +kernel)) ⟨rfl, ?_⟩
      unfold plaV
      rw [if_neg (fun h => of_decide_eq_false c3 h.2)]
    · have c4 := of_decide_eq_true c3
      obtain ⟨j, rfl⟩ := Int.eq_ofNat_of_zero_le c4.1
      refine V_aload (v := ad 90) mi_246_16 (by simp [stL, lv_args, Value.category]) ?_
      refine V_iload (v := Int32.ofInt ((m : Int))) mi_246_17 (by simp [stL, lv_args, Value.category]) ?_
      refine V_iload (v := Int32.ofInt ((j : Int))) mi_246_18 (by simp [stL, lv_args, Value.category]) ?_
      refine V_callM (As := [.int (Int32.ofInt ((m : Int))), .int (Int32.ofInt ((j : Int)))]) (st := []) mi_246_19 (by omega) (by decide +kernel) (by decide +kernel) hG (mpl_ct (f := m) (h := j) hG hW hB (by omega) (by omega)) (by omega) (show 2 = mN 207 by decide +kernel) (by simp [Value.category]) ?_
      rintro r w3 ⟨rfl, rfl⟩
      refine V_goto mi_246_22 ?_
      refine V_retI mi_246_27 (fun h => absurd h (by decide +kernel)) ⟨rfl, ?_⟩
      unfold plaV
      rw [Int.toNat_natCast, Int.toNat_natCast, if_pos ⟨c2, c4⟩]
noncomputable def sayV (G : Nat → Int) (s a : Int) : Int := if 0 ≤ s ∧ s < G 4 then (if a = 0 then G (246 + 4 * s.toNat) else if a = 1 then G (246 + 4 * s.toNat + 1) else if a = 2 then G (246 + 4 * s.toNat + 2) else if a = 3 then G (246 + 4 * s.toNat + 3) else -2) else -2
theorem syX_ct {G : Nat → Int} (hG : GOK ad tys GG ws) (hX : HX 4 G ws) (hB : HB G) {s a : Int} (sI : I32 s) (aI : I32 a) : CT l D tys A 9 2 0 0 [.ref (ad 0), .int (Int32.ofInt (s)), .int (Int32.ofInt (a))] ws (fun r w => w = ws ∧ r = some (.int (Int32.ofInt (sayV G s a)))) := by
  refine CT_of_V (by omega) (show (3 : Nat) ≤ mML 9 by decide +kernel) ?_
  refine V_aload (v := ad 0) mi_9_0 (by simp [stL, lv_args, Value.category]) ?_
  refine V_gR mi_9_1 g0r2 (by omega) hG ?_
  refine V_iload (v := Int32.ofInt (s)) mi_9_4 (by simp [stL, lv_args, Value.category]) ?_
  refine V_cO (As := [.int (Int32.ofInt (s))]) (st := []) mi_9_5 (by omega) (by decide +kernel) (by decide +kernel) (by omega) g4o hG (hsa_ct hG hX hB sI) (by omega) (show 1 = mN 104 by decide +kernel) (by simp [Value.category]) ?_
  rintro r w1 ⟨rfl, rfl⟩
  refine V_bne mi_9_8  (fun c1 => ?_) (fun c1 => ?_)
  · have c2 := of_decide_eq_true c1
    obtain ⟨b0, b1⟩ := hB.b4
    obtain ⟨m, rfl⟩ := Int.eq_ofNat_of_zero_le c2.1
    refine V_iload (v := Int32.ofInt (a)) mi_9_14 (by simp [stL, lv_args, Value.category]) ?_
    have sw : swT 9 15 (Int32.ofInt a).toInt = if a = 0 then 44 else if a = 1 then 56 else if a = 2 then 68 else if a = 3 then 80 else 92 := by
      rw [Int32.toInt_ofInt_of_le (by have := aI.1; omega) (by have := aI.2; omega)]
      unfold swT
      rw [show mSw 9 15 = (92, 0, [44, 56, 68, 80]) by decide +kernel]
      show (if a < 0 ∨ 0 + ((4 : Nat) : Int) ≤ a then 92 else ([44, 56, 68, 80] : List Nat).getD (a - 0).toNat 92) = _
      by_cases e0 : a = 0
      · rw [if_neg (by omega), if_pos e0, e0]; rfl
      by_cases e1 : a = 1
      · rw [if_neg (by omega), if_neg e0, if_pos e1, e1]; rfl
      by_cases e2 : a = 2
      · rw [if_neg (by omega), if_neg e0, if_neg e1, if_pos e2, e2]; rfl
      by_cases e3 : a = 3
      · rw [if_neg (by omega), if_neg e0, if_neg e1, if_neg e2, if_pos e3, e3]; rfl
      rw [if_pos (by omega), if_neg e0, if_neg e1, if_neg e2, if_neg e3]
    refine V_sw mi_9_15 ?_
    change V l D tys A 9 2 0 0 _ 0 0 (swT 9 15 (Int32.ofInt a).toInt) _ _ _
    rw [sw]
    by_cases e0 : a = 0
    · rw [if_pos e0]
      obtain ⟨sa, ea, fa⟩ := a12
      have hx : rd w1 12 m = some (.int (Int32.ofInt (G (246 + 4 * m)))) := by
        have h := HX_HY hX 8 (by omega) m (show m < 12 by omega)
        exact h
      refine V_aload (v := ad 0) mi_9_44 (by simp [stL, lv_args, Value.category]) ?_
      refine V_gR mi_9_45 g0r2 (by omega) hG ?_
      refine V_gR mi_9_48 g4r13 (by omega) hG ?_
      refine V_iload (v := Int32.ofInt ((m : Int))) mi_9_51 (by simp [stL, lv_args, Value.category]) ?_
      refine V_stat (As := [.ref (ad 12), .int (Int32.ofInt ((m : Int)))]) (st := []) mi_9_52 (by omega) (at_ct (j := m) hG ea (by omega) (by omega) hx) (by omega) (show 2 = mN 147 by decide +kernel) (by simp [Value.category]) ⟨Nat.le_refl _, Nat.le_refl _⟩ ?_
      rintro r w3 ⟨rfl, rfl⟩
      refine V_retI mi_9_55 (fun h => absurd h (by decide +kernel)) ⟨rfl, ?_⟩
      unfold sayV
      rw [Int.toNat_natCast, if_pos c2, if_pos e0]
    · rw [if_neg e0]
      by_cases e1 : a = 1
      · rw [if_pos e1]
        obtain ⟨sa, ea, fa⟩ := a13
        have hx : rd w1 13 m = some (.int (Int32.ofInt (G (246 + 4 * m + 1)))) := by
          have h := HX_HY hX 9 (by omega) m (show m < 12 by omega)
          exact h
        refine V_aload (v := ad 0) mi_9_56 (by simp [stL, lv_args, Value.category]) ?_
        refine V_gR mi_9_57 g0r2 (by omega) hG ?_
        refine V_gR mi_9_60 g4r14 (by omega) hG ?_
        refine V_iload (v := Int32.ofInt ((m : Int))) mi_9_63 (by simp [stL, lv_args, Value.category]) ?_
        refine V_stat (As := [.ref (ad 13), .int (Int32.ofInt ((m : Int)))]) (st := []) mi_9_64 (by omega) (at_ct (j := m) hG ea (by omega) (by omega) hx) (by omega) (show 2 = mN 147 by decide +kernel) (by simp [Value.category]) ⟨Nat.le_refl _, Nat.le_refl _⟩ ?_
        rintro r w3 ⟨rfl, rfl⟩
        refine V_retI mi_9_67 (fun h => absurd h (by decide +kernel)) ⟨rfl, ?_⟩
        unfold sayV
        rw [Int.toNat_natCast, if_pos c2, if_neg e0, if_pos e1]
      · rw [if_neg e1]
        by_cases e2 : a = 2
        · rw [if_pos e2]
          obtain ⟨sa, ea, fa⟩ := a14
          have hx : rd w1 14 m = some (.int (Int32.ofInt (G (246 + 4 * m + 2)))) := by
            have h := HX_HY hX 10 (by omega) m (show m < 12 by omega)
            exact h
          refine V_aload (v := ad 0) mi_9_68 (by simp [stL, lv_args, Value.category]) ?_
          refine V_gR mi_9_69 g0r2 (by omega) hG ?_
          refine V_gR mi_9_72 g4r15 (by omega) hG ?_
          refine V_iload (v := Int32.ofInt ((m : Int))) mi_9_75 (by simp [stL, lv_args, Value.category]) ?_
          refine V_stat (As := [.ref (ad 14), .int (Int32.ofInt ((m : Int)))]) (st := []) mi_9_76 (by omega) (at_ct (j := m) hG ea (by omega) (by omega) hx) (by omega) (show 2 = mN 147 by decide +kernel) (by simp [Value.category]) ⟨Nat.le_refl _, Nat.le_refl _⟩ ?_
          rintro r w3 ⟨rfl, rfl⟩
          refine V_retI mi_9_79 (fun h => absurd h (by decide +kernel)) ⟨rfl, ?_⟩
          unfold sayV
          rw [Int.toNat_natCast, if_pos c2, if_neg e0, if_neg e1, if_pos e2]
        · rw [if_neg e2]
          by_cases e3 : a = 3
          · rw [if_pos e3]
            obtain ⟨sa, ea, fa⟩ := a15
            have hx : rd w1 15 m = some (.int (Int32.ofInt (G (246 + 4 * m + 3)))) := by
              have h := HX_HY hX 11 (by omega) m (show m < 12 by omega)
              exact h
            refine V_aload (v := ad 0) mi_9_80 (by simp [stL, lv_args, Value.category]) ?_
            refine V_gR mi_9_81 g0r2 (by omega) hG ?_
            refine V_gR mi_9_84 g4r16 (by omega) hG ?_
            refine V_iload (v := Int32.ofInt ((m : Int))) mi_9_87 (by simp [stL, lv_args, Value.category]) ?_
            refine V_stat (As := [.ref (ad 15), .int (Int32.ofInt ((m : Int)))]) (st := []) mi_9_88 (by omega) (at_ct (j := m) hG ea (by omega) (by omega) hx) (by omega) (show 2 = mN 147 by decide +kernel) (by simp [Value.category]) ⟨Nat.le_refl _, Nat.le_refl _⟩ ?_
            rintro r w3 ⟨rfl, rfl⟩
            refine V_retI mi_9_91 (fun h => absurd h (by decide +kernel)) ⟨rfl, ?_⟩
            unfold sayV
            rw [Int.toNat_natCast, if_pos c2, if_neg e0, if_neg e1, if_neg e2, if_pos e3]
          · rw [if_neg e3]
            refine V_ipush mi_9_92 ?_
            refine V_retI mi_9_94 (fun h => absurd h (by decide +kernel)) ⟨rfl, ?_⟩
            unfold sayV
            rw [if_pos c2, if_neg e0, if_neg e1, if_neg e2, if_neg e3]
  · refine V_ipush mi_9_11 ?_
    refine V_retI mi_9_13 (fun h => absurd h (by decide +kernel)) ⟨rfl, ?_⟩
    unfold sayV
    rw [if_neg (of_decide_eq_false c1)]
theorem syM_ct {G : Nat → Int} (hG : GOK ad tys GG ws) (hW : W91 G ws) (hB : HB G) {s a : Int} (sI : I32 s) (aI : I32 a) : CT l D tys A 247 2 0 0 [.ref (ad 90), .int (Int32.ofInt (s)), .int (Int32.ofInt (a))] ws (fun r w => w = ws ∧ r = some (.int (Int32.ofInt (sayV G s a)))) := by
  refine CT_of_V (by omega) (show (3 : Nat) ≤ mML 247 by decide +kernel) ?_
  refine V_aload (v := ad 90) mi_247_0 (by simp [stL, lv_args, Value.category]) ?_
  refine V_iload (v := Int32.ofInt (s)) mi_247_1 (by simp [stL, lv_args, Value.category]) ?_
  refine V_callM (As := [.int (Int32.ofInt (s))]) (st := []) mi_247_2 (by omega) (by decide +kernel) (by decide +kernel) hG (msa_ct hG hW hB sI) (by omega) (show 1 = mN 202 by decide +kernel) (by simp [Value.category]) ?_
  rintro r w1 ⟨rfl, rfl⟩
  refine V_beq mi_247_5  (fun c1 => ?_) (fun c1 => ?_)
  · refine V_ipush mi_247_29 ?_
    refine V_retI mi_247_31 (fun h => absurd h (by decide +kernel)) ⟨rfl, ?_⟩
    unfold sayV
    rw [if_neg (of_decide_eq_false c1)]
  · have c2 := of_decide_eq_true c1
    obtain ⟨b0, b1⟩ := hB.b4
    obtain ⟨m, rfl⟩ := Int.eq_ofNat_of_zero_le c2.1
    refine V_iload (v := Int32.ofInt (a)) mi_247_8 (by simp [stL, lv_args, Value.category]) ?_
    refine V_i2l mi_247_9 ?_
    rw [i2lx ⟨by omega, by omega⟩]
    refine V_lpush mi_247_10 ?_
    refine V_lpush mi_247_11 ?_
    refine V_stat (As := [.long (Int64.ofInt (a)), .long (Int64.ofInt (0)), .long (Int64.ofInt (3))]) (st := []) mi_247_14 (by omega) (inM2 (m := a) (lo := 0) (hi := 3) (by omega) (by omega) (by omega) (by omega) (by omega) (by omega)) (by omega) (show 3 = mN 193 by decide +kernel) (by simp [Value.category]) ⟨Nat.le_refl _, Nat.le_refl _⟩ ?_
    rintro r w3 ⟨rfl, rfl⟩
    refine V_beq mi_247_17  (fun c3 => ?_) (fun c3 => ?_)
    · refine V_ipush mi_247_29 ?_
      have c4 := of_decide_eq_false c3
      refine V_retI mi_247_31 (fun h => absurd h (by decide +kernel)) ⟨rfl, ?_⟩
      unfold sayV
      rw [if_pos c2, if_neg (by omega), if_neg (by omega), if_neg (by omega), if_neg (by omega)]
    · have c4 := of_decide_eq_true c3
      obtain ⟨j, rfl⟩ := Int.eq_ofNat_of_zero_le c4.1
      refine V_aload (v := ad 90) mi_247_20 (by simp [stL, lv_args, Value.category]) ?_
      refine V_iload (v := Int32.ofInt ((m : Int))) mi_247_21 (by simp [stL, lv_args, Value.category]) ?_
      refine V_iload (v := Int32.ofInt ((j : Int))) mi_247_22 (by simp [stL, lv_args, Value.category]) ?_
      refine V_callM (As := [.int (Int32.ofInt ((m : Int))), .int (Int32.ofInt ((j : Int)))]) (st := []) mi_247_23 (by omega) (by decide +kernel) (by decide +kernel) hG (mos_ct (k := m) (a := j) hG hW hB (by omega) (by omega)) (by omega) (show 2 = mN 208 by decide +kernel) (by simp [Value.category]) ?_
      rintro r w4 ⟨rfl, rfl⟩
      refine V_goto mi_247_26 ?_
      refine V_retI mi_247_31 (fun h => absurd h (by decide +kernel)) ⟨rfl, ?_⟩
      unfold sayV
      rw [Int.toNat_natCast, if_pos c2]
      rcases (show j = 0 ∨ j = 1 ∨ j = 2 ∨ j = 3 by omega) with rfl | rfl | rfl | rfl
      · rw [if_pos (by omega)]
        rfl
      · rw [if_neg (by omega), if_pos (by omega)]
      · rw [if_neg (by omega), if_neg (by omega), if_pos (by omega)]
      · rw [if_neg (by omega), if_neg (by omega), if_neg (by omega), if_pos (by omega)]
end XHB
end
section
section XHC
variable {l : Launch} {D : va_G} {tys : List (ClassId × FieldType)} {A : Nat → Prop} {ad : Nat → Nat} {ws : va_W}
theorem hok_up {G : Nat → Int} {j : Nat} {z : Int} (h : hOK G) (hz : I32 z) : hOK (updI G j z) := fun i hi => by
  show I32 (if i = j then z else G i)
  split
  · exact hz
  · exact h i hi
/-- what the class may change besides, when its hill changes -/
noncomputable def XO (w0 w : va_W) : Prop := ∀ c j, ¬ ((4 ≤ c ∧ c ≤ 15) ∨ (29 ≤ c ∧ c ≤ 35)) → rd w c j = rd w0 c j
theorem XO_rf {w : va_W} : XO w w := fun _ _ _ => rfl
noncomputable def MO (w0 w : va_W) : Prop := ∀ c j, c ≠ 91 → rd w c j = rd w0 c j
theorem MO_rf {w : va_W} : MO w w := fun _ _ _ => rfl
theorem set_ct (hAD : ∀ i : Nat, ad (1000 + i) = D.2 1000 i) (hG : GOK ad tys GG ws) : ∃ d', d' < 7 ∧ CT l D tys A 73 d' 0 0 [.ref (ad 0)] ws (fun r w => r = none ∧ GOK ad tys GG w ∧ ∀ c j, ¬ (29 ≤ c ∧ c ≤ 35) → rd w c j = rd ws c j) := by
  obtain ⟨d5, k1, k2⟩ := rSet hAD (l := l) (tys := tys) (A := A) [.ref (ad 0)] ws ⟨rfl, trivial⟩ hG (fun q hq => by cases hq)
  refine ⟨d5, k1, CT_post k2 (fun r w h => ?_)⟩
  obtain ⟨G4, f4, n4, -⟩ := h
  refine ⟨?_, G4, fun c j hn => f4.1 c (fun hc => hn (by have hc : c ∈ [29, 30, 31, 32, 33, 34, 35] := hc; simp only [List.mem_cons, List.not_mem_nil, or_false] at hc; omega)) j⟩
  cases r with
  | none => rfl
  | some v => exact n4.elim
noncomputable def okSy (G : Nat → Int) (f o i h : Int) : Prop := (0 ≤ f ∧ f < G 3) ∧ ((0 ≤ o ∧ o < G 3) ∧ 0 ≤ i ∧ i < G (6 + 7 * o.toNat)) ∧ 0 ≤ h ∧ h < G 2
noncomputable def sayG (G : Nat → Int) (f o i h : Int) : Nat → Int := updI (updI (updI (updI (updI G (246 + 4 * (G 4).toNat + 0) f) (246 + 4 * (G 4).toNat + 1) o) (246 + 4 * (G 4).toNat + 2) i) (246 + 4 * (G 4).toNat + 3) h) 4 (G 4 + 1)
theorem say_hy {k r : Nat} (hk : k < 12) (hr : r < 4) : 246 + 4 * k + r < 294 ∧ 12 + r = 4 + hxC (246 + 4 * k + r) ∧ k = hxI (246 + 4 * k + r) := by
  obtain ⟨⟨a, -⟩, b, c⟩ := say_hx hk hr
  exact ⟨a, by omega, c⟩
theorem adh_ct {G : Nat → Int} (hG : GOK ad tys GG ws) (hX : HX 4 G ws) (hB : HB G) {a b c e : Int} (h12 : G 4 < 12) : CT l D tys A 112 1 0 0 [.ref (ad 4), .int (Int32.ofInt (a)), .int (Int32.ofInt (b)), .int (Int32.ofInt (c)), .int (Int32.ofInt (e))] ws (fun r w => r = none ∧ GOK ad tys GG w ∧ HX 4 (sayG G a b c e) w ∧ XO ws w) := by
  refine CT_of_V (by omega) (show (5 : Nat) ≤ mML 112 by decide +kernel) ?_
  refine V_aload (v := ad 4) mi_112_0 (by simp [stL, lv_args, Value.category]) ?_
  refine V_gO mi_112_1 g4o hG (show rd ws 4 5 = some (.int (Int32.ofInt (G 4))) from hx0 hX (i := 5) (by omega)) ?_
  refine V_ipush mi_112_4 ?_
  refine V_cge mi_112_6 ⟨by have := hB.b4; omega, by have := hB.b4; omega⟩ ⟨by omega, by omega⟩ (fun q => ?_) (fun q => ?_)
  · exact absurd q (by omega)
  · obtain ⟨k, hk⟩ := Int.eq_ofNat_of_zero_le hB.b4.1
    have k12 : k < 12 := by omega
    have kn : (G 4).toNat = k := by omega
    have h4 : rd ws 4 5 = some (.int (Int32.ofInt (k : Int))) := by rw [← hk]; exact hx0 hX (i := 5) (by omega)
    obtain ⟨s12, e12, f12⟩ := a12
    refine V_aload (v := ad 4) mi_112_9 (by simp [stL, lv_args, Value.category]) ?_
    refine V_gR mi_112_10 g4r13 (by omega) hG ?_
    refine V_aload (v := ad 4) mi_112_13 (by simp [stL, lv_args, Value.category]) ?_
    refine V_gO mi_112_14 g4o hG (h4) ?_
    refine V_iload (v := Int32.ofInt (a)) mi_112_17 (by simp [stL, lv_args, Value.category]) ?_
    refine V_stat (As := [.ref (ad 12), .int (Int32.ofInt ((k : Int))), .int (Int32.ofInt (a))]) (st := []) mi_112_18 (by omega) (put_ct (j := k) hG e12 k12 (by omega) (f12 _ k12) (i32b _).1 (i32b _).2) (by omega) (show 3 = mN 148 by decide +kernel) (by simp [Value.category]) ⟨Nat.le_refl _, Nat.le_refl _⟩ ?_
    rintro r w0 ⟨rfl, G0, U0⟩
    obtain ⟨y1, y2, y3⟩ := say_hy k12 (r := 0) (by omega)
    have hX0 := HX_upd (j := 246 + 4 * k + 0) (z := a) hX y1 (by rw [← y2, ← y3]; exact U0)
    have h4_0 := (upd_ne U0 (by omega)).trans h4
    obtain ⟨s13, e13, f13⟩ := a13
    refine V_aload (v := ad 4) mi_112_21 (by simp [stL, lv_args, Value.category]) ?_
    refine V_gR mi_112_22 g4r14 (by omega) G0 ?_
    refine V_aload (v := ad 4) mi_112_25 (by simp [stL, lv_args, Value.category]) ?_
    refine V_gO mi_112_26 g4o G0 (h4_0) ?_
    refine V_iload (v := Int32.ofInt (b)) mi_112_29 (by simp [stL, lv_args, Value.category]) ?_
    refine V_stat (As := [.ref (ad 13), .int (Int32.ofInt ((k : Int))), .int (Int32.ofInt (b))]) (st := []) mi_112_30 (by omega) (put_ct (j := k) G0 e13 k12 (by omega) (f13 _ k12) (i32b _).1 (i32b _).2) (by omega) (show 3 = mN 148 by decide +kernel) (by simp [Value.category]) ⟨Nat.le_refl _, Nat.le_refl _⟩ ?_
    rintro r w1 ⟨rfl, G1, U1⟩
    obtain ⟨y1, y2, y3⟩ := say_hy k12 (r := 1) (by omega)
    have hX1 := HX_upd (j := 246 + 4 * k + 1) (z := b) hX0 y1 (by rw [← y2, ← y3]; exact U1)
    have h4_1 := (upd_ne U1 (by omega)).trans h4_0
    obtain ⟨s14, e14, f14⟩ := a14
    refine V_aload (v := ad 4) mi_112_33 (by simp [stL, lv_args, Value.category]) ?_
    refine V_gR mi_112_34 g4r15 (by omega) G1 ?_
    refine V_aload (v := ad 4) mi_112_37 (by simp [stL, lv_args, Value.category]) ?_
    refine V_gO mi_112_38 g4o G1 (h4_1) ?_
    refine V_iload (v := Int32.ofInt (c)) mi_112_41 (by simp [stL, lv_args, Value.category]) ?_
    refine V_stat (As := [.ref (ad 14), .int (Int32.ofInt ((k : Int))), .int (Int32.ofInt (c))]) (st := []) mi_112_42 (by omega) (put_ct (j := k) G1 e14 k12 (by omega) (f14 _ k12) (i32b _).1 (i32b _).2) (by omega) (show 3 = mN 148 by decide +kernel) (by simp [Value.category]) ⟨Nat.le_refl _, Nat.le_refl _⟩ ?_
    rintro r w2 ⟨rfl, G2, U2⟩
    obtain ⟨y1, y2, y3⟩ := say_hy k12 (r := 2) (by omega)
    have hX2 := HX_upd (j := 246 + 4 * k + 2) (z := c) hX1 y1 (by rw [← y2, ← y3]; exact U2)
    have h4_2 := (upd_ne U2 (by omega)).trans h4_1
    obtain ⟨s15, e15, f15⟩ := a15
    refine V_aload (v := ad 4) mi_112_45 (by simp [stL, lv_args, Value.category]) ?_
    refine V_gR mi_112_46 g4r16 (by omega) G2 ?_
    refine V_aload (v := ad 4) mi_112_49 (by simp [stL, lv_args, Value.category]) ?_
    refine V_gO mi_112_50 g4o G2 (h4_2) ?_
    refine V_iload (v := Int32.ofInt (e)) mi_112_53 (by simp [stL, lv_args, Value.category]) ?_
    refine V_stat (As := [.ref (ad 15), .int (Int32.ofInt ((k : Int))), .int (Int32.ofInt (e))]) (st := []) mi_112_55 (by omega) (put_ct (j := k) G2 e15 k12 (by omega) (f15 _ k12) (i32b _).1 (i32b _).2) (by omega) (show 3 = mN 148 by decide +kernel) (by simp [Value.category]) ⟨Nat.le_refl _, Nat.le_refl _⟩ ?_
    rintro r w3 ⟨rfl, G3, U3⟩
    obtain ⟨y1, y2, y3⟩ := say_hy k12 (r := 3) (by omega)
    have hX3 := HX_upd (j := 246 + 4 * k + 3) (z := e) hX2 y1 (by rw [← y2, ← y3]; exact U3)
    have h4_3 := (upd_ne U3 (by omega)).trans h4_2
    refine V_aload (v := ad 4) mi_112_58 (by simp [stL, lv_args, Value.category]) ?_
    refine V_dup mi_112_59 (by simp [Value.category]) ?_
    refine V_gO mi_112_60 g4o G3 (h4_3) ?_
    refine V_ipush mi_112_63 ?_
    refine V_ibin mi_112_64 (by omega) ?_
    rw [ib0]
    refine V_pO mi_112_65 g4f5 (by omega) (by decide +kernel) (by decide +kernel) G3 (by rw [Int32.toInt_ofInt_of_le (by omega) (by omega)]; omega) (by rw [Int32.toInt_ofInt_of_le (by omega) (by omega)]; omega) (fun w4 G4 U4 => ?_)
    have hX4 := HX_upd (j := 4) (z := (k : Int) + 1) hX3 (by omega) U4
    refine V_retV mi_112_68 ⟨rfl, G4, ?_, fun c' j hn => (upd_ne U4 (by omega)).trans ((upd_ne U3 (by omega)).trans ((upd_ne U2 (by omega)).trans ((upd_ne U1 (by omega)).trans (upd_ne U0 (by omega)))))⟩
    unfold sayG
    rw [kn, hk]
    exact hX4
theorem sayM_ct {G : Nat → Int} (hG : GOK ad tys GG ws) (hW : W91 G ws) (hB : HB G) {f o i h : Int} (fI : I32 f) (oI : I32 o) (iI : I32 i) (hI : I32 h) : CT l D tys A 291 4 0 0 [.ref (ad 90), .int (Int32.ofInt (f)), .int (Int32.ofInt (o)), .int (Int32.ofInt (i)), .int (Int32.ofInt (h))] ws (fun r w => GOK ad tys GG w ∧ MO ws w ∧ (¬ okSy G f o i h → r = some (.int (Int32.ofInt (-2))) ∧ W91 G w) ∧ (okSy G f o i h → (G 4 = 12 → r = some (.int (Int32.ofInt (-3))) ∧ W91 G w) ∧ (G 4 < 12 → r = some (.int (Int32.ofInt (G 4))) ∧ W91 (sayG G f o i h) w))) := by
  obtain ⟨s91, e91, ⟨t0, t1, t2, t3, t4, t5⟩, sn, sd, st, sp, sy⟩ := g91s
  refine CT_of_V (by omega) (show (5 : Nat) ≤ mML 291 by decide +kernel) ?_
  refine V_aload (v := ad 90) mi_291_0 (by simp [stL, lv_args, Value.category]) ?_
  refine V_iload (v := Int32.ofInt (f)) mi_291_1 (by simp [stL, lv_args, Value.category]) ?_
  refine V_callM (As := [.int (Int32.ofInt (f))]) (st := []) mi_291_2 (by omega) (by decide +kernel) (by decide +kernel) hG (mfk_ct hG hW hB fI) (by omega) (show 1 = mN 199 by decide +kernel) (by simp [Value.category]) ?_
  rintro r w1 ⟨rfl, rfl⟩
  refine V_beq mi_291_5  (fun c1 => ?_) (fun c1 => ?_)
  · refine V_ipush mi_291_42 ?_
    exact V_retI mi_291_44 (fun h => absurd h (by decide +kernel)) ⟨hG, MO_rf, fun _ => ⟨rfl, hW⟩, fun k => absurd k (fun k => of_decide_eq_false c1 k.1)⟩
  · refine V_aload (v := ad 90) mi_291_8 (by simp [stL, lv_args, Value.category]) ?_
    refine V_iload (v := Int32.ofInt (o)) mi_291_9 (by simp [stL, lv_args, Value.category]) ?_
    refine V_callM (As := [.int (Int32.ofInt (o))]) (st := []) mi_291_10 (by omega) (by decide +kernel) (by decide +kernel) hG (mfk_ct hG hW hB oI) (by omega) (show 1 = mN 199 by decide +kernel) (by simp [Value.category]) ?_
    rintro r w2 ⟨rfl, rfl⟩
    refine V_beq mi_291_13  (fun c2 => ?_) (fun c2 => ?_)
    · refine V_ipush mi_291_42 ?_
      exact V_retI mi_291_44 (fun h => absurd h (by decide +kernel)) ⟨hG, MO_rf, fun _ => ⟨rfl, hW⟩, fun k => absurd k (fun k => of_decide_eq_false c2 k.2.1.1)⟩
    · have c22 := of_decide_eq_true c2
      obtain ⟨b30, b31⟩ := hB.b3
      obtain ⟨m, rfl⟩ := Int.eq_ofNat_of_zero_le c22.1
      have bl := hB.bl m (by omega)
      refine V_iload (v := Int32.ofInt (i)) mi_291_16 (by simp [stL, lv_args, Value.category]) ?_
      refine V_i2l mi_291_17 ?_
      rw [i2lx ⟨by omega, by omega⟩]
      refine V_lpush mi_291_18 ?_
      refine V_aload (v := ad 90) mi_291_19 (by simp [stL, lv_args, Value.category]) ?_
      refine V_iload (v := Int32.ofInt ((m : Int))) mi_291_20 (by simp [stL, lv_args, Value.category]) ?_
      refine V_callM (As := [.int (Int32.ofInt ((m : Int)))]) (st := [.long (Int64.ofInt (0)), .long (Int64.ofInt (i))]) mi_291_21 (by omega) (by decide +kernel) (by decide +kernel) hG (mle_ct (f := m) hG hW hB (by omega)) (by omega) (show 1 = mN 204 by decide +kernel) (by simp [Value.category]) ?_
      rintro r w3 ⟨rfl, rfl⟩
      refine V_ipush mi_291_24 ?_
      refine V_ibin mi_291_25 (by omega) ?_
      rw [ib1]
      refine V_i2l mi_291_26 ?_
      rw [i2lx ⟨by omega, by omega⟩]
      refine V_stat (As := [.long (Int64.ofInt (i)), .long (Int64.ofInt (0)), .long (Int64.ofInt ((G (6 + 7 * m)) - (1)))]) (st := []) mi_291_27 (by omega) (inM2 (m := i) (lo := 0) (hi := G (6 + 7 * m) - 1) (by omega) (by omega) (by omega) (by omega) (by omega) (by omega)) (by omega) (show 3 = mN 193 by decide +kernel) (by simp [Value.category]) ⟨Nat.le_refl _, Nat.le_refl _⟩ ?_
      rintro r w4 ⟨rfl, rfl⟩
      refine V_beq mi_291_30  (fun c3 => ?_) (fun c3 => ?_)
      · refine V_ipush mi_291_42 ?_
        exact V_retI mi_291_44 (fun h => absurd h (by decide +kernel)) ⟨hG, MO_rf, fun _ => ⟨rfl, hW⟩, fun k => absurd k (fun k => of_decide_eq_false c3 (by have := k.2.1.2; rw [Int.toNat_natCast] at this; omega))⟩
      · have c33 := of_decide_eq_true c3
        refine V_aload (v := ad 90) mi_291_33 (by simp [stL, lv_args, Value.category]) ?_
        refine V_iload (v := Int32.ofInt (h)) mi_291_34 (by simp [stL, lv_args, Value.category]) ?_
        refine V_callM (As := [.int (Int32.ofInt (h))]) (st := []) mi_291_36 (by omega) (by decide +kernel) (by decide +kernel) hG (mho_ct hG hW hB hI) (by omega) (show 1 = mN 201 by decide +kernel) (by simp [Value.category]) ?_
        rintro r w5 ⟨rfl, rfl⟩
        refine V_bne mi_291_39  (fun c4 => ?_) (fun c4 => ?_)
        · have ok : okSy G f (m : Int) i h := ⟨of_decide_eq_true c1, ⟨c22, by rw [Int.toNat_natCast]; omega⟩, of_decide_eq_true c4⟩
          have b4 := hB.b4
          obtain ⟨k, hk⟩ := Int.eq_ofNat_of_zero_le b4.1
          have kn : (G 4).toNat = k := by omega
          have c11 := of_decide_eq_true c1
          have c44 := of_decide_eq_true c4
          have b2 := hB.b2
          refine V_aload (v := ad 90) mi_291_45 (by simp [stL, lv_args, Value.category]) ?_
          refine V_getI mi_291_46 hG (rref gr1m (by omega) hG) ?_
          refine V_ipush mi_291_49 ?_
          refine V_aldX (j := 4) mi_291_50 rfl hG e91 (by omega) (by omega) (hW _ (by omega)) ?_
          refine V_ipush mi_291_51 ?_
          refine V_cne mi_291_53 ⟨by omega, by omega⟩ ⟨by omega, by omega⟩ (fun q4 => ?_) (fun q4 => ?_)
          · have k12 : k < 12 := by omega
            obtain ⟨y0, y1, y2, y3⟩ := sy k k12
            refine V_ipush mi_291_59 ?_
            refine V_ipush mi_291_62 ?_
            refine V_aload (v := ad 90) mi_291_63 (by simp [stL, lv_args, Value.category]) ?_
            refine V_getI mi_291_64 hG (rref gr1m (by omega) hG) ?_
            refine V_ipush mi_291_67 ?_
            refine V_aldX (j := 4) mi_291_68 rfl hG e91 (by omega) (by omega) (hW _ (by omega)) ?_
            refine V_ibin mi_291_69 (by omega) ?_
            rw [ib2]
            refine V_ibin mi_291_70 (by omega) ?_
            rw [ib0]
            rw [show (246 : Int) + 4 * G 4 = ((246 + 4 * k : Nat) : Int) by omega]
            refine V_istore mi_291_71 ?_
            refine V_aload (v := ad 90) mi_291_73 (by simp [stL, lv_args, Value.category]) ?_
            refine V_getI mi_291_74 hG (rref gr1m (by omega) hG) ?_
            refine V_iload (v := Int32.ofInt (((246 + 4 * k : Nat) : Int))) mi_291_77 (by simp [stL, lv_args, Value.category]) ?_
            refine V_ipush mi_291_79 ?_
            refine V_ibin mi_291_80 (by omega) ?_
            rw [ib0]
            refine V_iload (v := Int32.ofInt (f)) mi_291_81 (by simp [stL, lv_args, Value.category]) ?_
            refine V_astX (j := 246 + 4 * k + 0) mi_291_82 (by rw [show ((246 + 4 * k : Nat) : Int) + 0 = ((246 + 4 * k + 0 : Nat) : Int) by omega]) hG e91 (by omega) (by omega) y0 (by rw [Int32.toInt_ofInt_of_le (by omega) (by omega)]; omega) (by rw [Int32.toInt_ofInt_of_le (by omega) (by omega)]; omega) (fun v0 Gv0 Uv0 => ?_)
            have hW0 := w91_up hW Uv0
            refine V_aload (v := ad 90) mi_291_83 (by simp [stL, lv_args, Value.category]) ?_
            refine V_getI mi_291_84 Gv0 (rref gr1m (by omega) Gv0) ?_
            refine V_iload (v := Int32.ofInt (((246 + 4 * k : Nat) : Int))) mi_291_87 (by simp [stL, lv_args, Value.category]) ?_
            refine V_ipush mi_291_89 ?_
            refine V_ibin mi_291_90 (by omega) ?_
            rw [ib0]
            refine V_iload (v := Int32.ofInt ((m : Int))) mi_291_91 (by simp [stL, lv_args, Value.category]) ?_
            refine V_astX (j := 246 + 4 * k + 1) mi_291_92 (by rw [show ((246 + 4 * k : Nat) : Int) + 1 = ((246 + 4 * k + 1 : Nat) : Int) by omega]) Gv0 e91 (by omega) (by omega) y1 (by rw [Int32.toInt_ofInt_of_le (by omega) (by omega)]; omega) (by rw [Int32.toInt_ofInt_of_le (by omega) (by omega)]; omega) (fun v1 Gv1 Uv1 => ?_)
            have hW1 := w91_up hW0 Uv1
            refine V_aload (v := ad 90) mi_291_93 (by simp [stL, lv_args, Value.category]) ?_
            refine V_getI mi_291_94 Gv1 (rref gr1m (by omega) Gv1) ?_
            refine V_iload (v := Int32.ofInt (((246 + 4 * k : Nat) : Int))) mi_291_97 (by simp [stL, lv_args, Value.category]) ?_
            refine V_ipush mi_291_99 ?_
            refine V_ibin mi_291_100 (by omega) ?_
            rw [ib0]
            refine V_iload (v := Int32.ofInt (i)) mi_291_101 (by simp [stL, lv_args, Value.category]) ?_
            refine V_astX (j := 246 + 4 * k + 2) mi_291_102 (by rw [show ((246 + 4 * k : Nat) : Int) + 2 = ((246 + 4 * k + 2 : Nat) : Int) by omega]) Gv1 e91 (by omega) (by omega) y2 (by rw [Int32.toInt_ofInt_of_le (by omega) (by omega)]; omega) (by rw [Int32.toInt_ofInt_of_le (by omega) (by omega)]; omega) (fun v2 Gv2 Uv2 => ?_)
            have hW2 := w91_up hW1 Uv2
            refine V_aload (v := ad 90) mi_291_103 (by simp [stL, lv_args, Value.category]) ?_
            refine V_getI mi_291_104 Gv2 (rref gr1m (by omega) Gv2) ?_
            refine V_iload (v := Int32.ofInt (((246 + 4 * k : Nat) : Int))) mi_291_107 (by simp [stL, lv_args, Value.category]) ?_
            refine V_ipush mi_291_109 ?_
            refine V_ibin mi_291_110 (by omega) ?_
            rw [ib0]
            refine V_iload (v := Int32.ofInt (h)) mi_291_111 (by simp [stL, lv_args, Value.category]) ?_
            refine V_astX (j := 246 + 4 * k + 3) mi_291_113 (by rw [show ((246 + 4 * k : Nat) : Int) + 3 = ((246 + 4 * k + 3 : Nat) : Int) by omega]) Gv2 e91 (by omega) (by omega) y3 (by rw [Int32.toInt_ofInt_of_le (by omega) (by omega)]; omega) (by rw [Int32.toInt_ofInt_of_le (by omega) (by omega)]; omega) (fun v3 Gv3 Uv3 => ?_)
            have hW3 := w91_up hW2 Uv3
            refine V_aload (v := ad 90) mi_291_114 (by simp [stL, lv_args, Value.category]) ?_
            refine V_getI mi_291_115 Gv3 (rref gr1m (by omega) Gv3) ?_
            refine V_ipush mi_291_118 ?_
            refine V_dup2 mi_291_119 (by simp [Value.category]) (by simp [Value.category]) ?_
            have g4 : updI (updI (updI (updI G (246 + 4 * k + 0) f) (246 + 4 * k + 1) (m : Int)) (246 + 4 * k + 2) i) (246 + 4 * k + 3) h 4 = (k : Int) := by rw [updI_ne (by omega), updI_ne (by omega), updI_ne (by omega), updI_ne (by omega)]; exact hk
            refine V_aldX (j := 4) mi_291_120 rfl Gv3 e91 (by omega) (by omega) (show rd _ 91 4 = some (.int (Int32.ofInt (k : Int))) by rw [hW3 4 (by omega), g4]) ?_
            refine V_ipush mi_291_121 ?_
            refine V_ibin mi_291_122 (by omega) ?_
            rw [ib0]
            refine V_astX (j := 4) mi_291_123 rfl Gv3 e91 (by omega) (by omega) t4 (by rw [Int32.toInt_ofInt_of_le (by omega) (by omega)]; omega) (by rw [Int32.toInt_ofInt_of_le (by omega) (by omega)]; omega) (fun v4 Gv4 Uv4 => ?_)
            have hW4 := w91_up (j := 4) (z := (k : Int) + 1) hW3 Uv4
            refine V_aload (v := ad 90) mi_291_124 (by simp [stL, lv_args, Value.category]) ?_
            refine V_getI mi_291_125 Gv4 (rref gr1m (by omega) Gv4) ?_
            refine V_ipush mi_291_128 ?_
            refine V_aldX (j := 4) mi_291_129 rfl Gv4 e91 (by omega) (by omega) (upd_eq Uv4) ?_
            refine V_ipush mi_291_130 ?_
            refine V_ibin mi_291_131 (by omega) ?_
            rw [ib1]
            rw [show (k : Int) + 1 - 1 = G 4 by omega]
            refine V_retI mi_291_132 (fun h => absurd h (by decide +kernel)) ⟨Gv4, fun c j hc => (upd_ne Uv4 (by omega)).trans ((upd_ne Uv3 (by omega)).trans ((upd_ne Uv2 (by omega)).trans ((upd_ne Uv1 (by omega)).trans (upd_ne Uv0 (by omega))))), fun k => absurd ok k, fun _ => ⟨fun k => absurd k (by omega), fun _ => ⟨rfl, ?_⟩⟩⟩
            unfold sayG
            rw [kn, hk]
            exact hW4
          · refine V_ipush mi_291_56 ?_
            exact V_retI mi_291_58 (fun h => absurd h (by decide +kernel)) ⟨hG, MO_rf, fun k => absurd ok k, fun _ => ⟨fun _ => ⟨rfl, hW⟩, fun k => absurd k (by omega)⟩⟩
        · refine V_ipush mi_291_42 ?_
          exact V_retI mi_291_44 (fun h => absurd h (by decide +kernel)) ⟨hG, MO_rf, fun _ => ⟨rfl, hW⟩, fun k => absurd k (fun k => of_decide_eq_false c4 k.2.2)⟩
theorem unsM_ct {G : Nat → Int} (hG : GOK ad tys GG ws) (hW : W91 G ws) (hB : HB G) : CT l D tys A 292 2 0 0 [.ref (ad 90)] ws (fun r w => GOK ad tys GG w ∧ MO ws w ∧ (¬ 0 < G 5 → r = some (.int (Int32.ofInt (-2))) ∧ W91 G w) ∧ (0 < G 5 → (G 4 = 0 → r = some (.int (Int32.ofInt (-5))) ∧ W91 G w) ∧ (0 < G 4 → r = some (.int (Int32.ofInt (G 4 - 1))) ∧ W91 (updI G 4 (G 4 - 1)) w))) := by
  obtain ⟨s91, e91, ⟨t0, t1, t2, t3, t4, t5⟩, sn, sd, st, sp, sy⟩ := g91s
  refine CT_of_V (by omega) (show (1 : Nat) ≤ mML 292 by decide +kernel) ?_
  have b4 := hB.b4
  refine V_aload (v := ad 90) mi_292_0 (by simp [stL, lv_args, Value.category]) ?_
  refine V_callM (As := []) (st := []) mi_292_1 (by omega) (by decide +kernel) (by decide +kernel) hG (mth_ct hG hW hB) (by omega) (show 0 = mN 198 by decide +kernel) (by simp [Value.category]) ?_
  rintro r w1 ⟨rfl, rfl⟩
  refine V_bne mi_292_4  (fun c1 => ?_) (fun c1 => ?_)
  · have ok := of_decide_eq_true c1
    refine V_aload (v := ad 90) mi_292_10 (by simp [stL, lv_args, Value.category]) ?_
    refine V_getI mi_292_11 hG (rref gr1m (by omega) hG) ?_
    refine V_ipush mi_292_14 ?_
    refine V_aldX (j := 4) mi_292_15 rfl hG e91 (by omega) (by omega) (hW _ (by omega)) ?_
    refine V_zne mi_292_16 ⟨by omega, by omega⟩ (fun q => ?_) (fun q => ?_)
    · refine V_aload (v := ad 90) mi_292_22 (by simp [stL, lv_args, Value.category]) ?_
      refine V_getI mi_292_23 hG (rref gr1m (by omega) hG) ?_
      refine V_ipush mi_292_26 ?_
      refine V_dup2 mi_292_27 (by simp [Value.category]) (by simp [Value.category]) ?_
      refine V_aldX (j := 4) mi_292_28 rfl hG e91 (by omega) (by omega) (hW _ (by omega)) ?_
      refine V_ipush mi_292_29 ?_
      refine V_ibin mi_292_30 (by omega) ?_
      rw [ib1]
      refine V_astX (j := 4) mi_292_31 rfl hG e91 (by omega) (by omega) t4 (by rw [Int32.toInt_ofInt_of_le (by omega) (by omega)]; omega) (by rw [Int32.toInt_ofInt_of_le (by omega) (by omega)]; omega) (fun v0 Gv0 Uv0 => ?_)
      have hW4 := w91_up (j := 4) (z := G 4 - 1) hW Uv0
      refine V_aload (v := ad 90) mi_292_32 (by simp [stL, lv_args, Value.category]) ?_
      refine V_getI mi_292_33 Gv0 (rref gr1m (by omega) Gv0) ?_
      refine V_ipush mi_292_36 ?_
      refine V_aldX (j := 4) mi_292_37 rfl Gv0 e91 (by omega) (by omega) (upd_eq Uv0) ?_
      exact V_retI mi_292_38 (fun h => absurd h (by decide +kernel)) ⟨Gv0, fun c j hc => upd_ne Uv0 (by omega), fun k => absurd ok k, fun _ => ⟨fun k => absurd k (by omega), fun _ => ⟨rfl, hW4⟩⟩⟩
    · refine V_ipush mi_292_19 ?_
      exact V_retI mi_292_21 (fun h => absurd h (by decide +kernel)) ⟨hG, MO_rf, fun k => absurd ok k, fun _ => ⟨fun _ => ⟨rfl, hW⟩, fun k => absurd k (by omega)⟩⟩
  · refine V_ipush mi_292_7 ?_
    exact V_retI mi_292_9 (fun h => absurd h (by decide +kernel)) ⟨hG, MO_rf, fun _ => ⟨rfl, hW⟩, fun k => absurd k (of_decide_eq_false c1)⟩
noncomputable def okMv (G : Nat → Int) (f p h : Int) : Prop := (0 ≤ f ∧ f < G 3) ∧ (0 ≤ h ∧ h < G 2) ∧ 0 ≤ p ∧ p < G 1
noncomputable def movG (G : Nat → Int) (f p h : Int) : Nat → Int := updI G (102 + (24 * f.toNat + h.toNat)) p
theorem movM_ct {G : Nat → Int} (hG : GOK ad tys GG ws) (hW : W91 G ws) (hB : HB G) {f p h : Int} (fI : I32 f) (pI : I32 p) (hI : I32 h) : CT l D tys A 293 4 0 0 [.ref (ad 90), .int (Int32.ofInt (f)), .int (Int32.ofInt (p)), .int (Int32.ofInt (h))] ws (fun r w => GOK ad tys GG w ∧ MO ws w ∧ (¬ okMv G f p h → r = some (.int (Int32.ofInt (-2))) ∧ W91 G w) ∧ (okMv G f p h → r = some (.int (Int32.ofInt (G (102 + (24 * f.toNat + h.toNat))))) ∧ W91 (movG G f p h) w)) := by
  obtain ⟨s91, e91, ⟨t0, t1, t2, t3, t4, t5⟩, sn, sd, st, sp, sy⟩ := g91s
  refine CT_of_V (by omega) (show (4 : Nat) ≤ mML 293 by decide +kernel) ?_
  have b1 := hB.b1
  refine V_aload (v := ad 90) mi_293_0 (by simp [stL, lv_args, Value.category]) ?_
  refine V_iload (v := Int32.ofInt (f)) mi_293_1 (by simp [stL, lv_args, Value.category]) ?_
  refine V_callM (As := [.int (Int32.ofInt (f))]) (st := []) mi_293_2 (by omega) (by decide +kernel) (by decide +kernel) hG (mfk_ct hG hW hB fI) (by omega) (show 1 = mN 199 by decide +kernel) (by simp [Value.category]) ?_
  rintro r w1 ⟨rfl, rfl⟩
  refine V_beq mi_293_5  (fun c1 => ?_) (fun c1 => ?_)
  · refine V_ipush mi_293_34 ?_
    exact V_retI mi_293_36 (fun h => absurd h (by decide +kernel)) ⟨hG, MO_rf, fun _ => ⟨rfl, hW⟩, fun k => absurd k (fun k => of_decide_eq_false c1 k.1)⟩
  · refine V_iload (v := Int32.ofInt (p)) mi_293_8 (by simp [stL, lv_args, Value.category]) ?_
    refine V_i2l mi_293_9 ?_
    rw [i2lx ⟨by omega, by omega⟩]
    refine V_lpush mi_293_10 ?_
    refine V_aload (v := ad 90) mi_293_11 (by simp [stL, lv_args, Value.category]) ?_
    refine V_getI mi_293_12 hG (rref gr1m (by omega) hG) ?_
    refine V_ipush mi_293_15 ?_
    refine V_aldX (j := 1) mi_293_16 rfl hG e91 (by omega) (by omega) (hW _ (by omega)) ?_
    refine V_ipush mi_293_17 ?_
    refine V_ibin mi_293_18 (by omega) ?_
    rw [ib1]
    refine V_i2l mi_293_19 ?_
    rw [i2lx ⟨by omega, by omega⟩]
    refine V_stat (As := [.long (Int64.ofInt (p)), .long (Int64.ofInt (0)), .long (Int64.ofInt ((G 1) - (1)))]) (st := []) mi_293_20 (by omega) (inM2 (m := p) (lo := 0) (hi := G 1 - 1) (by omega) (by omega) (by omega) (by omega) (by omega) (by omega)) (by omega) (show 3 = mN 193 by decide +kernel) (by simp [Value.category]) ⟨Nat.le_refl _, Nat.le_refl _⟩ ?_
    rintro r w2 ⟨rfl, rfl⟩
    refine V_beq mi_293_23  (fun c2 => ?_) (fun c2 => ?_)
    · refine V_ipush mi_293_34 ?_
      exact V_retI mi_293_36 (fun h => absurd h (by decide +kernel)) ⟨hG, MO_rf, fun _ => ⟨rfl, hW⟩, fun k => absurd k (fun k => of_decide_eq_false c2 (by have := k.2.2; omega))⟩
    · refine V_aload (v := ad 90) mi_293_26 (by simp [stL, lv_args, Value.category]) ?_
      refine V_iload (v := Int32.ofInt (h)) mi_293_27 (by simp [stL, lv_args, Value.category]) ?_
      refine V_callM (As := [.int (Int32.ofInt (h))]) (st := []) mi_293_28 (by omega) (by decide +kernel) (by decide +kernel) hG (mho_ct hG hW hB hI) (by omega) (show 1 = mN 201 by decide +kernel) (by simp [Value.category]) ?_
      rintro r w3 ⟨rfl, rfl⟩
      refine V_bne mi_293_31  (fun c3 => ?_) (fun c3 => ?_)
      · have c11 := of_decide_eq_true c1
        have c22 := of_decide_eq_true c2
        have c33 := of_decide_eq_true c3
        have ok : okMv G f p h := ⟨c11, c33, c22.1, by omega⟩
        have b3 := hB.b3
        have b2 := hB.b2
        obtain ⟨m, rfl⟩ := Int.eq_ofNat_of_zero_le c11.1
        obtain ⟨n, rfl⟩ := Int.eq_ofNat_of_zero_le c33.1
        have bp := hB.bp (24 * m + n) (by omega)
        refine V_aload (v := ad 90) mi_293_37 (by simp [stL, lv_args, Value.category]) ?_
        refine V_iload (v := Int32.ofInt ((m : Int))) mi_293_38 (by simp [stL, lv_args, Value.category]) ?_
        refine V_iload (v := Int32.ofInt ((n : Int))) mi_293_39 (by simp [stL, lv_args, Value.category]) ?_
        refine V_callM (As := [.int (Int32.ofInt ((m : Int))), .int (Int32.ofInt ((n : Int)))]) (st := []) mi_293_40 (by omega) (by decide +kernel) (by decide +kernel) hG (mpl_ct (f := m) (h := n) hG hW hB (by omega) (by omega)) (by omega) (show 2 = mN 207 by decide +kernel) (by simp [Value.category]) ?_
        rintro r w4 ⟨rfl, rfl⟩
        refine V_istore mi_293_43 ?_
        refine V_aload (v := ad 90) mi_293_45 (by simp [stL, lv_args, Value.category]) ?_
        refine V_getI mi_293_46 hG (rref gr1m (by omega) hG) ?_
        refine V_ipush mi_293_49 ?_
        refine V_ipush mi_293_51 ?_
        refine V_iload (v := Int32.ofInt ((m : Int))) mi_293_53 (by simp [stL, lv_args, Value.category]) ?_
        refine V_ibin mi_293_54 (by omega) ?_
        rw [ib2]
        refine V_ibin mi_293_55 (by omega) ?_
        rw [ib0]
        refine V_iload (v := Int32.ofInt ((n : Int))) mi_293_56 (by simp [stL, lv_args, Value.category]) ?_
        refine V_ibin mi_293_57 (by omega) ?_
        rw [ib0]
        refine V_iload (v := Int32.ofInt (p)) mi_293_58 (by simp [stL, lv_args, Value.category]) ?_
        refine V_astX (j := 102 + (24 * m + n)) mi_293_59 (by rw [show ((102) + ((24) * ((m : Int)))) + ((n : Int)) = ((102 + (24 * m + n) : Nat) : Int) by omega]) hG e91 (by omega) (by omega) (sp _ (by omega)) (by rw [Int32.toInt_ofInt_of_le (by omega) (by omega)]; omega) (by rw [Int32.toInt_ofInt_of_le (by omega) (by omega)]; omega) (fun v0 Gv0 Uv0 => ?_)
        have hW1 := w91_up hW Uv0
        refine V_iload (v := Int32.ofInt (G (102 + (24 * m + n)))) mi_293_60 (by simp [stL, lv_args, Value.category]) ?_
        exact V_retI mi_293_62 (fun h => absurd h (by decide +kernel)) ⟨Gv0, fun c j hc => upd_ne Uv0 (by omega), fun k => absurd ok k, fun _ => ⟨rfl, hW1⟩⟩
      · refine V_ipush mi_293_34 ?_
        exact V_retI mi_293_36 (fun h => absurd h (by decide +kernel)) ⟨hG, MO_rf, fun _ => ⟨rfl, hW⟩, fun k => absurd k (fun k => of_decide_eq_false c3 k.2.1)⟩
noncomputable def okTe (G : Nat → Int) (f o i t : Int) : Prop := ((0 ≤ f ∧ f < G 3) ∧ (0 ≤ o ∧ o < G 3) ∧ f ≠ o) ∧ (0 ≤ i ∧ i < G (6 + 7 * o.toNat)) ∧ 0 ≤ t ∧ t ≤ 1
/-- bit i of b made t -/
noncomputable def teaV (b i t : Int) : Int := (ibF 6 (ibF 5 (Int32.ofInt b) (ibF 7 (ibF 8 (Int32.ofInt 1) (Int32.ofInt i)) (Int32.ofInt (-1)))) (ibF 8 (Int32.ofInt t) (Int32.ofInt i))).toInt
theorem teaV_all : (List.range 64).all (fun b => (List.range 6).all (fun i => (decide (0 ≤ teaV (b : Nat) (i : Nat) 0) && decide (teaV (b : Nat) (i : Nat) 0 ≤ 63)) && (decide (0 ≤ teaV (b : Nat) (i : Nat) 1) && decide (teaV (b : Nat) (i : Nat) 1 ≤ 63)) && (decide (ibF 5 (Int32.ofInt (b : Nat)) (ibF 7 (ibF 8 (Int32.ofInt 1) (Int32.ofInt (i : Nat))) (Int32.ofInt (-1))) = Int32.ofInt (teaV (b : Nat) (i : Nat) 0)) && decide (ibF 6 (Int32.ofInt (b : Nat)) (ibF 8 (Int32.ofInt 1) (Int32.ofInt (i : Nat))) = Int32.ofInt (teaV (b : Nat) (i : Nat) 1))))) = true := by decide +kernel
theorem teaV_k {b i : Int} (b0 : 0 ≤ b) (b1 : b ≤ 63) (i0 : 0 ≤ i) (i1 : i ≤ 5) : ((0 ≤ teaV b i 0 ∧ teaV b i 0 ≤ 63) ∧ (0 ≤ teaV b i 1 ∧ teaV b i 1 ≤ 63)) ∧ ibF 5 (Int32.ofInt b) (ibF 7 (ibF 8 (Int32.ofInt 1) (Int32.ofInt i)) (Int32.ofInt (-1))) = Int32.ofInt (teaV b i 0) ∧ ibF 6 (Int32.ofInt b) (ibF 8 (Int32.ofInt 1) (Int32.ofInt i)) = Int32.ofInt (teaV b i 1) := by
  have h := List.all_eq_true.mp (List.all_eq_true.mp teaV_all b.toNat (List.mem_range.mpr (by omega))) i.toNat (List.mem_range.mpr (by omega))
  simp only [Bool.and_eq_true, decide_eq_true_eq, Int.toNat_of_nonneg b0, Int.toNat_of_nonneg i0] at h
  obtain ⟨⟨h1, h2⟩, h3, h4⟩ := h
  exact ⟨⟨h1, h2⟩, h3, h4⟩
noncomputable def teaJ (f o : Int) : Nat := 66 + (6 * f.toNat + o.toNat)
noncomputable def teaG (G : Nat → Int) (f o i t : Int) : Nat → Int := updI G (teaJ f o) (teaV (G (teaJ f o)) i t)
theorem told_hx {j : Nat} (h : j < 36) : hxC (66 + j) = 7 ∧ hxI (66 + j) = j := by
  have e1 : hxC (66 + j) = 7 := by
    unfold hxC
    rw [if_neg (by omega), if_neg (by omega), if_neg (by omega), if_neg (by omega), if_neg (by omega), if_pos (by omega)]
  have e2 : hxI (66 + j) = j := by
    unfold hxI
    rw [if_neg (by omega), if_neg (by omega), if_neg (by omega), if_neg (by omega), if_neg (by omega), if_pos (by omega)]
    omega
  exact ⟨e1, e2⟩
theorem teaM_ct {G : Nat → Int} (hG : GOK ad tys GG ws) (hW : W91 G ws) (hB : HB G) {f o i t : Int} (fI : I32 f) (oI : I32 o) (iI : I32 i) (tI : I32 t) : CT l D tys A 294 4 0 0 [.ref (ad 90), .int (Int32.ofInt (f)), .int (Int32.ofInt (o)), .int (Int32.ofInt (i)), .int (Int32.ofInt (t))] ws (fun r w => GOK ad tys GG w ∧ MO ws w ∧ (¬ okTe G f o i t → r = some (.int (Int32.ofInt (-2))) ∧ W91 G w) ∧ (okTe G f o i t → r = some (.int (ibF 5 (ibF 9 (Int32.ofInt (G (teaJ f o))) (Int32.ofInt i)) (Int32.ofInt 1))) ∧ W91 (teaG G f o i t) w)) := by
  obtain ⟨s91, e91, ⟨t0, t1, t2, t3, t4, t5⟩, sn, sd, st, sp, sy⟩ := g91s
  refine CT_of_V (by omega) (show (5 : Nat) ≤ mML 294 by decide +kernel) ?_
  refine V_aload (v := ad 90) mi_294_0 (by simp [stL, lv_args, Value.category]) ?_
  refine V_iload (v := Int32.ofInt (f)) mi_294_1 (by simp [stL, lv_args, Value.category]) ?_
  refine V_iload (v := Int32.ofInt (o)) mi_294_2 (by simp [stL, lv_args, Value.category]) ?_
  refine V_callM (As := [.int (Int32.ofInt (f)), .int (Int32.ofInt (o))]) (st := []) mi_294_3 (by omega) (by decide +kernel) (by decide +kernel) hG (m2_ct hG hW hB fI oI) (by omega) (show 2 = mN 200 by decide +kernel) (by simp [Value.category]) ?_
  rintro r w1 ⟨rfl, rfl⟩
  refine V_beq mi_294_6  (fun c1 => ?_) (fun c1 => ?_)
  · refine V_ipush mi_294_37 ?_
    exact V_retI mi_294_39 (fun h => absurd h (by decide +kernel)) ⟨hG, MO_rf, fun _ => ⟨rfl, hW⟩, fun k => absurd k (fun k => of_decide_eq_false c1 k.1)⟩
  · have c11 := of_decide_eq_true c1
    have b3 := hB.b3
    obtain ⟨m, rfl⟩ := Int.eq_ofNat_of_zero_le c11.1.1
    obtain ⟨n, rfl⟩ := Int.eq_ofNat_of_zero_le c11.2.1.1
    have bl := hB.bl n (by omega)
    refine V_iload (v := Int32.ofInt (i)) mi_294_9 (by simp [stL, lv_args, Value.category]) ?_
    refine V_i2l mi_294_10 ?_
    rw [i2lx ⟨by omega, by omega⟩]
    refine V_lpush mi_294_11 ?_
    refine V_aload (v := ad 90) mi_294_12 (by simp [stL, lv_args, Value.category]) ?_
    refine V_iload (v := Int32.ofInt ((n : Int))) mi_294_13 (by simp [stL, lv_args, Value.category]) ?_
    refine V_callM (As := [.int (Int32.ofInt ((n : Int)))]) (st := [.long (Int64.ofInt (0)), .long (Int64.ofInt (i))]) mi_294_14 (by omega) (by decide +kernel) (by decide +kernel) hG (mle_ct (f := n) hG hW hB (by omega)) (by omega) (show 1 = mN 204 by decide +kernel) (by simp [Value.category]) ?_
    rintro r w3 ⟨rfl, rfl⟩
    refine V_ipush mi_294_17 ?_
    refine V_ibin mi_294_18 (by omega) ?_
    rw [ib1]
    refine V_i2l mi_294_19 ?_
    rw [i2lx ⟨by omega, by omega⟩]
    refine V_stat (As := [.long (Int64.ofInt (i)), .long (Int64.ofInt (0)), .long (Int64.ofInt ((G (6 + 7 * n)) - (1)))]) (st := []) mi_294_20 (by omega) (inM2 (m := i) (lo := 0) (hi := G (6 + 7 * n) - 1) (by omega) (by omega) (by omega) (by omega) (by omega) (by omega)) (by omega) (show 3 = mN 193 by decide +kernel) (by simp [Value.category]) ⟨Nat.le_refl _, Nat.le_refl _⟩ ?_
    rintro r w4 ⟨rfl, rfl⟩
    refine V_beq mi_294_23  (fun c2 => ?_) (fun c2 => ?_)
    · refine V_ipush mi_294_37 ?_
      exact V_retI mi_294_39 (fun h => absurd h (by decide +kernel)) ⟨hG, MO_rf, fun _ => ⟨rfl, hW⟩, fun k => absurd k (fun k => of_decide_eq_false c2 (by have := k.2.1; rw [Int.toNat_natCast] at this; omega))⟩
    · have c22 := of_decide_eq_true c2
      refine V_iload (v := Int32.ofInt (t)) mi_294_26 (by simp [stL, lv_args, Value.category]) ?_
      refine V_i2l mi_294_28 ?_
      rw [i2lx ⟨by omega, by omega⟩]
      refine V_lpush mi_294_29 ?_
      refine V_lpush mi_294_30 ?_
      refine V_stat (As := [.long (Int64.ofInt (t)), .long (Int64.ofInt (0)), .long (Int64.ofInt (1))]) (st := []) mi_294_31 (by omega) (inM2 (m := t) (lo := 0) (hi := 1) (by omega) (by omega) (by omega) (by omega) (by omega) (by omega)) (by omega) (show 3 = mN 193 by decide +kernel) (by simp [Value.category]) ⟨Nat.le_refl _, Nat.le_refl _⟩ ?_
      rintro r w5 ⟨rfl, rfl⟩
      refine V_bne mi_294_34  (fun c3 => ?_) (fun c3 => ?_)
      · have c33 := of_decide_eq_true c3
        have ok : okTe G (m : Int) (n : Int) i t := ⟨c11, by rw [Int.toNat_natCast]; omega, c33⟩
        have bt := hB.bt (6 * m + n) (by omega)
        have ej : teaJ (m : Int) (n : Int) = 66 + (6 * m + n) := by unfold teaJ; rw [Int.toNat_natCast, Int.toNat_natCast]
        obtain ⟨⟨⟨v0, v1⟩, v2, v3⟩, v4, v5⟩ := teaV_k (b := G (66 + (6 * m + n))) (i := i) bt.1 bt.2 c22.1 (by omega)
        have tb : 0 ≤ teaV (G (66 + (6 * m + n))) i t ∧ teaV (G (66 + (6 * m + n))) i t ≤ 63 := by
          rcases (show t = 0 ∨ t = 1 by omega) with rfl | rfl
          · exact ⟨v0, v1⟩
          · exact ⟨v2, v3⟩
        refine V_ipush mi_294_40 ?_
        refine V_ipush mi_294_42 ?_
        refine V_iload (v := Int32.ofInt ((m : Int))) mi_294_44 (by simp [stL, lv_args, Value.category]) ?_
        refine V_ibin mi_294_45 (by omega) ?_
        rw [ib2]
        refine V_ibin mi_294_46 (by omega) ?_
        rw [ib0]
        refine V_iload (v := Int32.ofInt ((n : Int))) mi_294_47 (by simp [stL, lv_args, Value.category]) ?_
        refine V_ibin mi_294_48 (by omega) ?_
        rw [ib0]
        rw [show (66 : Int) + 6 * (m : Int) + (n : Int) = ((66 + (6 * m + n) : Nat) : Int) by omega]
        refine V_istore mi_294_49 ?_
        refine V_aload (v := ad 90) mi_294_51 (by simp [stL, lv_args, Value.category]) ?_
        refine V_getI mi_294_52 hG (rref gr1m (by omega) hG) ?_
        refine V_iload (v := Int32.ofInt (((66 + (6 * m + n) : Nat) : Int))) mi_294_55 (by simp [stL, lv_args, Value.category]) ?_
        refine V_aldX (j := 66 + (6 * m + n)) mi_294_57 rfl hG e91 (by omega) (by omega) (hW _ (by omega)) ?_
        refine V_iload (v := Int32.ofInt (i)) mi_294_58 (by simp [stL, lv_args, Value.category]) ?_
        refine V_stat (As := [.int (Int32.ofInt (G (66 + (6 * m + n)))), .int (Int32.ofInt (i))]) (st := []) mi_294_59 (by omega) (bit_ct _ _ _) (by omega) (show 2 = mN 195 by decide +kernel) (by simp [Value.category]) ⟨Nat.le_refl _, Nat.le_refl _⟩ ?_
        rintro r w6 ⟨rfl, rfl⟩
        refine V_istore mi_294_62 ?_
        refine V_aload (v := ad 90) mi_294_64 (by simp [stL, lv_args, Value.category]) ?_
        refine V_getI mi_294_65 hG (rref gr1m (by omega) hG) ?_
        refine V_iload (v := Int32.ofInt (((66 + (6 * m + n) : Nat) : Int))) mi_294_68 (by simp [stL, lv_args, Value.category]) ?_
        refine V_aload (v := ad 90) mi_294_70 (by simp [stL, lv_args, Value.category]) ?_
        refine V_getI mi_294_71 hG (rref gr1m (by omega) hG) ?_
        refine V_iload (v := Int32.ofInt (((66 + (6 * m + n) : Nat) : Int))) mi_294_74 (by simp [stL, lv_args, Value.category]) ?_
        refine V_aldX (j := 66 + (6 * m + n)) mi_294_76 rfl hG e91 (by omega) (by omega) (hW _ (by omega)) ?_
        refine V_ipush mi_294_77 ?_
        refine V_iload (v := Int32.ofInt (i)) mi_294_78 (by simp [stL, lv_args, Value.category]) ?_
        refine V_ibin mi_294_79 (by omega) ?_
        refine V_ipush mi_294_80 ?_
        refine V_ibin mi_294_81 (by omega) ?_
        refine V_ibin mi_294_82 (by omega) ?_
        refine V_iload (v := Int32.ofInt (t)) mi_294_83 (by simp [stL, lv_args, Value.category]) ?_
        refine V_iload (v := Int32.ofInt (i)) mi_294_85 (by simp [stL, lv_args, Value.category]) ?_
        refine V_ibin mi_294_86 (by omega) ?_
        refine V_ibin mi_294_87 (by omega) ?_
        refine V_astX (j := 66 + (6 * m + n)) mi_294_88 rfl hG e91 (by omega) (by omega) (st _ (by omega)) (show 0 ≤ teaV (G (66 + (6 * m + n))) i t from tb.1) (show teaV (G (66 + (6 * m + n))) i t ≤ 63 from tb.2) (fun w7 G7 U7 => ?_)
        have hW1 := w91_up (z := teaV (G (66 + (6 * m + n))) i t) hW (by unfold teaV; rw [Int32.ofInt_toInt]; exact U7)
        refine V_iload (v := ibF 5 (ibF 9 (Int32.ofInt (G (66 + (6 * m + n)))) (Int32.ofInt i)) (Int32.ofInt 1)) mi_294_89 (by simp [stL, lv_args, Value.category]) ?_
        refine V_retI mi_294_91 (fun h => absurd h (by decide +kernel)) ⟨G7, fun c j hc => upd_ne U7 (by omega), fun k => absurd ok k, fun _ => ⟨by rw [ej], ?_⟩⟩
        unfold teaG
        rw [ej]
        exact hW1
      · refine V_ipush mi_294_37 ?_
        exact V_retI mi_294_39 (fun h => absurd h (by decide +kernel)) ⟨hG, MO_rf, fun _ => ⟨rfl, hW⟩, fun k => absurd k (fun k => of_decide_eq_false c3 k.2.2)⟩
end XHC
end
section
section XHD
variable {l : Launch} {D : va_G} {tys : List (ClassId × FieldType)} {A : Nat → Prop} {ad : Nat → Nat} {ws : va_W} {k d : Nat} {post : Option Value → va_W → Prop} {pc : Nat} {lv : List (Nat × Value)} {st : List Value} {a : Int} {x y z : Nat}
theorem V_aaldI {c n j q : Nat} {segs : List SG} {ix : Int32} (hi : mI k pc = (19, a, 3, y, z)) (hix : ix = Int32.ofInt (j : Int)) (hG : GOK ad tys GG ws) (hg : GG[c]? = some ((3, 4, n), segs)) (hj : j < n) (hn : n ≤ 100000) (hs : segAt segs j = some (2, ((q : Nat) : Int), ((q : Nat) : Int))) (kk : V l D tys A k d 0 0 post 0 0 (pc + 1) lv (.ref (ad q) :: st) ws) : V l D tys A k d 0 0 post 0 0 pc lv (.int ix :: .ref (ad c) :: st) ws := by
  subst hix
  obtain ⟨e, b1, b2, b3⟩ := hG c _ hg
  obtain ⟨cA, f, rfl, c1⟩ := b2
  refine V_aald hi b1 c1 (ix_in hj hn).1 ?_
  rw [(ix_in hj hn).2]
  have hr : rdE (.inl (cA, n, .inr (.inr (.inr (.inr f))))) j = some (va_rf (f j)) := by show (if j < n then _ else _) = _; rw [if_pos hj]
  obtain ⟨sp, r1, r2⟩ := b3 j _ hr
  rw [hs] at r1
  cases r1
  have r2 : va_rf (f j) = .ref (ad ((q : Int).toNat)) := r2
  rw [Int.toNat_natCast] at r2
  rw [r2]
  exact kk
theorem V_lenR {c ty n : Nat} {segs : List SG} (hi : mI k pc = (21, a, x, y, z)) (hG : GOK ad tys GG ws) (hg : GG[c]? = some ((3, ty, n), segs)) (kk : V l D tys A k d 0 0 post 0 0 (pc + 1) lv (.int (Int32.ofInt (n : Int)) :: st) ws) : V l D tys A k d 0 0 post 0 0 pc lv (.ref (ad c) :: st) ws := by
  obtain ⟨e, b1, b2, b3⟩ := hG c _ hg
  obtain ⟨cA, f, rfl, c1⟩ := b2
  exact V_alen hi b1 c1 kk
theorem V_bst1 {c n j : Nat} {segs : List SG} {ix : Int32} (hi : mI k pc = (20, a, 1, y, z)) (hix : ix = Int32.ofInt (j : Int)) (hG : GOK ad tys GG ws) (hg : GG[c]? = some ((1, 2, n), segs)) (hj : j < n) (hn : n ≤ 100000) (hs : segAt segs j = some (0, 0, 1)) (kk : ∀ w : va_W, GOK ad tys GG w → Upd1 ws w c j (.int (Int32.ofInt 1)) → V l D tys A k d 0 0 post 0 0 (pc + 1) lv st w) : V l D tys A k d 0 0 post 0 0 pc lv (.int (Int32.ofInt 1) :: .int ix :: .ref (ad c) :: st) ws := by
  subst hix
  obtain ⟨e, b1, b2, b3⟩ := hG c _ hg
  obtain ⟨cA, f, rfl, c1, c2⟩ := b2
  refine V_zast hi b1 c1 (ix_in hj hn).1 ?_
  rw [(ix_in hj hn).2, show vp_nar .boolean (Int32.ofInt 1) = Int32.ofInt 1 by decide]
  have hu := GOK_upd (j := j) (v := .int (Int32.ofInt 1)) (e' := .inl (cA, n, .inl (upd f j (Int32.ofInt 1)))) hG hg b1 ⟨cA, _, rfl, c1, c2⟩ (fun j' => by
    show (if j' < n then some (Value.int (upd f j (Int32.ofInt 1) j')) else none) = if j' = j then some (Value.int (Int32.ofInt 1)) else if j' < n then some (Value.int (f j')) else none
    unfold upd
    by_cases h : j' = j
    · subst h; simp [hj]
    · simp [h]) hs ⟨1, rfl, by show (0 : Int) ≤ 1; omega, by show (1 : Int) ≤ 1; omega⟩
  exact kk _ hu.1 hu.2
theorem g0r11 : gOr 0 10 13 11 53 := ⟨_, rfl, by decide +kernel⟩
theorem g0f12 : gOf 0 10 13 12 0 7 := ⟨_, rfl, by decide +kernel⟩
theorem gx53i : ∃ s, GG[53]? = some ((3, 4, 3), s) ∧ segAt s 0 = some (2, ((54 : Nat) : Int), ((54 : Nat) : Int)) ∧ segAt s 1 = some (2, ((66 : Nat) : Int), ((66 : Nat) : Int)) ∧ segAt s 2 = some (2, ((78 : Nat) : Int), ((78 : Nat) : Int)) := ⟨_, rfl, by decide +kernel, by decide +kernel, by decide +kernel⟩
theorem gr2m : ∃ g, GG[90]? = some ((0, 11, 36), g) ∧ segAt g 2 = some (2, ((92 : Nat) : Int), ((92 : Nat) : Int)) := ⟨_, rfl, by decide +kernel⟩
theorem gr3m : ∃ g, GG[90]? = some ((0, 11, 36), g) ∧ segAt g 3 = some (2, ((93 : Nat) : Int), ((93 : Nat) : Int)) := ⟨_, rfl, by decide +kernel⟩
theorem gb93b : ∃ s, GG[93]? = some ((1, 2, 3), s) ∧ ∀ j, j < 3 → segAt s j = some (0, 0, 1) := by
  refine ⟨_, rfl, fun j hj => ?_⟩
  show (bif Nat.blt j 3 then some _ else _) = _
  rw [show Nat.blt j 3 = true from Nat.blt_eq.mpr hj]
  rfl
theorem g54o : gO 54 2 17 := ⟨_, rfl⟩
theorem g54r6 : gOr 54 2 17 6 55 := ⟨_, rfl, by decide +kernel⟩
theorem g54r7 : gOr 54 2 17 7 56 := ⟨_, rfl, by decide +kernel⟩
theorem g54r8 : gOr 54 2 17 8 57 := ⟨_, rfl, by decide +kernel⟩
theorem g54r9 : gOr 54 2 17 9 58 := ⟨_, rfl, by decide +kernel⟩
theorem g54r10 : gOr 54 2 17 10 59 := ⟨_, rfl, by decide +kernel⟩
theorem g54r11 : gOr 54 2 17 11 60 := ⟨_, rfl, by decide +kernel⟩
theorem g54r12 : gOr 54 2 17 12 61 := ⟨_, rfl, by decide +kernel⟩
theorem g54r13 : gOr 54 2 17 13 62 := ⟨_, rfl, by decide +kernel⟩
theorem g54r14 : gOr 54 2 17 14 63 := ⟨_, rfl, by decide +kernel⟩
theorem g54r15 : gOr 54 2 17 15 64 := ⟨_, rfl, by decide +kernel⟩
theorem g54r16 : gOr 54 2 17 16 65 := ⟨_, rfl, by decide +kernel⟩
theorem g54f0 : gOf 54 2 17 0 (-2147483648) 2147483647 := ⟨_, rfl, by decide +kernel⟩
theorem g54f1 : gOf 54 2 17 1 (0) 9 := ⟨_, rfl, by decide +kernel⟩
theorem g54f2 : gOf 54 2 17 2 (0) 4 := ⟨_, rfl, by decide +kernel⟩
theorem g54f3 : gOf 54 2 17 3 (0) 24 := ⟨_, rfl, by decide +kernel⟩
theorem g54f4 : gOf 54 2 17 4 (0) 6 := ⟨_, rfl, by decide +kernel⟩
theorem g54f5 : gOf 54 2 17 5 (0) 12 := ⟨_, rfl, by decide +kernel⟩
theorem a55 : gA 55 6 0 7 := gA_of rfl
theorem a56 : gA 56 36 (-2147483648) 2147483647 := gA_of rfl
theorem a57 : gA 57 6 (-2147483648) 2147483647 := gA_of rfl
theorem a58 : gA 58 6 (-2147483648) 2147483647 := gA_of rfl
theorem a59 : gA 59 6 (-2147483648) 2147483647 := gA_of rfl
theorem a60 : gA 60 144 (-2147483648) 2147483647 := gA_of rfl
theorem a61 : gA 61 36 (-2147483648) 2147483647 := gA_of rfl
theorem a62 : gA 62 12 (-2147483648) 2147483647 := gA_of rfl
theorem a63 : gA 63 12 (-2147483648) 2147483647 := gA_of rfl
theorem a64 : gA 64 12 (-2147483648) 2147483647 := gA_of rfl
theorem a65 : gA 65 12 (-2147483648) 2147483647 := gA_of rfl
theorem g66o : gO 66 2 17 := ⟨_, rfl⟩
theorem g66r6 : gOr 66 2 17 6 67 := ⟨_, rfl, by decide +kernel⟩
theorem g66r7 : gOr 66 2 17 7 68 := ⟨_, rfl, by decide +kernel⟩
theorem g66r8 : gOr 66 2 17 8 69 := ⟨_, rfl, by decide +kernel⟩
theorem g66r9 : gOr 66 2 17 9 70 := ⟨_, rfl, by decide +kernel⟩
theorem g66r10 : gOr 66 2 17 10 71 := ⟨_, rfl, by decide +kernel⟩
theorem g66r11 : gOr 66 2 17 11 72 := ⟨_, rfl, by decide +kernel⟩
theorem g66r12 : gOr 66 2 17 12 73 := ⟨_, rfl, by decide +kernel⟩
theorem g66r13 : gOr 66 2 17 13 74 := ⟨_, rfl, by decide +kernel⟩
theorem g66r14 : gOr 66 2 17 14 75 := ⟨_, rfl, by decide +kernel⟩
theorem g66r15 : gOr 66 2 17 15 76 := ⟨_, rfl, by decide +kernel⟩
theorem g66r16 : gOr 66 2 17 16 77 := ⟨_, rfl, by decide +kernel⟩
theorem g66f0 : gOf 66 2 17 0 (-2147483648) 2147483647 := ⟨_, rfl, by decide +kernel⟩
theorem g66f1 : gOf 66 2 17 1 (0) 9 := ⟨_, rfl, by decide +kernel⟩
theorem g66f2 : gOf 66 2 17 2 (0) 4 := ⟨_, rfl, by decide +kernel⟩
theorem g66f3 : gOf 66 2 17 3 (0) 24 := ⟨_, rfl, by decide +kernel⟩
theorem g66f4 : gOf 66 2 17 4 (0) 6 := ⟨_, rfl, by decide +kernel⟩
theorem g66f5 : gOf 66 2 17 5 (0) 12 := ⟨_, rfl, by decide +kernel⟩
theorem a67 : gA 67 6 0 7 := gA_of rfl
theorem a68 : gA 68 36 (-2147483648) 2147483647 := gA_of rfl
theorem a69 : gA 69 6 (-2147483648) 2147483647 := gA_of rfl
theorem a70 : gA 70 6 (-2147483648) 2147483647 := gA_of rfl
theorem a71 : gA 71 6 (-2147483648) 2147483647 := gA_of rfl
theorem a72 : gA 72 144 (-2147483648) 2147483647 := gA_of rfl
theorem a73 : gA 73 36 (-2147483648) 2147483647 := gA_of rfl
theorem a74 : gA 74 12 (-2147483648) 2147483647 := gA_of rfl
theorem a75 : gA 75 12 (-2147483648) 2147483647 := gA_of rfl
theorem a76 : gA 76 12 (-2147483648) 2147483647 := gA_of rfl
theorem a77 : gA 77 12 (-2147483648) 2147483647 := gA_of rfl
theorem g78o : gO 78 2 17 := ⟨_, rfl⟩
theorem g78r6 : gOr 78 2 17 6 79 := ⟨_, rfl, by decide +kernel⟩
theorem g78r7 : gOr 78 2 17 7 80 := ⟨_, rfl, by decide +kernel⟩
theorem g78r8 : gOr 78 2 17 8 81 := ⟨_, rfl, by decide +kernel⟩
theorem g78r9 : gOr 78 2 17 9 82 := ⟨_, rfl, by decide +kernel⟩
theorem g78r10 : gOr 78 2 17 10 83 := ⟨_, rfl, by decide +kernel⟩
theorem g78r11 : gOr 78 2 17 11 84 := ⟨_, rfl, by decide +kernel⟩
theorem g78r12 : gOr 78 2 17 12 85 := ⟨_, rfl, by decide +kernel⟩
theorem g78r13 : gOr 78 2 17 13 86 := ⟨_, rfl, by decide +kernel⟩
theorem g78r14 : gOr 78 2 17 14 87 := ⟨_, rfl, by decide +kernel⟩
theorem g78r15 : gOr 78 2 17 15 88 := ⟨_, rfl, by decide +kernel⟩
theorem g78r16 : gOr 78 2 17 16 89 := ⟨_, rfl, by decide +kernel⟩
theorem g78f0 : gOf 78 2 17 0 (-2147483648) 2147483647 := ⟨_, rfl, by decide +kernel⟩
theorem g78f1 : gOf 78 2 17 1 (0) 9 := ⟨_, rfl, by decide +kernel⟩
theorem g78f2 : gOf 78 2 17 2 (0) 4 := ⟨_, rfl, by decide +kernel⟩
theorem g78f3 : gOf 78 2 17 3 (0) 24 := ⟨_, rfl, by decide +kernel⟩
theorem g78f4 : gOf 78 2 17 4 (0) 6 := ⟨_, rfl, by decide +kernel⟩
theorem g78f5 : gOf 78 2 17 5 (0) 12 := ⟨_, rfl, by decide +kernel⟩
theorem a79 : gA 79 6 0 7 := gA_of rfl
theorem a80 : gA 80 36 (-2147483648) 2147483647 := gA_of rfl
theorem a81 : gA 81 6 (-2147483648) 2147483647 := gA_of rfl
theorem a82 : gA 82 6 (-2147483648) 2147483647 := gA_of rfl
theorem a83 : gA 83 6 (-2147483648) 2147483647 := gA_of rfl
theorem a84 : gA 84 144 (-2147483648) 2147483647 := gA_of rfl
theorem a85 : gA 85 36 (-2147483648) 2147483647 := gA_of rfl
theorem a86 : gA 86 12 (-2147483648) 2147483647 := gA_of rfl
theorem a87 : gA 87 12 (-2147483648) 2147483647 := gA_of rfl
theorem a88 : gA 88 12 (-2147483648) 2147483647 := gA_of rfl
theorem a89 : gA 89 12 (-2147483648) 2147483647 := gA_of rfl
theorem cpf_54_4 {g : Nat → Int} (hG : GOK ad tys GG ws) (hX : HX 4 g ws) : CT l D tys A 100 1 0 0 [.ref (ad 54), .ref (ad 4)] ws (fun r w => r = none ∧ GOK ad tys GG w ∧ HX 54 g w ∧ ∀ c i, ¬ (54 ≤ c ∧ c ≤ 65) → rd w c i = rd ws c i) := by
  refine CT_of_V (by omega) (show (2 : Nat) ≤ mML 100 by decide +kernel) ?_
  refine V_aload (v := ad 54) mi_100_0 (by simp [stL, lv_args, Value.category]) ?_
  refine V_aload (v := ad 4) mi_100_1 (by simp [stL, lv_args, Value.category]) ?_
  obtain ⟨p0, hp0, lo0, hi0⟩ := celO hG g4f0 (by omega)
  refine V_gO mi_100_2 g4o hG (hp0) ?_
  refine V_pO mi_100_5 g54f0 (by omega) (by decide +kernel) (by decide +kernel) hG (by rw [Int32.toInt_ofInt_of_le (by omega) (by omega)]; omega) (by rw [Int32.toInt_ofInt_of_le (by omega) (by omega)]; omega) (fun w0 G0 U0 => ?_)
  refine V_aload (v := ad 54) mi_100_8 (by simp [stL, lv_args, Value.category]) ?_
  refine V_aload (v := ad 4) mi_100_9 (by simp [stL, lv_args, Value.category]) ?_
  obtain ⟨p1, hp1, lo1, hi1⟩ := celO hG g4f1 (by omega)
  refine V_gO mi_100_10 g4o G0 ((upd_ne U0 (by omega)).trans hp1) ?_
  refine V_pO mi_100_13 g54f1 (by omega) (by decide +kernel) (by decide +kernel) G0 (by rw [Int32.toInt_ofInt_of_le (by omega) (by omega)]; omega) (by rw [Int32.toInt_ofInt_of_le (by omega) (by omega)]; omega) (fun w1 G1 U1 => ?_)
  refine V_aload (v := ad 54) mi_100_16 (by simp [stL, lv_args, Value.category]) ?_
  refine V_aload (v := ad 4) mi_100_17 (by simp [stL, lv_args, Value.category]) ?_
  obtain ⟨p2, hp2, lo2, hi2⟩ := celO hG g4f2 (by omega)
  refine V_gO mi_100_18 g4o G1 ((upd_ne U1 (by omega)).trans ((upd_ne U0 (by omega)).trans hp2)) ?_
  refine V_pO mi_100_21 g54f2 (by omega) (by decide +kernel) (by decide +kernel) G1 (by rw [Int32.toInt_ofInt_of_le (by omega) (by omega)]; omega) (by rw [Int32.toInt_ofInt_of_le (by omega) (by omega)]; omega) (fun w2 G2 U2 => ?_)
  refine V_aload (v := ad 54) mi_100_24 (by simp [stL, lv_args, Value.category]) ?_
  refine V_aload (v := ad 4) mi_100_25 (by simp [stL, lv_args, Value.category]) ?_
  obtain ⟨p3, hp3, lo3, hi3⟩ := celO hG g4f3 (by omega)
  refine V_gO mi_100_26 g4o G2 ((upd_ne U2 (by omega)).trans ((upd_ne U1 (by omega)).trans ((upd_ne U0 (by omega)).trans hp3))) ?_
  refine V_pO mi_100_29 g54f3 (by omega) (by decide +kernel) (by decide +kernel) G2 (by rw [Int32.toInt_ofInt_of_le (by omega) (by omega)]; omega) (by rw [Int32.toInt_ofInt_of_le (by omega) (by omega)]; omega) (fun w3 G3 U3 => ?_)
  refine V_aload (v := ad 54) mi_100_32 (by simp [stL, lv_args, Value.category]) ?_
  refine V_aload (v := ad 4) mi_100_33 (by simp [stL, lv_args, Value.category]) ?_
  obtain ⟨p4, hp4, lo4, hi4⟩ := celO hG g4f4 (by omega)
  refine V_gO mi_100_34 g4o G3 ((upd_ne U3 (by omega)).trans ((upd_ne U2 (by omega)).trans ((upd_ne U1 (by omega)).trans ((upd_ne U0 (by omega)).trans hp4)))) ?_
  refine V_pO mi_100_37 g54f4 (by omega) (by decide +kernel) (by decide +kernel) G3 (by rw [Int32.toInt_ofInt_of_le (by omega) (by omega)]; omega) (by rw [Int32.toInt_ofInt_of_le (by omega) (by omega)]; omega) (fun w4 G4 U4 => ?_)
  refine V_aload (v := ad 54) mi_100_40 (by simp [stL, lv_args, Value.category]) ?_
  refine V_aload (v := ad 4) mi_100_41 (by simp [stL, lv_args, Value.category]) ?_
  obtain ⟨p5, hp5, lo5, hi5⟩ := celO hG g4f5 (by omega)
  refine V_gO mi_100_42 g4o G4 ((upd_ne U4 (by omega)).trans ((upd_ne U3 (by omega)).trans ((upd_ne U2 (by omega)).trans ((upd_ne U1 (by omega)).trans ((upd_ne U0 (by omega)).trans hp5))))) ?_
  refine V_pO mi_100_45 g54f5 (by omega) (by decide +kernel) (by decide +kernel) G4 (by rw [Int32.toInt_ofInt_of_le (by omega) (by omega)]; omega) (by rw [Int32.toInt_ofInt_of_le (by omega) (by omega)]; omega) (fun w5 G5 U5 => ?_)
  have ho : ∀ c i, c ≠ 54 → rd w5 c i = rd ws c i := fun c i hc => (upd_ne U5 (by omega)).trans ((upd_ne U4 (by omega)).trans ((upd_ne U3 (by omega)).trans ((upd_ne U2 (by omega)).trans ((upd_ne U1 (by omega)).trans (upd_ne U0 (by omega))))))
  have h : HY 54 1 g w5 := fun k hk i hi => by
    have k0 : k = 0 := by omega
    subst k0
    have hi : i < 6 := hi
    rw [← hx0 hX hi]
    have e0 : rd w5 54 0 = rd ws 4 0 := by rw [hp0]; exact (upd_ne U5 (by omega)).trans ((upd_ne U4 (by omega)).trans ((upd_ne U3 (by omega)).trans ((upd_ne U2 (by omega)).trans ((upd_ne U1 (by omega)).trans (upd_eq U0)))))
    have e1 : rd w5 54 1 = rd ws 4 1 := by rw [hp1]; exact (upd_ne U5 (by omega)).trans ((upd_ne U4 (by omega)).trans ((upd_ne U3 (by omega)).trans ((upd_ne U2 (by omega)).trans (upd_eq U1))))
    have e2 : rd w5 54 2 = rd ws 4 2 := by rw [hp2]; exact (upd_ne U5 (by omega)).trans ((upd_ne U4 (by omega)).trans ((upd_ne U3 (by omega)).trans (upd_eq U2)))
    have e3 : rd w5 54 3 = rd ws 4 3 := by rw [hp3]; exact (upd_ne U5 (by omega)).trans ((upd_ne U4 (by omega)).trans (upd_eq U3))
    have e4 : rd w5 54 4 = rd ws 4 4 := by rw [hp4]; exact (upd_ne U5 (by omega)).trans (upd_eq U4)
    have e5 : rd w5 54 5 = rd ws 4 5 := by rw [hp5]; exact upd_eq U5
    rcases i with _ | _ | _ | _ | _ | _ | i
    · exact e0
    · exact e1
    · exact e2
    · exact e3
    · exact e4
    · exact e5
    · omega
  refine V_aload (v := ad 4) mi_100_48 (by simp [stL, lv_args, Value.category]) ?_
  refine V_gR mi_100_49 g4r6 (by omega) G5 ?_
  refine V_aload (v := ad 54) mi_100_52 (by simp [stL, lv_args, Value.category]) ?_
  refine V_gR mi_100_53 g54r6 (by omega) G5 ?_
  refine V_stat (As := [.ref (ad 5), .ref (ad 55)]) (st := []) mi_100_56 (by omega) (copy_ct a5 a55 G5 (by omega) (by omega) ⟨by omega, by omega⟩ ⟨by omega, by omega⟩) (by omega) (show 2 = mN 150 by decide +kernel) (by simp [Value.category]) ⟨Nat.le_refl _, Nat.le_refl _⟩ ?_
  rintro r v1 ⟨rfl, H1, o1, d1⟩
  replace h := HY_step h o1 (fun i hi => by rw [d1 i hi, ho _ _ (by omega)]; exact HX_HY hX 1 (by omega) i hi)
  replace ho : ∀ c i, ¬ (54 ≤ c ∧ c ≤ 65) → rd v1 c i = rd ws c i := fun c i hc => (o1 c i (by omega)).trans (ho c i (by omega))
  refine V_aload (v := ad 4) mi_100_59 (by simp [stL, lv_args, Value.category]) ?_
  refine V_gR mi_100_60 g4r7 (by omega) H1 ?_
  refine V_aload (v := ad 54) mi_100_63 (by simp [stL, lv_args, Value.category]) ?_
  refine V_gR mi_100_64 g54r7 (by omega) H1 ?_
  refine V_stat (As := [.ref (ad 6), .ref (ad 56)]) (st := []) mi_100_67 (by omega) (copy_ct a6 a56 H1 (by omega) (by omega) ⟨by omega, by omega⟩ ⟨by omega, by omega⟩) (by omega) (show 2 = mN 150 by decide +kernel) (by simp [Value.category]) ⟨Nat.le_refl _, Nat.le_refl _⟩ ?_
  rintro r v2 ⟨rfl, H2, o2, d2⟩
  replace h := HY_step h o2 (fun i hi => by rw [d2 i hi, ho _ _ (by omega)]; exact HX_HY hX 2 (by omega) i hi)
  replace ho : ∀ c i, ¬ (54 ≤ c ∧ c ≤ 65) → rd v2 c i = rd ws c i := fun c i hc => (o2 c i (by omega)).trans (ho c i (by omega))
  refine V_aload (v := ad 4) mi_100_70 (by simp [stL, lv_args, Value.category]) ?_
  refine V_gR mi_100_71 g4r8 (by omega) H2 ?_
  refine V_aload (v := ad 54) mi_100_74 (by simp [stL, lv_args, Value.category]) ?_
  refine V_gR mi_100_75 g54r8 (by omega) H2 ?_
  refine V_stat (As := [.ref (ad 7), .ref (ad 57)]) (st := []) mi_100_78 (by omega) (copy_ct a7 a57 H2 (by omega) (by omega) ⟨by omega, by omega⟩ ⟨by omega, by omega⟩) (by omega) (show 2 = mN 150 by decide +kernel) (by simp [Value.category]) ⟨Nat.le_refl _, Nat.le_refl _⟩ ?_
  rintro r v3 ⟨rfl, H3, o3, d3⟩
  replace h := HY_step h o3 (fun i hi => by rw [d3 i hi, ho _ _ (by omega)]; exact HX_HY hX 3 (by omega) i hi)
  replace ho : ∀ c i, ¬ (54 ≤ c ∧ c ≤ 65) → rd v3 c i = rd ws c i := fun c i hc => (o3 c i (by omega)).trans (ho c i (by omega))
  refine V_aload (v := ad 4) mi_100_81 (by simp [stL, lv_args, Value.category]) ?_
  refine V_gR mi_100_82 g4r9 (by omega) H3 ?_
  refine V_aload (v := ad 54) mi_100_85 (by simp [stL, lv_args, Value.category]) ?_
  refine V_gR mi_100_86 g54r9 (by omega) H3 ?_
  refine V_stat (As := [.ref (ad 8), .ref (ad 58)]) (st := []) mi_100_89 (by omega) (copy_ct a8 a58 H3 (by omega) (by omega) ⟨by omega, by omega⟩ ⟨by omega, by omega⟩) (by omega) (show 2 = mN 150 by decide +kernel) (by simp [Value.category]) ⟨Nat.le_refl _, Nat.le_refl _⟩ ?_
  rintro r v4 ⟨rfl, H4, o4, d4⟩
  replace h := HY_step h o4 (fun i hi => by rw [d4 i hi, ho _ _ (by omega)]; exact HX_HY hX 4 (by omega) i hi)
  replace ho : ∀ c i, ¬ (54 ≤ c ∧ c ≤ 65) → rd v4 c i = rd ws c i := fun c i hc => (o4 c i (by omega)).trans (ho c i (by omega))
  refine V_aload (v := ad 4) mi_100_92 (by simp [stL, lv_args, Value.category]) ?_
  refine V_gR mi_100_93 g4r10 (by omega) H4 ?_
  refine V_aload (v := ad 54) mi_100_96 (by simp [stL, lv_args, Value.category]) ?_
  refine V_gR mi_100_97 g54r10 (by omega) H4 ?_
  refine V_stat (As := [.ref (ad 9), .ref (ad 59)]) (st := []) mi_100_100 (by omega) (copy_ct a9 a59 H4 (by omega) (by omega) ⟨by omega, by omega⟩ ⟨by omega, by omega⟩) (by omega) (show 2 = mN 150 by decide +kernel) (by simp [Value.category]) ⟨Nat.le_refl _, Nat.le_refl _⟩ ?_
  rintro r v5 ⟨rfl, H5, o5, d5⟩
  replace h := HY_step h o5 (fun i hi => by rw [d5 i hi, ho _ _ (by omega)]; exact HX_HY hX 5 (by omega) i hi)
  replace ho : ∀ c i, ¬ (54 ≤ c ∧ c ≤ 65) → rd v5 c i = rd ws c i := fun c i hc => (o5 c i (by omega)).trans (ho c i (by omega))
  refine V_aload (v := ad 4) mi_100_103 (by simp [stL, lv_args, Value.category]) ?_
  refine V_gR mi_100_104 g4r11 (by omega) H5 ?_
  refine V_aload (v := ad 54) mi_100_107 (by simp [stL, lv_args, Value.category]) ?_
  refine V_gR mi_100_108 g54r11 (by omega) H5 ?_
  refine V_stat (As := [.ref (ad 10), .ref (ad 60)]) (st := []) mi_100_111 (by omega) (copy_ct a10 a60 H5 (by omega) (by omega) ⟨by omega, by omega⟩ ⟨by omega, by omega⟩) (by omega) (show 2 = mN 150 by decide +kernel) (by simp [Value.category]) ⟨Nat.le_refl _, Nat.le_refl _⟩ ?_
  rintro r v6 ⟨rfl, H6, o6, d6⟩
  replace h := HY_step h o6 (fun i hi => by rw [d6 i hi, ho _ _ (by omega)]; exact HX_HY hX 6 (by omega) i hi)
  replace ho : ∀ c i, ¬ (54 ≤ c ∧ c ≤ 65) → rd v6 c i = rd ws c i := fun c i hc => (o6 c i (by omega)).trans (ho c i (by omega))
  refine V_aload (v := ad 4) mi_100_114 (by simp [stL, lv_args, Value.category]) ?_
  refine V_gR mi_100_115 g4r12 (by omega) H6 ?_
  refine V_aload (v := ad 54) mi_100_118 (by simp [stL, lv_args, Value.category]) ?_
  refine V_gR mi_100_119 g54r12 (by omega) H6 ?_
  refine V_stat (As := [.ref (ad 11), .ref (ad 61)]) (st := []) mi_100_122 (by omega) (copy_ct a11 a61 H6 (by omega) (by omega) ⟨by omega, by omega⟩ ⟨by omega, by omega⟩) (by omega) (show 2 = mN 150 by decide +kernel) (by simp [Value.category]) ⟨Nat.le_refl _, Nat.le_refl _⟩ ?_
  rintro r v7 ⟨rfl, H7, o7, d7⟩
  replace h := HY_step h o7 (fun i hi => by rw [d7 i hi, ho _ _ (by omega)]; exact HX_HY hX 7 (by omega) i hi)
  replace ho : ∀ c i, ¬ (54 ≤ c ∧ c ≤ 65) → rd v7 c i = rd ws c i := fun c i hc => (o7 c i (by omega)).trans (ho c i (by omega))
  refine V_aload (v := ad 4) mi_100_125 (by simp [stL, lv_args, Value.category]) ?_
  refine V_gR mi_100_126 g4r13 (by omega) H7 ?_
  refine V_aload (v := ad 54) mi_100_129 (by simp [stL, lv_args, Value.category]) ?_
  refine V_gR mi_100_130 g54r13 (by omega) H7 ?_
  refine V_stat (As := [.ref (ad 12), .ref (ad 62)]) (st := []) mi_100_133 (by omega) (copy_ct a12 a62 H7 (by omega) (by omega) ⟨by omega, by omega⟩ ⟨by omega, by omega⟩) (by omega) (show 2 = mN 150 by decide +kernel) (by simp [Value.category]) ⟨Nat.le_refl _, Nat.le_refl _⟩ ?_
  rintro r v8 ⟨rfl, H8, o8, d8⟩
  replace h := HY_step h o8 (fun i hi => by rw [d8 i hi, ho _ _ (by omega)]; exact HX_HY hX 8 (by omega) i hi)
  replace ho : ∀ c i, ¬ (54 ≤ c ∧ c ≤ 65) → rd v8 c i = rd ws c i := fun c i hc => (o8 c i (by omega)).trans (ho c i (by omega))
  refine V_aload (v := ad 4) mi_100_136 (by simp [stL, lv_args, Value.category]) ?_
  refine V_gR mi_100_137 g4r14 (by omega) H8 ?_
  refine V_aload (v := ad 54) mi_100_140 (by simp [stL, lv_args, Value.category]) ?_
  refine V_gR mi_100_141 g54r14 (by omega) H8 ?_
  refine V_stat (As := [.ref (ad 13), .ref (ad 63)]) (st := []) mi_100_144 (by omega) (copy_ct a13 a63 H8 (by omega) (by omega) ⟨by omega, by omega⟩ ⟨by omega, by omega⟩) (by omega) (show 2 = mN 150 by decide +kernel) (by simp [Value.category]) ⟨Nat.le_refl _, Nat.le_refl _⟩ ?_
  rintro r v9 ⟨rfl, H9, o9, d9⟩
  replace h := HY_step h o9 (fun i hi => by rw [d9 i hi, ho _ _ (by omega)]; exact HX_HY hX 9 (by omega) i hi)
  replace ho : ∀ c i, ¬ (54 ≤ c ∧ c ≤ 65) → rd v9 c i = rd ws c i := fun c i hc => (o9 c i (by omega)).trans (ho c i (by omega))
  refine V_aload (v := ad 4) mi_100_147 (by simp [stL, lv_args, Value.category]) ?_
  refine V_gR mi_100_148 g4r15 (by omega) H9 ?_
  refine V_aload (v := ad 54) mi_100_151 (by simp [stL, lv_args, Value.category]) ?_
  refine V_gR mi_100_152 g54r15 (by omega) H9 ?_
  refine V_stat (As := [.ref (ad 14), .ref (ad 64)]) (st := []) mi_100_155 (by omega) (copy_ct a14 a64 H9 (by omega) (by omega) ⟨by omega, by omega⟩ ⟨by omega, by omega⟩) (by omega) (show 2 = mN 150 by decide +kernel) (by simp [Value.category]) ⟨Nat.le_refl _, Nat.le_refl _⟩ ?_
  rintro r v10 ⟨rfl, H10, o10, d10⟩
  replace h := HY_step h o10 (fun i hi => by rw [d10 i hi, ho _ _ (by omega)]; exact HX_HY hX 10 (by omega) i hi)
  replace ho : ∀ c i, ¬ (54 ≤ c ∧ c ≤ 65) → rd v10 c i = rd ws c i := fun c i hc => (o10 c i (by omega)).trans (ho c i (by omega))
  refine V_aload (v := ad 4) mi_100_158 (by simp [stL, lv_args, Value.category]) ?_
  refine V_gR mi_100_159 g4r16 (by omega) H10 ?_
  refine V_aload (v := ad 54) mi_100_162 (by simp [stL, lv_args, Value.category]) ?_
  refine V_gR mi_100_163 g54r16 (by omega) H10 ?_
  refine V_stat (As := [.ref (ad 15), .ref (ad 65)]) (st := []) mi_100_166 (by omega) (copy_ct a15 a65 H10 (by omega) (by omega) ⟨by omega, by omega⟩ ⟨by omega, by omega⟩) (by omega) (show 2 = mN 150 by decide +kernel) (by simp [Value.category]) ⟨Nat.le_refl _, Nat.le_refl _⟩ ?_
  rintro r v11 ⟨rfl, H11, o11, d11⟩
  replace h := HY_step h o11 (fun i hi => by rw [d11 i hi, ho _ _ (by omega)]; exact HX_HY hX 11 (by omega) i hi)
  replace ho : ∀ c i, ¬ (54 ≤ c ∧ c ≤ 65) → rd v11 c i = rd ws c i := fun c i hc => (o11 c i (by omega)).trans (ho c i (by omega))
  exact V_retV mi_100_169 ⟨rfl, H11, HY_HX h, ho⟩
theorem cpf_4_54 {g : Nat → Int} (hG : GOK ad tys GG ws) (hX : HX 54 g ws) : CT l D tys A 100 1 0 0 [.ref (ad 4), .ref (ad 54)] ws (fun r w => r = none ∧ GOK ad tys GG w ∧ HX 4 g w ∧ ∀ c i, ¬ (4 ≤ c ∧ c ≤ 15) → rd w c i = rd ws c i) := by
  refine CT_of_V (by omega) (show (2 : Nat) ≤ mML 100 by decide +kernel) ?_
  refine V_aload (v := ad 4) mi_100_0 (by simp [stL, lv_args, Value.category]) ?_
  refine V_aload (v := ad 54) mi_100_1 (by simp [stL, lv_args, Value.category]) ?_
  obtain ⟨p0, hp0, lo0, hi0⟩ := celO hG g54f0 (by omega)
  refine V_gO mi_100_2 g54o hG (hp0) ?_
  refine V_pO mi_100_5 g4f0 (by omega) (by decide +kernel) (by decide +kernel) hG (by rw [Int32.toInt_ofInt_of_le (by omega) (by omega)]; omega) (by rw [Int32.toInt_ofInt_of_le (by omega) (by omega)]; omega) (fun w0 G0 U0 => ?_)
  refine V_aload (v := ad 4) mi_100_8 (by simp [stL, lv_args, Value.category]) ?_
  refine V_aload (v := ad 54) mi_100_9 (by simp [stL, lv_args, Value.category]) ?_
  obtain ⟨p1, hp1, lo1, hi1⟩ := celO hG g54f1 (by omega)
  refine V_gO mi_100_10 g54o G0 ((upd_ne U0 (by omega)).trans hp1) ?_
  refine V_pO mi_100_13 g4f1 (by omega) (by decide +kernel) (by decide +kernel) G0 (by rw [Int32.toInt_ofInt_of_le (by omega) (by omega)]; omega) (by rw [Int32.toInt_ofInt_of_le (by omega) (by omega)]; omega) (fun w1 G1 U1 => ?_)
  refine V_aload (v := ad 4) mi_100_16 (by simp [stL, lv_args, Value.category]) ?_
  refine V_aload (v := ad 54) mi_100_17 (by simp [stL, lv_args, Value.category]) ?_
  obtain ⟨p2, hp2, lo2, hi2⟩ := celO hG g54f2 (by omega)
  refine V_gO mi_100_18 g54o G1 ((upd_ne U1 (by omega)).trans ((upd_ne U0 (by omega)).trans hp2)) ?_
  refine V_pO mi_100_21 g4f2 (by omega) (by decide +kernel) (by decide +kernel) G1 (by rw [Int32.toInt_ofInt_of_le (by omega) (by omega)]; omega) (by rw [Int32.toInt_ofInt_of_le (by omega) (by omega)]; omega) (fun w2 G2 U2 => ?_)
  refine V_aload (v := ad 4) mi_100_24 (by simp [stL, lv_args, Value.category]) ?_
  refine V_aload (v := ad 54) mi_100_25 (by simp [stL, lv_args, Value.category]) ?_
  obtain ⟨p3, hp3, lo3, hi3⟩ := celO hG g54f3 (by omega)
  refine V_gO mi_100_26 g54o G2 ((upd_ne U2 (by omega)).trans ((upd_ne U1 (by omega)).trans ((upd_ne U0 (by omega)).trans hp3))) ?_
  refine V_pO mi_100_29 g4f3 (by omega) (by decide +kernel) (by decide +kernel) G2 (by rw [Int32.toInt_ofInt_of_le (by omega) (by omega)]; omega) (by rw [Int32.toInt_ofInt_of_le (by omega) (by omega)]; omega) (fun w3 G3 U3 => ?_)
  refine V_aload (v := ad 4) mi_100_32 (by simp [stL, lv_args, Value.category]) ?_
  refine V_aload (v := ad 54) mi_100_33 (by simp [stL, lv_args, Value.category]) ?_
  obtain ⟨p4, hp4, lo4, hi4⟩ := celO hG g54f4 (by omega)
  refine V_gO mi_100_34 g54o G3 ((upd_ne U3 (by omega)).trans ((upd_ne U2 (by omega)).trans ((upd_ne U1 (by omega)).trans ((upd_ne U0 (by omega)).trans hp4)))) ?_
  refine V_pO mi_100_37 g4f4 (by omega) (by decide +kernel) (by decide +kernel) G3 (by rw [Int32.toInt_ofInt_of_le (by omega) (by omega)]; omega) (by rw [Int32.toInt_ofInt_of_le (by omega) (by omega)]; omega) (fun w4 G4 U4 => ?_)
  refine V_aload (v := ad 4) mi_100_40 (by simp [stL, lv_args, Value.category]) ?_
  refine V_aload (v := ad 54) mi_100_41 (by simp [stL, lv_args, Value.category]) ?_
  obtain ⟨p5, hp5, lo5, hi5⟩ := celO hG g54f5 (by omega)
  refine V_gO mi_100_42 g54o G4 ((upd_ne U4 (by omega)).trans ((upd_ne U3 (by omega)).trans ((upd_ne U2 (by omega)).trans ((upd_ne U1 (by omega)).trans ((upd_ne U0 (by omega)).trans hp5))))) ?_
  refine V_pO mi_100_45 g4f5 (by omega) (by decide +kernel) (by decide +kernel) G4 (by rw [Int32.toInt_ofInt_of_le (by omega) (by omega)]; omega) (by rw [Int32.toInt_ofInt_of_le (by omega) (by omega)]; omega) (fun w5 G5 U5 => ?_)
  have ho : ∀ c i, c ≠ 4 → rd w5 c i = rd ws c i := fun c i hc => (upd_ne U5 (by omega)).trans ((upd_ne U4 (by omega)).trans ((upd_ne U3 (by omega)).trans ((upd_ne U2 (by omega)).trans ((upd_ne U1 (by omega)).trans (upd_ne U0 (by omega))))))
  have h : HY 4 1 g w5 := fun k hk i hi => by
    have k0 : k = 0 := by omega
    subst k0
    have hi : i < 6 := hi
    rw [← hx0 hX hi]
    have e0 : rd w5 4 0 = rd ws 54 0 := by rw [hp0]; exact (upd_ne U5 (by omega)).trans ((upd_ne U4 (by omega)).trans ((upd_ne U3 (by omega)).trans ((upd_ne U2 (by omega)).trans ((upd_ne U1 (by omega)).trans (upd_eq U0)))))
    have e1 : rd w5 4 1 = rd ws 54 1 := by rw [hp1]; exact (upd_ne U5 (by omega)).trans ((upd_ne U4 (by omega)).trans ((upd_ne U3 (by omega)).trans ((upd_ne U2 (by omega)).trans (upd_eq U1))))
    have e2 : rd w5 4 2 = rd ws 54 2 := by rw [hp2]; exact (upd_ne U5 (by omega)).trans ((upd_ne U4 (by omega)).trans ((upd_ne U3 (by omega)).trans (upd_eq U2)))
    have e3 : rd w5 4 3 = rd ws 54 3 := by rw [hp3]; exact (upd_ne U5 (by omega)).trans ((upd_ne U4 (by omega)).trans (upd_eq U3))
    have e4 : rd w5 4 4 = rd ws 54 4 := by rw [hp4]; exact (upd_ne U5 (by omega)).trans (upd_eq U4)
    have e5 : rd w5 4 5 = rd ws 54 5 := by rw [hp5]; exact upd_eq U5
    rcases i with _ | _ | _ | _ | _ | _ | i
    · exact e0
    · exact e1
    · exact e2
    · exact e3
    · exact e4
    · exact e5
    · omega
  refine V_aload (v := ad 54) mi_100_48 (by simp [stL, lv_args, Value.category]) ?_
  refine V_gR mi_100_49 g54r6 (by omega) G5 ?_
  refine V_aload (v := ad 4) mi_100_52 (by simp [stL, lv_args, Value.category]) ?_
  refine V_gR mi_100_53 g4r6 (by omega) G5 ?_
  refine V_stat (As := [.ref (ad 55), .ref (ad 5)]) (st := []) mi_100_56 (by omega) (copy_ct a55 a5 G5 (by omega) (by omega) ⟨by omega, by omega⟩ ⟨by omega, by omega⟩) (by omega) (show 2 = mN 150 by decide +kernel) (by simp [Value.category]) ⟨Nat.le_refl _, Nat.le_refl _⟩ ?_
  rintro r v1 ⟨rfl, H1, o1, d1⟩
  replace h := HY_step h o1 (fun i hi => by rw [d1 i hi, ho _ _ (by omega)]; exact HX_HY hX 1 (by omega) i hi)
  replace ho : ∀ c i, ¬ (4 ≤ c ∧ c ≤ 15) → rd v1 c i = rd ws c i := fun c i hc => (o1 c i (by omega)).trans (ho c i (by omega))
  refine V_aload (v := ad 54) mi_100_59 (by simp [stL, lv_args, Value.category]) ?_
  refine V_gR mi_100_60 g54r7 (by omega) H1 ?_
  refine V_aload (v := ad 4) mi_100_63 (by simp [stL, lv_args, Value.category]) ?_
  refine V_gR mi_100_64 g4r7 (by omega) H1 ?_
  refine V_stat (As := [.ref (ad 56), .ref (ad 6)]) (st := []) mi_100_67 (by omega) (copy_ct a56 a6 H1 (by omega) (by omega) ⟨by omega, by omega⟩ ⟨by omega, by omega⟩) (by omega) (show 2 = mN 150 by decide +kernel) (by simp [Value.category]) ⟨Nat.le_refl _, Nat.le_refl _⟩ ?_
  rintro r v2 ⟨rfl, H2, o2, d2⟩
  replace h := HY_step h o2 (fun i hi => by rw [d2 i hi, ho _ _ (by omega)]; exact HX_HY hX 2 (by omega) i hi)
  replace ho : ∀ c i, ¬ (4 ≤ c ∧ c ≤ 15) → rd v2 c i = rd ws c i := fun c i hc => (o2 c i (by omega)).trans (ho c i (by omega))
  refine V_aload (v := ad 54) mi_100_70 (by simp [stL, lv_args, Value.category]) ?_
  refine V_gR mi_100_71 g54r8 (by omega) H2 ?_
  refine V_aload (v := ad 4) mi_100_74 (by simp [stL, lv_args, Value.category]) ?_
  refine V_gR mi_100_75 g4r8 (by omega) H2 ?_
  refine V_stat (As := [.ref (ad 57), .ref (ad 7)]) (st := []) mi_100_78 (by omega) (copy_ct a57 a7 H2 (by omega) (by omega) ⟨by omega, by omega⟩ ⟨by omega, by omega⟩) (by omega) (show 2 = mN 150 by decide +kernel) (by simp [Value.category]) ⟨Nat.le_refl _, Nat.le_refl _⟩ ?_
  rintro r v3 ⟨rfl, H3, o3, d3⟩
  replace h := HY_step h o3 (fun i hi => by rw [d3 i hi, ho _ _ (by omega)]; exact HX_HY hX 3 (by omega) i hi)
  replace ho : ∀ c i, ¬ (4 ≤ c ∧ c ≤ 15) → rd v3 c i = rd ws c i := fun c i hc => (o3 c i (by omega)).trans (ho c i (by omega))
  refine V_aload (v := ad 54) mi_100_81 (by simp [stL, lv_args, Value.category]) ?_
  refine V_gR mi_100_82 g54r9 (by omega) H3 ?_
  refine V_aload (v := ad 4) mi_100_85 (by simp [stL, lv_args, Value.category]) ?_
  refine V_gR mi_100_86 g4r9 (by omega) H3 ?_
  refine V_stat (As := [.ref (ad 58), .ref (ad 8)]) (st := []) mi_100_89 (by omega) (copy_ct a58 a8 H3 (by omega) (by omega) ⟨by omega, by omega⟩ ⟨by omega, by omega⟩) (by omega) (show 2 = mN 150 by decide +kernel) (by simp [Value.category]) ⟨Nat.le_refl _, Nat.le_refl _⟩ ?_
  rintro r v4 ⟨rfl, H4, o4, d4⟩
  replace h := HY_step h o4 (fun i hi => by rw [d4 i hi, ho _ _ (by omega)]; exact HX_HY hX 4 (by omega) i hi)
  replace ho : ∀ c i, ¬ (4 ≤ c ∧ c ≤ 15) → rd v4 c i = rd ws c i := fun c i hc => (o4 c i (by omega)).trans (ho c i (by omega))
  refine V_aload (v := ad 54) mi_100_92 (by simp [stL, lv_args, Value.category]) ?_
  refine V_gR mi_100_93 g54r10 (by omega) H4 ?_
  refine V_aload (v := ad 4) mi_100_96 (by simp [stL, lv_args, Value.category]) ?_
  refine V_gR mi_100_97 g4r10 (by omega) H4 ?_
  refine V_stat (As := [.ref (ad 59), .ref (ad 9)]) (st := []) mi_100_100 (by omega) (copy_ct a59 a9 H4 (by omega) (by omega) ⟨by omega, by omega⟩ ⟨by omega, by omega⟩) (by omega) (show 2 = mN 150 by decide +kernel) (by simp [Value.category]) ⟨Nat.le_refl _, Nat.le_refl _⟩ ?_
  rintro r v5 ⟨rfl, H5, o5, d5⟩
  replace h := HY_step h o5 (fun i hi => by rw [d5 i hi, ho _ _ (by omega)]; exact HX_HY hX 5 (by omega) i hi)
  replace ho : ∀ c i, ¬ (4 ≤ c ∧ c ≤ 15) → rd v5 c i = rd ws c i := fun c i hc => (o5 c i (by omega)).trans (ho c i (by omega))
  refine V_aload (v := ad 54) mi_100_103 (by simp [stL, lv_args, Value.category]) ?_
  refine V_gR mi_100_104 g54r11 (by omega) H5 ?_
  refine V_aload (v := ad 4) mi_100_107 (by simp [stL, lv_args, Value.category]) ?_
  refine V_gR mi_100_108 g4r11 (by omega) H5 ?_
  refine V_stat (As := [.ref (ad 60), .ref (ad 10)]) (st := []) mi_100_111 (by omega) (copy_ct a60 a10 H5 (by omega) (by omega) ⟨by omega, by omega⟩ ⟨by omega, by omega⟩) (by omega) (show 2 = mN 150 by decide +kernel) (by simp [Value.category]) ⟨Nat.le_refl _, Nat.le_refl _⟩ ?_
  rintro r v6 ⟨rfl, H6, o6, d6⟩
  replace h := HY_step h o6 (fun i hi => by rw [d6 i hi, ho _ _ (by omega)]; exact HX_HY hX 6 (by omega) i hi)
  replace ho : ∀ c i, ¬ (4 ≤ c ∧ c ≤ 15) → rd v6 c i = rd ws c i := fun c i hc => (o6 c i (by omega)).trans (ho c i (by omega))
  refine V_aload (v := ad 54) mi_100_114 (by simp [stL, lv_args, Value.category]) ?_
  refine V_gR mi_100_115 g54r12 (by omega) H6 ?_
  refine V_aload (v := ad 4) mi_100_118 (by simp [stL, lv_args, Value.category]) ?_
  refine V_gR mi_100_119 g4r12 (by omega) H6 ?_
  refine V_stat (As := [.ref (ad 61), .ref (ad 11)]) (st := []) mi_100_122 (by omega) (copy_ct a61 a11 H6 (by omega) (by omega) ⟨by omega, by omega⟩ ⟨by omega, by omega⟩) (by omega) (show 2 = mN 150 by decide +kernel) (by simp [Value.category]) ⟨Nat.le_refl _, Nat.le_refl _⟩ ?_
  rintro r v7 ⟨rfl, H7, o7, d7⟩
  replace h := HY_step h o7 (fun i hi => by rw [d7 i hi, ho _ _ (by omega)]; exact HX_HY hX 7 (by omega) i hi)
  replace ho : ∀ c i, ¬ (4 ≤ c ∧ c ≤ 15) → rd v7 c i = rd ws c i := fun c i hc => (o7 c i (by omega)).trans (ho c i (by omega))
  refine V_aload (v := ad 54) mi_100_125 (by simp [stL, lv_args, Value.category]) ?_
  refine V_gR mi_100_126 g54r13 (by omega) H7 ?_
  refine V_aload (v := ad 4) mi_100_129 (by simp [stL, lv_args, Value.category]) ?_
  refine V_gR mi_100_130 g4r13 (by omega) H7 ?_
  refine V_stat (As := [.ref (ad 62), .ref (ad 12)]) (st := []) mi_100_133 (by omega) (copy_ct a62 a12 H7 (by omega) (by omega) ⟨by omega, by omega⟩ ⟨by omega, by omega⟩) (by omega) (show 2 = mN 150 by decide +kernel) (by simp [Value.category]) ⟨Nat.le_refl _, Nat.le_refl _⟩ ?_
  rintro r v8 ⟨rfl, H8, o8, d8⟩
  replace h := HY_step h o8 (fun i hi => by rw [d8 i hi, ho _ _ (by omega)]; exact HX_HY hX 8 (by omega) i hi)
  replace ho : ∀ c i, ¬ (4 ≤ c ∧ c ≤ 15) → rd v8 c i = rd ws c i := fun c i hc => (o8 c i (by omega)).trans (ho c i (by omega))
  refine V_aload (v := ad 54) mi_100_136 (by simp [stL, lv_args, Value.category]) ?_
  refine V_gR mi_100_137 g54r14 (by omega) H8 ?_
  refine V_aload (v := ad 4) mi_100_140 (by simp [stL, lv_args, Value.category]) ?_
  refine V_gR mi_100_141 g4r14 (by omega) H8 ?_
  refine V_stat (As := [.ref (ad 63), .ref (ad 13)]) (st := []) mi_100_144 (by omega) (copy_ct a63 a13 H8 (by omega) (by omega) ⟨by omega, by omega⟩ ⟨by omega, by omega⟩) (by omega) (show 2 = mN 150 by decide +kernel) (by simp [Value.category]) ⟨Nat.le_refl _, Nat.le_refl _⟩ ?_
  rintro r v9 ⟨rfl, H9, o9, d9⟩
  replace h := HY_step h o9 (fun i hi => by rw [d9 i hi, ho _ _ (by omega)]; exact HX_HY hX 9 (by omega) i hi)
  replace ho : ∀ c i, ¬ (4 ≤ c ∧ c ≤ 15) → rd v9 c i = rd ws c i := fun c i hc => (o9 c i (by omega)).trans (ho c i (by omega))
  refine V_aload (v := ad 54) mi_100_147 (by simp [stL, lv_args, Value.category]) ?_
  refine V_gR mi_100_148 g54r15 (by omega) H9 ?_
  refine V_aload (v := ad 4) mi_100_151 (by simp [stL, lv_args, Value.category]) ?_
  refine V_gR mi_100_152 g4r15 (by omega) H9 ?_
  refine V_stat (As := [.ref (ad 64), .ref (ad 14)]) (st := []) mi_100_155 (by omega) (copy_ct a64 a14 H9 (by omega) (by omega) ⟨by omega, by omega⟩ ⟨by omega, by omega⟩) (by omega) (show 2 = mN 150 by decide +kernel) (by simp [Value.category]) ⟨Nat.le_refl _, Nat.le_refl _⟩ ?_
  rintro r v10 ⟨rfl, H10, o10, d10⟩
  replace h := HY_step h o10 (fun i hi => by rw [d10 i hi, ho _ _ (by omega)]; exact HX_HY hX 10 (by omega) i hi)
  replace ho : ∀ c i, ¬ (4 ≤ c ∧ c ≤ 15) → rd v10 c i = rd ws c i := fun c i hc => (o10 c i (by omega)).trans (ho c i (by omega))
  refine V_aload (v := ad 54) mi_100_158 (by simp [stL, lv_args, Value.category]) ?_
  refine V_gR mi_100_159 g54r16 (by omega) H10 ?_
  refine V_aload (v := ad 4) mi_100_162 (by simp [stL, lv_args, Value.category]) ?_
  refine V_gR mi_100_163 g4r16 (by omega) H10 ?_
  refine V_stat (As := [.ref (ad 65), .ref (ad 15)]) (st := []) mi_100_166 (by omega) (copy_ct a65 a15 H10 (by omega) (by omega) ⟨by omega, by omega⟩ ⟨by omega, by omega⟩) (by omega) (show 2 = mN 150 by decide +kernel) (by simp [Value.category]) ⟨Nat.le_refl _, Nat.le_refl _⟩ ?_
  rintro r v11 ⟨rfl, H11, o11, d11⟩
  replace h := HY_step h o11 (fun i hi => by rw [d11 i hi, ho _ _ (by omega)]; exact HX_HY hX 11 (by omega) i hi)
  replace ho : ∀ c i, ¬ (4 ≤ c ∧ c ≤ 15) → rd v11 c i = rd ws c i := fun c i hc => (o11 c i (by omega)).trans (ho c i (by omega))
  exact V_retV mi_100_169 ⟨rfl, H11, HY_HX h, ho⟩
theorem cpf_66_4 {g : Nat → Int} (hG : GOK ad tys GG ws) (hX : HX 4 g ws) : CT l D tys A 100 1 0 0 [.ref (ad 66), .ref (ad 4)] ws (fun r w => r = none ∧ GOK ad tys GG w ∧ HX 66 g w ∧ ∀ c i, ¬ (66 ≤ c ∧ c ≤ 77) → rd w c i = rd ws c i) := by
  refine CT_of_V (by omega) (show (2 : Nat) ≤ mML 100 by decide +kernel) ?_
  refine V_aload (v := ad 66) mi_100_0 (by simp [stL, lv_args, Value.category]) ?_
  refine V_aload (v := ad 4) mi_100_1 (by simp [stL, lv_args, Value.category]) ?_
  obtain ⟨p0, hp0, lo0, hi0⟩ := celO hG g4f0 (by omega)
  refine V_gO mi_100_2 g4o hG (hp0) ?_
  refine V_pO mi_100_5 g66f0 (by omega) (by decide +kernel) (by decide +kernel) hG (by rw [Int32.toInt_ofInt_of_le (by omega) (by omega)]; omega) (by rw [Int32.toInt_ofInt_of_le (by omega) (by omega)]; omega) (fun w0 G0 U0 => ?_)
  refine V_aload (v := ad 66) mi_100_8 (by simp [stL, lv_args, Value.category]) ?_
  refine V_aload (v := ad 4) mi_100_9 (by simp [stL, lv_args, Value.category]) ?_
  obtain ⟨p1, hp1, lo1, hi1⟩ := celO hG g4f1 (by omega)
  refine V_gO mi_100_10 g4o G0 ((upd_ne U0 (by omega)).trans hp1) ?_
  refine V_pO mi_100_13 g66f1 (by omega) (by decide +kernel) (by decide +kernel) G0 (by rw [Int32.toInt_ofInt_of_le (by omega) (by omega)]; omega) (by rw [Int32.toInt_ofInt_of_le (by omega) (by omega)]; omega) (fun w1 G1 U1 => ?_)
  refine V_aload (v := ad 66) mi_100_16 (by simp [stL, lv_args, Value.category]) ?_
  refine V_aload (v := ad 4) mi_100_17 (by simp [stL, lv_args, Value.category]) ?_
  obtain ⟨p2, hp2, lo2, hi2⟩ := celO hG g4f2 (by omega)
  refine V_gO mi_100_18 g4o G1 ((upd_ne U1 (by omega)).trans ((upd_ne U0 (by omega)).trans hp2)) ?_
  refine V_pO mi_100_21 g66f2 (by omega) (by decide +kernel) (by decide +kernel) G1 (by rw [Int32.toInt_ofInt_of_le (by omega) (by omega)]; omega) (by rw [Int32.toInt_ofInt_of_le (by omega) (by omega)]; omega) (fun w2 G2 U2 => ?_)
  refine V_aload (v := ad 66) mi_100_24 (by simp [stL, lv_args, Value.category]) ?_
  refine V_aload (v := ad 4) mi_100_25 (by simp [stL, lv_args, Value.category]) ?_
  obtain ⟨p3, hp3, lo3, hi3⟩ := celO hG g4f3 (by omega)
  refine V_gO mi_100_26 g4o G2 ((upd_ne U2 (by omega)).trans ((upd_ne U1 (by omega)).trans ((upd_ne U0 (by omega)).trans hp3))) ?_
  refine V_pO mi_100_29 g66f3 (by omega) (by decide +kernel) (by decide +kernel) G2 (by rw [Int32.toInt_ofInt_of_le (by omega) (by omega)]; omega) (by rw [Int32.toInt_ofInt_of_le (by omega) (by omega)]; omega) (fun w3 G3 U3 => ?_)
  refine V_aload (v := ad 66) mi_100_32 (by simp [stL, lv_args, Value.category]) ?_
  refine V_aload (v := ad 4) mi_100_33 (by simp [stL, lv_args, Value.category]) ?_
  obtain ⟨p4, hp4, lo4, hi4⟩ := celO hG g4f4 (by omega)
  refine V_gO mi_100_34 g4o G3 ((upd_ne U3 (by omega)).trans ((upd_ne U2 (by omega)).trans ((upd_ne U1 (by omega)).trans ((upd_ne U0 (by omega)).trans hp4)))) ?_
  refine V_pO mi_100_37 g66f4 (by omega) (by decide +kernel) (by decide +kernel) G3 (by rw [Int32.toInt_ofInt_of_le (by omega) (by omega)]; omega) (by rw [Int32.toInt_ofInt_of_le (by omega) (by omega)]; omega) (fun w4 G4 U4 => ?_)
  refine V_aload (v := ad 66) mi_100_40 (by simp [stL, lv_args, Value.category]) ?_
  refine V_aload (v := ad 4) mi_100_41 (by simp [stL, lv_args, Value.category]) ?_
  obtain ⟨p5, hp5, lo5, hi5⟩ := celO hG g4f5 (by omega)
  refine V_gO mi_100_42 g4o G4 ((upd_ne U4 (by omega)).trans ((upd_ne U3 (by omega)).trans ((upd_ne U2 (by omega)).trans ((upd_ne U1 (by omega)).trans ((upd_ne U0 (by omega)).trans hp5))))) ?_
  refine V_pO mi_100_45 g66f5 (by omega) (by decide +kernel) (by decide +kernel) G4 (by rw [Int32.toInt_ofInt_of_le (by omega) (by omega)]; omega) (by rw [Int32.toInt_ofInt_of_le (by omega) (by omega)]; omega) (fun w5 G5 U5 => ?_)
  have ho : ∀ c i, c ≠ 66 → rd w5 c i = rd ws c i := fun c i hc => (upd_ne U5 (by omega)).trans ((upd_ne U4 (by omega)).trans ((upd_ne U3 (by omega)).trans ((upd_ne U2 (by omega)).trans ((upd_ne U1 (by omega)).trans (upd_ne U0 (by omega))))))
  have h : HY 66 1 g w5 := fun k hk i hi => by
    have k0 : k = 0 := by omega
    subst k0
    have hi : i < 6 := hi
    rw [← hx0 hX hi]
    have e0 : rd w5 66 0 = rd ws 4 0 := by rw [hp0]; exact (upd_ne U5 (by omega)).trans ((upd_ne U4 (by omega)).trans ((upd_ne U3 (by omega)).trans ((upd_ne U2 (by omega)).trans ((upd_ne U1 (by omega)).trans (upd_eq U0)))))
    have e1 : rd w5 66 1 = rd ws 4 1 := by rw [hp1]; exact (upd_ne U5 (by omega)).trans ((upd_ne U4 (by omega)).trans ((upd_ne U3 (by omega)).trans ((upd_ne U2 (by omega)).trans (upd_eq U1))))
    have e2 : rd w5 66 2 = rd ws 4 2 := by rw [hp2]; exact (upd_ne U5 (by omega)).trans ((upd_ne U4 (by omega)).trans ((upd_ne U3 (by omega)).trans (upd_eq U2)))
    have e3 : rd w5 66 3 = rd ws 4 3 := by rw [hp3]; exact (upd_ne U5 (by omega)).trans ((upd_ne U4 (by omega)).trans (upd_eq U3))
    have e4 : rd w5 66 4 = rd ws 4 4 := by rw [hp4]; exact (upd_ne U5 (by omega)).trans (upd_eq U4)
    have e5 : rd w5 66 5 = rd ws 4 5 := by rw [hp5]; exact upd_eq U5
    rcases i with _ | _ | _ | _ | _ | _ | i
    · exact e0
    · exact e1
    · exact e2
    · exact e3
    · exact e4
    · exact e5
    · omega
  refine V_aload (v := ad 4) mi_100_48 (by simp [stL, lv_args, Value.category]) ?_
  refine V_gR mi_100_49 g4r6 (by omega) G5 ?_
  refine V_aload (v := ad 66) mi_100_52 (by simp [stL, lv_args, Value.category]) ?_
  refine V_gR mi_100_53 g66r6 (by omega) G5 ?_
  refine V_stat (As := [.ref (ad 5), .ref (ad 67)]) (st := []) mi_100_56 (by omega) (copy_ct a5 a67 G5 (by omega) (by omega) ⟨by omega, by omega⟩ ⟨by omega, by omega⟩) (by omega) (show 2 = mN 150 by decide +kernel) (by simp [Value.category]) ⟨Nat.le_refl _, Nat.le_refl _⟩ ?_
  rintro r v1 ⟨rfl, H1, o1, d1⟩
  replace h := HY_step h o1 (fun i hi => by rw [d1 i hi, ho _ _ (by omega)]; exact HX_HY hX 1 (by omega) i hi)
  replace ho : ∀ c i, ¬ (66 ≤ c ∧ c ≤ 77) → rd v1 c i = rd ws c i := fun c i hc => (o1 c i (by omega)).trans (ho c i (by omega))
  refine V_aload (v := ad 4) mi_100_59 (by simp [stL, lv_args, Value.category]) ?_
  refine V_gR mi_100_60 g4r7 (by omega) H1 ?_
  refine V_aload (v := ad 66) mi_100_63 (by simp [stL, lv_args, Value.category]) ?_
  refine V_gR mi_100_64 g66r7 (by omega) H1 ?_
  refine V_stat (As := [.ref (ad 6), .ref (ad 68)]) (st := []) mi_100_67 (by omega) (copy_ct a6 a68 H1 (by omega) (by omega) ⟨by omega, by omega⟩ ⟨by omega, by omega⟩) (by omega) (show 2 = mN 150 by decide +kernel) (by simp [Value.category]) ⟨Nat.le_refl _, Nat.le_refl _⟩ ?_
  rintro r v2 ⟨rfl, H2, o2, d2⟩
  replace h := HY_step h o2 (fun i hi => by rw [d2 i hi, ho _ _ (by omega)]; exact HX_HY hX 2 (by omega) i hi)
  replace ho : ∀ c i, ¬ (66 ≤ c ∧ c ≤ 77) → rd v2 c i = rd ws c i := fun c i hc => (o2 c i (by omega)).trans (ho c i (by omega))
  refine V_aload (v := ad 4) mi_100_70 (by simp [stL, lv_args, Value.category]) ?_
  refine V_gR mi_100_71 g4r8 (by omega) H2 ?_
  refine V_aload (v := ad 66) mi_100_74 (by simp [stL, lv_args, Value.category]) ?_
  refine V_gR mi_100_75 g66r8 (by omega) H2 ?_
  refine V_stat (As := [.ref (ad 7), .ref (ad 69)]) (st := []) mi_100_78 (by omega) (copy_ct a7 a69 H2 (by omega) (by omega) ⟨by omega, by omega⟩ ⟨by omega, by omega⟩) (by omega) (show 2 = mN 150 by decide +kernel) (by simp [Value.category]) ⟨Nat.le_refl _, Nat.le_refl _⟩ ?_
  rintro r v3 ⟨rfl, H3, o3, d3⟩
  replace h := HY_step h o3 (fun i hi => by rw [d3 i hi, ho _ _ (by omega)]; exact HX_HY hX 3 (by omega) i hi)
  replace ho : ∀ c i, ¬ (66 ≤ c ∧ c ≤ 77) → rd v3 c i = rd ws c i := fun c i hc => (o3 c i (by omega)).trans (ho c i (by omega))
  refine V_aload (v := ad 4) mi_100_81 (by simp [stL, lv_args, Value.category]) ?_
  refine V_gR mi_100_82 g4r9 (by omega) H3 ?_
  refine V_aload (v := ad 66) mi_100_85 (by simp [stL, lv_args, Value.category]) ?_
  refine V_gR mi_100_86 g66r9 (by omega) H3 ?_
  refine V_stat (As := [.ref (ad 8), .ref (ad 70)]) (st := []) mi_100_89 (by omega) (copy_ct a8 a70 H3 (by omega) (by omega) ⟨by omega, by omega⟩ ⟨by omega, by omega⟩) (by omega) (show 2 = mN 150 by decide +kernel) (by simp [Value.category]) ⟨Nat.le_refl _, Nat.le_refl _⟩ ?_
  rintro r v4 ⟨rfl, H4, o4, d4⟩
  replace h := HY_step h o4 (fun i hi => by rw [d4 i hi, ho _ _ (by omega)]; exact HX_HY hX 4 (by omega) i hi)
  replace ho : ∀ c i, ¬ (66 ≤ c ∧ c ≤ 77) → rd v4 c i = rd ws c i := fun c i hc => (o4 c i (by omega)).trans (ho c i (by omega))
  refine V_aload (v := ad 4) mi_100_92 (by simp [stL, lv_args, Value.category]) ?_
  refine V_gR mi_100_93 g4r10 (by omega) H4 ?_
  refine V_aload (v := ad 66) mi_100_96 (by simp [stL, lv_args, Value.category]) ?_
  refine V_gR mi_100_97 g66r10 (by omega) H4 ?_
  refine V_stat (As := [.ref (ad 9), .ref (ad 71)]) (st := []) mi_100_100 (by omega) (copy_ct a9 a71 H4 (by omega) (by omega) ⟨by omega, by omega⟩ ⟨by omega, by omega⟩) (by omega) (show 2 = mN 150 by decide +kernel) (by simp [Value.category]) ⟨Nat.le_refl _, Nat.le_refl _⟩ ?_
  rintro r v5 ⟨rfl, H5, o5, d5⟩
  replace h := HY_step h o5 (fun i hi => by rw [d5 i hi, ho _ _ (by omega)]; exact HX_HY hX 5 (by omega) i hi)
  replace ho : ∀ c i, ¬ (66 ≤ c ∧ c ≤ 77) → rd v5 c i = rd ws c i := fun c i hc => (o5 c i (by omega)).trans (ho c i (by omega))
  refine V_aload (v := ad 4) mi_100_103 (by simp [stL, lv_args, Value.category]) ?_
  refine V_gR mi_100_104 g4r11 (by omega) H5 ?_
  refine V_aload (v := ad 66) mi_100_107 (by simp [stL, lv_args, Value.category]) ?_
  refine V_gR mi_100_108 g66r11 (by omega) H5 ?_
  refine V_stat (As := [.ref (ad 10), .ref (ad 72)]) (st := []) mi_100_111 (by omega) (copy_ct a10 a72 H5 (by omega) (by omega) ⟨by omega, by omega⟩ ⟨by omega, by omega⟩) (by omega) (show 2 = mN 150 by decide +kernel) (by simp [Value.category]) ⟨Nat.le_refl _, Nat.le_refl _⟩ ?_
  rintro r v6 ⟨rfl, H6, o6, d6⟩
  replace h := HY_step h o6 (fun i hi => by rw [d6 i hi, ho _ _ (by omega)]; exact HX_HY hX 6 (by omega) i hi)
  replace ho : ∀ c i, ¬ (66 ≤ c ∧ c ≤ 77) → rd v6 c i = rd ws c i := fun c i hc => (o6 c i (by omega)).trans (ho c i (by omega))
  refine V_aload (v := ad 4) mi_100_114 (by simp [stL, lv_args, Value.category]) ?_
  refine V_gR mi_100_115 g4r12 (by omega) H6 ?_
  refine V_aload (v := ad 66) mi_100_118 (by simp [stL, lv_args, Value.category]) ?_
  refine V_gR mi_100_119 g66r12 (by omega) H6 ?_
  refine V_stat (As := [.ref (ad 11), .ref (ad 73)]) (st := []) mi_100_122 (by omega) (copy_ct a11 a73 H6 (by omega) (by omega) ⟨by omega, by omega⟩ ⟨by omega, by omega⟩) (by omega) (show 2 = mN 150 by decide +kernel) (by simp [Value.category]) ⟨Nat.le_refl _, Nat.le_refl _⟩ ?_
  rintro r v7 ⟨rfl, H7, o7, d7⟩
  replace h := HY_step h o7 (fun i hi => by rw [d7 i hi, ho _ _ (by omega)]; exact HX_HY hX 7 (by omega) i hi)
  replace ho : ∀ c i, ¬ (66 ≤ c ∧ c ≤ 77) → rd v7 c i = rd ws c i := fun c i hc => (o7 c i (by omega)).trans (ho c i (by omega))
  refine V_aload (v := ad 4) mi_100_125 (by simp [stL, lv_args, Value.category]) ?_
  refine V_gR mi_100_126 g4r13 (by omega) H7 ?_
  refine V_aload (v := ad 66) mi_100_129 (by simp [stL, lv_args, Value.category]) ?_
  refine V_gR mi_100_130 g66r13 (by omega) H7 ?_
  refine V_stat (As := [.ref (ad 12), .ref (ad 74)]) (st := []) mi_100_133 (by omega) (copy_ct a12 a74 H7 (by omega) (by omega) ⟨by omega, by omega⟩ ⟨by omega, by omega⟩) (by omega) (show 2 = mN 150 by decide +kernel) (by simp [Value.category]) ⟨Nat.le_refl _, Nat.le_refl _⟩ ?_
  rintro r v8 ⟨rfl, H8, o8, d8⟩
  replace h := HY_step h o8 (fun i hi => by rw [d8 i hi, ho _ _ (by omega)]; exact HX_HY hX 8 (by omega) i hi)
  replace ho : ∀ c i, ¬ (66 ≤ c ∧ c ≤ 77) → rd v8 c i = rd ws c i := fun c i hc => (o8 c i (by omega)).trans (ho c i (by omega))
  refine V_aload (v := ad 4) mi_100_136 (by simp [stL, lv_args, Value.category]) ?_
  refine V_gR mi_100_137 g4r14 (by omega) H8 ?_
  refine V_aload (v := ad 66) mi_100_140 (by simp [stL, lv_args, Value.category]) ?_
  refine V_gR mi_100_141 g66r14 (by omega) H8 ?_
  refine V_stat (As := [.ref (ad 13), .ref (ad 75)]) (st := []) mi_100_144 (by omega) (copy_ct a13 a75 H8 (by omega) (by omega) ⟨by omega, by omega⟩ ⟨by omega, by omega⟩) (by omega) (show 2 = mN 150 by decide +kernel) (by simp [Value.category]) ⟨Nat.le_refl _, Nat.le_refl _⟩ ?_
  rintro r v9 ⟨rfl, H9, o9, d9⟩
  replace h := HY_step h o9 (fun i hi => by rw [d9 i hi, ho _ _ (by omega)]; exact HX_HY hX 9 (by omega) i hi)
  replace ho : ∀ c i, ¬ (66 ≤ c ∧ c ≤ 77) → rd v9 c i = rd ws c i := fun c i hc => (o9 c i (by omega)).trans (ho c i (by omega))
  refine V_aload (v := ad 4) mi_100_147 (by simp [stL, lv_args, Value.category]) ?_
  refine V_gR mi_100_148 g4r15 (by omega) H9 ?_
  refine V_aload (v := ad 66) mi_100_151 (by simp [stL, lv_args, Value.category]) ?_
  refine V_gR mi_100_152 g66r15 (by omega) H9 ?_
  refine V_stat (As := [.ref (ad 14), .ref (ad 76)]) (st := []) mi_100_155 (by omega) (copy_ct a14 a76 H9 (by omega) (by omega) ⟨by omega, by omega⟩ ⟨by omega, by omega⟩) (by omega) (show 2 = mN 150 by decide +kernel) (by simp [Value.category]) ⟨Nat.le_refl _, Nat.le_refl _⟩ ?_
  rintro r v10 ⟨rfl, H10, o10, d10⟩
  replace h := HY_step h o10 (fun i hi => by rw [d10 i hi, ho _ _ (by omega)]; exact HX_HY hX 10 (by omega) i hi)
  replace ho : ∀ c i, ¬ (66 ≤ c ∧ c ≤ 77) → rd v10 c i = rd ws c i := fun c i hc => (o10 c i (by omega)).trans (ho c i (by omega))
  refine V_aload (v := ad 4) mi_100_158 (by simp [stL, lv_args, Value.category]) ?_
  refine V_gR mi_100_159 g4r16 (by omega) H10 ?_
  refine V_aload (v := ad 66) mi_100_162 (by simp [stL, lv_args, Value.category]) ?_
  refine V_gR mi_100_163 g66r16 (by omega) H10 ?_
  refine V_stat (As := [.ref (ad 15), .ref (ad 77)]) (st := []) mi_100_166 (by omega) (copy_ct a15 a77 H10 (by omega) (by omega) ⟨by omega, by omega⟩ ⟨by omega, by omega⟩) (by omega) (show 2 = mN 150 by decide +kernel) (by simp [Value.category]) ⟨Nat.le_refl _, Nat.le_refl _⟩ ?_
  rintro r v11 ⟨rfl, H11, o11, d11⟩
  replace h := HY_step h o11 (fun i hi => by rw [d11 i hi, ho _ _ (by omega)]; exact HX_HY hX 11 (by omega) i hi)
  replace ho : ∀ c i, ¬ (66 ≤ c ∧ c ≤ 77) → rd v11 c i = rd ws c i := fun c i hc => (o11 c i (by omega)).trans (ho c i (by omega))
  exact V_retV mi_100_169 ⟨rfl, H11, HY_HX h, ho⟩
theorem cpf_4_66 {g : Nat → Int} (hG : GOK ad tys GG ws) (hX : HX 66 g ws) : CT l D tys A 100 1 0 0 [.ref (ad 4), .ref (ad 66)] ws (fun r w => r = none ∧ GOK ad tys GG w ∧ HX 4 g w ∧ ∀ c i, ¬ (4 ≤ c ∧ c ≤ 15) → rd w c i = rd ws c i) := by
  refine CT_of_V (by omega) (show (2 : Nat) ≤ mML 100 by decide +kernel) ?_
  refine V_aload (v := ad 4) mi_100_0 (by simp [stL, lv_args, Value.category]) ?_
  refine V_aload (v := ad 66) mi_100_1 (by simp [stL, lv_args, Value.category]) ?_
  obtain ⟨p0, hp0, lo0, hi0⟩ := celO hG g66f0 (by omega)
  refine V_gO mi_100_2 g66o hG (hp0) ?_
  refine V_pO mi_100_5 g4f0 (by omega) (by decide +kernel) (by decide +kernel) hG (by rw [Int32.toInt_ofInt_of_le (by omega) (by omega)]; omega) (by rw [Int32.toInt_ofInt_of_le (by omega) (by omega)]; omega) (fun w0 G0 U0 => ?_)
  refine V_aload (v := ad 4) mi_100_8 (by simp [stL, lv_args, Value.category]) ?_
  refine V_aload (v := ad 66) mi_100_9 (by simp [stL, lv_args, Value.category]) ?_
  obtain ⟨p1, hp1, lo1, hi1⟩ := celO hG g66f1 (by omega)
  refine V_gO mi_100_10 g66o G0 ((upd_ne U0 (by omega)).trans hp1) ?_
  refine V_pO mi_100_13 g4f1 (by omega) (by decide +kernel) (by decide +kernel) G0 (by rw [Int32.toInt_ofInt_of_le (by omega) (by omega)]; omega) (by rw [Int32.toInt_ofInt_of_le (by omega) (by omega)]; omega) (fun w1 G1 U1 => ?_)
  refine V_aload (v := ad 4) mi_100_16 (by simp [stL, lv_args, Value.category]) ?_
  refine V_aload (v := ad 66) mi_100_17 (by simp [stL, lv_args, Value.category]) ?_
  obtain ⟨p2, hp2, lo2, hi2⟩ := celO hG g66f2 (by omega)
  refine V_gO mi_100_18 g66o G1 ((upd_ne U1 (by omega)).trans ((upd_ne U0 (by omega)).trans hp2)) ?_
  refine V_pO mi_100_21 g4f2 (by omega) (by decide +kernel) (by decide +kernel) G1 (by rw [Int32.toInt_ofInt_of_le (by omega) (by omega)]; omega) (by rw [Int32.toInt_ofInt_of_le (by omega) (by omega)]; omega) (fun w2 G2 U2 => ?_)
  refine V_aload (v := ad 4) mi_100_24 (by simp [stL, lv_args, Value.category]) ?_
  refine V_aload (v := ad 66) mi_100_25 (by simp [stL, lv_args, Value.category]) ?_
  obtain ⟨p3, hp3, lo3, hi3⟩ := celO hG g66f3 (by omega)
  refine V_gO mi_100_26 g66o G2 ((upd_ne U2 (by omega)).trans ((upd_ne U1 (by omega)).trans ((upd_ne U0 (by omega)).trans hp3))) ?_
  refine V_pO mi_100_29 g4f3 (by omega) (by decide +kernel) (by decide +kernel) G2 (by rw [Int32.toInt_ofInt_of_le (by omega) (by omega)]; omega) (by rw [Int32.toInt_ofInt_of_le (by omega) (by omega)]; omega) (fun w3 G3 U3 => ?_)
  refine V_aload (v := ad 4) mi_100_32 (by simp [stL, lv_args, Value.category]) ?_
  refine V_aload (v := ad 66) mi_100_33 (by simp [stL, lv_args, Value.category]) ?_
  obtain ⟨p4, hp4, lo4, hi4⟩ := celO hG g66f4 (by omega)
  refine V_gO mi_100_34 g66o G3 ((upd_ne U3 (by omega)).trans ((upd_ne U2 (by omega)).trans ((upd_ne U1 (by omega)).trans ((upd_ne U0 (by omega)).trans hp4)))) ?_
  refine V_pO mi_100_37 g4f4 (by omega) (by decide +kernel) (by decide +kernel) G3 (by rw [Int32.toInt_ofInt_of_le (by omega) (by omega)]; omega) (by rw [Int32.toInt_ofInt_of_le (by omega) (by omega)]; omega) (fun w4 G4 U4 => ?_)
  refine V_aload (v := ad 4) mi_100_40 (by simp [stL, lv_args, Value.category]) ?_
  refine V_aload (v := ad 66) mi_100_41 (by simp [stL, lv_args, Value.category]) ?_
  obtain ⟨p5, hp5, lo5, hi5⟩ := celO hG g66f5 (by omega)
  refine V_gO mi_100_42 g66o G4 ((upd_ne U4 (by omega)).trans ((upd_ne U3 (by omega)).trans ((upd_ne U2 (by omega)).trans ((upd_ne U1 (by omega)).trans ((upd_ne U0 (by omega)).trans hp5))))) ?_
  refine V_pO mi_100_45 g4f5 (by omega) (by decide +kernel) (by decide +kernel) G4 (by rw [Int32.toInt_ofInt_of_le (by omega) (by omega)]; omega) (by rw [Int32.toInt_ofInt_of_le (by omega) (by omega)]; omega) (fun w5 G5 U5 => ?_)
  have ho : ∀ c i, c ≠ 4 → rd w5 c i = rd ws c i := fun c i hc => (upd_ne U5 (by omega)).trans ((upd_ne U4 (by omega)).trans ((upd_ne U3 (by omega)).trans ((upd_ne U2 (by omega)).trans ((upd_ne U1 (by omega)).trans (upd_ne U0 (by omega))))))
  have h : HY 4 1 g w5 := fun k hk i hi => by
    have k0 : k = 0 := by omega
    subst k0
    have hi : i < 6 := hi
    rw [← hx0 hX hi]
    have e0 : rd w5 4 0 = rd ws 66 0 := by rw [hp0]; exact (upd_ne U5 (by omega)).trans ((upd_ne U4 (by omega)).trans ((upd_ne U3 (by omega)).trans ((upd_ne U2 (by omega)).trans ((upd_ne U1 (by omega)).trans (upd_eq U0)))))
    have e1 : rd w5 4 1 = rd ws 66 1 := by rw [hp1]; exact (upd_ne U5 (by omega)).trans ((upd_ne U4 (by omega)).trans ((upd_ne U3 (by omega)).trans ((upd_ne U2 (by omega)).trans (upd_eq U1))))
    have e2 : rd w5 4 2 = rd ws 66 2 := by rw [hp2]; exact (upd_ne U5 (by omega)).trans ((upd_ne U4 (by omega)).trans ((upd_ne U3 (by omega)).trans (upd_eq U2)))
    have e3 : rd w5 4 3 = rd ws 66 3 := by rw [hp3]; exact (upd_ne U5 (by omega)).trans ((upd_ne U4 (by omega)).trans (upd_eq U3))
    have e4 : rd w5 4 4 = rd ws 66 4 := by rw [hp4]; exact (upd_ne U5 (by omega)).trans (upd_eq U4)
    have e5 : rd w5 4 5 = rd ws 66 5 := by rw [hp5]; exact upd_eq U5
    rcases i with _ | _ | _ | _ | _ | _ | i
    · exact e0
    · exact e1
    · exact e2
    · exact e3
    · exact e4
    · exact e5
    · omega
  refine V_aload (v := ad 66) mi_100_48 (by simp [stL, lv_args, Value.category]) ?_
  refine V_gR mi_100_49 g66r6 (by omega) G5 ?_
  refine V_aload (v := ad 4) mi_100_52 (by simp [stL, lv_args, Value.category]) ?_
  refine V_gR mi_100_53 g4r6 (by omega) G5 ?_
  refine V_stat (As := [.ref (ad 67), .ref (ad 5)]) (st := []) mi_100_56 (by omega) (copy_ct a67 a5 G5 (by omega) (by omega) ⟨by omega, by omega⟩ ⟨by omega, by omega⟩) (by omega) (show 2 = mN 150 by decide +kernel) (by simp [Value.category]) ⟨Nat.le_refl _, Nat.le_refl _⟩ ?_
  rintro r v1 ⟨rfl, H1, o1, d1⟩
  replace h := HY_step h o1 (fun i hi => by rw [d1 i hi, ho _ _ (by omega)]; exact HX_HY hX 1 (by omega) i hi)
  replace ho : ∀ c i, ¬ (4 ≤ c ∧ c ≤ 15) → rd v1 c i = rd ws c i := fun c i hc => (o1 c i (by omega)).trans (ho c i (by omega))
  refine V_aload (v := ad 66) mi_100_59 (by simp [stL, lv_args, Value.category]) ?_
  refine V_gR mi_100_60 g66r7 (by omega) H1 ?_
  refine V_aload (v := ad 4) mi_100_63 (by simp [stL, lv_args, Value.category]) ?_
  refine V_gR mi_100_64 g4r7 (by omega) H1 ?_
  refine V_stat (As := [.ref (ad 68), .ref (ad 6)]) (st := []) mi_100_67 (by omega) (copy_ct a68 a6 H1 (by omega) (by omega) ⟨by omega, by omega⟩ ⟨by omega, by omega⟩) (by omega) (show 2 = mN 150 by decide +kernel) (by simp [Value.category]) ⟨Nat.le_refl _, Nat.le_refl _⟩ ?_
  rintro r v2 ⟨rfl, H2, o2, d2⟩
  replace h := HY_step h o2 (fun i hi => by rw [d2 i hi, ho _ _ (by omega)]; exact HX_HY hX 2 (by omega) i hi)
  replace ho : ∀ c i, ¬ (4 ≤ c ∧ c ≤ 15) → rd v2 c i = rd ws c i := fun c i hc => (o2 c i (by omega)).trans (ho c i (by omega))
  refine V_aload (v := ad 66) mi_100_70 (by simp [stL, lv_args, Value.category]) ?_
  refine V_gR mi_100_71 g66r8 (by omega) H2 ?_
  refine V_aload (v := ad 4) mi_100_74 (by simp [stL, lv_args, Value.category]) ?_
  refine V_gR mi_100_75 g4r8 (by omega) H2 ?_
  refine V_stat (As := [.ref (ad 69), .ref (ad 7)]) (st := []) mi_100_78 (by omega) (copy_ct a69 a7 H2 (by omega) (by omega) ⟨by omega, by omega⟩ ⟨by omega, by omega⟩) (by omega) (show 2 = mN 150 by decide +kernel) (by simp [Value.category]) ⟨Nat.le_refl _, Nat.le_refl _⟩ ?_
  rintro r v3 ⟨rfl, H3, o3, d3⟩
  replace h := HY_step h o3 (fun i hi => by rw [d3 i hi, ho _ _ (by omega)]; exact HX_HY hX 3 (by omega) i hi)
  replace ho : ∀ c i, ¬ (4 ≤ c ∧ c ≤ 15) → rd v3 c i = rd ws c i := fun c i hc => (o3 c i (by omega)).trans (ho c i (by omega))
  refine V_aload (v := ad 66) mi_100_81 (by simp [stL, lv_args, Value.category]) ?_
  refine V_gR mi_100_82 g66r9 (by omega) H3 ?_
  refine V_aload (v := ad 4) mi_100_85 (by simp [stL, lv_args, Value.category]) ?_
  refine V_gR mi_100_86 g4r9 (by omega) H3 ?_
  refine V_stat (As := [.ref (ad 70), .ref (ad 8)]) (st := []) mi_100_89 (by omega) (copy_ct a70 a8 H3 (by omega) (by omega) ⟨by omega, by omega⟩ ⟨by omega, by omega⟩) (by omega) (show 2 = mN 150 by decide +kernel) (by simp [Value.category]) ⟨Nat.le_refl _, Nat.le_refl _⟩ ?_
  rintro r v4 ⟨rfl, H4, o4, d4⟩
  replace h := HY_step h o4 (fun i hi => by rw [d4 i hi, ho _ _ (by omega)]; exact HX_HY hX 4 (by omega) i hi)
  replace ho : ∀ c i, ¬ (4 ≤ c ∧ c ≤ 15) → rd v4 c i = rd ws c i := fun c i hc => (o4 c i (by omega)).trans (ho c i (by omega))
  refine V_aload (v := ad 66) mi_100_92 (by simp [stL, lv_args, Value.category]) ?_
  refine V_gR mi_100_93 g66r10 (by omega) H4 ?_
  refine V_aload (v := ad 4) mi_100_96 (by simp [stL, lv_args, Value.category]) ?_
  refine V_gR mi_100_97 g4r10 (by omega) H4 ?_
  refine V_stat (As := [.ref (ad 71), .ref (ad 9)]) (st := []) mi_100_100 (by omega) (copy_ct a71 a9 H4 (by omega) (by omega) ⟨by omega, by omega⟩ ⟨by omega, by omega⟩) (by omega) (show 2 = mN 150 by decide +kernel) (by simp [Value.category]) ⟨Nat.le_refl _, Nat.le_refl _⟩ ?_
  rintro r v5 ⟨rfl, H5, o5, d5⟩
  replace h := HY_step h o5 (fun i hi => by rw [d5 i hi, ho _ _ (by omega)]; exact HX_HY hX 5 (by omega) i hi)
  replace ho : ∀ c i, ¬ (4 ≤ c ∧ c ≤ 15) → rd v5 c i = rd ws c i := fun c i hc => (o5 c i (by omega)).trans (ho c i (by omega))
  refine V_aload (v := ad 66) mi_100_103 (by simp [stL, lv_args, Value.category]) ?_
  refine V_gR mi_100_104 g66r11 (by omega) H5 ?_
  refine V_aload (v := ad 4) mi_100_107 (by simp [stL, lv_args, Value.category]) ?_
  refine V_gR mi_100_108 g4r11 (by omega) H5 ?_
  refine V_stat (As := [.ref (ad 72), .ref (ad 10)]) (st := []) mi_100_111 (by omega) (copy_ct a72 a10 H5 (by omega) (by omega) ⟨by omega, by omega⟩ ⟨by omega, by omega⟩) (by omega) (show 2 = mN 150 by decide +kernel) (by simp [Value.category]) ⟨Nat.le_refl _, Nat.le_refl _⟩ ?_
  rintro r v6 ⟨rfl, H6, o6, d6⟩
  replace h := HY_step h o6 (fun i hi => by rw [d6 i hi, ho _ _ (by omega)]; exact HX_HY hX 6 (by omega) i hi)
  replace ho : ∀ c i, ¬ (4 ≤ c ∧ c ≤ 15) → rd v6 c i = rd ws c i := fun c i hc => (o6 c i (by omega)).trans (ho c i (by omega))
  refine V_aload (v := ad 66) mi_100_114 (by simp [stL, lv_args, Value.category]) ?_
  refine V_gR mi_100_115 g66r12 (by omega) H6 ?_
  refine V_aload (v := ad 4) mi_100_118 (by simp [stL, lv_args, Value.category]) ?_
  refine V_gR mi_100_119 g4r12 (by omega) H6 ?_
  refine V_stat (As := [.ref (ad 73), .ref (ad 11)]) (st := []) mi_100_122 (by omega) (copy_ct a73 a11 H6 (by omega) (by omega) ⟨by omega, by omega⟩ ⟨by omega, by omega⟩) (by omega) (show 2 = mN 150 by decide +kernel) (by simp [Value.category]) ⟨Nat.le_refl _, Nat.le_refl _⟩ ?_
  rintro r v7 ⟨rfl, H7, o7, d7⟩
  replace h := HY_step h o7 (fun i hi => by rw [d7 i hi, ho _ _ (by omega)]; exact HX_HY hX 7 (by omega) i hi)
  replace ho : ∀ c i, ¬ (4 ≤ c ∧ c ≤ 15) → rd v7 c i = rd ws c i := fun c i hc => (o7 c i (by omega)).trans (ho c i (by omega))
  refine V_aload (v := ad 66) mi_100_125 (by simp [stL, lv_args, Value.category]) ?_
  refine V_gR mi_100_126 g66r13 (by omega) H7 ?_
  refine V_aload (v := ad 4) mi_100_129 (by simp [stL, lv_args, Value.category]) ?_
  refine V_gR mi_100_130 g4r13 (by omega) H7 ?_
  refine V_stat (As := [.ref (ad 74), .ref (ad 12)]) (st := []) mi_100_133 (by omega) (copy_ct a74 a12 H7 (by omega) (by omega) ⟨by omega, by omega⟩ ⟨by omega, by omega⟩) (by omega) (show 2 = mN 150 by decide +kernel) (by simp [Value.category]) ⟨Nat.le_refl _, Nat.le_refl _⟩ ?_
  rintro r v8 ⟨rfl, H8, o8, d8⟩
  replace h := HY_step h o8 (fun i hi => by rw [d8 i hi, ho _ _ (by omega)]; exact HX_HY hX 8 (by omega) i hi)
  replace ho : ∀ c i, ¬ (4 ≤ c ∧ c ≤ 15) → rd v8 c i = rd ws c i := fun c i hc => (o8 c i (by omega)).trans (ho c i (by omega))
  refine V_aload (v := ad 66) mi_100_136 (by simp [stL, lv_args, Value.category]) ?_
  refine V_gR mi_100_137 g66r14 (by omega) H8 ?_
  refine V_aload (v := ad 4) mi_100_140 (by simp [stL, lv_args, Value.category]) ?_
  refine V_gR mi_100_141 g4r14 (by omega) H8 ?_
  refine V_stat (As := [.ref (ad 75), .ref (ad 13)]) (st := []) mi_100_144 (by omega) (copy_ct a75 a13 H8 (by omega) (by omega) ⟨by omega, by omega⟩ ⟨by omega, by omega⟩) (by omega) (show 2 = mN 150 by decide +kernel) (by simp [Value.category]) ⟨Nat.le_refl _, Nat.le_refl _⟩ ?_
  rintro r v9 ⟨rfl, H9, o9, d9⟩
  replace h := HY_step h o9 (fun i hi => by rw [d9 i hi, ho _ _ (by omega)]; exact HX_HY hX 9 (by omega) i hi)
  replace ho : ∀ c i, ¬ (4 ≤ c ∧ c ≤ 15) → rd v9 c i = rd ws c i := fun c i hc => (o9 c i (by omega)).trans (ho c i (by omega))
  refine V_aload (v := ad 66) mi_100_147 (by simp [stL, lv_args, Value.category]) ?_
  refine V_gR mi_100_148 g66r15 (by omega) H9 ?_
  refine V_aload (v := ad 4) mi_100_151 (by simp [stL, lv_args, Value.category]) ?_
  refine V_gR mi_100_152 g4r15 (by omega) H9 ?_
  refine V_stat (As := [.ref (ad 76), .ref (ad 14)]) (st := []) mi_100_155 (by omega) (copy_ct a76 a14 H9 (by omega) (by omega) ⟨by omega, by omega⟩ ⟨by omega, by omega⟩) (by omega) (show 2 = mN 150 by decide +kernel) (by simp [Value.category]) ⟨Nat.le_refl _, Nat.le_refl _⟩ ?_
  rintro r v10 ⟨rfl, H10, o10, d10⟩
  replace h := HY_step h o10 (fun i hi => by rw [d10 i hi, ho _ _ (by omega)]; exact HX_HY hX 10 (by omega) i hi)
  replace ho : ∀ c i, ¬ (4 ≤ c ∧ c ≤ 15) → rd v10 c i = rd ws c i := fun c i hc => (o10 c i (by omega)).trans (ho c i (by omega))
  refine V_aload (v := ad 66) mi_100_158 (by simp [stL, lv_args, Value.category]) ?_
  refine V_gR mi_100_159 g66r16 (by omega) H10 ?_
  refine V_aload (v := ad 4) mi_100_162 (by simp [stL, lv_args, Value.category]) ?_
  refine V_gR mi_100_163 g4r16 (by omega) H10 ?_
  refine V_stat (As := [.ref (ad 77), .ref (ad 15)]) (st := []) mi_100_166 (by omega) (copy_ct a77 a15 H10 (by omega) (by omega) ⟨by omega, by omega⟩ ⟨by omega, by omega⟩) (by omega) (show 2 = mN 150 by decide +kernel) (by simp [Value.category]) ⟨Nat.le_refl _, Nat.le_refl _⟩ ?_
  rintro r v11 ⟨rfl, H11, o11, d11⟩
  replace h := HY_step h o11 (fun i hi => by rw [d11 i hi, ho _ _ (by omega)]; exact HX_HY hX 11 (by omega) i hi)
  replace ho : ∀ c i, ¬ (4 ≤ c ∧ c ≤ 15) → rd v11 c i = rd ws c i := fun c i hc => (o11 c i (by omega)).trans (ho c i (by omega))
  exact V_retV mi_100_169 ⟨rfl, H11, HY_HX h, ho⟩
theorem cpf_78_4 {g : Nat → Int} (hG : GOK ad tys GG ws) (hX : HX 4 g ws) : CT l D tys A 100 1 0 0 [.ref (ad 78), .ref (ad 4)] ws (fun r w => r = none ∧ GOK ad tys GG w ∧ HX 78 g w ∧ ∀ c i, ¬ (78 ≤ c ∧ c ≤ 89) → rd w c i = rd ws c i) := by
  refine CT_of_V (by omega) (show (2 : Nat) ≤ mML 100 by decide +kernel) ?_
  refine V_aload (v := ad 78) mi_100_0 (by simp [stL, lv_args, Value.category]) ?_
  refine V_aload (v := ad 4) mi_100_1 (by simp [stL, lv_args, Value.category]) ?_
  obtain ⟨p0, hp0, lo0, hi0⟩ := celO hG g4f0 (by omega)
  refine V_gO mi_100_2 g4o hG (hp0) ?_
  refine V_pO mi_100_5 g78f0 (by omega) (by decide +kernel) (by decide +kernel) hG (by rw [Int32.toInt_ofInt_of_le (by omega) (by omega)]; omega) (by rw [Int32.toInt_ofInt_of_le (by omega) (by omega)]; omega) (fun w0 G0 U0 => ?_)
  refine V_aload (v := ad 78) mi_100_8 (by simp [stL, lv_args, Value.category]) ?_
  refine V_aload (v := ad 4) mi_100_9 (by simp [stL, lv_args, Value.category]) ?_
  obtain ⟨p1, hp1, lo1, hi1⟩ := celO hG g4f1 (by omega)
  refine V_gO mi_100_10 g4o G0 ((upd_ne U0 (by omega)).trans hp1) ?_
  refine V_pO mi_100_13 g78f1 (by omega) (by decide +kernel) (by decide +kernel) G0 (by rw [Int32.toInt_ofInt_of_le (by omega) (by omega)]; omega) (by rw [Int32.toInt_ofInt_of_le (by omega) (by omega)]; omega) (fun w1 G1 U1 => ?_)
  refine V_aload (v := ad 78) mi_100_16 (by simp [stL, lv_args, Value.category]) ?_
  refine V_aload (v := ad 4) mi_100_17 (by simp [stL, lv_args, Value.category]) ?_
  obtain ⟨p2, hp2, lo2, hi2⟩ := celO hG g4f2 (by omega)
  refine V_gO mi_100_18 g4o G1 ((upd_ne U1 (by omega)).trans ((upd_ne U0 (by omega)).trans hp2)) ?_
  refine V_pO mi_100_21 g78f2 (by omega) (by decide +kernel) (by decide +kernel) G1 (by rw [Int32.toInt_ofInt_of_le (by omega) (by omega)]; omega) (by rw [Int32.toInt_ofInt_of_le (by omega) (by omega)]; omega) (fun w2 G2 U2 => ?_)
  refine V_aload (v := ad 78) mi_100_24 (by simp [stL, lv_args, Value.category]) ?_
  refine V_aload (v := ad 4) mi_100_25 (by simp [stL, lv_args, Value.category]) ?_
  obtain ⟨p3, hp3, lo3, hi3⟩ := celO hG g4f3 (by omega)
  refine V_gO mi_100_26 g4o G2 ((upd_ne U2 (by omega)).trans ((upd_ne U1 (by omega)).trans ((upd_ne U0 (by omega)).trans hp3))) ?_
  refine V_pO mi_100_29 g78f3 (by omega) (by decide +kernel) (by decide +kernel) G2 (by rw [Int32.toInt_ofInt_of_le (by omega) (by omega)]; omega) (by rw [Int32.toInt_ofInt_of_le (by omega) (by omega)]; omega) (fun w3 G3 U3 => ?_)
  refine V_aload (v := ad 78) mi_100_32 (by simp [stL, lv_args, Value.category]) ?_
  refine V_aload (v := ad 4) mi_100_33 (by simp [stL, lv_args, Value.category]) ?_
  obtain ⟨p4, hp4, lo4, hi4⟩ := celO hG g4f4 (by omega)
  refine V_gO mi_100_34 g4o G3 ((upd_ne U3 (by omega)).trans ((upd_ne U2 (by omega)).trans ((upd_ne U1 (by omega)).trans ((upd_ne U0 (by omega)).trans hp4)))) ?_
  refine V_pO mi_100_37 g78f4 (by omega) (by decide +kernel) (by decide +kernel) G3 (by rw [Int32.toInt_ofInt_of_le (by omega) (by omega)]; omega) (by rw [Int32.toInt_ofInt_of_le (by omega) (by omega)]; omega) (fun w4 G4 U4 => ?_)
  refine V_aload (v := ad 78) mi_100_40 (by simp [stL, lv_args, Value.category]) ?_
  refine V_aload (v := ad 4) mi_100_41 (by simp [stL, lv_args, Value.category]) ?_
  obtain ⟨p5, hp5, lo5, hi5⟩ := celO hG g4f5 (by omega)
  refine V_gO mi_100_42 g4o G4 ((upd_ne U4 (by omega)).trans ((upd_ne U3 (by omega)).trans ((upd_ne U2 (by omega)).trans ((upd_ne U1 (by omega)).trans ((upd_ne U0 (by omega)).trans hp5))))) ?_
  refine V_pO mi_100_45 g78f5 (by omega) (by decide +kernel) (by decide +kernel) G4 (by rw [Int32.toInt_ofInt_of_le (by omega) (by omega)]; omega) (by rw [Int32.toInt_ofInt_of_le (by omega) (by omega)]; omega) (fun w5 G5 U5 => ?_)
  have ho : ∀ c i, c ≠ 78 → rd w5 c i = rd ws c i := fun c i hc => (upd_ne U5 (by omega)).trans ((upd_ne U4 (by omega)).trans ((upd_ne U3 (by omega)).trans ((upd_ne U2 (by omega)).trans ((upd_ne U1 (by omega)).trans (upd_ne U0 (by omega))))))
  have h : HY 78 1 g w5 := fun k hk i hi => by
    have k0 : k = 0 := by omega
    subst k0
    have hi : i < 6 := hi
    rw [← hx0 hX hi]
    have e0 : rd w5 78 0 = rd ws 4 0 := by rw [hp0]; exact (upd_ne U5 (by omega)).trans ((upd_ne U4 (by omega)).trans ((upd_ne U3 (by omega)).trans ((upd_ne U2 (by omega)).trans ((upd_ne U1 (by omega)).trans (upd_eq U0)))))
    have e1 : rd w5 78 1 = rd ws 4 1 := by rw [hp1]; exact (upd_ne U5 (by omega)).trans ((upd_ne U4 (by omega)).trans ((upd_ne U3 (by omega)).trans ((upd_ne U2 (by omega)).trans (upd_eq U1))))
    have e2 : rd w5 78 2 = rd ws 4 2 := by rw [hp2]; exact (upd_ne U5 (by omega)).trans ((upd_ne U4 (by omega)).trans ((upd_ne U3 (by omega)).trans (upd_eq U2)))
    have e3 : rd w5 78 3 = rd ws 4 3 := by rw [hp3]; exact (upd_ne U5 (by omega)).trans ((upd_ne U4 (by omega)).trans (upd_eq U3))
    have e4 : rd w5 78 4 = rd ws 4 4 := by rw [hp4]; exact (upd_ne U5 (by omega)).trans (upd_eq U4)
    have e5 : rd w5 78 5 = rd ws 4 5 := by rw [hp5]; exact upd_eq U5
    rcases i with _ | _ | _ | _ | _ | _ | i
    · exact e0
    · exact e1
    · exact e2
    · exact e3
    · exact e4
    · exact e5
    · omega
  refine V_aload (v := ad 4) mi_100_48 (by simp [stL, lv_args, Value.category]) ?_
  refine V_gR mi_100_49 g4r6 (by omega) G5 ?_
  refine V_aload (v := ad 78) mi_100_52 (by simp [stL, lv_args, Value.category]) ?_
  refine V_gR mi_100_53 g78r6 (by omega) G5 ?_
  refine V_stat (As := [.ref (ad 5), .ref (ad 79)]) (st := []) mi_100_56 (by omega) (copy_ct a5 a79 G5 (by omega) (by omega) ⟨by omega, by omega⟩ ⟨by omega, by omega⟩) (by omega) (show 2 = mN 150 by decide +kernel) (by simp [Value.category]) ⟨Nat.le_refl _, Nat.le_refl _⟩ ?_
  rintro r v1 ⟨rfl, H1, o1, d1⟩
  replace h := HY_step h o1 (fun i hi => by rw [d1 i hi, ho _ _ (by omega)]; exact HX_HY hX 1 (by omega) i hi)
  replace ho : ∀ c i, ¬ (78 ≤ c ∧ c ≤ 89) → rd v1 c i = rd ws c i := fun c i hc => (o1 c i (by omega)).trans (ho c i (by omega))
  refine V_aload (v := ad 4) mi_100_59 (by simp [stL, lv_args, Value.category]) ?_
  refine V_gR mi_100_60 g4r7 (by omega) H1 ?_
  refine V_aload (v := ad 78) mi_100_63 (by simp [stL, lv_args, Value.category]) ?_
  refine V_gR mi_100_64 g78r7 (by omega) H1 ?_
  refine V_stat (As := [.ref (ad 6), .ref (ad 80)]) (st := []) mi_100_67 (by omega) (copy_ct a6 a80 H1 (by omega) (by omega) ⟨by omega, by omega⟩ ⟨by omega, by omega⟩) (by omega) (show 2 = mN 150 by decide +kernel) (by simp [Value.category]) ⟨Nat.le_refl _, Nat.le_refl _⟩ ?_
  rintro r v2 ⟨rfl, H2, o2, d2⟩
  replace h := HY_step h o2 (fun i hi => by rw [d2 i hi, ho _ _ (by omega)]; exact HX_HY hX 2 (by omega) i hi)
  replace ho : ∀ c i, ¬ (78 ≤ c ∧ c ≤ 89) → rd v2 c i = rd ws c i := fun c i hc => (o2 c i (by omega)).trans (ho c i (by omega))
  refine V_aload (v := ad 4) mi_100_70 (by simp [stL, lv_args, Value.category]) ?_
  refine V_gR mi_100_71 g4r8 (by omega) H2 ?_
  refine V_aload (v := ad 78) mi_100_74 (by simp [stL, lv_args, Value.category]) ?_
  refine V_gR mi_100_75 g78r8 (by omega) H2 ?_
  refine V_stat (As := [.ref (ad 7), .ref (ad 81)]) (st := []) mi_100_78 (by omega) (copy_ct a7 a81 H2 (by omega) (by omega) ⟨by omega, by omega⟩ ⟨by omega, by omega⟩) (by omega) (show 2 = mN 150 by decide +kernel) (by simp [Value.category]) ⟨Nat.le_refl _, Nat.le_refl _⟩ ?_
  rintro r v3 ⟨rfl, H3, o3, d3⟩
  replace h := HY_step h o3 (fun i hi => by rw [d3 i hi, ho _ _ (by omega)]; exact HX_HY hX 3 (by omega) i hi)
  replace ho : ∀ c i, ¬ (78 ≤ c ∧ c ≤ 89) → rd v3 c i = rd ws c i := fun c i hc => (o3 c i (by omega)).trans (ho c i (by omega))
  refine V_aload (v := ad 4) mi_100_81 (by simp [stL, lv_args, Value.category]) ?_
  refine V_gR mi_100_82 g4r9 (by omega) H3 ?_
  refine V_aload (v := ad 78) mi_100_85 (by simp [stL, lv_args, Value.category]) ?_
  refine V_gR mi_100_86 g78r9 (by omega) H3 ?_
  refine V_stat (As := [.ref (ad 8), .ref (ad 82)]) (st := []) mi_100_89 (by omega) (copy_ct a8 a82 H3 (by omega) (by omega) ⟨by omega, by omega⟩ ⟨by omega, by omega⟩) (by omega) (show 2 = mN 150 by decide +kernel) (by simp [Value.category]) ⟨Nat.le_refl _, Nat.le_refl _⟩ ?_
  rintro r v4 ⟨rfl, H4, o4, d4⟩
  replace h := HY_step h o4 (fun i hi => by rw [d4 i hi, ho _ _ (by omega)]; exact HX_HY hX 4 (by omega) i hi)
  replace ho : ∀ c i, ¬ (78 ≤ c ∧ c ≤ 89) → rd v4 c i = rd ws c i := fun c i hc => (o4 c i (by omega)).trans (ho c i (by omega))
  refine V_aload (v := ad 4) mi_100_92 (by simp [stL, lv_args, Value.category]) ?_
  refine V_gR mi_100_93 g4r10 (by omega) H4 ?_
  refine V_aload (v := ad 78) mi_100_96 (by simp [stL, lv_args, Value.category]) ?_
  refine V_gR mi_100_97 g78r10 (by omega) H4 ?_
  refine V_stat (As := [.ref (ad 9), .ref (ad 83)]) (st := []) mi_100_100 (by omega) (copy_ct a9 a83 H4 (by omega) (by omega) ⟨by omega, by omega⟩ ⟨by omega, by omega⟩) (by omega) (show 2 = mN 150 by decide +kernel) (by simp [Value.category]) ⟨Nat.le_refl _, Nat.le_refl _⟩ ?_
  rintro r v5 ⟨rfl, H5, o5, d5⟩
  replace h := HY_step h o5 (fun i hi => by rw [d5 i hi, ho _ _ (by omega)]; exact HX_HY hX 5 (by omega) i hi)
  replace ho : ∀ c i, ¬ (78 ≤ c ∧ c ≤ 89) → rd v5 c i = rd ws c i := fun c i hc => (o5 c i (by omega)).trans (ho c i (by omega))
  refine V_aload (v := ad 4) mi_100_103 (by simp [stL, lv_args, Value.category]) ?_
  refine V_gR mi_100_104 g4r11 (by omega) H5 ?_
  refine V_aload (v := ad 78) mi_100_107 (by simp [stL, lv_args, Value.category]) ?_
  refine V_gR mi_100_108 g78r11 (by omega) H5 ?_
  refine V_stat (As := [.ref (ad 10), .ref (ad 84)]) (st := []) mi_100_111 (by omega) (copy_ct a10 a84 H5 (by omega) (by omega) ⟨by omega, by omega⟩ ⟨by omega, by omega⟩) (by omega) (show 2 = mN 150 by decide +kernel) (by simp [Value.category]) ⟨Nat.le_refl _, Nat.le_refl _⟩ ?_
  rintro r v6 ⟨rfl, H6, o6, d6⟩
  replace h := HY_step h o6 (fun i hi => by rw [d6 i hi, ho _ _ (by omega)]; exact HX_HY hX 6 (by omega) i hi)
  replace ho : ∀ c i, ¬ (78 ≤ c ∧ c ≤ 89) → rd v6 c i = rd ws c i := fun c i hc => (o6 c i (by omega)).trans (ho c i (by omega))
  refine V_aload (v := ad 4) mi_100_114 (by simp [stL, lv_args, Value.category]) ?_
  refine V_gR mi_100_115 g4r12 (by omega) H6 ?_
  refine V_aload (v := ad 78) mi_100_118 (by simp [stL, lv_args, Value.category]) ?_
  refine V_gR mi_100_119 g78r12 (by omega) H6 ?_
  refine V_stat (As := [.ref (ad 11), .ref (ad 85)]) (st := []) mi_100_122 (by omega) (copy_ct a11 a85 H6 (by omega) (by omega) ⟨by omega, by omega⟩ ⟨by omega, by omega⟩) (by omega) (show 2 = mN 150 by decide +kernel) (by simp [Value.category]) ⟨Nat.le_refl _, Nat.le_refl _⟩ ?_
  rintro r v7 ⟨rfl, H7, o7, d7⟩
  replace h := HY_step h o7 (fun i hi => by rw [d7 i hi, ho _ _ (by omega)]; exact HX_HY hX 7 (by omega) i hi)
  replace ho : ∀ c i, ¬ (78 ≤ c ∧ c ≤ 89) → rd v7 c i = rd ws c i := fun c i hc => (o7 c i (by omega)).trans (ho c i (by omega))
  refine V_aload (v := ad 4) mi_100_125 (by simp [stL, lv_args, Value.category]) ?_
  refine V_gR mi_100_126 g4r13 (by omega) H7 ?_
  refine V_aload (v := ad 78) mi_100_129 (by simp [stL, lv_args, Value.category]) ?_
  refine V_gR mi_100_130 g78r13 (by omega) H7 ?_
  refine V_stat (As := [.ref (ad 12), .ref (ad 86)]) (st := []) mi_100_133 (by omega) (copy_ct a12 a86 H7 (by omega) (by omega) ⟨by omega, by omega⟩ ⟨by omega, by omega⟩) (by omega) (show 2 = mN 150 by decide +kernel) (by simp [Value.category]) ⟨Nat.le_refl _, Nat.le_refl _⟩ ?_
  rintro r v8 ⟨rfl, H8, o8, d8⟩
  replace h := HY_step h o8 (fun i hi => by rw [d8 i hi, ho _ _ (by omega)]; exact HX_HY hX 8 (by omega) i hi)
  replace ho : ∀ c i, ¬ (78 ≤ c ∧ c ≤ 89) → rd v8 c i = rd ws c i := fun c i hc => (o8 c i (by omega)).trans (ho c i (by omega))
  refine V_aload (v := ad 4) mi_100_136 (by simp [stL, lv_args, Value.category]) ?_
  refine V_gR mi_100_137 g4r14 (by omega) H8 ?_
  refine V_aload (v := ad 78) mi_100_140 (by simp [stL, lv_args, Value.category]) ?_
  refine V_gR mi_100_141 g78r14 (by omega) H8 ?_
  refine V_stat (As := [.ref (ad 13), .ref (ad 87)]) (st := []) mi_100_144 (by omega) (copy_ct a13 a87 H8 (by omega) (by omega) ⟨by omega, by omega⟩ ⟨by omega, by omega⟩) (by omega) (show 2 = mN 150 by decide +kernel) (by simp [Value.category]) ⟨Nat.le_refl _, Nat.le_refl _⟩ ?_
  rintro r v9 ⟨rfl, H9, o9, d9⟩
  replace h := HY_step h o9 (fun i hi => by rw [d9 i hi, ho _ _ (by omega)]; exact HX_HY hX 9 (by omega) i hi)
  replace ho : ∀ c i, ¬ (78 ≤ c ∧ c ≤ 89) → rd v9 c i = rd ws c i := fun c i hc => (o9 c i (by omega)).trans (ho c i (by omega))
  refine V_aload (v := ad 4) mi_100_147 (by simp [stL, lv_args, Value.category]) ?_
  refine V_gR mi_100_148 g4r15 (by omega) H9 ?_
  refine V_aload (v := ad 78) mi_100_151 (by simp [stL, lv_args, Value.category]) ?_
  refine V_gR mi_100_152 g78r15 (by omega) H9 ?_
  refine V_stat (As := [.ref (ad 14), .ref (ad 88)]) (st := []) mi_100_155 (by omega) (copy_ct a14 a88 H9 (by omega) (by omega) ⟨by omega, by omega⟩ ⟨by omega, by omega⟩) (by omega) (show 2 = mN 150 by decide +kernel) (by simp [Value.category]) ⟨Nat.le_refl _, Nat.le_refl _⟩ ?_
  rintro r v10 ⟨rfl, H10, o10, d10⟩
  replace h := HY_step h o10 (fun i hi => by rw [d10 i hi, ho _ _ (by omega)]; exact HX_HY hX 10 (by omega) i hi)
  replace ho : ∀ c i, ¬ (78 ≤ c ∧ c ≤ 89) → rd v10 c i = rd ws c i := fun c i hc => (o10 c i (by omega)).trans (ho c i (by omega))
  refine V_aload (v := ad 4) mi_100_158 (by simp [stL, lv_args, Value.category]) ?_
  refine V_gR mi_100_159 g4r16 (by omega) H10 ?_
  refine V_aload (v := ad 78) mi_100_162 (by simp [stL, lv_args, Value.category]) ?_
  refine V_gR mi_100_163 g78r16 (by omega) H10 ?_
  refine V_stat (As := [.ref (ad 15), .ref (ad 89)]) (st := []) mi_100_166 (by omega) (copy_ct a15 a89 H10 (by omega) (by omega) ⟨by omega, by omega⟩ ⟨by omega, by omega⟩) (by omega) (show 2 = mN 150 by decide +kernel) (by simp [Value.category]) ⟨Nat.le_refl _, Nat.le_refl _⟩ ?_
  rintro r v11 ⟨rfl, H11, o11, d11⟩
  replace h := HY_step h o11 (fun i hi => by rw [d11 i hi, ho _ _ (by omega)]; exact HX_HY hX 11 (by omega) i hi)
  replace ho : ∀ c i, ¬ (78 ≤ c ∧ c ≤ 89) → rd v11 c i = rd ws c i := fun c i hc => (o11 c i (by omega)).trans (ho c i (by omega))
  exact V_retV mi_100_169 ⟨rfl, H11, HY_HX h, ho⟩
theorem cpf_4_78 {g : Nat → Int} (hG : GOK ad tys GG ws) (hX : HX 78 g ws) : CT l D tys A 100 1 0 0 [.ref (ad 4), .ref (ad 78)] ws (fun r w => r = none ∧ GOK ad tys GG w ∧ HX 4 g w ∧ ∀ c i, ¬ (4 ≤ c ∧ c ≤ 15) → rd w c i = rd ws c i) := by
  refine CT_of_V (by omega) (show (2 : Nat) ≤ mML 100 by decide +kernel) ?_
  refine V_aload (v := ad 4) mi_100_0 (by simp [stL, lv_args, Value.category]) ?_
  refine V_aload (v := ad 78) mi_100_1 (by simp [stL, lv_args, Value.category]) ?_
  obtain ⟨p0, hp0, lo0, hi0⟩ := celO hG g78f0 (by omega)
  refine V_gO mi_100_2 g78o hG (hp0) ?_
  refine V_pO mi_100_5 g4f0 (by omega) (by decide +kernel) (by decide +kernel) hG (by rw [Int32.toInt_ofInt_of_le (by omega) (by omega)]; omega) (by rw [Int32.toInt_ofInt_of_le (by omega) (by omega)]; omega) (fun w0 G0 U0 => ?_)
  refine V_aload (v := ad 4) mi_100_8 (by simp [stL, lv_args, Value.category]) ?_
  refine V_aload (v := ad 78) mi_100_9 (by simp [stL, lv_args, Value.category]) ?_
  obtain ⟨p1, hp1, lo1, hi1⟩ := celO hG g78f1 (by omega)
  refine V_gO mi_100_10 g78o G0 ((upd_ne U0 (by omega)).trans hp1) ?_
  refine V_pO mi_100_13 g4f1 (by omega) (by decide +kernel) (by decide +kernel) G0 (by rw [Int32.toInt_ofInt_of_le (by omega) (by omega)]; omega) (by rw [Int32.toInt_ofInt_of_le (by omega) (by omega)]; omega) (fun w1 G1 U1 => ?_)
  refine V_aload (v := ad 4) mi_100_16 (by simp [stL, lv_args, Value.category]) ?_
  refine V_aload (v := ad 78) mi_100_17 (by simp [stL, lv_args, Value.category]) ?_
  obtain ⟨p2, hp2, lo2, hi2⟩ := celO hG g78f2 (by omega)
  refine V_gO mi_100_18 g78o G1 ((upd_ne U1 (by omega)).trans ((upd_ne U0 (by omega)).trans hp2)) ?_
  refine V_pO mi_100_21 g4f2 (by omega) (by decide +kernel) (by decide +kernel) G1 (by rw [Int32.toInt_ofInt_of_le (by omega) (by omega)]; omega) (by rw [Int32.toInt_ofInt_of_le (by omega) (by omega)]; omega) (fun w2 G2 U2 => ?_)
  refine V_aload (v := ad 4) mi_100_24 (by simp [stL, lv_args, Value.category]) ?_
  refine V_aload (v := ad 78) mi_100_25 (by simp [stL, lv_args, Value.category]) ?_
  obtain ⟨p3, hp3, lo3, hi3⟩ := celO hG g78f3 (by omega)
  refine V_gO mi_100_26 g78o G2 ((upd_ne U2 (by omega)).trans ((upd_ne U1 (by omega)).trans ((upd_ne U0 (by omega)).trans hp3))) ?_
  refine V_pO mi_100_29 g4f3 (by omega) (by decide +kernel) (by decide +kernel) G2 (by rw [Int32.toInt_ofInt_of_le (by omega) (by omega)]; omega) (by rw [Int32.toInt_ofInt_of_le (by omega) (by omega)]; omega) (fun w3 G3 U3 => ?_)
  refine V_aload (v := ad 4) mi_100_32 (by simp [stL, lv_args, Value.category]) ?_
  refine V_aload (v := ad 78) mi_100_33 (by simp [stL, lv_args, Value.category]) ?_
  obtain ⟨p4, hp4, lo4, hi4⟩ := celO hG g78f4 (by omega)
  refine V_gO mi_100_34 g78o G3 ((upd_ne U3 (by omega)).trans ((upd_ne U2 (by omega)).trans ((upd_ne U1 (by omega)).trans ((upd_ne U0 (by omega)).trans hp4)))) ?_
  refine V_pO mi_100_37 g4f4 (by omega) (by decide +kernel) (by decide +kernel) G3 (by rw [Int32.toInt_ofInt_of_le (by omega) (by omega)]; omega) (by rw [Int32.toInt_ofInt_of_le (by omega) (by omega)]; omega) (fun w4 G4 U4 => ?_)
  refine V_aload (v := ad 4) mi_100_40 (by simp [stL, lv_args, Value.category]) ?_
  refine V_aload (v := ad 78) mi_100_41 (by simp [stL, lv_args, Value.category]) ?_
  obtain ⟨p5, hp5, lo5, hi5⟩ := celO hG g78f5 (by omega)
  refine V_gO mi_100_42 g78o G4 ((upd_ne U4 (by omega)).trans ((upd_ne U3 (by omega)).trans ((upd_ne U2 (by omega)).trans ((upd_ne U1 (by omega)).trans ((upd_ne U0 (by omega)).trans hp5))))) ?_
  refine V_pO mi_100_45 g4f5 (by omega) (by decide +kernel) (by decide +kernel) G4 (by rw [Int32.toInt_ofInt_of_le (by omega) (by omega)]; omega) (by rw [Int32.toInt_ofInt_of_le (by omega) (by omega)]; omega) (fun w5 G5 U5 => ?_)
  have ho : ∀ c i, c ≠ 4 → rd w5 c i = rd ws c i := fun c i hc => (upd_ne U5 (by omega)).trans ((upd_ne U4 (by omega)).trans ((upd_ne U3 (by omega)).trans ((upd_ne U2 (by omega)).trans ((upd_ne U1 (by omega)).trans (upd_ne U0 (by omega))))))
  have h : HY 4 1 g w5 := fun k hk i hi => by
    have k0 : k = 0 := by omega
    subst k0
    have hi : i < 6 := hi
    rw [← hx0 hX hi]
    have e0 : rd w5 4 0 = rd ws 78 0 := by rw [hp0]; exact (upd_ne U5 (by omega)).trans ((upd_ne U4 (by omega)).trans ((upd_ne U3 (by omega)).trans ((upd_ne U2 (by omega)).trans ((upd_ne U1 (by omega)).trans (upd_eq U0)))))
    have e1 : rd w5 4 1 = rd ws 78 1 := by rw [hp1]; exact (upd_ne U5 (by omega)).trans ((upd_ne U4 (by omega)).trans ((upd_ne U3 (by omega)).trans ((upd_ne U2 (by omega)).trans (upd_eq U1))))
    have e2 : rd w5 4 2 = rd ws 78 2 := by rw [hp2]; exact (upd_ne U5 (by omega)).trans ((upd_ne U4 (by omega)).trans ((upd_ne U3 (by omega)).trans (upd_eq U2)))
    have e3 : rd w5 4 3 = rd ws 78 3 := by rw [hp3]; exact (upd_ne U5 (by omega)).trans ((upd_ne U4 (by omega)).trans (upd_eq U3))
    have e4 : rd w5 4 4 = rd ws 78 4 := by rw [hp4]; exact (upd_ne U5 (by omega)).trans (upd_eq U4)
    have e5 : rd w5 4 5 = rd ws 78 5 := by rw [hp5]; exact upd_eq U5
    rcases i with _ | _ | _ | _ | _ | _ | i
    · exact e0
    · exact e1
    · exact e2
    · exact e3
    · exact e4
    · exact e5
    · omega
  refine V_aload (v := ad 78) mi_100_48 (by simp [stL, lv_args, Value.category]) ?_
  refine V_gR mi_100_49 g78r6 (by omega) G5 ?_
  refine V_aload (v := ad 4) mi_100_52 (by simp [stL, lv_args, Value.category]) ?_
  refine V_gR mi_100_53 g4r6 (by omega) G5 ?_
  refine V_stat (As := [.ref (ad 79), .ref (ad 5)]) (st := []) mi_100_56 (by omega) (copy_ct a79 a5 G5 (by omega) (by omega) ⟨by omega, by omega⟩ ⟨by omega, by omega⟩) (by omega) (show 2 = mN 150 by decide +kernel) (by simp [Value.category]) ⟨Nat.le_refl _, Nat.le_refl _⟩ ?_
  rintro r v1 ⟨rfl, H1, o1, d1⟩
  replace h := HY_step h o1 (fun i hi => by rw [d1 i hi, ho _ _ (by omega)]; exact HX_HY hX 1 (by omega) i hi)
  replace ho : ∀ c i, ¬ (4 ≤ c ∧ c ≤ 15) → rd v1 c i = rd ws c i := fun c i hc => (o1 c i (by omega)).trans (ho c i (by omega))
  refine V_aload (v := ad 78) mi_100_59 (by simp [stL, lv_args, Value.category]) ?_
  refine V_gR mi_100_60 g78r7 (by omega) H1 ?_
  refine V_aload (v := ad 4) mi_100_63 (by simp [stL, lv_args, Value.category]) ?_
  refine V_gR mi_100_64 g4r7 (by omega) H1 ?_
  refine V_stat (As := [.ref (ad 80), .ref (ad 6)]) (st := []) mi_100_67 (by omega) (copy_ct a80 a6 H1 (by omega) (by omega) ⟨by omega, by omega⟩ ⟨by omega, by omega⟩) (by omega) (show 2 = mN 150 by decide +kernel) (by simp [Value.category]) ⟨Nat.le_refl _, Nat.le_refl _⟩ ?_
  rintro r v2 ⟨rfl, H2, o2, d2⟩
  replace h := HY_step h o2 (fun i hi => by rw [d2 i hi, ho _ _ (by omega)]; exact HX_HY hX 2 (by omega) i hi)
  replace ho : ∀ c i, ¬ (4 ≤ c ∧ c ≤ 15) → rd v2 c i = rd ws c i := fun c i hc => (o2 c i (by omega)).trans (ho c i (by omega))
  refine V_aload (v := ad 78) mi_100_70 (by simp [stL, lv_args, Value.category]) ?_
  refine V_gR mi_100_71 g78r8 (by omega) H2 ?_
  refine V_aload (v := ad 4) mi_100_74 (by simp [stL, lv_args, Value.category]) ?_
  refine V_gR mi_100_75 g4r8 (by omega) H2 ?_
  refine V_stat (As := [.ref (ad 81), .ref (ad 7)]) (st := []) mi_100_78 (by omega) (copy_ct a81 a7 H2 (by omega) (by omega) ⟨by omega, by omega⟩ ⟨by omega, by omega⟩) (by omega) (show 2 = mN 150 by decide +kernel) (by simp [Value.category]) ⟨Nat.le_refl _, Nat.le_refl _⟩ ?_
  rintro r v3 ⟨rfl, H3, o3, d3⟩
  replace h := HY_step h o3 (fun i hi => by rw [d3 i hi, ho _ _ (by omega)]; exact HX_HY hX 3 (by omega) i hi)
  replace ho : ∀ c i, ¬ (4 ≤ c ∧ c ≤ 15) → rd v3 c i = rd ws c i := fun c i hc => (o3 c i (by omega)).trans (ho c i (by omega))
  refine V_aload (v := ad 78) mi_100_81 (by simp [stL, lv_args, Value.category]) ?_
  refine V_gR mi_100_82 g78r9 (by omega) H3 ?_
  refine V_aload (v := ad 4) mi_100_85 (by simp [stL, lv_args, Value.category]) ?_
  refine V_gR mi_100_86 g4r9 (by omega) H3 ?_
  refine V_stat (As := [.ref (ad 82), .ref (ad 8)]) (st := []) mi_100_89 (by omega) (copy_ct a82 a8 H3 (by omega) (by omega) ⟨by omega, by omega⟩ ⟨by omega, by omega⟩) (by omega) (show 2 = mN 150 by decide +kernel) (by simp [Value.category]) ⟨Nat.le_refl _, Nat.le_refl _⟩ ?_
  rintro r v4 ⟨rfl, H4, o4, d4⟩
  replace h := HY_step h o4 (fun i hi => by rw [d4 i hi, ho _ _ (by omega)]; exact HX_HY hX 4 (by omega) i hi)
  replace ho : ∀ c i, ¬ (4 ≤ c ∧ c ≤ 15) → rd v4 c i = rd ws c i := fun c i hc => (o4 c i (by omega)).trans (ho c i (by omega))
  refine V_aload (v := ad 78) mi_100_92 (by simp [stL, lv_args, Value.category]) ?_
  refine V_gR mi_100_93 g78r10 (by omega) H4 ?_
  refine V_aload (v := ad 4) mi_100_96 (by simp [stL, lv_args, Value.category]) ?_
  refine V_gR mi_100_97 g4r10 (by omega) H4 ?_
  refine V_stat (As := [.ref (ad 83), .ref (ad 9)]) (st := []) mi_100_100 (by omega) (copy_ct a83 a9 H4 (by omega) (by omega) ⟨by omega, by omega⟩ ⟨by omega, by omega⟩) (by omega) (show 2 = mN 150 by decide +kernel) (by simp [Value.category]) ⟨Nat.le_refl _, Nat.le_refl _⟩ ?_
  rintro r v5 ⟨rfl, H5, o5, d5⟩
  replace h := HY_step h o5 (fun i hi => by rw [d5 i hi, ho _ _ (by omega)]; exact HX_HY hX 5 (by omega) i hi)
  replace ho : ∀ c i, ¬ (4 ≤ c ∧ c ≤ 15) → rd v5 c i = rd ws c i := fun c i hc => (o5 c i (by omega)).trans (ho c i (by omega))
  refine V_aload (v := ad 78) mi_100_103 (by simp [stL, lv_args, Value.category]) ?_
  refine V_gR mi_100_104 g78r11 (by omega) H5 ?_
  refine V_aload (v := ad 4) mi_100_107 (by simp [stL, lv_args, Value.category]) ?_
  refine V_gR mi_100_108 g4r11 (by omega) H5 ?_
  refine V_stat (As := [.ref (ad 84), .ref (ad 10)]) (st := []) mi_100_111 (by omega) (copy_ct a84 a10 H5 (by omega) (by omega) ⟨by omega, by omega⟩ ⟨by omega, by omega⟩) (by omega) (show 2 = mN 150 by decide +kernel) (by simp [Value.category]) ⟨Nat.le_refl _, Nat.le_refl _⟩ ?_
  rintro r v6 ⟨rfl, H6, o6, d6⟩
  replace h := HY_step h o6 (fun i hi => by rw [d6 i hi, ho _ _ (by omega)]; exact HX_HY hX 6 (by omega) i hi)
  replace ho : ∀ c i, ¬ (4 ≤ c ∧ c ≤ 15) → rd v6 c i = rd ws c i := fun c i hc => (o6 c i (by omega)).trans (ho c i (by omega))
  refine V_aload (v := ad 78) mi_100_114 (by simp [stL, lv_args, Value.category]) ?_
  refine V_gR mi_100_115 g78r12 (by omega) H6 ?_
  refine V_aload (v := ad 4) mi_100_118 (by simp [stL, lv_args, Value.category]) ?_
  refine V_gR mi_100_119 g4r12 (by omega) H6 ?_
  refine V_stat (As := [.ref (ad 85), .ref (ad 11)]) (st := []) mi_100_122 (by omega) (copy_ct a85 a11 H6 (by omega) (by omega) ⟨by omega, by omega⟩ ⟨by omega, by omega⟩) (by omega) (show 2 = mN 150 by decide +kernel) (by simp [Value.category]) ⟨Nat.le_refl _, Nat.le_refl _⟩ ?_
  rintro r v7 ⟨rfl, H7, o7, d7⟩
  replace h := HY_step h o7 (fun i hi => by rw [d7 i hi, ho _ _ (by omega)]; exact HX_HY hX 7 (by omega) i hi)
  replace ho : ∀ c i, ¬ (4 ≤ c ∧ c ≤ 15) → rd v7 c i = rd ws c i := fun c i hc => (o7 c i (by omega)).trans (ho c i (by omega))
  refine V_aload (v := ad 78) mi_100_125 (by simp [stL, lv_args, Value.category]) ?_
  refine V_gR mi_100_126 g78r13 (by omega) H7 ?_
  refine V_aload (v := ad 4) mi_100_129 (by simp [stL, lv_args, Value.category]) ?_
  refine V_gR mi_100_130 g4r13 (by omega) H7 ?_
  refine V_stat (As := [.ref (ad 86), .ref (ad 12)]) (st := []) mi_100_133 (by omega) (copy_ct a86 a12 H7 (by omega) (by omega) ⟨by omega, by omega⟩ ⟨by omega, by omega⟩) (by omega) (show 2 = mN 150 by decide +kernel) (by simp [Value.category]) ⟨Nat.le_refl _, Nat.le_refl _⟩ ?_
  rintro r v8 ⟨rfl, H8, o8, d8⟩
  replace h := HY_step h o8 (fun i hi => by rw [d8 i hi, ho _ _ (by omega)]; exact HX_HY hX 8 (by omega) i hi)
  replace ho : ∀ c i, ¬ (4 ≤ c ∧ c ≤ 15) → rd v8 c i = rd ws c i := fun c i hc => (o8 c i (by omega)).trans (ho c i (by omega))
  refine V_aload (v := ad 78) mi_100_136 (by simp [stL, lv_args, Value.category]) ?_
  refine V_gR mi_100_137 g78r14 (by omega) H8 ?_
  refine V_aload (v := ad 4) mi_100_140 (by simp [stL, lv_args, Value.category]) ?_
  refine V_gR mi_100_141 g4r14 (by omega) H8 ?_
  refine V_stat (As := [.ref (ad 87), .ref (ad 13)]) (st := []) mi_100_144 (by omega) (copy_ct a87 a13 H8 (by omega) (by omega) ⟨by omega, by omega⟩ ⟨by omega, by omega⟩) (by omega) (show 2 = mN 150 by decide +kernel) (by simp [Value.category]) ⟨Nat.le_refl _, Nat.le_refl _⟩ ?_
  rintro r v9 ⟨rfl, H9, o9, d9⟩
  replace h := HY_step h o9 (fun i hi => by rw [d9 i hi, ho _ _ (by omega)]; exact HX_HY hX 9 (by omega) i hi)
  replace ho : ∀ c i, ¬ (4 ≤ c ∧ c ≤ 15) → rd v9 c i = rd ws c i := fun c i hc => (o9 c i (by omega)).trans (ho c i (by omega))
  refine V_aload (v := ad 78) mi_100_147 (by simp [stL, lv_args, Value.category]) ?_
  refine V_gR mi_100_148 g78r15 (by omega) H9 ?_
  refine V_aload (v := ad 4) mi_100_151 (by simp [stL, lv_args, Value.category]) ?_
  refine V_gR mi_100_152 g4r15 (by omega) H9 ?_
  refine V_stat (As := [.ref (ad 88), .ref (ad 14)]) (st := []) mi_100_155 (by omega) (copy_ct a88 a14 H9 (by omega) (by omega) ⟨by omega, by omega⟩ ⟨by omega, by omega⟩) (by omega) (show 2 = mN 150 by decide +kernel) (by simp [Value.category]) ⟨Nat.le_refl _, Nat.le_refl _⟩ ?_
  rintro r v10 ⟨rfl, H10, o10, d10⟩
  replace h := HY_step h o10 (fun i hi => by rw [d10 i hi, ho _ _ (by omega)]; exact HX_HY hX 10 (by omega) i hi)
  replace ho : ∀ c i, ¬ (4 ≤ c ∧ c ≤ 15) → rd v10 c i = rd ws c i := fun c i hc => (o10 c i (by omega)).trans (ho c i (by omega))
  refine V_aload (v := ad 78) mi_100_158 (by simp [stL, lv_args, Value.category]) ?_
  refine V_gR mi_100_159 g78r16 (by omega) H10 ?_
  refine V_aload (v := ad 4) mi_100_162 (by simp [stL, lv_args, Value.category]) ?_
  refine V_gR mi_100_163 g4r16 (by omega) H10 ?_
  refine V_stat (As := [.ref (ad 89), .ref (ad 15)]) (st := []) mi_100_166 (by omega) (copy_ct a89 a15 H10 (by omega) (by omega) ⟨by omega, by omega⟩ ⟨by omega, by omega⟩) (by omega) (show 2 = mN 150 by decide +kernel) (by simp [Value.category]) ⟨Nat.le_refl _, Nat.le_refl _⟩ ?_
  rintro r v11 ⟨rfl, H11, o11, d11⟩
  replace h := HY_step h o11 (fun i hi => by rw [d11 i hi, ho _ _ (by omega)]; exact HX_HY hX 11 (by omega) i hi)
  replace ho : ∀ c i, ¬ (4 ≤ c ∧ c ≤ 15) → rd v11 c i = rd ws c i := fun c i hc => (o11 c i (by omega)).trans (ho c i (by omega))
  exact V_retV mi_100_169 ⟨rfl, H11, HY_HX h, ho⟩
theorem iat_0 (hG : GOK ad tys GG ws) : CT l D tys A 69 0 0 0 [.ref (ad 0), .int (Int32.ofInt 0)] ws (fun r w => w = ws ∧ r = some (.ref (ad 54))) := by
  refine CT_of_V (by omega) (show (2 : Nat) ≤ mML 69 by decide +kernel) ?_
  obtain ⟨s53, e53, t0, t1, t2⟩ := gx53i
  refine V_iload (v := Int32.ofInt (0)) mi_69_0 (by simp [stL, lv_args, Value.category]) ?_
  refine V_zlt mi_69_1 ⟨by omega, by omega⟩ (fun q => ?_) (fun q => ?_)
  · exact absurd q (by omega)
  · refine V_iload (v := Int32.ofInt (0)) mi_69_4 (by simp [stL, lv_args, Value.category]) ?_
    refine V_aload (v := ad 0) mi_69_5 (by simp [stL, lv_args, Value.category]) ?_
    refine V_gR mi_69_6 g0r11 (by omega) hG ?_
    refine V_lenR mi_69_9 hG e53 ?_
    refine V_cge mi_69_10 ⟨by omega, by omega⟩ ⟨by omega, by omega⟩ (fun q2 => ?_) (fun q2 => ?_)
    · exact absurd q2 (by omega)
    · refine V_aload (v := ad 0) mi_69_13 (by simp [stL, lv_args, Value.category]) ?_
      refine V_gR mi_69_14 g0r11 (by omega) hG ?_
      refine V_iload (v := Int32.ofInt (0)) mi_69_17 (by simp [stL, lv_args, Value.category]) ?_
      refine V_aaldI (j := 0) mi_69_18 rfl hG e53 (by omega) (by omega) t0 ?_
      refine V_goto mi_69_19 ?_
      exact V_retA (v := .ref (ad 54)) mi_69_23 (Or.inr ⟨_, rfl⟩) ⟨rfl, rfl⟩
theorem iat_1 (hG : GOK ad tys GG ws) : CT l D tys A 69 0 0 0 [.ref (ad 0), .int (Int32.ofInt 1)] ws (fun r w => w = ws ∧ r = some (.ref (ad 66))) := by
  refine CT_of_V (by omega) (show (2 : Nat) ≤ mML 69 by decide +kernel) ?_
  obtain ⟨s53, e53, t0, t1, t2⟩ := gx53i
  refine V_iload (v := Int32.ofInt (1)) mi_69_0 (by simp [stL, lv_args, Value.category]) ?_
  refine V_zlt mi_69_1 ⟨by omega, by omega⟩ (fun q => ?_) (fun q => ?_)
  · exact absurd q (by omega)
  · refine V_iload (v := Int32.ofInt (1)) mi_69_4 (by simp [stL, lv_args, Value.category]) ?_
    refine V_aload (v := ad 0) mi_69_5 (by simp [stL, lv_args, Value.category]) ?_
    refine V_gR mi_69_6 g0r11 (by omega) hG ?_
    refine V_lenR mi_69_9 hG e53 ?_
    refine V_cge mi_69_10 ⟨by omega, by omega⟩ ⟨by omega, by omega⟩ (fun q2 => ?_) (fun q2 => ?_)
    · exact absurd q2 (by omega)
    · refine V_aload (v := ad 0) mi_69_13 (by simp [stL, lv_args, Value.category]) ?_
      refine V_gR mi_69_14 g0r11 (by omega) hG ?_
      refine V_iload (v := Int32.ofInt (1)) mi_69_17 (by simp [stL, lv_args, Value.category]) ?_
      refine V_aaldI (j := 1) mi_69_18 rfl hG e53 (by omega) (by omega) t1 ?_
      refine V_goto mi_69_19 ?_
      exact V_retA (v := .ref (ad 66)) mi_69_23 (Or.inr ⟨_, rfl⟩) ⟨rfl, rfl⟩
theorem iat_2 (hG : GOK ad tys GG ws) : CT l D tys A 69 0 0 0 [.ref (ad 0), .int (Int32.ofInt 2)] ws (fun r w => w = ws ∧ r = some (.ref (ad 78))) := by
  refine CT_of_V (by omega) (show (2 : Nat) ≤ mML 69 by decide +kernel) ?_
  obtain ⟨s53, e53, t0, t1, t2⟩ := gx53i
  refine V_iload (v := Int32.ofInt (2)) mi_69_0 (by simp [stL, lv_args, Value.category]) ?_
  refine V_zlt mi_69_1 ⟨by omega, by omega⟩ (fun q => ?_) (fun q => ?_)
  · exact absurd q (by omega)
  · refine V_iload (v := Int32.ofInt (2)) mi_69_4 (by simp [stL, lv_args, Value.category]) ?_
    refine V_aload (v := ad 0) mi_69_5 (by simp [stL, lv_args, Value.category]) ?_
    refine V_gR mi_69_6 g0r11 (by omega) hG ?_
    refine V_lenR mi_69_9 hG e53 ?_
    refine V_cge mi_69_10 ⟨by omega, by omega⟩ ⟨by omega, by omega⟩ (fun q2 => ?_) (fun q2 => ?_)
    · exact absurd q2 (by omega)
    · refine V_aload (v := ad 0) mi_69_13 (by simp [stL, lv_args, Value.category]) ?_
      refine V_gR mi_69_14 g0r11 (by omega) hG ?_
      refine V_iload (v := Int32.ofInt (2)) mi_69_17 (by simp [stL, lv_args, Value.category]) ?_
      refine V_aaldI (j := 2) mi_69_18 rfl hG e53 (by omega) (by omega) t2 ?_
      refine V_goto mi_69_19 ?_
      exact V_retA (v := .ref (ad 78)) mi_69_23 (Or.inr ⟨_, rfl⟩) ⟨rfl, rfl⟩
theorem iat_n {k : Int} (kI : I32 k) (hk : ¬ (0 ≤ k ∧ k ≤ 2)) (hG : GOK ad tys GG ws) : CT l D tys A 69 0 0 0 [.ref (ad 0), .int (Int32.ofInt k)] ws (fun r w => w = ws ∧ r = some .null) := by
  refine CT_of_V (by omega) (show (2 : Nat) ≤ mML 69 by decide +kernel) ?_
  obtain ⟨s53, e53, t0, t1, t2⟩ := gx53i
  refine V_iload (v := Int32.ofInt (k)) mi_69_0 (by simp [stL, lv_args, Value.category]) ?_
  refine V_zlt mi_69_1 kI (fun q => ?_) (fun q => ?_)
  · refine V_null mi_69_22 ?_
    exact V_retA (v := .null) mi_69_23 (Or.inl rfl) ⟨rfl, rfl⟩
  · refine V_iload (v := Int32.ofInt (k)) mi_69_4 (by simp [stL, lv_args, Value.category]) ?_
    refine V_aload (v := ad 0) mi_69_5 (by simp [stL, lv_args, Value.category]) ?_
    refine V_gR mi_69_6 g0r11 (by omega) hG ?_
    refine V_lenR mi_69_9 hG e53 ?_
    refine V_cge mi_69_10 kI ⟨by omega, by omega⟩ (fun q2 => ?_) (fun q2 => ?_)
    · refine V_null mi_69_22 ?_
      exact V_retA (v := .null) mi_69_23 (Or.inl rfl) ⟨rfl, rfl⟩
    · exact absurd q2 (by omega)
theorem kep_all : (List.range 8).all (fun z => (List.range 3).all (fun q => decide (ibF 6 (Int32.ofInt (z : Nat)) (ibF 8 (Int32.ofInt 1) (Int32.ofInt (q : Nat))) = Int32.ofInt ((z ||| 1 <<< q : Nat) : Int)) && (decide (z ||| 1 <<< q < 8) && decide (ibF 5 (ibF 9 (Int32.ofInt (z : Nat)) (Int32.ofInt (q : Nat))) (Int32.ofInt 1) = bI (z.testBit q))) && (List.range 3).all (fun p => (z ||| 1 <<< q).testBit p == (z.testBit p || Nat.beq p q)))) = true := by decide +kernel
theorem kep_k {z q : Nat} (hz : z < 8) (hq : q < 3) : ibF 6 (Int32.ofInt (z : Int)) (ibF 8 (Int32.ofInt 1) (Int32.ofInt (q : Int))) = Int32.ofInt ((z ||| 1 <<< q : Nat) : Int) ∧ z ||| 1 <<< q < 8 ∧ ibF 5 (ibF 9 (Int32.ofInt (z : Int)) (Int32.ofInt (q : Int))) (Int32.ofInt 1) = bI (z.testBit q) ∧ ∀ p, p < 3 → (z ||| 1 <<< q).testBit p = (z.testBit p || Nat.beq p q) := by
  have h := List.all_eq_true.mp (List.all_eq_true.mp kep_all z (List.mem_range.mpr hz)) q (List.mem_range.mpr hq)
  rw [Bool.and_eq_true, Bool.and_eq_true, Bool.and_eq_true, decide_eq_true_eq, decide_eq_true_eq, decide_eq_true_eq] at h
  obtain ⟨⟨h1, h2, h3⟩, h4⟩ := h
  exact ⟨h1, h2, h3, fun p hp => beq_iff_eq.mp (List.all_eq_true.mp h4 p (List.mem_range.mpr hp))⟩
theorem imgX_0 {G : Nat → Int} {z : Nat} (z8 : z < 8) (hG : GOK ad tys GG ws) (hX : HX 4 G ws) (hz : rd ws 0 12 = some (.int (Int32.ofInt (z : Int)))) : CT l D tys A 67 2 0 0 [.ref (ad 0), .int (Int32.ofInt 0)] ws (fun r w => r = some (.int (Int32.ofInt 0)) ∧ GOK ad tys GG w ∧ (∀ c i, ¬ (54 ≤ c ∧ c ≤ 65) → ¬ (c = 0 ∧ i = 12) → rd w c i = rd ws c i) ∧ rd w 0 12 = some (.int (Int32.ofInt ((z ||| 1 <<< 0 : Nat) : Int))) ∧ HX 54 G w) := by
  refine CT_of_V (by omega) (show (2 : Nat) ≤ mML 67 by decide +kernel) ?_
  refine V_aload (v := ad 0) mi_67_0 (by simp [stL, lv_args, Value.category]) ?_
  refine V_iload (v := Int32.ofInt (0)) mi_67_1 (by simp [stL, lv_args, Value.category]) ?_
  refine V_cO (As := [.int (Int32.ofInt (0))]) (st := []) mi_67_2 (by omega) (by decide +kernel) (by decide +kernel) (by omega) g0o hG (iat_0 hG) (by omega) (show 1 = mN 69 by decide +kernel) (by simp [Value.category]) ?_
  rintro r w1 ⟨rfl, rfl⟩
  refine V_astore (v := ad 54) mi_67_5 ?_
  refine V_aload (v := ad 54) mi_67_6 (by simp [stL, lv_args, Value.category]) ?_
  refine V_nnR mi_67_7 ?_
  refine V_aload (v := ad 54) mi_67_13 (by simp [stL, lv_args, Value.category]) ?_
  refine V_aload (v := ad 0) mi_67_14 (by simp [stL, lv_args, Value.category]) ?_
  refine V_gR mi_67_15 g0r2 (by omega) hG ?_
  refine V_cO (As := [.ref (ad 4)]) (st := []) mi_67_18 (by omega) (by decide +kernel) (by decide +kernel) (by omega) g54o hG (cpf_54_4 hG hX) (by omega) (show 1 = mN 100 by decide +kernel) (by simp [Value.category]) ?_
  rintro r w2 ⟨rfl, G2, hX2, O2⟩
  refine V_aload (v := ad 0) mi_67_21 (by simp [stL, lv_args, Value.category]) ?_
  refine V_dup mi_67_22 (by simp [Value.category]) ?_
  refine V_gO mi_67_23 g0o G2 ((O2 _ _ (by omega)).trans hz) ?_
  refine V_ipush mi_67_26 ?_
  refine V_iload (v := Int32.ofInt (0)) mi_67_27 (by simp [stL, lv_args, Value.category]) ?_
  refine V_ibin mi_67_28 (by omega) ?_
  refine V_ibin mi_67_29 (by omega) ?_
  obtain ⟨k1, k2, k3, k4⟩ := kep_k (q := 0) z8 (by omega)
  rw [show ibF 6 (Int32.ofInt (z : Int)) (ibF 8 (Int32.ofInt 1) (Int32.ofInt 0)) = Int32.ofInt ((z ||| 1 <<< 0 : Nat) : Int) from k1]
  refine V_pO mi_67_30 g0f12 (by omega) (by decide +kernel) (by decide +kernel) G2 (by rw [Int32.toInt_ofInt_of_le (by omega) (by omega)]; omega) (by rw [Int32.toInt_ofInt_of_le (by omega) (by omega)]; omega) (fun w3 G3 U3 => ?_)
  refine V_ipush mi_67_33 ?_
  exact V_retI mi_67_34 (fun h => absurd h (by decide +kernel)) ⟨rfl, G3, fun c i hc h0 => (upd_ne U3 h0).trans (O2 c i hc), upd_eq U3, HX_keep hX2 (fun c i h1 h2 => upd_ne U3 (by omega))⟩
theorem imgX_1 {G : Nat → Int} {z : Nat} (z8 : z < 8) (hG : GOK ad tys GG ws) (hX : HX 4 G ws) (hz : rd ws 0 12 = some (.int (Int32.ofInt (z : Int)))) : CT l D tys A 67 2 0 0 [.ref (ad 0), .int (Int32.ofInt 1)] ws (fun r w => r = some (.int (Int32.ofInt 0)) ∧ GOK ad tys GG w ∧ (∀ c i, ¬ (66 ≤ c ∧ c ≤ 77) → ¬ (c = 0 ∧ i = 12) → rd w c i = rd ws c i) ∧ rd w 0 12 = some (.int (Int32.ofInt ((z ||| 1 <<< 1 : Nat) : Int))) ∧ HX 66 G w) := by
  refine CT_of_V (by omega) (show (2 : Nat) ≤ mML 67 by decide +kernel) ?_
  refine V_aload (v := ad 0) mi_67_0 (by simp [stL, lv_args, Value.category]) ?_
  refine V_iload (v := Int32.ofInt (1)) mi_67_1 (by simp [stL, lv_args, Value.category]) ?_
  refine V_cO (As := [.int (Int32.ofInt (1))]) (st := []) mi_67_2 (by omega) (by decide +kernel) (by decide +kernel) (by omega) g0o hG (iat_1 hG) (by omega) (show 1 = mN 69 by decide +kernel) (by simp [Value.category]) ?_
  rintro r w1 ⟨rfl, rfl⟩
  refine V_astore (v := ad 66) mi_67_5 ?_
  refine V_aload (v := ad 66) mi_67_6 (by simp [stL, lv_args, Value.category]) ?_
  refine V_nnR mi_67_7 ?_
  refine V_aload (v := ad 66) mi_67_13 (by simp [stL, lv_args, Value.category]) ?_
  refine V_aload (v := ad 0) mi_67_14 (by simp [stL, lv_args, Value.category]) ?_
  refine V_gR mi_67_15 g0r2 (by omega) hG ?_
  refine V_cO (As := [.ref (ad 4)]) (st := []) mi_67_18 (by omega) (by decide +kernel) (by decide +kernel) (by omega) g66o hG (cpf_66_4 hG hX) (by omega) (show 1 = mN 100 by decide +kernel) (by simp [Value.category]) ?_
  rintro r w2 ⟨rfl, G2, hX2, O2⟩
  refine V_aload (v := ad 0) mi_67_21 (by simp [stL, lv_args, Value.category]) ?_
  refine V_dup mi_67_22 (by simp [Value.category]) ?_
  refine V_gO mi_67_23 g0o G2 ((O2 _ _ (by omega)).trans hz) ?_
  refine V_ipush mi_67_26 ?_
  refine V_iload (v := Int32.ofInt (1)) mi_67_27 (by simp [stL, lv_args, Value.category]) ?_
  refine V_ibin mi_67_28 (by omega) ?_
  refine V_ibin mi_67_29 (by omega) ?_
  obtain ⟨k1, k2, k3, k4⟩ := kep_k (q := 1) z8 (by omega)
  rw [show ibF 6 (Int32.ofInt (z : Int)) (ibF 8 (Int32.ofInt 1) (Int32.ofInt 1)) = Int32.ofInt ((z ||| 1 <<< 1 : Nat) : Int) from k1]
  refine V_pO mi_67_30 g0f12 (by omega) (by decide +kernel) (by decide +kernel) G2 (by rw [Int32.toInt_ofInt_of_le (by omega) (by omega)]; omega) (by rw [Int32.toInt_ofInt_of_le (by omega) (by omega)]; omega) (fun w3 G3 U3 => ?_)
  refine V_ipush mi_67_33 ?_
  exact V_retI mi_67_34 (fun h => absurd h (by decide +kernel)) ⟨rfl, G3, fun c i hc h0 => (upd_ne U3 h0).trans (O2 c i hc), upd_eq U3, HX_keep hX2 (fun c i h1 h2 => upd_ne U3 (by omega))⟩
theorem imgX_2 {G : Nat → Int} {z : Nat} (z8 : z < 8) (hG : GOK ad tys GG ws) (hX : HX 4 G ws) (hz : rd ws 0 12 = some (.int (Int32.ofInt (z : Int)))) : CT l D tys A 67 2 0 0 [.ref (ad 0), .int (Int32.ofInt 2)] ws (fun r w => r = some (.int (Int32.ofInt 0)) ∧ GOK ad tys GG w ∧ (∀ c i, ¬ (78 ≤ c ∧ c ≤ 89) → ¬ (c = 0 ∧ i = 12) → rd w c i = rd ws c i) ∧ rd w 0 12 = some (.int (Int32.ofInt ((z ||| 1 <<< 2 : Nat) : Int))) ∧ HX 78 G w) := by
  refine CT_of_V (by omega) (show (2 : Nat) ≤ mML 67 by decide +kernel) ?_
  refine V_aload (v := ad 0) mi_67_0 (by simp [stL, lv_args, Value.category]) ?_
  refine V_iload (v := Int32.ofInt (2)) mi_67_1 (by simp [stL, lv_args, Value.category]) ?_
  refine V_cO (As := [.int (Int32.ofInt (2))]) (st := []) mi_67_2 (by omega) (by decide +kernel) (by decide +kernel) (by omega) g0o hG (iat_2 hG) (by omega) (show 1 = mN 69 by decide +kernel) (by simp [Value.category]) ?_
  rintro r w1 ⟨rfl, rfl⟩
  refine V_astore (v := ad 78) mi_67_5 ?_
  refine V_aload (v := ad 78) mi_67_6 (by simp [stL, lv_args, Value.category]) ?_
  refine V_nnR mi_67_7 ?_
  refine V_aload (v := ad 78) mi_67_13 (by simp [stL, lv_args, Value.category]) ?_
  refine V_aload (v := ad 0) mi_67_14 (by simp [stL, lv_args, Value.category]) ?_
  refine V_gR mi_67_15 g0r2 (by omega) hG ?_
  refine V_cO (As := [.ref (ad 4)]) (st := []) mi_67_18 (by omega) (by decide +kernel) (by decide +kernel) (by omega) g78o hG (cpf_78_4 hG hX) (by omega) (show 1 = mN 100 by decide +kernel) (by simp [Value.category]) ?_
  rintro r w2 ⟨rfl, G2, hX2, O2⟩
  refine V_aload (v := ad 0) mi_67_21 (by simp [stL, lv_args, Value.category]) ?_
  refine V_dup mi_67_22 (by simp [Value.category]) ?_
  refine V_gO mi_67_23 g0o G2 ((O2 _ _ (by omega)).trans hz) ?_
  refine V_ipush mi_67_26 ?_
  refine V_iload (v := Int32.ofInt (2)) mi_67_27 (by simp [stL, lv_args, Value.category]) ?_
  refine V_ibin mi_67_28 (by omega) ?_
  refine V_ibin mi_67_29 (by omega) ?_
  obtain ⟨k1, k2, k3, k4⟩ := kep_k (q := 2) z8 (by omega)
  rw [show ibF 6 (Int32.ofInt (z : Int)) (ibF 8 (Int32.ofInt 1) (Int32.ofInt 2)) = Int32.ofInt ((z ||| 1 <<< 2 : Nat) : Int) from k1]
  refine V_pO mi_67_30 g0f12 (by omega) (by decide +kernel) (by decide +kernel) G2 (by rw [Int32.toInt_ofInt_of_le (by omega) (by omega)]; omega) (by rw [Int32.toInt_ofInt_of_le (by omega) (by omega)]; omega) (fun w3 G3 U3 => ?_)
  refine V_ipush mi_67_33 ?_
  exact V_retI mi_67_34 (fun h => absurd h (by decide +kernel)) ⟨rfl, G3, fun c i hc h0 => (upd_ne U3 h0).trans (O2 c i hc), upd_eq U3, HX_keep hX2 (fun c i h1 h2 => upd_ne U3 (by omega))⟩
theorem imgX_n {k : Int} (kI : I32 k) (hk : ¬ (0 ≤ k ∧ k ≤ 2)) (hG : GOK ad tys GG ws) : CT l D tys A 67 2 0 0 [.ref (ad 0), .int (Int32.ofInt k)] ws (fun r w => w = ws ∧ r = some (.int (Int32.ofInt (-2)))) := by
  refine CT_of_V (by omega) (show (2 : Nat) ≤ mML 67 by decide +kernel) ?_
  refine V_aload (v := ad 0) mi_67_0 (by simp [stL, lv_args, Value.category]) ?_
  refine V_iload (v := Int32.ofInt (k)) mi_67_1 (by simp [stL, lv_args, Value.category]) ?_
  refine V_cO (As := [.int (Int32.ofInt (k))]) (st := []) mi_67_2 (by omega) (by decide +kernel) (by decide +kernel) (by omega) g0o hG (iat_n kI hk hG) (by omega) (show 1 = mN 69 by decide +kernel) (by simp [Value.category]) ?_
  rintro r w1 ⟨rfl, rfl⟩
  refine V_astoreN mi_67_5 ?_
  refine V_aloadN mi_67_6 (by simp [stL, lv_args, Value.category]) ?_
  refine V_nnN mi_67_7 ?_
  refine V_ipush mi_67_10 ?_
  exact V_retI mi_67_12 (fun h => absurd h (by decide +kernel)) ⟨rfl, rfl⟩
theorem bakX_n {k : Int} (kI : I32 k) (hk : ¬ (0 ≤ k ∧ k ≤ 2)) (hG : GOK ad tys GG ws) : CT l D tys A 68 2 0 0 [.ref (ad 0), .int (Int32.ofInt k)] ws (fun r w => w = ws ∧ r = some (.int (Int32.ofInt (-2)))) := by
  refine CT_of_V (by omega) (show (2 : Nat) ≤ mML 68 by decide +kernel) ?_
  refine V_aload (v := ad 0) mi_68_0 (by simp [stL, lv_args, Value.category]) ?_
  refine V_iload (v := Int32.ofInt (k)) mi_68_1 (by simp [stL, lv_args, Value.category]) ?_
  refine V_cO (As := [.int (Int32.ofInt (k))]) (st := []) mi_68_2 (by omega) (by decide +kernel) (by decide +kernel) (by omega) g0o hG (iat_n kI hk hG) (by omega) (show 1 = mN 69 by decide +kernel) (by simp [Value.category]) ?_
  rintro r w1 ⟨rfl, rfl⟩
  refine V_astoreN mi_68_5 ?_
  refine V_aloadN mi_68_6 (by simp [stL, lv_args, Value.category]) ?_
  refine V_nnN mi_68_7 ?_
  refine V_ipush mi_68_10 ?_
  exact V_retI mi_68_12 (fun h => absurd h (by decide +kernel)) ⟨rfl, rfl⟩
theorem gw92 : ∃ s s2, GG[91]? = some ((1, 0, 294), s) ∧ GG[92]? = some ((1, 0, 882), s2) ∧ ∀ q, q < 3 → ∀ j, j < 294 → ∃ lo hi, segAt s j = some (0, lo, hi) ∧ segAt s2 (294 * q + j) = some (0, lo, hi) ∧ -2147483648 ≤ lo ∧ hi ≤ 2147483647 := by
  refine ⟨_, _, rfl, rfl, fun q hq j hj => ?_⟩
  have h : ∀ q : Fin 3, ∀ j : Fin 294, (match segAt ((GG.getD 91 ((0, 0, 0), [])).2) j.1, segAt ((GG.getD 92 ((0, 0, 0), [])).2) (294 * q.1 + j.1) with | some (0, lo, hi), some (0, lo2, hi2) => decide (lo = lo2) && decide (hi = hi2) && decide (-2147483648 ≤ lo) && decide (hi ≤ 2147483647) | _, _ => false) = true := by decide +kernel
  have h := h ⟨q, hq⟩ ⟨j, hj⟩
  revert h
  show (match segAt ((GG.getD 91 ((0, 0, 0), [])).2) j, segAt ((GG.getD 92 ((0, 0, 0), [])).2) (294 * q + j) with | some (0, lo, hi), some (0, lo2, hi2) => decide (lo = lo2) && decide (hi = hi2) && decide (-2147483648 ≤ lo) && decide (hi ≤ 2147483647) | _, _ => false) = true → ∃ lo hi, segAt ((GG.getD 91 ((0, 0, 0), [])).2) j = some (0, lo, hi) ∧ segAt ((GG.getD 92 ((0, 0, 0), [])).2) (294 * q + j) = some (0, lo, hi) ∧ -2147483648 ≤ lo ∧ hi ≤ 2147483647
  cases segAt ((GG.getD 91 ((0, 0, 0), [])).2) j with
  | none => exact fun h => absurd h Bool.false_ne_true
  | some u =>
    obtain ⟨a, lo, hi⟩ := u
    cases segAt ((GG.getD 92 ((0, 0, 0), [])).2) (294 * q + j) with
    | none =>
      cases a with
      | zero => exact fun h => absurd h Bool.false_ne_true
      | succ a => exact fun h => absurd h Bool.false_ne_true
    | some u2 =>
      obtain ⟨b, lo2, hi2⟩ := u2
      cases a with
      | succ a => exact fun h => absurd h Bool.false_ne_true
      | zero =>
        cases b with
        | succ b => exact fun h => absurd h Bool.false_ne_true
        | zero =>
          intro h
          have h : (decide (lo = lo2) && decide (hi = hi2) && decide (-2147483648 ≤ lo) && decide (hi ≤ 2147483647)) = true := h
          simp only [Bool.and_eq_true, decide_eq_true_eq] at h
          obtain ⟨⟨⟨rfl, rfl⟩, h3⟩, h4⟩ := h
          exact ⟨lo, hi, rfl, rfl, h3, h4⟩
theorem im_17 {w0 : va_W} {post : Option Value → va_W → Prop} {q : Nat} (hq : q < 3) : ∀ (m i : Nat) (w : va_W), i + m = 294 → GOK ad tys GG w → (∀ c j, ¬ (c = 92 ∧ 294 * q ≤ j ∧ j < 294 * q + 294) → rd w c j = rd w0 c j) → (∀ j, j < i → rd w 92 (294 * q + j) = rd w0 91 j) → (∀ w' : va_W, GOK ad tys GG w' → (∀ c j, ¬ (c = 92 ∧ 294 * q ≤ j ∧ j < 294 * q + 294) → rd w' c j = rd w0 c j) → (∀ j, j < 294 → rd w' 92 (294 * q + j) = rd w0 91 j) → V l D tys A 196 4 0 0 post 0 0 48 [(0, .ref (ad 90)), (1, .int (Int32.ofInt (q : Int)))] [] w') → V l D tys A 196 4 0 0 post 0 0 17 [(0, .ref (ad 90)), (1, .int (Int32.ofInt (q : Int))), (2, .int (Int32.ofInt (i : Int)))] [] w
  | 0, i, w, hm, hG, ho, hd, kk => by
    refine V_iload (v := Int32.ofInt ((i : Int))) mi_196_17 (by simp [stL, lv_args, Value.category]) ?_
    refine V_ipush mi_196_18 ?_
    refine V_cge mi_196_21 ⟨by omega, by omega⟩ ⟨by omega, by omega⟩ (fun g => ?_) (fun g => ?_)
    · refine V_sub (lv' := [(0, .ref (ad 90)), (1, .int (Int32.ofInt (q : Int)))]) (fun q hq => ?_) (kk w hG ho (fun j hj => hd j (by omega)))
      simp only [List.mem_cons, List.not_mem_nil, or_false] at hq
      rcases hq with rfl | rfl <;> simp [stL, lv_args, Value.category]
    · exact absurd g (by omega)
  | m + 1, i, w, hm, hG, ho, hd, kk => by
    obtain ⟨s91, s92, e91, e92, hsg⟩ := gw92
    obtain ⟨lo, hi, q1, q2, l0, h0⟩ := hsg q hq i (by omega)
    obtain ⟨z, hz, z0, z1⟩ := cel hG e91 (j := i) (by omega) q1
    refine V_iload (v := Int32.ofInt ((i : Int))) mi_196_17 (by simp [stL, lv_args, Value.category]) ?_
    refine V_ipush mi_196_18 ?_
    refine V_cge mi_196_21 ⟨by omega, by omega⟩ ⟨by omega, by omega⟩ (fun g => ?_) (fun g => ?_)
    · exact absurd g (by omega)
    · refine V_aload (v := ad 90) mi_196_24 (by simp [stL, lv_args, Value.category]) ?_
      refine V_getI mi_196_25 hG (rref gr2m (by omega) hG) ?_
      refine V_ipush mi_196_28 ?_
      refine V_iload (v := Int32.ofInt ((q : Int))) mi_196_31 (by simp [stL, lv_args, Value.category]) ?_
      refine V_ibin mi_196_32 (by omega) ?_
      rw [ib2]
      refine V_iload (v := Int32.ofInt ((i : Int))) mi_196_33 (by simp [stL, lv_args, Value.category]) ?_
      refine V_ibin mi_196_34 (by omega) ?_
      rw [ib0]
      refine V_aload (v := ad 90) mi_196_35 (by simp [stL, lv_args, Value.category]) ?_
      refine V_getI mi_196_36 hG (rref gr1m (by omega) hG) ?_
      refine V_iload (v := Int32.ofInt ((i : Int))) mi_196_39 (by simp [stL, lv_args, Value.category]) ?_
      refine V_aldX (j := i) mi_196_40 rfl hG e91 (by omega) (by omega) hz ?_
      refine V_astX (j := 294 * q + i) mi_196_41 (by rw [show ((294) * ((q : Int))) + ((i : Int)) = ((294 * q + i : Nat) : Int) by omega]) hG e92 (by omega) (by omega) q2 (by rw [Int32.toInt_ofInt_of_le (by omega) (by omega)]; omega) (by rw [Int32.toInt_ofInt_of_le (by omega) (by omega)]; omega) (fun w2 G2 U => ?_)
      refine V_iinc (v := Int32.ofInt ((i : Int))) mi_196_42 (by simp [stL, lv_args, Value.category]) ?_
      rw [ia2]
      refine V_goto mi_196_45 ?_
      refine V_sub (lv' := [(0, .ref (ad 90)), (1, .int (Int32.ofInt (q : Int))), (2, .int (Int32.ofInt ((i + 1 : Nat) : Int)))]) (fun q hq => ?_) ?_
      · simp only [List.mem_cons, List.not_mem_nil, or_false] at hq
        rcases hq with rfl | rfl | rfl <;> simp [stL, lv_args, Value.category]
      · refine im_17 hq m (i + 1) w2 (by omega) G2 (fun c j hc => (upd_ne U (by omega)).trans (ho c j hc)) (fun j hj => ?_) kk
        by_cases e : j = i
        · subst e
          rw [upd_eq U, ← ho _ _ (by omega), hz]
        · exact (upd_ne U (by omega)).trans (hd j (by omega))
theorem ba_29 {w0 : va_W} {post : Option Value → va_W → Prop} {q : Nat} (hq : q < 3) : ∀ (m i : Nat) (w : va_W), i + m = 294 → GOK ad tys GG w → (∀ c j, c ≠ 91 → rd w c j = rd w0 c j) → (∀ j, j < i → rd w 91 j = rd w0 92 (294 * q + j)) → (∀ w' : va_W, GOK ad tys GG w' → (∀ c j, c ≠ 91 → rd w' c j = rd w0 c j) → (∀ j, j < 294 → rd w' 91 j = rd w0 92 (294 * q + j)) → V l D tys A 197 4 0 0 post 0 0 60 [(0, .ref (ad 90)), (1, .int (Int32.ofInt (q : Int)))] [] w') → V l D tys A 197 4 0 0 post 0 0 29 [(0, .ref (ad 90)), (1, .int (Int32.ofInt (q : Int))), (2, .int (Int32.ofInt (i : Int)))] [] w
  | 0, i, w, hm, hG, ho, hd, kk => by
    refine V_iload (v := Int32.ofInt ((i : Int))) mi_197_29 (by simp [stL, lv_args, Value.category]) ?_
    refine V_ipush mi_197_30 ?_
    refine V_cge mi_197_33 ⟨by omega, by omega⟩ ⟨by omega, by omega⟩ (fun g => ?_) (fun g => ?_)
    · refine V_sub (lv' := [(0, .ref (ad 90)), (1, .int (Int32.ofInt (q : Int)))]) (fun q hq => ?_) (kk w hG ho (fun j hj => hd j (by omega)))
      simp only [List.mem_cons, List.not_mem_nil, or_false] at hq
      rcases hq with rfl | rfl <;> simp [stL, lv_args, Value.category]
    · exact absurd g (by omega)
  | m + 1, i, w, hm, hG, ho, hd, kk => by
    obtain ⟨s91, s92, e91, e92, hsg⟩ := gw92
    obtain ⟨lo, hi, q1, q2, l0, h0⟩ := hsg q hq i (by omega)
    obtain ⟨z, hz, z0, z1⟩ := cel hG e92 (j := 294 * q + i) (by omega) q2
    refine V_iload (v := Int32.ofInt ((i : Int))) mi_197_29 (by simp [stL, lv_args, Value.category]) ?_
    refine V_ipush mi_197_30 ?_
    refine V_cge mi_197_33 ⟨by omega, by omega⟩ ⟨by omega, by omega⟩ (fun g => ?_) (fun g => ?_)
    · exact absurd g (by omega)
    · refine V_aload (v := ad 90) mi_197_36 (by simp [stL, lv_args, Value.category]) ?_
      refine V_getI mi_197_37 hG (rref gr1m (by omega) hG) ?_
      refine V_iload (v := Int32.ofInt ((i : Int))) mi_197_40 (by simp [stL, lv_args, Value.category]) ?_
      refine V_aload (v := ad 90) mi_197_41 (by simp [stL, lv_args, Value.category]) ?_
      refine V_getI mi_197_42 hG (rref gr2m (by omega) hG) ?_
      refine V_ipush mi_197_45 ?_
      refine V_iload (v := Int32.ofInt ((q : Int))) mi_197_48 (by simp [stL, lv_args, Value.category]) ?_
      refine V_ibin mi_197_49 (by omega) ?_
      rw [ib2]
      refine V_iload (v := Int32.ofInt ((i : Int))) mi_197_50 (by simp [stL, lv_args, Value.category]) ?_
      refine V_ibin mi_197_51 (by omega) ?_
      rw [ib0]
      refine V_aldX (j := 294 * q + i) mi_197_52 (by rw [show ((294) * ((q : Int))) + ((i : Int)) = ((294 * q + i : Nat) : Int) by omega]) hG e92 (by omega) (by omega) hz ?_
      refine V_astX (j := i) mi_197_53 rfl hG e91 (by omega) (by omega) q1 (by rw [Int32.toInt_ofInt_of_le (by omega) (by omega)]; omega) (by rw [Int32.toInt_ofInt_of_le (by omega) (by omega)]; omega) (fun w2 G2 U => ?_)
      refine V_iinc (v := Int32.ofInt ((i : Int))) mi_197_54 (by simp [stL, lv_args, Value.category]) ?_
      rw [ia2]
      refine V_goto mi_197_57 ?_
      refine V_sub (lv' := [(0, .ref (ad 90)), (1, .int (Int32.ofInt (q : Int))), (2, .int (Int32.ofInt ((i + 1 : Nat) : Int)))]) (fun q hq => ?_) ?_
      · simp only [List.mem_cons, List.not_mem_nil, or_false] at hq
        rcases hq with rfl | rfl | rfl <;> simp [stL, lv_args, Value.category]
      · refine ba_29 hq m (i + 1) w2 (by omega) G2 (fun c j hc => (upd_ne U (by omega)).trans (ho c j hc)) (fun j hj => ?_) kk
        by_cases e : j = i
        · subst e
          rw [upd_eq U, ← ho _ _ (by omega), hz]
        · exact (upd_ne U (by omega)).trans (hd j (by omega))
theorem imgM_n {k : Int} (kI : I32 k) (hk : ¬ (0 ≤ k ∧ k ≤ 2)) (hG : GOK ad tys GG ws) : CT l D tys A 196 4 0 0 [.ref (ad 90), .int (Int32.ofInt k)] ws (fun r w => w = ws ∧ r = some (.int (Int32.ofInt (-2)))) := by
  refine CT_of_V (by omega) (show (2 : Nat) ≤ mML 196 by decide +kernel) ?_
  refine V_iload (v := Int32.ofInt (k)) mi_196_0 (by simp [stL, lv_args, Value.category]) ?_
  refine V_i2l mi_196_1 ?_
  rw [i2lx ⟨by omega, by omega⟩]
  refine V_lpush mi_196_2 ?_
  refine V_lpush mi_196_3 ?_
  refine V_stat (As := [.long (Int64.ofInt (k)), .long (Int64.ofInt (0)), .long (Int64.ofInt (2))]) (st := []) mi_196_6 (by omega) (inM2 (m := k) (lo := 0) (hi := 2) (by omega) (by omega) (by omega) (by omega) (by omega) (by omega)) (by omega) (show 3 = mN 193 by decide +kernel) (by simp [Value.category]) ⟨Nat.le_refl _, Nat.le_refl _⟩ ?_
  rintro r w1 ⟨rfl, rfl⟩
  refine V_bne mi_196_9  (fun c => ?_) (fun c => ?_)
  · exact absurd (of_decide_eq_true c) hk
  · refine V_ipush mi_196_12 ?_
    exact V_retI mi_196_14 (fun h => absurd h (by decide +kernel)) ⟨rfl, rfl⟩
theorem imgM_ct {q : Nat} (hq : q < 3) (hG : GOK ad tys GG ws) : CT l D tys A 196 4 0 0 [.ref (ad 90), .int (Int32.ofInt (q : Int))] ws (fun r w => r = some (.int (Int32.ofInt 0)) ∧ GOK ad tys GG w ∧ (∀ c j, ¬ (c = 92 ∧ 294 * q ≤ j ∧ j < 294 * q + 294) → ¬ (c = 93 ∧ j = q) → rd w c j = rd ws c j) ∧ (∀ j, j < 294 → rd w 92 (294 * q + j) = rd ws 91 j) ∧ rd w 93 q = some (.int (Int32.ofInt 1))) := by
  refine CT_of_V (by omega) (show (2 : Nat) ≤ mML 196 by decide +kernel) ?_
  obtain ⟨s93, e93, t93⟩ := gb93b
  refine V_iload (v := Int32.ofInt ((q : Int))) mi_196_0 (by simp [stL, lv_args, Value.category]) ?_
  refine V_i2l mi_196_1 ?_
  rw [i2lx ⟨by omega, by omega⟩]
  refine V_lpush mi_196_2 ?_
  refine V_lpush mi_196_3 ?_
  refine V_stat (As := [.long (Int64.ofInt ((q : Int))), .long (Int64.ofInt (0)), .long (Int64.ofInt (2))]) (st := []) mi_196_6 (by omega) (inM2 (m := (q : Int)) (lo := 0) (hi := 2) (by omega) (by omega) (by omega) (by omega) (by omega) (by omega)) (by omega) (show 3 = mN 193 by decide +kernel) (by simp [Value.category]) ⟨Nat.le_refl _, Nat.le_refl _⟩ ?_
  rintro r w1 ⟨rfl, rfl⟩
  refine V_bne mi_196_9  (fun c => ?_) (fun c => ?_)
  · refine V_ipush mi_196_15 ?_
    refine V_istore mi_196_16 ?_
    refine V_sub (lv' := [(0, .ref (ad 90)), (1, .int (Int32.ofInt (q : Int))), (2, .int (Int32.ofInt ((0 : Nat) : Int)))]) (fun q hq => ?_) ?_
    · simp only [List.mem_cons, List.not_mem_nil, or_false] at hq
      rcases hq with rfl | rfl | rfl <;> simp [stL, lv_args, Value.category]
    refine im_17 (w0 := w1) hq 294 0 w1 (by omega) hG (fun _ _ _ => rfl) (fun j hj => by omega) (fun w2 G2 O2 D2 => ?_)
    refine V_aload (v := ad 90) mi_196_48 (by simp [stL, lv_args, Value.category]) ?_
    refine V_getI mi_196_49 G2 (rref gr3m (by omega) G2) ?_
    refine V_iload (v := Int32.ofInt ((q : Int))) mi_196_52 (by simp [stL, lv_args, Value.category]) ?_
    refine V_ipush mi_196_53 ?_
    refine V_bst1 (j := q) mi_196_54 rfl G2 e93 hq (by omega) (t93 q hq) (fun w3 G3 U3 => ?_)
    refine V_ipush mi_196_55 ?_
    exact V_retI mi_196_56 (fun h => absurd h (by decide +kernel)) ⟨rfl, G3, fun c j h1 h2 => (upd_ne U3 h2).trans (O2 c j h1), fun j hj => (upd_ne U3 (by omega)).trans (D2 j hj), upd_eq U3⟩
  · exact absurd (show 0 ≤ (q : Int) ∧ (q : Int) ≤ 2 by omega) (of_decide_eq_false c)
theorem bakM_n {k : Int} (kI : I32 k) (hk : ¬ (0 ≤ k ∧ k ≤ 2)) (hG : GOK ad tys GG ws) : CT l D tys A 197 4 0 0 [.ref (ad 90), .int (Int32.ofInt k)] ws (fun r w => w = ws ∧ r = some (.int (Int32.ofInt (-2)))) := by
  refine CT_of_V (by omega) (show (2 : Nat) ≤ mML 197 by decide +kernel) ?_
  refine V_iload (v := Int32.ofInt (k)) mi_197_0 (by simp [stL, lv_args, Value.category]) ?_
  refine V_i2l mi_197_1 ?_
  rw [i2lx ⟨by omega, by omega⟩]
  refine V_lpush mi_197_2 ?_
  refine V_lpush mi_197_3 ?_
  refine V_stat (As := [.long (Int64.ofInt (k)), .long (Int64.ofInt (0)), .long (Int64.ofInt (2))]) (st := []) mi_197_6 (by omega) (inM2 (m := k) (lo := 0) (hi := 2) (by omega) (by omega) (by omega) (by omega) (by omega) (by omega)) (by omega) (show 3 = mN 193 by decide +kernel) (by simp [Value.category]) ⟨Nat.le_refl _, Nat.le_refl _⟩ ?_
  rintro r w1 ⟨rfl, rfl⟩
  refine V_bne mi_197_9  (fun c => ?_) (fun c => ?_)
  · exact absurd (of_decide_eq_true c) hk
  · refine V_ipush mi_197_12 ?_
    exact V_retI mi_197_14 (fun h => absurd h (by decide +kernel)) ⟨rfl, rfl⟩
theorem bakM_ct {q : Nat} {b : Bool} (hq : q < 3) (hG : GOK ad tys GG ws) (hb : rd ws 93 q = some (.int (bI b))) : CT l D tys A 197 4 0 0 [.ref (ad 90), .int (Int32.ofInt (q : Int))] ws (fun r w => GOK ad tys GG w ∧ MO ws w ∧ (b = true → r = some (.int (Int32.ofInt 0)) ∧ ∀ j, j < 294 → rd w 91 j = rd ws 92 (294 * q + j)) ∧ (b = false → r = some (.int (Int32.ofInt (-6))) ∧ w = ws)) := by
  refine CT_of_V (by omega) (show (2 : Nat) ≤ mML 197 by decide +kernel) ?_
  obtain ⟨s93, e93, t93⟩ := gb93b
  refine V_iload (v := Int32.ofInt ((q : Int))) mi_197_0 (by simp [stL, lv_args, Value.category]) ?_
  refine V_i2l mi_197_1 ?_
  rw [i2lx ⟨by omega, by omega⟩]
  refine V_lpush mi_197_2 ?_
  refine V_lpush mi_197_3 ?_
  refine V_stat (As := [.long (Int64.ofInt ((q : Int))), .long (Int64.ofInt (0)), .long (Int64.ofInt (2))]) (st := []) mi_197_6 (by omega) (inM2 (m := (q : Int)) (lo := 0) (hi := 2) (by omega) (by omega) (by omega) (by omega) (by omega) (by omega)) (by omega) (show 3 = mN 193 by decide +kernel) (by simp [Value.category]) ⟨Nat.le_refl _, Nat.le_refl _⟩ ?_
  rintro r w1 ⟨rfl, rfl⟩
  refine V_bne mi_197_9  (fun c => ?_) (fun c => ?_)
  · refine V_aload (v := ad 90) mi_197_15 (by simp [stL, lv_args, Value.category]) ?_
    refine V_getI mi_197_16 hG (rref gr3m (by omega) hG) ?_
    refine V_iload (v := Int32.ofInt ((q : Int))) mi_197_19 (by simp [stL, lv_args, Value.category]) ?_
    refine V_zldR (j := q) mi_197_20 hG e93 hq (by omega) (show rd w1 93 q = some (.int (bI b)) from hb) ?_
    refine V_bne mi_197_21  (fun c2 => ?_) (fun c2 => ?_)
    · refine V_ipush mi_197_27 ?_
      refine V_istore mi_197_28 ?_
      refine V_sub (lv' := [(0, .ref (ad 90)), (1, .int (Int32.ofInt (q : Int))), (2, .int (Int32.ofInt ((0 : Nat) : Int)))]) (fun q hq => ?_) ?_
      · simp only [List.mem_cons, List.not_mem_nil, or_false] at hq
        rcases hq with rfl | rfl | rfl <;> simp [stL, lv_args, Value.category]
      refine ba_29 (w0 := w1) hq 294 0 w1 (by omega) hG (fun _ _ _ => rfl) (fun j hj => by omega) (fun w2 G2 O2 D2 => ?_)
      refine V_ipush mi_197_60 ?_
      exact V_retI mi_197_61 (fun h => absurd h (by decide +kernel)) ⟨G2, O2, fun _ => ⟨rfl, D2⟩, fun h => absurd (h.symm.trans c2) Bool.false_ne_true⟩
    · refine V_ipush mi_197_24 ?_
      exact V_retI mi_197_26 (fun h => absurd h (by decide +kernel)) ⟨hG, MO_rf, fun h => absurd (c2.symm.trans h) Bool.false_ne_true, fun _ => ⟨rfl, rfl⟩⟩
  · exact absurd (show 0 ≤ (q : Int) ∧ (q : Int) ≤ 2 by omega) (of_decide_eq_false c)
end XHD
end
