section XHA
variable {l : Launch} {D : va_G} {tys : List (ClassId × FieldType)} {A : Nat → Prop} {ad : Nat → Nat} {ws : va_W}
theorem V_zgt {k d : Nat} {post : Option Value → va_W → Prop} {pc : Nat} {lv : List (Nat × Value)} {st : List Value} {a : Int} {y z : Nat} {u : Int} (hi : mI k pc = (14, a, 4, y, z)) (b : I32 u) (kt : 0 < u → V l D tys A k d 0 0 post 0 0 y lv st ws) (kf : u ≤ 0 → V l D tys A k d 0 0 post 0 0 (pc + 3) lv st ws) : V l D tys A k d 0 0 post 0 0 pc lv (.int (Int32.ofInt u) :: st) ws := by
  have h : cdP 4 (Int32.ofInt u) 0 ↔ cdZ 4 (u - 0) := cdP_iff (b := 0) b.1 b.2 (by omega) (by omega)
  exact V_if hi (fun q => kt (by have : 0 < u - 0 := h.mp q; omega)) (fun q => kf (by by_cases e : u ≤ 0; exact e; exact absurd (h.mpr (show 0 < u - 0 by omega)) q))
theorem i2lx {e : Int} (h : I32 e) : (Int32.ofInt e).toInt64 = Int64.ofInt e := by
  rw [el_, Int32.toInt_ofInt_of_le (by have := h.1; omega) (by have := h.2; omega)]
/-- the hill that stands, on the reference's side -/
noncomputable def W91 (G : Nat → Int) (w : va_W) : Prop := ∀ j, j < 294 → rd w 91 j = some (.int (Int32.ofInt (G j)))
noncomputable def hOK (G : Nat → Int) : Prop := ∀ j, j < 294 → I32 (G j)
theorem w91_up {G : Nat → Int} {w w' : va_W} {j : Nat} {z : Int} (h : W91 G w) (U : Upd1 w w' 91 j (.int (Int32.ofInt z))) : W91 (updI G j z) w' := fun i hi => by
  by_cases e : i = j
  · subst e
    rw [upd_eq U]
    show _ = some (Value.int (Int32.ofInt (if i = i then z else G i)))
    rw [if_pos rfl]
  · rw [updI_ne e]
    exact (upd_ne U (fun q => e q.2)).trans (h i hi)
theorem g91s : ∃ s, GG[91]? = some ((1, 0, 294), s) ∧ (segAt s 0 = some (0, 0, 9) ∧ segAt s 1 = some (0, 0, 4) ∧ segAt s 2 = some (0, 0, 24) ∧ segAt s 3 = some (0, 0, 6) ∧ segAt s 4 = some (0, 0, 12) ∧ segAt s 5 = some (0, -2147483648, 2147483647)) ∧ (∀ f, f < 6 → segAt s (6 + 7 * f) = some (0, 0, 6) ∧ ∀ k, k < 6 → segAt s (7 + 7 * f + k) = some (0, 0, 8)) ∧ (∀ f, f < 6 → segAt s (48 + f) = some (0, 0, 4) ∧ segAt s (54 + f) = some (0, 0, 100) ∧ segAt s (60 + f) = some (0, 0, 63)) ∧ (∀ j, j < 36 → segAt s (66 + j) = some (0, 0, 63)) ∧ (∀ j, j < 144 → segAt s (102 + j) = some (0, -1, 3)) ∧ (∀ k, k < 12 → segAt s (246 + 4 * k) = some (0, 0, 5) ∧ segAt s (246 + 4 * k + 1) = some (0, 0, 5) ∧ segAt s (246 + 4 * k + 2) = some (0, 0, 5) ∧ segAt s (246 + 4 * k + 3) = some (0, 0, 23)) := by
  refine ⟨_, rfl, ⟨by decide +kernel, by decide +kernel, by decide +kernel, by decide +kernel, by decide +kernel, by decide +kernel⟩, fun f hf => ⟨?_, fun k hk => ?_⟩, fun f hf => ?_, fun j hj => ?_, fun j hj => ?_, fun k hk => ?_⟩
  · exact (show ∀ f : Fin 6, segAt _ (6 + 7 * f.1) = some (0, 0, 6) by decide +kernel) ⟨f, hf⟩
  · exact (show ∀ f : Fin 6, ∀ k : Fin 6, segAt _ (7 + 7 * f.1 + k.1) = some (0, 0, 8) by decide +kernel) ⟨f, hf⟩ ⟨k, hk⟩
  · exact (show ∀ f : Fin 6, segAt _ (48 + f.1) = some (0, 0, 4) ∧ segAt _ (54 + f.1) = some (0, 0, 100) ∧ segAt _ (60 + f.1) = some (0, 0, 63) by decide +kernel) ⟨f, hf⟩
  · exact (show ∀ j : Fin 36, segAt _ (66 + j.1) = some (0, 0, 63) by decide +kernel) ⟨j, hj⟩
  · exact (show ∀ j : Fin 144, segAt _ (102 + j.1) = some (0, -1, 3) by decide +kernel) ⟨j, hj⟩
  · exact (show ∀ k : Fin 12, segAt _ (246 + 4 * k.1) = some (0, 0, 5) ∧ segAt _ (246 + 4 * k.1 + 1) = some (0, 0, 5) ∧ segAt _ (246 + 4 * k.1 + 2) = some (0, 0, 5) ∧ segAt _ (246 + 4 * k.1 + 3) = some (0, 0, 23) by decide +kernel) ⟨k, hk⟩
theorem w91_bd {G : Nat → Int} {w : va_W} {segs : List SG} {j : Nat} {lo hi : Int} (hG : GOK ad tys GG w) (hW : W91 G w) (hO : hOK G) (hg : GG[91]? = some ((1, 0, 294), segs)) (hj : j < 294) (hs : segAt segs j = some (0, lo, hi)) (l0 : -2147483648 ≤ lo) (h0 : hi ≤ 2147483647) : lo ≤ G j ∧ G j ≤ hi := by
  obtain ⟨z, e, z0, z1⟩ := cel hG hg hj hs
  rw [hW j hj] at e
  simp only [Option.some.injEq, Value.int.injEq] at e
  have := ofI (hO j hj) ⟨by omega, by omega⟩ e
  omega
/-- how far what a hill holds goes -/
noncomputable abbrev HB (G : Nat → Int) : Prop :=
  (0 ≤ G 0 ∧ G 0 ≤ 9) ∧
  (0 ≤ G 1 ∧ G 1 ≤ 4) ∧
  (0 ≤ G 2 ∧ G 2 ≤ 24) ∧
  (0 ≤ G 3 ∧ G 3 ≤ 6) ∧
  (0 ≤ G 4 ∧ G 4 ≤ 12) ∧
  (I32 (G 5)) ∧
  (∀ f, f < 6 → 0 ≤ G (6 + 7 * f) ∧ G (6 + 7 * f) ≤ 6) ∧
  (∀ f, f < 6 → ∀ k, k < 6 → 0 ≤ G (7 + 7 * f + k) ∧ G (7 + 7 * f + k) ≤ 8) ∧
  (∀ f, f < 6 → 0 ≤ G (48 + f) ∧ G (48 + f) ≤ 4) ∧
  (∀ f, f < 6 → 0 ≤ G (54 + f) ∧ G (54 + f) ≤ 100) ∧
  (∀ f, f < 6 → 0 ≤ G (60 + f) ∧ G (60 + f) ≤ 63) ∧
  (∀ j, j < 36 → 0 ≤ G (66 + j) ∧ G (66 + j) ≤ 63) ∧
  (∀ j, j < 144 → -1 ≤ G (102 + j) ∧ G (102 + j) ≤ 3) ∧
  (∀ k, k < 12 → (0 ≤ G (246 + 4 * k) ∧ G (246 + 4 * k) ≤ 5) ∧ (0 ≤ G (246 + 4 * k + 1) ∧ G (246 + 4 * k + 1) ≤ 5) ∧ (0 ≤ G (246 + 4 * k + 2) ∧ G (246 + 4 * k + 2) ≤ 5) ∧ (0 ≤ G (246 + 4 * k + 3) ∧ G (246 + 4 * k + 3) ≤ 23))
theorem HB.b0 {G : Nat → Int} (h : HB G) : 0 ≤ G 0 ∧ G 0 ≤ 9 := h.1
theorem HB.b1 {G : Nat → Int} (h : HB G) : 0 ≤ G 1 ∧ G 1 ≤ 4 := h.2.1
theorem HB.b2 {G : Nat → Int} (h : HB G) : 0 ≤ G 2 ∧ G 2 ≤ 24 := h.2.2.1
theorem HB.b3 {G : Nat → Int} (h : HB G) : 0 ≤ G 3 ∧ G 3 ≤ 6 := h.2.2.2.1
theorem HB.b4 {G : Nat → Int} (h : HB G) : 0 ≤ G 4 ∧ G 4 ≤ 12 := h.2.2.2.2.1
theorem HB.b5 {G : Nat → Int} (h : HB G) : I32 (G 5) := h.2.2.2.2.2.1
theorem HB.bl {G : Nat → Int} (h : HB G) : ∀ f, f < 6 → 0 ≤ G (6 + 7 * f) ∧ G (6 + 7 * f) ≤ 6 := h.2.2.2.2.2.2.1
theorem HB.bn {G : Nat → Int} (h : HB G) : ∀ f, f < 6 → ∀ k, k < 6 → 0 ≤ G (7 + 7 * f + k) ∧ G (7 + 7 * f + k) ≤ 8 := h.2.2.2.2.2.2.2.1
theorem HB.bs {G : Nat → Int} (h : HB G) : ∀ f, f < 6 → 0 ≤ G (48 + f) ∧ G (48 + f) ≤ 4 := h.2.2.2.2.2.2.2.2.1
theorem HB.bd {G : Nat → Int} (h : HB G) : ∀ f, f < 6 → 0 ≤ G (54 + f) ∧ G (54 + f) ≤ 100 := h.2.2.2.2.2.2.2.2.2.1
theorem HB.bf {G : Nat → Int} (h : HB G) : ∀ f, f < 6 → 0 ≤ G (60 + f) ∧ G (60 + f) ≤ 63 := h.2.2.2.2.2.2.2.2.2.2.1
theorem HB.bt {G : Nat → Int} (h : HB G) : ∀ j, j < 36 → 0 ≤ G (66 + j) ∧ G (66 + j) ≤ 63 := h.2.2.2.2.2.2.2.2.2.2.2.1
theorem HB.bp {G : Nat → Int} (h : HB G) : ∀ j, j < 144 → -1 ≤ G (102 + j) ∧ G (102 + j) ≤ 3 := h.2.2.2.2.2.2.2.2.2.2.2.2.1
theorem HB.by_ {G : Nat → Int} (h : HB G) : ∀ k, k < 12 → (0 ≤ G (246 + 4 * k) ∧ G (246 + 4 * k) ≤ 5) ∧ (0 ≤ G (246 + 4 * k + 1) ∧ G (246 + 4 * k + 1) ≤ 5) ∧ (0 ≤ G (246 + 4 * k + 2) ∧ G (246 + 4 * k + 2) ≤ 5) ∧ (0 ≤ G (246 + 4 * k + 3) ∧ G (246 + 4 * k + 3) ≤ 23) := h.2.2.2.2.2.2.2.2.2.2.2.2.2
theorem hb_of {G : Nat → Int} {w : va_W} (hG : GOK ad tys GG w) (hW : W91 G w) (hO : hOK G) : HB G := by
  obtain ⟨s, e, ⟨s0, s1, s2, s3, s4, s5⟩, sn, sd, st, sp, sy⟩ := g91s
  exact ⟨w91_bd hG hW hO e (by omega) s0 (by omega) (by omega), w91_bd hG hW hO e (by omega) s1 (by omega) (by omega), w91_bd hG hW hO e (by omega) s2 (by omega) (by omega), w91_bd hG hW hO e (by omega) s3 (by omega) (by omega), w91_bd hG hW hO e (by omega) s4 (by omega) (by omega), hO 5 (by omega), fun f hf => w91_bd hG hW hO e (by omega) (sn f hf).1 (by omega) (by omega), fun f hf k hk => w91_bd hG hW hO e (by omega) ((sn f hf).2 k hk) (by omega) (by omega), fun f hf => w91_bd hG hW hO e (by omega) (sd f hf).1 (by omega) (by omega), fun f hf => w91_bd hG hW hO e (by omega) (sd f hf).2.1 (by omega) (by omega), fun f hf => w91_bd hG hW hO e (by omega) (sd f hf).2.2 (by omega) (by omega), fun j hj => w91_bd hG hW hO e (by omega) (st j hj) (by omega) (by omega), fun j hj => w91_bd hG hW hO e (by omega) (sp j hj) (by omega) (by omega), fun k hk => ⟨w91_bd hG hW hO e (by omega) (sy k hk).1 (by omega) (by omega), w91_bd hG hW hO e (by omega) (sy k hk).2.1 (by omega) (by omega), w91_bd hG hW hO e (by omega) (sy k hk).2.2.1 (by omega) (by omega), w91_bd hG hW hO e (by omega) (sy k hk).2.2.2 (by omega) (by omega)⟩⟩
theorem hfk_ct {G : Nat → Int} (hG : GOK ad tys GG ws) (hX : HX 4 G ws) (hB : HB G) {f : Int} (fI : I32 f) : CT l D tys A 102 0 0 0 [.ref (ad 4), .int (Int32.ofInt (f))] ws (fun r w => w = ws ∧ r = some (.int (bI (decide (0 ≤ f ∧ f < G 3))))) := by
  obtain ⟨b0, b1⟩ := hB.b3
  refine CT_of_V (by omega) (show (2 : Nat) ≤ mML 102 by decide +kernel) ?_
  refine V_iload (v := Int32.ofInt (f)) mi_102_0 (by simp [stL, lv_args, Value.category]) ?_
  refine V_zlt mi_102_1 fI (fun q => ?_) (fun q => ?_)
  · refine V_ipush mi_102_16 ?_
    exact V_retI mi_102_17 (fun _ => by decide) ⟨rfl, by rw [show decide (0 ≤ f ∧ f < G 3) = false from decide_eq_false (by omega)]; rfl⟩
  · refine V_iload (v := Int32.ofInt (f)) mi_102_4 (by simp [stL, lv_args, Value.category]) ?_
    refine V_aload (v := ad 4) mi_102_5 (by simp [stL, lv_args, Value.category]) ?_
    refine V_gO mi_102_6 g4o hG (show rd ws 4 4 = some (.int (Int32.ofInt (G 3))) from hx0 hX (i := 4) (by omega)) ?_
    refine V_cge mi_102_9 fI ⟨by omega, by omega⟩ (fun q2 => ?_) (fun q2 => ?_)
    · refine V_ipush mi_102_16 ?_
      exact V_retI mi_102_17 (fun _ => by decide) ⟨rfl, by rw [show decide (0 ≤ f ∧ f < G 3) = false from decide_eq_false (by omega)]; rfl⟩
    · refine V_ipush mi_102_12 ?_
      refine V_goto mi_102_13 ?_
      exact V_retI mi_102_17 (fun _ => by decide) ⟨rfl, by rw [show decide (0 ≤ f ∧ f < G 3) = true from decide_eq_true (by omega)]; rfl⟩
theorem hho_ct {G : Nat → Int} (hG : GOK ad tys GG ws) (hX : HX 4 G ws) (hB : HB G) {f : Int} (fI : I32 f) : CT l D tys A 103 0 0 0 [.ref (ad 4), .int (Int32.ofInt (f))] ws (fun r w => w = ws ∧ r = some (.int (bI (decide (0 ≤ f ∧ f < G 2))))) := by
  obtain ⟨b0, b1⟩ := hB.b2
  refine CT_of_V (by omega) (show (2 : Nat) ≤ mML 103 by decide +kernel) ?_
  refine V_iload (v := Int32.ofInt (f)) mi_103_0 (by simp [stL, lv_args, Value.category]) ?_
  refine V_zlt mi_103_1 fI (fun q => ?_) (fun q => ?_)
  · refine V_ipush mi_103_16 ?_
    exact V_retI mi_103_17 (fun _ => by decide) ⟨rfl, by rw [show decide (0 ≤ f ∧ f < G 2) = false from decide_eq_false (by omega)]; rfl⟩
  · refine V_iload (v := Int32.ofInt (f)) mi_103_4 (by simp [stL, lv_args, Value.category]) ?_
    refine V_aload (v := ad 4) mi_103_5 (by simp [stL, lv_args, Value.category]) ?_
    refine V_gO mi_103_6 g4o hG (show rd ws 4 3 = some (.int (Int32.ofInt (G 2))) from hx0 hX (i := 3) (by omega)) ?_
    refine V_cge mi_103_9 fI ⟨by omega, by omega⟩ (fun q2 => ?_) (fun q2 => ?_)
    · refine V_ipush mi_103_16 ?_
      exact V_retI mi_103_17 (fun _ => by decide) ⟨rfl, by rw [show decide (0 ≤ f ∧ f < G 2) = false from decide_eq_false (by omega)]; rfl⟩
    · refine V_ipush mi_103_12 ?_
      refine V_goto mi_103_13 ?_
      exact V_retI mi_103_17 (fun _ => by decide) ⟨rfl, by rw [show decide (0 ≤ f ∧ f < G 2) = true from decide_eq_true (by omega)]; rfl⟩
theorem hsa_ct {G : Nat → Int} (hG : GOK ad tys GG ws) (hX : HX 4 G ws) (hB : HB G) {f : Int} (fI : I32 f) : CT l D tys A 104 0 0 0 [.ref (ad 4), .int (Int32.ofInt (f))] ws (fun r w => w = ws ∧ r = some (.int (bI (decide (0 ≤ f ∧ f < G 4))))) := by
  obtain ⟨b0, b1⟩ := hB.b4
  refine CT_of_V (by omega) (show (2 : Nat) ≤ mML 104 by decide +kernel) ?_
  refine V_iload (v := Int32.ofInt (f)) mi_104_0 (by simp [stL, lv_args, Value.category]) ?_
  refine V_zlt mi_104_1 fI (fun q => ?_) (fun q => ?_)
  · refine V_ipush mi_104_16 ?_
    exact V_retI mi_104_17 (fun _ => by decide) ⟨rfl, by rw [show decide (0 ≤ f ∧ f < G 4) = false from decide_eq_false (by omega)]; rfl⟩
  · refine V_iload (v := Int32.ofInt (f)) mi_104_4 (by simp [stL, lv_args, Value.category]) ?_
    refine V_aload (v := ad 4) mi_104_5 (by simp [stL, lv_args, Value.category]) ?_
    refine V_gO mi_104_6 g4o hG (show rd ws 4 5 = some (.int (Int32.ofInt (G 4))) from hx0 hX (i := 5) (by omega)) ?_
    refine V_cge mi_104_9 fI ⟨by omega, by omega⟩ (fun q2 => ?_) (fun q2 => ?_)
    · refine V_ipush mi_104_16 ?_
      exact V_retI mi_104_17 (fun _ => by decide) ⟨rfl, by rw [show decide (0 ≤ f ∧ f < G 4) = false from decide_eq_false (by omega)]; rfl⟩
    · refine V_ipush mi_104_12 ?_
      refine V_goto mi_104_13 ?_
      exact V_retI mi_104_17 (fun _ => by decide) ⟨rfl, by rw [show decide (0 ≤ f ∧ f < G 4) = true from decide_eq_true (by omega)]; rfl⟩
theorem hth_ct {G : Nat → Int} (hG : GOK ad tys GG ws) (hX : HX 4 G ws) (hB : HB G) : CT l D tys A 101 0 0 0 [.ref (ad 4)] ws (fun r w => w = ws ∧ r = some (.int (bI (decide (0 < G 5))))) := by
  refine CT_of_V (by omega) (show (1 : Nat) ≤ mML 101 by decide +kernel) ?_
  refine V_aload (v := ad 4) mi_101_0 (by simp [stL, lv_args, Value.category]) ?_
  refine V_gO mi_101_1 g4o hG (show rd ws 4 0 = some (.int (Int32.ofInt (G 5))) from hx0 hX (i := 0) (by omega)) ?_
  refine V_zle mi_101_4 hB.b5 (fun q => ?_) (fun q => ?_)
  · refine V_ipush mi_101_11 ?_
    exact V_retI mi_101_12 (fun _ => by decide) ⟨rfl, by rw [show decide (0 < G 5) = false from decide_eq_false (by omega)]; rfl⟩
  · refine V_ipush mi_101_7 ?_
    refine V_goto mi_101_8 ?_
    exact V_retI mi_101_12 (fun _ => by decide) ⟨rfl, by rw [show decide (0 < G 5) = true from decide_eq_true (by omega)]; rfl⟩
theorem hle_ct {G : Nat → Int} (hG : GOK ad tys GG ws) (hX : HX 4 G ws) (hB : HB G) {f : Nat} (hf : f < 6) : CT l D tys A 106 0 0 0 [.ref (ad 4), .int (Int32.ofInt ((f : Int)))] ws (fun r w => w = ws ∧ r = some (.int (Int32.ofInt (G (6 + 7 * f))))) := by
  refine CT_of_V (by omega) (show (2 : Nat) ≤ mML 106 by decide +kernel) ?_
  obtain ⟨s5, e5, f5⟩ := a5
  have bl := hB.bl f hf
  refine V_iload (v := Int32.ofInt ((f : Int))) mi_106_0 (by simp [stL, lv_args, Value.category]) ?_
  refine V_zlt mi_106_1 ⟨by omega, by omega⟩ (fun q => ?_) (fun q => ?_)
  · exact absurd q (by omega)
  · refine V_iload (v := Int32.ofInt ((f : Int))) mi_106_4 (by simp [stL, lv_args, Value.category]) ?_
    refine V_aload (v := ad 4) mi_106_5 (by simp [stL, lv_args, Value.category]) ?_
    refine V_gR mi_106_6 g4r6 (by omega) hG ?_
    refine V_lenA mi_106_9 hG e5 ?_
    refine V_cge mi_106_10 ⟨by omega, by omega⟩ ⟨by omega, by omega⟩ (fun q2 => ?_) (fun q2 => ?_)
    · exact absurd q2 (by omega)
    · refine V_aload (v := ad 4) mi_106_13 (by simp [stL, lv_args, Value.category]) ?_
      refine V_gR mi_106_14 g4r6 (by omega) hG ?_
      refine V_iload (v := Int32.ofInt ((f : Int))) mi_106_17 (by simp [stL, lv_args, Value.category]) ?_
      have hx : rd ws 5 f = some (.int (Int32.ofInt (G (6 + 7 * f)))) := HX_HY hX 1 (by omega) f hf
      refine V_aldX (j := f) mi_106_18 rfl hG e5 hf (by omega) hx ?_
      refine V_goto mi_106_19 ?_
      exact V_retI mi_106_23 (fun h => absurd h (by decide +kernel)) ⟨rfl, rfl⟩
theorem hsy_ct {G : Nat → Int} (hG : GOK ad tys GG ws) (hX : HX 4 G ws) (hB : HB G) {o i : Int} (oI : I32 o) (iI : I32 i) : CT l D tys A 105 1 0 0 [.ref (ad 4), .int (Int32.ofInt (o)), .int (Int32.ofInt (i))] ws (fun r w => w = ws ∧ r = some (.int (bI (decide ((0 ≤ o ∧ o < G 3) ∧ 0 ≤ i ∧ i < G (6 + 7 * o.toNat)))))) := by
  refine CT_of_V (by omega) (show (3 : Nat) ≤ mML 105 by decide +kernel) ?_
  refine V_aload (v := ad 4) mi_105_0 (by simp [stL, lv_args, Value.category]) ?_
  refine V_iload (v := Int32.ofInt (o)) mi_105_1 (by simp [stL, lv_args, Value.category]) ?_
  refine V_cO (As := [.int (Int32.ofInt (o))]) (st := []) mi_105_2 (by omega) (by decide +kernel) (by decide +kernel) (by omega) g4o hG (hfk_ct hG hX hB oI) (by omega) (show 1 = mN 102 by decide +kernel) (by simp [Value.category]) ?_
  rintro r w1 ⟨rfl, rfl⟩
  refine V_beq mi_105_5  (fun c1 => ?_) (fun c1 => ?_)
  · refine V_ipush mi_105_25 ?_
    exact V_retI mi_105_26 (fun _ => by decide) ⟨rfl, by rw [show decide ((0 ≤ o ∧ o < G 3) ∧ 0 ≤ i ∧ i < G (6 + 7 * o.toNat)) = false from decide_eq_false (fun h => of_decide_eq_false c1 h.1)]; rfl⟩
  · have c2 := of_decide_eq_true c1
    obtain ⟨b0, b1⟩ := hB.b3
    obtain ⟨m, rfl⟩ := Int.eq_ofNat_of_zero_le c2.1
    have bl := hB.bl m (by omega)
    rw [Int.toNat_natCast]
    refine V_iload (v := Int32.ofInt (i)) mi_105_8 (by simp [stL, lv_args, Value.category]) ?_
    refine V_zlt mi_105_9 iI (fun q2 => ?_) (fun q2 => ?_)
    · refine V_ipush mi_105_25 ?_
      exact V_retI mi_105_26 (fun _ => by decide) ⟨rfl, by rw [show decide ((0 ≤ (m : Int) ∧ (m : Int) < G 3) ∧ 0 ≤ i ∧ i < G (6 + 7 * m)) = false from decide_eq_false (by omega)]; rfl⟩
    · refine V_iload (v := Int32.ofInt (i)) mi_105_12 (by simp [stL, lv_args, Value.category]) ?_
      refine V_aload (v := ad 4) mi_105_13 (by simp [stL, lv_args, Value.category]) ?_
      refine V_iload (v := Int32.ofInt ((m : Int))) mi_105_14 (by simp [stL, lv_args, Value.category]) ?_
      refine V_cO (As := [.int (Int32.ofInt ((m : Int)))]) (st := [.int (Int32.ofInt (i))]) mi_105_15 (by omega) (by decide +kernel) (by decide +kernel) (by omega) g4o hG (hle_ct (f := m) hG hX hB (by omega)) (by omega) (show 1 = mN 106 by decide +kernel) (by simp [Value.category]) ?_
      rintro r w2 ⟨rfl, rfl⟩
      refine V_cge mi_105_18 iI ⟨by omega, by omega⟩ (fun q3 => ?_) (fun q3 => ?_)
      · refine V_ipush mi_105_25 ?_
        exact V_retI mi_105_26 (fun _ => by decide) ⟨rfl, by rw [show decide ((0 ≤ (m : Int) ∧ (m : Int) < G 3) ∧ 0 ≤ i ∧ i < G (6 + 7 * m)) = false from decide_eq_false (by omega)]; rfl⟩
      · refine V_ipush mi_105_21 ?_
        refine V_goto mi_105_22 ?_
        exact V_retI mi_105_26 (fun _ => by decide) ⟨rfl, by rw [show decide ((0 ≤ (m : Int) ∧ (m : Int) < G 3) ∧ 0 ≤ i ∧ i < G (6 + 7 * m)) = true from decide_eq_true (by omega)]; rfl⟩
theorem hsl_ct {G : Nat → Int} (hG : GOK ad tys GG ws) (hX : HX 4 G ws) (hB : HB G) {o i : Nat} (ho : o < 6) (hi : (i : Int) < G (6 + 7 * o)) : CT l D tys A 107 1 0 0 [.ref (ad 4), .int (Int32.ofInt ((o : Int))), .int (Int32.ofInt ((i : Int)))] ws (fun r w => w = ws ∧ r = some (.int (Int32.ofInt (G (7 + 7 * o + i))))) := by
  refine CT_of_V (by omega) (show (3 : Nat) ≤ mML 107 by decide +kernel) ?_
  obtain ⟨s6, e6, f6⟩ := a6
  have bl := hB.bl o ho
  refine V_iload (v := Int32.ofInt ((i : Int))) mi_107_0 (by simp [stL, lv_args, Value.category]) ?_
  refine V_zlt mi_107_1 ⟨by omega, by omega⟩ (fun q => ?_) (fun q => ?_)
  · exact absurd q (by omega)
  · refine V_iload (v := Int32.ofInt ((i : Int))) mi_107_4 (by simp [stL, lv_args, Value.category]) ?_
    refine V_aload (v := ad 4) mi_107_5 (by simp [stL, lv_args, Value.category]) ?_
    refine V_iload (v := Int32.ofInt ((o : Int))) mi_107_6 (by simp [stL, lv_args, Value.category]) ?_
    refine V_cO (As := [.int (Int32.ofInt ((o : Int)))]) (st := [.int (Int32.ofInt ((i : Int)))]) mi_107_7 (by omega) (by decide +kernel) (by decide +kernel) (by omega) g4o hG (hle_ct (f := o) hG hX hB ho) (by omega) (show 1 = mN 106 by decide +kernel) (by simp [Value.category]) ?_
    rintro r w2 ⟨rfl, rfl⟩
    refine V_cge mi_107_10 ⟨by omega, by omega⟩ ⟨by omega, by omega⟩ (fun q2 => ?_) (fun q2 => ?_)
    · exact absurd q2 (by omega)
    · refine V_aload (v := ad 4) mi_107_13 (by simp [stL, lv_args, Value.category]) ?_
      refine V_gR mi_107_14 g4r7 (by omega) hG ?_
      refine V_iload (v := Int32.ofInt ((o : Int))) mi_107_17 (by simp [stL, lv_args, Value.category]) ?_
      refine V_ipush mi_107_18 ?_
      refine V_ibin mi_107_20 (by omega) ?_
      rw [ib2]
      refine V_iload (v := Int32.ofInt ((i : Int))) mi_107_21 (by simp [stL, lv_args, Value.category]) ?_
      refine V_ibin mi_107_22 (by omega) ?_
      rw [ib0]
      have hx : rd w2 6 (6 * o + i) = some (.int (Int32.ofInt (G (7 + 7 * o + i)))) := by
        have h := HX_HY hX 2 (by omega) (6 * o + i) (show 6 * o + i < 36 by omega)
        have e : hxJ 2 (6 * o + i) = 7 + 7 * o + i := by
          unfold hxJ
          rw [if_neg (by omega), if_neg (by omega), if_pos rfl]
          omega
        rw [e] at h
        exact h
      rw [show (o : Int) * 6 + (i : Int) = ((6 * o + i : Nat) : Int) by omega]
      refine V_stat (As := [.ref (ad 6), .int (Int32.ofInt (((6 * o + i : Nat) : Int)))]) (st := []) mi_107_23 (by omega) (at_ct (j := 6 * o + i) hG e6 (by omega) (by omega) hx) (by omega) (show 2 = mN 147 by decide +kernel) (by simp [Value.category]) ⟨Nat.le_refl _, Nat.le_refl _⟩ ?_
      rintro r w3 ⟨rfl, rfl⟩
      refine V_goto mi_107_26 ?_
      exact V_retI mi_107_30 (fun h => absurd h (by decide +kernel)) ⟨rfl, rfl⟩
theorem hpl_ct {G : Nat → Int} (hG : GOK ad tys GG ws) (hX : HX 4 G ws) (hB : HB G) {f h : Nat} (hf : (f : Int) < G 3) (hh : (h : Int) < G 2) : CT l D tys A 110 1 0 0 [.ref (ad 4), .int (Int32.ofInt ((f : Int))), .int (Int32.ofInt ((h : Int)))] ws (fun r w => w = ws ∧ r = some (.int (Int32.ofInt (G (102 + (24 * f + h)))))) := by
  refine CT_of_V (by omega) (show (3 : Nat) ≤ mML 110 by decide +kernel) ?_
  obtain ⟨s10, e10, f10⟩ := a10
  have b3 := hB.b3
  have b2 := hB.b2
  refine V_aload (v := ad 4) mi_110_0 (by simp [stL, lv_args, Value.category]) ?_
  refine V_iload (v := Int32.ofInt ((f : Int))) mi_110_1 (by simp [stL, lv_args, Value.category]) ?_
  refine V_cO (As := [.int (Int32.ofInt ((f : Int)))]) (st := []) mi_110_2 (by omega) (by decide +kernel) (by decide +kernel) (by omega) g4o hG (hfk_ct hG hX hB (f := (f : Int)) ⟨by omega, by omega⟩) (by omega) (show 1 = mN 102 by decide +kernel) (by simp [Value.category]) ?_
  rintro r w1 ⟨rfl, rfl⟩
  refine V_beq mi_110_5  (fun c1 => ?_) (fun c1 => ?_)
  · exact absurd (show 0 ≤ (f : Int) ∧ (f : Int) < G 3 by omega) (of_decide_eq_false c1)
  · refine V_aload (v := ad 4) mi_110_8 (by simp [stL, lv_args, Value.category]) ?_
    refine V_iload (v := Int32.ofInt ((h : Int))) mi_110_9 (by simp [stL, lv_args, Value.category]) ?_
    refine V_cO (As := [.int (Int32.ofInt ((h : Int)))]) (st := []) mi_110_10 (by omega) (by decide +kernel) (by decide +kernel) (by omega) g4o hG (hho_ct hG hX hB (f := (h : Int)) ⟨by omega, by omega⟩) (by omega) (show 1 = mN 103 by decide +kernel) (by simp [Value.category]) ?_
    rintro r w2 ⟨rfl, rfl⟩
    refine V_beq mi_110_13  (fun c2 => ?_) (fun c2 => ?_)
    · exact absurd (show 0 ≤ (h : Int) ∧ (h : Int) < G 2 by omega) (of_decide_eq_false c2)
    · refine V_aload (v := ad 4) mi_110_16 (by simp [stL, lv_args, Value.category]) ?_
      refine V_gR mi_110_17 g4r11 (by omega) hG ?_
      refine V_iload (v := Int32.ofInt ((f : Int))) mi_110_20 (by simp [stL, lv_args, Value.category]) ?_
      refine V_ipush mi_110_21 ?_
      refine V_ibin mi_110_23 (by omega) ?_
      rw [ib2]
      refine V_iload (v := Int32.ofInt ((h : Int))) mi_110_24 (by simp [stL, lv_args, Value.category]) ?_
      refine V_ibin mi_110_25 (by omega) ?_
      rw [ib0]
      have hx : rd w2 10 (24 * f + h) = some (.int (Int32.ofInt (G (102 + (24 * f + h))))) := HX_HY hX 6 (by omega) (24 * f + h) (show 24 * f + h < 144 by omega)
      rw [show (f : Int) * 24 + (h : Int) = ((24 * f + h : Nat) : Int) by omega]
      refine V_stat (As := [.ref (ad 10), .int (Int32.ofInt (((24 * f + h : Nat) : Int)))]) (st := []) mi_110_26 (by omega) (at_ct (j := 24 * f + h) hG e10 (by omega) (by omega) hx) (by omega) (show 2 = mN 147 by decide +kernel) (by simp [Value.category]) ⟨Nat.le_refl _, Nat.le_refl _⟩ ?_
      rintro r w3 ⟨rfl, rfl⟩
      refine V_goto mi_110_29 ?_
      exact V_retI mi_110_33 (fun h => absurd h (by decide +kernel)) ⟨rfl, rfl⟩
theorem x2_ct {G : Nat → Int} (hG : GOK ad tys GG ws) (hX : HX 4 G ws) (hB : HB G) {f o : Int} (fI : I32 f) (oI : I32 o) : CT l D tys A 74 1 0 0 [.ref (ad 0), .int (Int32.ofInt (f)), .int (Int32.ofInt (o))] ws (fun r w => w = ws ∧ r = some (.int (bI (decide ((0 ≤ f ∧ f < G 3) ∧ (0 ≤ o ∧ o < G 3) ∧ f ≠ o))))) := by
  refine CT_of_V (by omega) (show (3 : Nat) ≤ mML 74 by decide +kernel) ?_
  refine V_aload (v := ad 0) mi_74_0 (by simp [stL, lv_args, Value.category]) ?_
  refine V_gR mi_74_1 g0r2 (by omega) hG ?_
  refine V_iload (v := Int32.ofInt (f)) mi_74_4 (by simp [stL, lv_args, Value.category]) ?_
  refine V_cO (As := [.int (Int32.ofInt (f))]) (st := []) mi_74_5 (by omega) (by decide +kernel) (by decide +kernel) (by omega) g4o hG (hfk_ct hG hX hB fI) (by omega) (show 1 = mN 102 by decide +kernel) (by simp [Value.category]) ?_
  rintro r w1 ⟨rfl, rfl⟩
  refine V_beq mi_74_8  (fun c1 => ?_) (fun c1 => ?_)
  · refine V_ipush mi_74_31 ?_
    exact V_retI mi_74_32 (fun _ => by decide) ⟨rfl, by rw [show decide ((0 ≤ f ∧ f < G 3) ∧ (0 ≤ o ∧ o < G 3) ∧ f ≠ o) = false from decide_eq_false (fun h => of_decide_eq_false c1 h.1)]; rfl⟩
  · refine V_aload (v := ad 0) mi_74_11 (by simp [stL, lv_args, Value.category]) ?_
    refine V_gR mi_74_12 g0r2 (by omega) hG ?_
    refine V_iload (v := Int32.ofInt (o)) mi_74_15 (by simp [stL, lv_args, Value.category]) ?_
    refine V_cO (As := [.int (Int32.ofInt (o))]) (st := []) mi_74_16 (by omega) (by decide +kernel) (by decide +kernel) (by omega) g4o hG (hfk_ct hG hX hB oI) (by omega) (show 1 = mN 102 by decide +kernel) (by simp [Value.category]) ?_
    rintro r w2 ⟨rfl, rfl⟩
    refine V_beq mi_74_19  (fun c2 => ?_) (fun c2 => ?_)
    · refine V_ipush mi_74_31 ?_
      exact V_retI mi_74_32 (fun _ => by decide) ⟨rfl, by rw [show decide ((0 ≤ f ∧ f < G 3) ∧ (0 ≤ o ∧ o < G 3) ∧ f ≠ o) = false from decide_eq_false (fun h => of_decide_eq_false c2 h.2.1)]; rfl⟩
    · refine V_iload (v := Int32.ofInt (f)) mi_74_22 (by simp [stL, lv_args, Value.category]) ?_
      refine V_iload (v := Int32.ofInt (o)) mi_74_23 (by simp [stL, lv_args, Value.category]) ?_
      refine V_ceq mi_74_24 fI oI (fun q3 => ?_) (fun q3 => ?_)
      · refine V_ipush mi_74_31 ?_
        exact V_retI mi_74_32 (fun _ => by decide) ⟨rfl, by rw [show decide ((0 ≤ f ∧ f < G 3) ∧ (0 ≤ o ∧ o < G 3) ∧ f ≠ o) = false from decide_eq_false (fun h => h.2.2 q3)]; rfl⟩
      · refine V_ipush mi_74_27 ?_
        refine V_goto mi_74_28 ?_
        exact V_retI mi_74_32 (fun _ => by decide) ⟨rfl, by rw [show decide ((0 ≤ f ∧ f < G 3) ∧ (0 ≤ o ∧ o < G 3) ∧ f ≠ o) = true from decide_eq_true ⟨of_decide_eq_true c1, of_decide_eq_true c2, q3⟩]; rfl⟩
theorem mfk_ct {G : Nat → Int} (hG : GOK ad tys GG ws) (hW : W91 G ws) (hB : HB G) {f : Int} (fI : I32 f) : CT l D tys A 199 1 0 0 [.ref (ad 90), .int (Int32.ofInt (f))] ws (fun r w => w = ws ∧ r = some (.int (bI (decide (0 ≤ f ∧ f < G 3))))) := by
  obtain ⟨s91, e91, -⟩ := g91s
  obtain ⟨b0, b1⟩ := hB.b3
  refine CT_of_V (by omega) (show (2 : Nat) ≤ mML 199 by decide +kernel) ?_
  refine V_iload (v := Int32.ofInt (f)) mi_199_0 (by simp [stL, lv_args, Value.category]) ?_
  refine V_i2l mi_199_1 ?_
  rw [i2lx ⟨by omega, by omega⟩]
  refine V_lpush mi_199_2 ?_
  refine V_aload (v := ad 90) mi_199_3 (by simp [stL, lv_args, Value.category]) ?_
  refine V_getI mi_199_4 hG (rref gr1m (by omega) hG) ?_
  refine V_ipush mi_199_7 ?_
  refine V_aldX (j := 3) mi_199_8 rfl hG e91 (by omega) (by omega) (hW _ (by omega)) ?_
  refine V_ipush mi_199_9 ?_
  refine V_ibin mi_199_10 (by omega) ?_
  rw [ib1]
  refine V_i2l mi_199_11 ?_
  rw [i2lx ⟨by omega, by omega⟩]
  refine V_stat (As := [.long (Int64.ofInt (f)), .long (Int64.ofInt (0)), .long (Int64.ofInt ((G 3) - (1)))]) (st := []) mi_199_12 (by omega) (inM2 (m := f) (lo := 0) (hi := G 3 - 1) (by omega) (by omega) (by omega) (by omega) (by omega) (by omega)) (by omega) (show 3 = mN 193 by decide +kernel) (by simp [Value.category]) ⟨Nat.le_refl _, Nat.le_refl _⟩ ?_
  rintro r w1 ⟨rfl, rfl⟩
  refine V_retI mi_199_15 (fun _ => bI1) ⟨rfl, ?_⟩
  rw [show decide (0 ≤ f ∧ f ≤ G 3 - 1) = decide (0 ≤ f ∧ f < G 3) from decide_eq_decide.mpr (by omega)]
theorem mho_ct {G : Nat → Int} (hG : GOK ad tys GG ws) (hW : W91 G ws) (hB : HB G) {f : Int} (fI : I32 f) : CT l D tys A 201 1 0 0 [.ref (ad 90), .int (Int32.ofInt (f))] ws (fun r w => w = ws ∧ r = some (.int (bI (decide (0 ≤ f ∧ f < G 2))))) := by
  obtain ⟨s91, e91, -⟩ := g91s
  obtain ⟨b0, b1⟩ := hB.b2
  refine CT_of_V (by omega) (show (2 : Nat) ≤ mML 201 by decide +kernel) ?_
  refine V_iload (v := Int32.ofInt (f)) mi_201_0 (by simp [stL, lv_args, Value.category]) ?_
  refine V_i2l mi_201_1 ?_
  rw [i2lx ⟨by omega, by omega⟩]
  refine V_lpush mi_201_2 ?_
  refine V_aload (v := ad 90) mi_201_3 (by simp [stL, lv_args, Value.category]) ?_
  refine V_getI mi_201_4 hG (rref gr1m (by omega) hG) ?_
  refine V_ipush mi_201_7 ?_
  refine V_aldX (j := 2) mi_201_8 rfl hG e91 (by omega) (by omega) (hW _ (by omega)) ?_
  refine V_ipush mi_201_9 ?_
  refine V_ibin mi_201_10 (by omega) ?_
  rw [ib1]
  refine V_i2l mi_201_11 ?_
  rw [i2lx ⟨by omega, by omega⟩]
  refine V_stat (As := [.long (Int64.ofInt (f)), .long (Int64.ofInt (0)), .long (Int64.ofInt ((G 2) - (1)))]) (st := []) mi_201_12 (by omega) (inM2 (m := f) (lo := 0) (hi := G 2 - 1) (by omega) (by omega) (by omega) (by omega) (by omega) (by omega)) (by omega) (show 3 = mN 193 by decide +kernel) (by simp [Value.category]) ⟨Nat.le_refl _, Nat.le_refl _⟩ ?_
  rintro r w1 ⟨rfl, rfl⟩
  refine V_retI mi_201_15 (fun _ => bI1) ⟨rfl, ?_⟩
  rw [show decide (0 ≤ f ∧ f ≤ G 2 - 1) = decide (0 ≤ f ∧ f < G 2) from decide_eq_decide.mpr (by omega)]
theorem msa_ct {G : Nat → Int} (hG : GOK ad tys GG ws) (hW : W91 G ws) (hB : HB G) {f : Int} (fI : I32 f) : CT l D tys A 202 1 0 0 [.ref (ad 90), .int (Int32.ofInt (f))] ws (fun r w => w = ws ∧ r = some (.int (bI (decide (0 ≤ f ∧ f < G 4))))) := by
  obtain ⟨s91, e91, -⟩ := g91s
  obtain ⟨b0, b1⟩ := hB.b4
  refine CT_of_V (by omega) (show (2 : Nat) ≤ mML 202 by decide +kernel) ?_
  refine V_iload (v := Int32.ofInt (f)) mi_202_0 (by simp [stL, lv_args, Value.category]) ?_
  refine V_i2l mi_202_1 ?_
  rw [i2lx ⟨by omega, by omega⟩]
  refine V_lpush mi_202_2 ?_
  refine V_aload (v := ad 90) mi_202_3 (by simp [stL, lv_args, Value.category]) ?_
  refine V_getI mi_202_4 hG (rref gr1m (by omega) hG) ?_
  refine V_ipush mi_202_7 ?_
  refine V_aldX (j := 4) mi_202_8 rfl hG e91 (by omega) (by omega) (hW _ (by omega)) ?_
  refine V_ipush mi_202_9 ?_
  refine V_ibin mi_202_10 (by omega) ?_
  rw [ib1]
  refine V_i2l mi_202_11 ?_
  rw [i2lx ⟨by omega, by omega⟩]
  refine V_stat (As := [.long (Int64.ofInt (f)), .long (Int64.ofInt (0)), .long (Int64.ofInt ((G 4) - (1)))]) (st := []) mi_202_12 (by omega) (inM2 (m := f) (lo := 0) (hi := G 4 - 1) (by omega) (by omega) (by omega) (by omega) (by omega) (by omega)) (by omega) (show 3 = mN 193 by decide +kernel) (by simp [Value.category]) ⟨Nat.le_refl _, Nat.le_refl _⟩ ?_
  rintro r w1 ⟨rfl, rfl⟩
  refine V_retI mi_202_15 (fun _ => bI1) ⟨rfl, ?_⟩
  rw [show decide (0 ≤ f ∧ f ≤ G 4 - 1) = decide (0 ≤ f ∧ f < G 4) from decide_eq_decide.mpr (by omega)]
theorem mth_ct {G : Nat → Int} (hG : GOK ad tys GG ws) (hW : W91 G ws) (hB : HB G) : CT l D tys A 198 0 0 0 [.ref (ad 90)] ws (fun r w => w = ws ∧ r = some (.int (bI (decide (0 < G 5))))) := by
  obtain ⟨s91, e91, -⟩ := g91s
  refine CT_of_V (by omega) (show (1 : Nat) ≤ mML 198 by decide +kernel) ?_
  refine V_aload (v := ad 90) mi_198_0 (by simp [stL, lv_args, Value.category]) ?_
  refine V_getI mi_198_1 hG (rref gr1m (by omega) hG) ?_
  refine V_ipush mi_198_4 ?_
  refine V_aldX (j := 5) mi_198_5 rfl hG e91 (by omega) (by omega) (hW _ (by omega)) ?_
  refine V_zle mi_198_6 hB.b5 (fun q => ?_) (fun q => ?_)
  · refine V_ipush mi_198_13 ?_
    exact V_retI mi_198_14 (fun _ => by decide) ⟨rfl, by rw [show decide (0 < G 5) = false from decide_eq_false (by omega)]; rfl⟩
  · refine V_ipush mi_198_9 ?_
    refine V_goto mi_198_10 ?_
    exact V_retI mi_198_14 (fun _ => by decide) ⟨rfl, by rw [show decide (0 < G 5) = true from decide_eq_true (by omega)]; rfl⟩
theorem mle_ct {G : Nat → Int} (hG : GOK ad tys GG ws) (hW : W91 G ws) (hB : HB G) {f : Nat} (hf : f < 6) : CT l D tys A 204 0 0 0 [.ref (ad 90), .int (Int32.ofInt ((f : Int)))] ws (fun r w => w = ws ∧ r = some (.int (Int32.ofInt (G (6 + 7 * f))))) := by
  obtain ⟨s91, e91, -⟩ := g91s
  refine CT_of_V (by omega) (show (2 : Nat) ≤ mML 204 by decide +kernel) ?_
  refine V_aload (v := ad 90) mi_204_0 (by simp [stL, lv_args, Value.category]) ?_
  refine V_getI mi_204_1 hG (rref gr1m (by omega) hG) ?_
  refine V_ipush mi_204_4 ?_
  refine V_ipush mi_204_6 ?_
  refine V_iload (v := Int32.ofInt ((f : Int))) mi_204_8 (by simp [stL, lv_args, Value.category]) ?_
  refine V_ibin mi_204_9 (by omega) ?_
  rw [ib2]
  refine V_ibin mi_204_10 (by omega) ?_
  rw [ib0]
  refine V_aldX (j := 6 + 7 * f) mi_204_11 (by rw [show (6) + ((7) * ((f : Int))) = ((6 + 7 * f : Nat) : Int) by omega]) hG e91 (by omega) (by omega) (hW _ (by omega)) ?_
  exact V_retI mi_204_12 (fun h => absurd h (by decide +kernel)) ⟨rfl, rfl⟩
theorem msl_ct {G : Nat → Int} (hG : GOK ad tys GG ws) (hW : W91 G ws) (hB : HB G) {o i : Nat} (ho : o < 6) (hi : i < 6) : CT l D tys A 205 0 0 0 [.ref (ad 90), .int (Int32.ofInt ((o : Int))), .int (Int32.ofInt ((i : Int)))] ws (fun r w => w = ws ∧ r = some (.int (Int32.ofInt (G (7 + 7 * o + i))))) := by
  obtain ⟨s91, e91, -⟩ := g91s
  refine CT_of_V (by omega) (show (3 : Nat) ≤ mML 205 by decide +kernel) ?_
  refine V_aload (v := ad 90) mi_205_0 (by simp [stL, lv_args, Value.category]) ?_
  refine V_getI mi_205_1 hG (rref gr1m (by omega) hG) ?_
  refine V_ipush mi_205_4 ?_
  refine V_ipush mi_205_6 ?_
  refine V_iload (v := Int32.ofInt ((o : Int))) mi_205_8 (by simp [stL, lv_args, Value.category]) ?_
  refine V_ibin mi_205_9 (by omega) ?_
  rw [ib2]
  refine V_ibin mi_205_10 (by omega) ?_
  rw [ib0]
  refine V_ipush mi_205_11 ?_
  refine V_ibin mi_205_12 (by omega) ?_
  rw [ib0]
  refine V_iload (v := Int32.ofInt ((i : Int))) mi_205_13 (by simp [stL, lv_args, Value.category]) ?_
  refine V_ibin mi_205_14 (by omega) ?_
  rw [ib0]
  refine V_aldX (j := 7 + 7 * o + i) mi_205_15 (by rw [show (((6) + ((7) * ((o : Int)))) + (1)) + ((i : Int)) = ((7 + 7 * o + i : Nat) : Int) by omega]) hG e91 (by omega) (by omega) (hW _ (by omega)) ?_
  exact V_retI mi_205_16 (fun h => absurd h (by decide +kernel)) ⟨rfl, rfl⟩
theorem mpl_ct {G : Nat → Int} (hG : GOK ad tys GG ws) (hW : W91 G ws) (hB : HB G) {f h : Nat} (hf : f < 6) (hh : h < 24) : CT l D tys A 207 0 0 0 [.ref (ad 90), .int (Int32.ofInt ((f : Int))), .int (Int32.ofInt ((h : Int)))] ws (fun r w => w = ws ∧ r = some (.int (Int32.ofInt (G (102 + (24 * f + h)))))) := by
  obtain ⟨s91, e91, -⟩ := g91s
  refine CT_of_V (by omega) (show (3 : Nat) ≤ mML 207 by decide +kernel) ?_
  refine V_aload (v := ad 90) mi_207_0 (by simp [stL, lv_args, Value.category]) ?_
  refine V_getI mi_207_1 hG (rref gr1m (by omega) hG) ?_
  refine V_ipush mi_207_4 ?_
  refine V_ipush mi_207_6 ?_
  refine V_iload (v := Int32.ofInt ((f : Int))) mi_207_8 (by simp [stL, lv_args, Value.category]) ?_
  refine V_ibin mi_207_9 (by omega) ?_
  rw [ib2]
  refine V_ibin mi_207_10 (by omega) ?_
  rw [ib0]
  refine V_iload (v := Int32.ofInt ((h : Int))) mi_207_11 (by simp [stL, lv_args, Value.category]) ?_
  refine V_ibin mi_207_12 (by omega) ?_
  rw [ib0]
  refine V_aldX (j := 102 + (24 * f + h)) mi_207_13 (by rw [show ((102) + ((24) * ((f : Int)))) + ((h : Int)) = ((102 + (24 * f + h) : Nat) : Int) by omega]) hG e91 (by omega) (by omega) (hW _ (by omega)) ?_
  exact V_retI mi_207_14 (fun h => absurd h (by decide +kernel)) ⟨rfl, rfl⟩
theorem mos_ct {G : Nat → Int} (hG : GOK ad tys GG ws) (hW : W91 G ws) (hB : HB G) {k a : Nat} (hk : k < 12) (ha : a < 4) : CT l D tys A 208 0 0 0 [.ref (ad 90), .int (Int32.ofInt ((k : Int))), .int (Int32.ofInt ((a : Int)))] ws (fun r w => w = ws ∧ r = some (.int (Int32.ofInt (G (246 + 4 * k + a))))) := by
  obtain ⟨s91, e91, -⟩ := g91s
  refine CT_of_V (by omega) (show (3 : Nat) ≤ mML 208 by decide +kernel) ?_
  refine V_aload (v := ad 90) mi_208_0 (by simp [stL, lv_args, Value.category]) ?_
  refine V_getI mi_208_1 hG (rref gr1m (by omega) hG) ?_
  refine V_ipush mi_208_4 ?_
  refine V_ipush mi_208_7 ?_
  refine V_iload (v := Int32.ofInt ((k : Int))) mi_208_8 (by simp [stL, lv_args, Value.category]) ?_
  refine V_ibin mi_208_9 (by omega) ?_
  rw [ib2]
  refine V_ibin mi_208_10 (by omega) ?_
  rw [ib0]
  refine V_iload (v := Int32.ofInt ((a : Int))) mi_208_11 (by simp [stL, lv_args, Value.category]) ?_
  refine V_ibin mi_208_12 (by omega) ?_
  rw [ib0]
  refine V_aldX (j := 246 + 4 * k + a) mi_208_13 (by rw [show ((246) + ((4) * ((k : Int)))) + ((a : Int)) = ((246 + 4 * k + a : Nat) : Int) by omega]) hG e91 (by omega) (by omega) (hW _ (by omega)) ?_
  exact V_retI mi_208_14 (fun h => absurd h (by decide +kernel)) ⟨rfl, rfl⟩
theorem m2_ct {G : Nat → Int} (hG : GOK ad tys GG ws) (hW : W91 G ws) (hB : HB G) {f o : Int} (fI : I32 f) (oI : I32 o) : CT l D tys A 200 2 0 0 [.ref (ad 90), .int (Int32.ofInt (f)), .int (Int32.ofInt (o))] ws (fun r w => w = ws ∧ r = some (.int (bI (decide ((0 ≤ f ∧ f < G 3) ∧ (0 ≤ o ∧ o < G 3) ∧ f ≠ o))))) := by
  refine CT_of_V (by omega) (show (3 : Nat) ≤ mML 200 by decide +kernel) ?_
  refine V_aload (v := ad 90) mi_200_0 (by simp [stL, lv_args, Value.category]) ?_
  refine V_iload (v := Int32.ofInt (f)) mi_200_1 (by simp [stL, lv_args, Value.category]) ?_
  refine V_callM (As := [.int (Int32.ofInt (f))]) (st := []) mi_200_2 (by omega) (by decide +kernel) (by decide +kernel) hG (mfk_ct hG hW hB fI) (by omega) (show 1 = mN 199 by decide +kernel) (by simp [Value.category]) ?_
  rintro r w1 ⟨rfl, rfl⟩
  refine V_beq mi_200_5  (fun c1 => ?_) (fun c1 => ?_)
  · refine V_ipush mi_200_25 ?_
    exact V_retI mi_200_26 (fun _ => by decide) ⟨rfl, by rw [show decide ((0 ≤ f ∧ f < G 3) ∧ (0 ≤ o ∧ o < G 3) ∧ f ≠ o) = false from decide_eq_false (fun h => of_decide_eq_false c1 h.1)]; rfl⟩
  · refine V_aload (v := ad 90) mi_200_8 (by simp [stL, lv_args, Value.category]) ?_
    refine V_iload (v := Int32.ofInt (o)) mi_200_9 (by simp [stL, lv_args, Value.category]) ?_
    refine V_callM (As := [.int (Int32.ofInt (o))]) (st := []) mi_200_10 (by omega) (by decide +kernel) (by decide +kernel) hG (mfk_ct hG hW hB oI) (by omega) (show 1 = mN 199 by decide +kernel) (by simp [Value.category]) ?_
    rintro r w2 ⟨rfl, rfl⟩
    refine V_beq mi_200_13  (fun c2 => ?_) (fun c2 => ?_)
    · refine V_ipush mi_200_25 ?_
      exact V_retI mi_200_26 (fun _ => by decide) ⟨rfl, by rw [show decide ((0 ≤ f ∧ f < G 3) ∧ (0 ≤ o ∧ o < G 3) ∧ f ≠ o) = false from decide_eq_false (fun h => of_decide_eq_false c2 h.2.1)]; rfl⟩
    · refine V_iload (v := Int32.ofInt (f)) mi_200_16 (by simp [stL, lv_args, Value.category]) ?_
      refine V_iload (v := Int32.ofInt (o)) mi_200_17 (by simp [stL, lv_args, Value.category]) ?_
      refine V_ceq mi_200_18 fI oI (fun q3 => ?_) (fun q3 => ?_)
      · refine V_ipush mi_200_25 ?_
        exact V_retI mi_200_26 (fun _ => by decide) ⟨rfl, by rw [show decide ((0 ≤ f ∧ f < G 3) ∧ (0 ≤ o ∧ o < G 3) ∧ f ≠ o) = false from decide_eq_false (fun h => h.2.2 q3)]; rfl⟩
      · refine V_ipush mi_200_21 ?_
        refine V_goto mi_200_22 ?_
        exact V_retI mi_200_26 (fun _ => by decide) ⟨rfl, by rw [show decide ((0 ≤ f ∧ f < G 3) ∧ (0 ≤ o ∧ o < G 3) ∧ f ≠ o) = true from decide_eq_true ⟨of_decide_eq_true c1, of_decide_eq_true c2, q3⟩]; rfl⟩
end XHA
section XHB
variable {l : Launch} {D : va_G} {tys : List (ClassId × FieldType)} {A : Nat → Prop} {ad : Nat → Nat} {ws : va_W}
noncomputable def nameV (G : Nat → Int) (f i : Int) : Int := if 0 ≤ f ∧ f < G 3 then (if 0 ≤ i ∧ i < G (6 + 7 * f.toNat) then G (7 + 7 * f.toNat + i.toNat) else -1) else -2
theorem nmX_ct {G : Nat → Int} (hG : GOK ad tys GG ws) (hX : HX 4 G ws) (hB : HB G) {f i : Int} (fI : I32 f) (iI : I32 i) : CT l D tys A 5 2 0 0 [.ref (ad 0), .int (Int32.ofInt (f)), .int (Int32.ofInt (i))] ws (fun r w => w = ws ∧ r = some (.int (Int32.ofInt (nameV G f i)))) := by
  refine CT_of_V (by omega) (show (3 : Nat) ≤ mML 5 by decide +kernel) ?_
  refine V_aload (v := ad 0) mi_5_0 (by simp [stL, lv_args, Value.category]) ?_
  refine V_gR mi_5_1 g0r2 (by omega) hG ?_
  refine V_iload (v := Int32.ofInt (f)) mi_5_4 (by simp [stL, lv_args, Value.category]) ?_
  refine V_cO (As := [.int (Int32.ofInt (f))]) (st := []) mi_5_5 (by omega) (by decide +kernel) (by decide +kernel) (by omega) g4o hG (hfk_ct hG hX hB fI) (by omega) (show 1 = mN 102 by decide +kernel) (by simp [Value.category]) ?_
  rintro r w1 ⟨rfl, rfl⟩
  refine V_bne mi_5_8  (fun c1 => ?_) (fun c1 => ?_)
  · have c2 := of_decide_eq_true c1
    obtain ⟨b0, b1⟩ := hB.b3
    obtain ⟨m, rfl⟩ := Int.eq_ofNat_of_zero_le c2.1
    refine V_aload (v := ad 0) mi_5_14 (by simp [stL, lv_args, Value.category]) ?_
    refine V_gR mi_5_15 g0r2 (by omega) hG ?_
    refine V_iload (v := Int32.ofInt ((m : Int))) mi_5_18 (by simp [stL, lv_args, Value.category]) ?_
    refine V_iload (v := Int32.ofInt (i)) mi_5_19 (by simp [stL, lv_args, Value.category]) ?_
    refine V_cO (As := [.int (Int32.ofInt ((m : Int))), .int (Int32.ofInt (i))]) (st := []) mi_5_20 (by omega) (by decide +kernel) (by decide +kernel) (by omega) g4o hG (hsy_ct hG hX hB fI iI) (by omega) (show 2 = mN 105 by decide +kernel) (by simp [Value.category]) ?_
    rintro r w2 ⟨rfl, rfl⟩
    refine V_beq mi_5_23  (fun c3 => ?_) (fun c3 => ?_)
    · refine V_ipush mi_5_38 ?_
      have c4 := of_decide_eq_false c3
      rw [Int.toNat_natCast] at c4
      refine V_retI mi_5_39 (fun h => absurd h (by decide +kernel)) ⟨rfl, ?_⟩
      unfold nameV
      rw [Int.toNat_natCast, if_pos c2, if_neg (fun h => c4 ⟨c2, h⟩)]
    · have c4 := of_decide_eq_true c3
      rw [Int.toNat_natCast] at c4
      have c5 := c4.2
      obtain ⟨j, rfl⟩ := Int.eq_ofNat_of_zero_le c5.1
      refine V_aload (v := ad 0) mi_5_26 (by simp [stL, lv_args, Value.category]) ?_
      refine V_gR mi_5_27 g0r2 (by omega) hG ?_
      refine V_iload (v := Int32.ofInt ((m : Int))) mi_5_30 (by simp [stL, lv_args, Value.category]) ?_
      refine V_iload (v := Int32.ofInt ((j : Int))) mi_5_31 (by simp [stL, lv_args, Value.category]) ?_
      refine V_cO (As := [.int (Int32.ofInt ((m : Int))), .int (Int32.ofInt ((j : Int)))]) (st := []) mi_5_32 (by omega) (by decide +kernel) (by decide +kernel) (by omega) g4o hG (hsl_ct (o := m) (i := j) hG hX hB (by omega) c5.2) (by omega) (show 2 = mN 107 by decide +kernel) (by simp [Value.category]) ?_
      rintro r w3 ⟨rfl, rfl⟩
      refine V_goto mi_5_35 ?_
      refine V_retI mi_5_39 (fun h => absurd h (by decide +kernel)) ⟨rfl, ?_⟩
      unfold nameV
      rw [Int.toNat_natCast, Int.toNat_natCast, if_pos c2, if_pos c5]
  · refine V_ipush mi_5_11 ?_
    refine V_retI mi_5_13 (fun h => absurd h (by decide +kernel)) ⟨rfl, ?_⟩
    unfold nameV
    rw [if_neg (of_decide_eq_false c1)]
theorem nmM_ct {G : Nat → Int} (hG : GOK ad tys GG ws) (hW : W91 G ws) (hB : HB G) {f i : Int} (fI : I32 f) (iI : I32 i) : CT l D tys A 243 2 0 0 [.ref (ad 90), .int (Int32.ofInt (f)), .int (Int32.ofInt (i))] ws (fun r w => w = ws ∧ r = some (.int (Int32.ofInt (nameV G f i)))) := by
  refine CT_of_V (by omega) (show (3 : Nat) ≤ mML 243 by decide +kernel) ?_
  refine V_aload (v := ad 90) mi_243_0 (by simp [stL, lv_args, Value.category]) ?_
  refine V_iload (v := Int32.ofInt (f)) mi_243_1 (by simp [stL, lv_args, Value.category]) ?_
  refine V_callM (As := [.int (Int32.ofInt (f))]) (st := []) mi_243_2 (by omega) (by decide +kernel) (by decide +kernel) hG (mfk_ct hG hW hB fI) (by omega) (show 1 = mN 199 by decide +kernel) (by simp [Value.category]) ?_
  rintro r w1 ⟨rfl, rfl⟩
  refine V_bne mi_243_5  (fun c1 => ?_) (fun c1 => ?_)
  · have c2 := of_decide_eq_true c1
    obtain ⟨b0, b1⟩ := hB.b3
    obtain ⟨m, rfl⟩ := Int.eq_ofNat_of_zero_le c2.1
    have bl := hB.bl m (by omega)
    refine V_iload (v := Int32.ofInt (i)) mi_243_13 (by simp [stL, lv_args, Value.category]) ?_
    refine V_i2l mi_243_14 ?_
    rw [i2lx ⟨by omega, by omega⟩]
    refine V_lpush mi_243_15 ?_
    refine V_aload (v := ad 90) mi_243_16 (by simp [stL, lv_args, Value.category]) ?_
    refine V_iload (v := Int32.ofInt ((m : Int))) mi_243_17 (by simp [stL, lv_args, Value.category]) ?_
    refine V_callM (As := [.int (Int32.ofInt ((m : Int)))]) (st := [.long (Int64.ofInt (0)), .long (Int64.ofInt (i))]) mi_243_18 (by omega) (by decide +kernel) (by decide +kernel) hG (mle_ct (f := m) hG hW hB (by omega)) (by omega) (show 1 = mN 204 by decide +kernel) (by simp [Value.category]) ?_
    rintro r w2 ⟨rfl, rfl⟩
    refine V_ipush mi_243_21 ?_
    refine V_ibin mi_243_22 (by omega) ?_
    rw [ib1]
    refine V_i2l mi_243_23 ?_
    rw [i2lx ⟨by omega, by omega⟩]
    refine V_stat (As := [.long (Int64.ofInt (i)), .long (Int64.ofInt (0)), .long (Int64.ofInt ((G (6 + 7 * m)) - (1)))]) (st := []) mi_243_24 (by omega) (inM2 (m := i) (lo := 0) (hi := G (6 + 7 * m) - 1) (by omega) (by omega) (by omega) (by omega) (by omega) (by omega)) (by omega) (show 3 = mN 193 by decide +kernel) (by simp [Value.category]) ⟨Nat.le_refl _, Nat.le_refl _⟩ ?_
    rintro r w3 ⟨rfl, rfl⟩
    refine V_beq mi_243_27  (fun c3 => ?_) (fun c3 => ?_)
    · refine V_ipush mi_243_39 ?_
      have c4 := of_decide_eq_false c3
      refine V_retI mi_243_40 (fun h => absurd h (by decide +kernel)) ⟨rfl, ?_⟩
      unfold nameV
      rw [Int.toNat_natCast, if_pos c2, if_neg (by omega)]
    · have c4 := of_decide_eq_true c3
      obtain ⟨j, rfl⟩ := Int.eq_ofNat_of_zero_le c4.1
      refine V_aload (v := ad 90) mi_243_30 (by simp [stL, lv_args, Value.category]) ?_
      refine V_iload (v := Int32.ofInt ((m : Int))) mi_243_31 (by simp [stL, lv_args, Value.category]) ?_
      refine V_iload (v := Int32.ofInt ((j : Int))) mi_243_32 (by simp [stL, lv_args, Value.category]) ?_
      refine V_callM (As := [.int (Int32.ofInt ((m : Int))), .int (Int32.ofInt ((j : Int)))]) (st := []) mi_243_33 (by omega) (by decide +kernel) (by decide +kernel) hG (msl_ct (o := m) (i := j) hG hW hB (by omega) (by omega)) (by omega) (show 2 = mN 205 by decide +kernel) (by simp [Value.category]) ?_
      rintro r w4 ⟨rfl, rfl⟩
      refine V_goto mi_243_36 ?_
      refine V_retI mi_243_40 (fun h => absurd h (by decide +kernel)) ⟨rfl, ?_⟩
      unfold nameV
      rw [Int.toNat_natCast, Int.toNat_natCast, if_pos c2, if_pos (by omega)]
  · refine V_ipush mi_243_8 ?_
    refine V_goto mi_243_10 ?_
    refine V_retI mi_243_40 (fun h => absurd h (by decide +kernel)) ⟨rfl, ?_⟩
    unfold nameV
    rw [if_neg (of_decide_eq_false c1)]
noncomputable def lenV (G : Nat → Int) (f : Int) : Int := if 0 ≤ f ∧ f < G 3 then G (6 + 7 * f.toNat) else -2
theorem lnX_ct {G : Nat → Int} (hG : GOK ad tys GG ws) (hX : HX 4 G ws) (hB : HB G) {f : Int} (fI : I32 f) : CT l D tys A 6 2 0 0 [.ref (ad 0), .int (Int32.ofInt (f))] ws (fun r w => w = ws ∧ r = some (.int (Int32.ofInt (lenV G f)))) := by
  refine CT_of_V (by omega) (show (2 : Nat) ≤ mML 6 by decide +kernel) ?_
  refine V_aload (v := ad 0) mi_6_0 (by simp [stL, lv_args, Value.category]) ?_
  refine V_gR mi_6_1 g0r2 (by omega) hG ?_
  refine V_iload (v := Int32.ofInt (f)) mi_6_4 (by simp [stL, lv_args, Value.category]) ?_
  refine V_cO (As := [.int (Int32.ofInt (f))]) (st := []) mi_6_5 (by omega) (by decide +kernel) (by decide +kernel) (by omega) g4o hG (hfk_ct hG hX hB fI) (by omega) (show 1 = mN 102 by decide +kernel) (by simp [Value.category]) ?_
  rintro r w1 ⟨rfl, rfl⟩
  refine V_beq mi_6_8  (fun c1 => ?_) (fun c1 => ?_)
  · refine V_ipush mi_6_22 ?_
    refine V_retI mi_6_24 (fun h => absurd h (by decide +kernel)) ⟨rfl, ?_⟩
    unfold lenV
    rw [if_neg (of_decide_eq_false c1)]
  · have c2 := of_decide_eq_true c1
    obtain ⟨b0, b1⟩ := hB.b3
    obtain ⟨m, rfl⟩ := Int.eq_ofNat_of_zero_le c2.1
    refine V_aload (v := ad 0) mi_6_11 (by simp [stL, lv_args, Value.category]) ?_
    refine V_gR mi_6_12 g0r2 (by omega) hG ?_
    refine V_iload (v := Int32.ofInt ((m : Int))) mi_6_15 (by simp [stL, lv_args, Value.category]) ?_
    refine V_cO (As := [.int (Int32.ofInt ((m : Int)))]) (st := []) mi_6_16 (by omega) (by decide +kernel) (by decide +kernel) (by omega) g4o hG (hle_ct (f := m) hG hX hB (by omega)) (by omega) (show 1 = mN 106 by decide +kernel) (by simp [Value.category]) ?_
    rintro r w2 ⟨rfl, rfl⟩
    refine V_goto mi_6_19 ?_
    refine V_retI mi_6_24 (fun h => absurd h (by decide +kernel)) ⟨rfl, ?_⟩
    unfold lenV
    rw [Int.toNat_natCast, if_pos c2]
theorem lnM_ct {G : Nat → Int} (hG : GOK ad tys GG ws) (hW : W91 G ws) (hB : HB G) {f : Int} (fI : I32 f) : CT l D tys A 244 2 0 0 [.ref (ad 90), .int (Int32.ofInt (f))] ws (fun r w => w = ws ∧ r = some (.int (Int32.ofInt (lenV G f)))) := by
  refine CT_of_V (by omega) (show (2 : Nat) ≤ mML 244 by decide +kernel) ?_
  refine V_aload (v := ad 90) mi_244_0 (by simp [stL, lv_args, Value.category]) ?_
  refine V_iload (v := Int32.ofInt (f)) mi_244_1 (by simp [stL, lv_args, Value.category]) ?_
  refine V_callM (As := [.int (Int32.ofInt (f))]) (st := []) mi_244_2 (by omega) (by decide +kernel) (by decide +kernel) hG (mfk_ct hG hW hB fI) (by omega) (show 1 = mN 199 by decide +kernel) (by simp [Value.category]) ?_
  rintro r w1 ⟨rfl, rfl⟩
  refine V_beq mi_244_5  (fun c1 => ?_) (fun c1 => ?_)
  · refine V_ipush mi_244_16 ?_
    refine V_retI mi_244_18 (fun h => absurd h (by decide +kernel)) ⟨rfl, ?_⟩
    unfold lenV
    rw [if_neg (of_decide_eq_false c1)]
  · have c2 := of_decide_eq_true c1
    obtain ⟨b0, b1⟩ := hB.b3
    obtain ⟨m, rfl⟩ := Int.eq_ofNat_of_zero_le c2.1
    refine V_aload (v := ad 90) mi_244_8 (by simp [stL, lv_args, Value.category]) ?_
    refine V_iload (v := Int32.ofInt ((m : Int))) mi_244_9 (by simp [stL, lv_args, Value.category]) ?_
    refine V_callM (As := [.int (Int32.ofInt ((m : Int)))]) (st := []) mi_244_10 (by omega) (by decide +kernel) (by decide +kernel) hG (mle_ct (f := m) hG hW hB (by omega)) (by omega) (show 1 = mN 204 by decide +kernel) (by simp [Value.category]) ?_
    rintro r w2 ⟨rfl, rfl⟩
    refine V_goto mi_244_13 ?_
    refine V_retI mi_244_18 (fun h => absurd h (by decide +kernel)) ⟨rfl, ?_⟩
    unfold lenV
    rw [Int.toNat_natCast, if_pos c2]
noncomputable def folV (G : Nat → Int) (f a : Int) : Int := if 0 ≤ f ∧ f < G 3 then (if a = 0 then G (48 + f.toNat) else if a = 1 then G (54 + f.toNat) else if a = 2 then G (60 + f.toNat) else -2) else -2
theorem foX_ct {G : Nat → Int} (hG : GOK ad tys GG ws) (hX : HX 4 G ws) (hB : HB G) {f a : Int} (fI : I32 f) (aI : I32 a) : CT l D tys A 7 2 0 0 [.ref (ad 0), .int (Int32.ofInt (f)), .int (Int32.ofInt (a))] ws (fun r w => w = ws ∧ r = some (.int (Int32.ofInt (folV G f a)))) := by
  refine CT_of_V (by omega) (show (3 : Nat) ≤ mML 7 by decide +kernel) ?_
  refine V_aload (v := ad 0) mi_7_0 (by simp [stL, lv_args, Value.category]) ?_
  refine V_gR mi_7_1 g0r2 (by omega) hG ?_
  refine V_iload (v := Int32.ofInt (f)) mi_7_4 (by simp [stL, lv_args, Value.category]) ?_
  refine V_cO (As := [.int (Int32.ofInt (f))]) (st := []) mi_7_5 (by omega) (by decide +kernel) (by decide +kernel) (by omega) g4o hG (hfk_ct hG hX hB fI) (by omega) (show 1 = mN 102 by decide +kernel) (by simp [Value.category]) ?_
  rintro r w1 ⟨rfl, rfl⟩
  refine V_bne mi_7_8  (fun c1 => ?_) (fun c1 => ?_)
  · have c2 := of_decide_eq_true c1
    obtain ⟨b0, b1⟩ := hB.b3
    obtain ⟨m, rfl⟩ := Int.eq_ofNat_of_zero_le c2.1
    refine V_iload (v := Int32.ofInt (a)) mi_7_14 (by simp [stL, lv_args, Value.category]) ?_
    have sw : swT 7 15 (Int32.ofInt a).toInt = if a = 0 then 40 else if a = 1 then 52 else if a = 2 then 64 else 76 := by
      rw [Int32.toInt_ofInt_of_le (by have := aI.1; omega) (by have := aI.2; omega)]
      unfold swT
      rw [show mSw 7 15 = (76, 0, [40, 52, 64]) by decide +kernel]
      show (if a < 0 ∨ 0 + ((3 : Nat) : Int) ≤ a then 76 else ([40, 52, 64] : List Nat).getD (a - 0).toNat 76) = _
      by_cases e0 : a = 0
      · rw [if_neg (by omega), if_pos e0, e0]; rfl
      by_cases e1 : a = 1
      · rw [if_neg (by omega), if_neg e0, if_pos e1, e1]; rfl
      by_cases e2 : a = 2
      · rw [if_neg (by omega), if_neg e0, if_neg e1, if_pos e2, e2]; rfl
      rw [if_pos (by omega), if_neg e0, if_neg e1, if_neg e2]
    refine V_sw mi_7_15 ?_
    change V l D tys A 7 2 0 0 _ 0 0 (swT 7 15 (Int32.ofInt a).toInt) _ _ _
    rw [sw]
    by_cases e0 : a = 0
    · rw [if_pos e0]
      obtain ⟨sa, ea, fa⟩ := a7
      refine V_aload (v := ad 0) mi_7_40 (by simp [stL, lv_args, Value.category]) ?_
      refine V_gR mi_7_41 g0r2 (by omega) hG ?_
      refine V_gR mi_7_44 g4r8 (by omega) hG ?_
      refine V_iload (v := Int32.ofInt ((m : Int))) mi_7_47 (by simp [stL, lv_args, Value.category]) ?_
      refine V_stat (As := [.ref (ad 7), .int (Int32.ofInt ((m : Int)))]) (st := []) mi_7_48 (by omega) (at_ct (j := m) hG ea (by omega) (by omega) (show rd _ 7 m = some (.int (Int32.ofInt (G (48 + m)))) from HX_HY hX 3 (by omega) m (show m < 6 by omega))) (by omega) (show 2 = mN 147 by decide +kernel) (by simp [Value.category]) ⟨Nat.le_refl _, Nat.le_refl _⟩ ?_
      rintro r w3 ⟨rfl, rfl⟩
      refine V_retI mi_7_51 (fun h => absurd h (by decide +kernel)) ⟨rfl, ?_⟩
      unfold folV
      rw [Int.toNat_natCast, if_pos c2, if_pos e0]
    · rw [if_neg e0]
      by_cases e1 : a = 1
      · rw [if_pos e1]
        obtain ⟨sa, ea, fa⟩ := a8
        refine V_aload (v := ad 0) mi_7_52 (by simp [stL, lv_args, Value.category]) ?_
        refine V_gR mi_7_53 g0r2 (by omega) hG ?_
        refine V_gR mi_7_56 g4r9 (by omega) hG ?_
        refine V_iload (v := Int32.ofInt ((m : Int))) mi_7_59 (by simp [stL, lv_args, Value.category]) ?_
        refine V_stat (As := [.ref (ad 8), .int (Int32.ofInt ((m : Int)))]) (st := []) mi_7_60 (by omega) (at_ct (j := m) hG ea (by omega) (by omega) (show rd _ 8 m = some (.int (Int32.ofInt (G (54 + m)))) from HX_HY hX 4 (by omega) m (show m < 6 by omega))) (by omega) (show 2 = mN 147 by decide +kernel) (by simp [Value.category]) ⟨Nat.le_refl _, Nat.le_refl _⟩ ?_
        rintro r w3 ⟨rfl, rfl⟩
        refine V_retI mi_7_63 (fun h => absurd h (by decide +kernel)) ⟨rfl, ?_⟩
        unfold folV
        rw [Int.toNat_natCast, if_pos c2, if_neg e0, if_pos e1]
      · rw [if_neg e1]
        by_cases e2 : a = 2
        · rw [if_pos e2]
          obtain ⟨sa, ea, fa⟩ := a9
          refine V_aload (v := ad 0) mi_7_64 (by simp [stL, lv_args, Value.category]) ?_
          refine V_gR mi_7_65 g0r2 (by omega) hG ?_
          refine V_gR mi_7_68 g4r10 (by omega) hG ?_
          refine V_iload (v := Int32.ofInt ((m : Int))) mi_7_71 (by simp [stL, lv_args, Value.category]) ?_
          refine V_stat (As := [.ref (ad 9), .int (Int32.ofInt ((m : Int)))]) (st := []) mi_7_72 (by omega) (at_ct (j := m) hG ea (by omega) (by omega) (show rd _ 9 m = some (.int (Int32.ofInt (G (60 + m)))) from HX_HY hX 5 (by omega) m (show m < 6 by omega))) (by omega) (show 2 = mN 147 by decide +kernel) (by simp [Value.category]) ⟨Nat.le_refl _, Nat.le_refl _⟩ ?_
          rintro r w3 ⟨rfl, rfl⟩
          refine V_retI mi_7_75 (fun h => absurd h (by decide +kernel)) ⟨rfl, ?_⟩
          unfold folV
          rw [Int.toNat_natCast, if_pos c2, if_neg e0, if_neg e1, if_pos e2]
        · rw [if_neg e2]
          refine V_ipush mi_7_76 ?_
          refine V_retI mi_7_78 (fun h => absurd h (by decide +kernel)) ⟨rfl, ?_⟩
          unfold folV
          rw [if_pos c2, if_neg e0, if_neg e1, if_neg e2]
  · refine V_ipush mi_7_11 ?_
    refine V_retI mi_7_13 (fun h => absurd h (by decide +kernel)) ⟨rfl, ?_⟩
    unfold folV
    rw [if_neg (of_decide_eq_false c1)]
theorem foM_ct {G : Nat → Int} (hG : GOK ad tys GG ws) (hW : W91 G ws) (hB : HB G) {f a : Int} (fI : I32 f) (aI : I32 a) : CT l D tys A 245 2 0 0 [.ref (ad 90), .int (Int32.ofInt (f)), .int (Int32.ofInt (a))] ws (fun r w => w = ws ∧ r = some (.int (Int32.ofInt (folV G f a)))) := by
  obtain ⟨s91, e91, -⟩ := g91s
  refine CT_of_V (by omega) (show (3 : Nat) ≤ mML 245 by decide +kernel) ?_
  have hg := hG
  refine V_aload (v := ad 90) mi_245_0 (by simp [stL, lv_args, Value.category]) ?_
  refine V_iload (v := Int32.ofInt (f)) mi_245_1 (by simp [stL, lv_args, Value.category]) ?_
  refine V_callM (As := [.int (Int32.ofInt (f))]) (st := []) mi_245_2 (by omega) (by decide +kernel) (by decide +kernel) hG (mfk_ct hG hW hB fI) (by omega) (show 1 = mN 199 by decide +kernel) (by simp [Value.category]) ?_
  rintro r w1 ⟨rfl, rfl⟩
  refine V_beq mi_245_5  (fun c1 => ?_) (fun c1 => ?_)
  · refine V_ipush mi_245_20 ?_
    refine V_retI mi_245_22 (fun h => absurd h (by decide +kernel)) ⟨rfl, ?_⟩
    unfold folV
    rw [if_neg (of_decide_eq_false c1)]
  · have c2 := of_decide_eq_true c1
    obtain ⟨b0, b1⟩ := hB.b3
    obtain ⟨m, rfl⟩ := Int.eq_ofNat_of_zero_le c2.1
    refine V_iload (v := Int32.ofInt (a)) mi_245_8 (by simp [stL, lv_args, Value.category]) ?_
    refine V_i2l mi_245_9 ?_
    rw [i2lx ⟨by omega, by omega⟩]
    refine V_lpush mi_245_10 ?_
    refine V_lpush mi_245_11 ?_
    refine V_stat (As := [.long (Int64.ofInt (a)), .long (Int64.ofInt (0)), .long (Int64.ofInt (2))]) (st := []) mi_245_14 (by omega) (inM2 (m := a) (lo := 0) (hi := 2) (by omega) (by omega) (by omega) (by omega) (by omega) (by omega)) (by omega) (show 3 = mN 193 by decide +kernel) (by simp [Value.category]) ⟨Nat.le_refl _, Nat.le_refl _⟩ ?_
    rintro r w3 ⟨rfl, rfl⟩
    refine V_bne mi_245_17  (fun c3 => ?_) (fun c3 => ?_)
    · have c4 := of_decide_eq_true c3
      refine V_aload (v := ad 90) mi_245_23 (by simp [stL, lv_args, Value.category]) ?_
      refine V_getI mi_245_24 hG (rref gr1m (by omega) hG) ?_
      refine V_iload (v := Int32.ofInt (a)) mi_245_27 (by simp [stL, lv_args, Value.category]) ?_
      refine V_zne mi_245_28 aI (fun q => ?_) (fun q => ?_)
      · refine V_iload (v := Int32.ofInt (a)) mi_245_36 (by simp [stL, lv_args, Value.category]) ?_
        refine V_ipush mi_245_37 ?_
        refine V_cne mi_245_38 aI ⟨by omega, by omega⟩ (fun q2 => ?_) (fun q2 => ?_)
        · refine V_ipush mi_245_46 ?_
          refine V_iload (v := Int32.ofInt ((m : Int))) mi_245_48 (by simp [stL, lv_args, Value.category]) ?_
          refine V_ibin mi_245_49 (by omega) ?_
          rw [ib0]
          refine V_aldX (j := 60 + m) mi_245_50 (by rw [show (60) + ((m : Int)) = ((60 + m : Nat) : Int) by omega]) hG e91 (by omega) (by omega) (hW _ (by omega)) ?_
          refine V_retI mi_245_51 (fun h => absurd h (by decide +kernel)) ⟨rfl, ?_⟩
          unfold folV
          rw [Int.toNat_natCast, if_pos c2, if_neg q, if_neg q2, if_pos (by omega)]
        · refine V_ipush mi_245_41 ?_
          refine V_goto mi_245_43 ?_
          refine V_iload (v := Int32.ofInt ((m : Int))) mi_245_48 (by simp [stL, lv_args, Value.category]) ?_
          refine V_ibin mi_245_49 (by omega) ?_
          rw [ib0]
          refine V_aldX (j := 54 + m) mi_245_50 (by rw [show (54) + ((m : Int)) = ((54 + m : Nat) : Int) by omega]) hG e91 (by omega) (by omega) (hW _ (by omega)) ?_
          refine V_retI mi_245_51 (fun h => absurd h (by decide +kernel)) ⟨rfl, ?_⟩
          unfold folV
          rw [Int.toNat_natCast, if_pos c2, if_neg q, if_pos q2]
      · refine V_ipush mi_245_31 ?_
        refine V_goto mi_245_33 ?_
        refine V_iload (v := Int32.ofInt ((m : Int))) mi_245_48 (by simp [stL, lv_args, Value.category]) ?_
        refine V_ibin mi_245_49 (by omega) ?_
        rw [ib0]
        refine V_aldX (j := 48 + m) mi_245_50 (by rw [show (48) + ((m : Int)) = ((48 + m : Nat) : Int) by omega]) hG e91 (by omega) (by omega) (hW _ (by omega)) ?_
        refine V_retI mi_245_51 (fun h => absurd h (by decide +kernel)) ⟨rfl, ?_⟩
        unfold folV
        rw [Int.toNat_natCast, if_pos c2, if_pos q]
    · refine V_ipush mi_245_20 ?_
      have c4 := of_decide_eq_false c3
      refine V_retI mi_245_22 (fun h => absurd h (by decide +kernel)) ⟨rfl, ?_⟩
      unfold folV
      rw [if_pos c2, if_neg (by omega), if_neg (by omega), if_neg (by omega)]
noncomputable def plaV (G : Nat → Int) (f h : Int) : Int := if (0 ≤ f ∧ f < G 3) ∧ 0 ≤ h ∧ h < G 2 then G (102 + (24 * f.toNat + h.toNat)) else -2
theorem plX_ct {G : Nat → Int} (hG : GOK ad tys GG ws) (hX : HX 4 G ws) (hB : HB G) {f h : Int} (fI : I32 f) (hI : I32 h) : CT l D tys A 8 3 0 0 [.ref (ad 0), .int (Int32.ofInt (f)), .int (Int32.ofInt (h))] ws (fun r w => w = ws ∧ r = some (.int (Int32.ofInt (plaV G f h)))) := by
  refine CT_of_V (by omega) (show (3 : Nat) ≤ mML 8 by decide +kernel) ?_
  refine V_aload (v := ad 0) mi_8_0 (by simp [stL, lv_args, Value.category]) ?_
  refine V_gR mi_8_1 g0r2 (by omega) hG ?_
  refine V_iload (v := Int32.ofInt (f)) mi_8_4 (by simp [stL, lv_args, Value.category]) ?_
  refine V_cO (As := [.int (Int32.ofInt (f))]) (st := []) mi_8_5 (by omega) (by decide +kernel) (by decide +kernel) (by omega) g4o hG (hfk_ct hG hX hB fI) (by omega) (show 1 = mN 102 by decide +kernel) (by simp [Value.category]) ?_
  rintro r w1 ⟨rfl, rfl⟩
  refine V_beq mi_8_8  (fun c1 => ?_) (fun c1 => ?_)
  · refine V_ipush mi_8_34 ?_
    refine V_retI mi_8_36 (fun h => absurd h (by decide +kernel)) ⟨rfl, ?_⟩
    unfold plaV
    rw [if_neg (fun h => of_decide_eq_false c1 h.1)]
  · have c2 := of_decide_eq_true c1
    obtain ⟨b0, b1⟩ := hB.b3
    obtain ⟨b2, b4⟩ := hB.b2
    obtain ⟨m, rfl⟩ := Int.eq_ofNat_of_zero_le c2.1
    refine V_aload (v := ad 0) mi_8_11 (by simp [stL, lv_args, Value.category]) ?_
    refine V_gR mi_8_12 g0r2 (by omega) hG ?_
    refine V_iload (v := Int32.ofInt (h)) mi_8_15 (by simp [stL, lv_args, Value.category]) ?_
    refine V_cO (As := [.int (Int32.ofInt (h))]) (st := []) mi_8_16 (by omega) (by decide +kernel) (by decide +kernel) (by omega) g4o hG (hho_ct hG hX hB hI) (by omega) (show 1 = mN 103 by decide +kernel) (by simp [Value.category]) ?_
    rintro r w2 ⟨rfl, rfl⟩
    refine V_beq mi_8_19  (fun c3 => ?_) (fun c3 => ?_)
    · refine V_ipush mi_8_34 ?_
      refine V_retI mi_8_36 (fun h => absurd h (by decide +kernel)) ⟨rfl, ?_⟩
      unfold plaV
      rw [if_neg (fun h => of_decide_eq_false c3 h.2)]
    · have c4 := of_decide_eq_true c3
      obtain ⟨j, rfl⟩ := Int.eq_ofNat_of_zero_le c4.1
      refine V_aload (v := ad 0) mi_8_22 (by simp [stL, lv_args, Value.category]) ?_
      refine V_gR mi_8_23 g0r2 (by omega) hG ?_
      refine V_iload (v := Int32.ofInt ((m : Int))) mi_8_26 (by simp [stL, lv_args, Value.category]) ?_
      refine V_iload (v := Int32.ofInt ((j : Int))) mi_8_27 (by simp [stL, lv_args, Value.category]) ?_
      refine V_cO (As := [.int (Int32.ofInt ((m : Int))), .int (Int32.ofInt ((j : Int)))]) (st := []) mi_8_28 (by omega) (by decide +kernel) (by decide +kernel) (by omega) g4o hG (hpl_ct (f := m) (h := j) hG hX hB c2.2 c4.2) (by omega) (show 2 = mN 110 by decide +kernel) (by simp [Value.category]) ?_
      rintro r w3 ⟨rfl, rfl⟩
      refine V_goto mi_8_31 ?_
      refine V_retI mi_8_36 (fun h => absurd h (by decide +kernel)) ⟨rfl, ?_⟩
      unfold plaV
      rw [Int.toNat_natCast, Int.toNat_natCast, if_pos ⟨c2, c4⟩]
theorem plM_ct {G : Nat → Int} (hG : GOK ad tys GG ws) (hW : W91 G ws) (hB : HB G) {f h : Int} (fI : I32 f) (hI : I32 h) : CT l D tys A 246 3 0 0 [.ref (ad 90), .int (Int32.ofInt (f)), .int (Int32.ofInt (h))] ws (fun r w => w = ws ∧ r = some (.int (Int32.ofInt (plaV G f h)))) := by
  refine CT_of_V (by omega) (show (3 : Nat) ≤ mML 246 by decide +kernel) ?_
  refine V_aload (v := ad 90) mi_246_0 (by simp [stL, lv_args, Value.category]) ?_
  refine V_iload (v := Int32.ofInt (f)) mi_246_1 (by simp [stL, lv_args, Value.category]) ?_
  refine V_callM (As := [.int (Int32.ofInt (f))]) (st := []) mi_246_2 (by omega) (by decide +kernel) (by decide +kernel) hG (mfk_ct hG hW hB fI) (by omega) (show 1 = mN 199 by decide +kernel) (by simp [Value.category]) ?_
  rintro r w1 ⟨rfl, rfl⟩
  refine V_beq mi_246_5  (fun c1 => ?_) (fun c1 => ?_)
  · refine V_ipush mi_246_25 ?_
    refine V_retI mi_246_27 (fun h => absurd h (by decide +kernel)) ⟨rfl, ?_⟩
    unfold plaV
    rw [if_neg (fun h => of_decide_eq_false c1 h.1)]
  · have c2 := of_decide_eq_true c1
    obtain ⟨b0, b1⟩ := hB.b3
    obtain ⟨b2, b4⟩ := hB.b2
    obtain ⟨m, rfl⟩ := Int.eq_ofNat_of_zero_le c2.1
    refine V_aload (v := ad 90) mi_246_8 (by simp [stL, lv_args, Value.category]) ?_
    refine V_iload (v := Int32.ofInt (h)) mi_246_9 (by simp [stL, lv_args, Value.category]) ?_
    refine V_callM (As := [.int (Int32.ofInt (h))]) (st := []) mi_246_10 (by omega) (by decide +kernel) (by decide +kernel) hG (mho_ct hG hW hB hI) (by omega) (show 1 = mN 201 by decide +kernel) (by simp [Value.category]) ?_
    rintro r w2 ⟨rfl, rfl⟩
    refine V_beq mi_246_13  (fun c3 => ?_) (fun c3 => ?_)
    · refine V_ipush mi_246_25 ?_
      refine V_retI mi_246_27 (fun h => absurd h (by decide +kernel)) ⟨rfl, ?_⟩
      unfold plaV
      rw [if_neg (fun h => of_decide_eq_false c3 h.2)]
    · have c4 := of_decide_eq_true c3
      obtain ⟨j, rfl⟩ := Int.eq_ofNat_of_zero_le c4.1
      refine V_aload (v := ad 90) mi_246_16 (by simp [stL, lv_args, Value.category]) ?_
      refine V_iload (v := Int32.ofInt ((m : Int))) mi_246_17 (by simp [stL, lv_args, Value.category]) ?_
      refine V_iload (v := Int32.ofInt ((j : Int))) mi_246_18 (by simp [stL, lv_args, Value.category]) ?_
      refine V_callM (As := [.int (Int32.ofInt ((m : Int))), .int (Int32.ofInt ((j : Int)))]) (st := []) mi_246_19 (by omega) (by decide +kernel) (by decide +kernel) hG (mpl_ct (f := m) (h := j) hG hW hB (by omega) (by omega)) (by omega) (show 2 = mN 207 by decide +kernel) (by simp [Value.category]) ?_
      rintro r w3 ⟨rfl, rfl⟩
      refine V_goto mi_246_22 ?_
      refine V_retI mi_246_27 (fun h => absurd h (by decide +kernel)) ⟨rfl, ?_⟩
      unfold plaV
      rw [Int.toNat_natCast, Int.toNat_natCast, if_pos ⟨c2, c4⟩]
noncomputable def sayV (G : Nat → Int) (s a : Int) : Int := if 0 ≤ s ∧ s < G 4 then (if a = 0 then G (246 + 4 * s.toNat) else if a = 1 then G (246 + 4 * s.toNat + 1) else if a = 2 then G (246 + 4 * s.toNat + 2) else if a = 3 then G (246 + 4 * s.toNat + 3) else -2) else -2
theorem syX_ct {G : Nat → Int} (hG : GOK ad tys GG ws) (hX : HX 4 G ws) (hB : HB G) {s a : Int} (sI : I32 s) (aI : I32 a) : CT l D tys A 9 2 0 0 [.ref (ad 0), .int (Int32.ofInt (s)), .int (Int32.ofInt (a))] ws (fun r w => w = ws ∧ r = some (.int (Int32.ofInt (sayV G s a)))) := by
  refine CT_of_V (by omega) (show (3 : Nat) ≤ mML 9 by decide +kernel) ?_
  refine V_aload (v := ad 0) mi_9_0 (by simp [stL, lv_args, Value.category]) ?_
  refine V_gR mi_9_1 g0r2 (by omega) hG ?_
  refine V_iload (v := Int32.ofInt (s)) mi_9_4 (by simp [stL, lv_args, Value.category]) ?_
  refine V_cO (As := [.int (Int32.ofInt (s))]) (st := []) mi_9_5 (by omega) (by decide +kernel) (by decide +kernel) (by omega) g4o hG (hsa_ct hG hX hB sI) (by omega) (show 1 = mN 104 by decide +kernel) (by simp [Value.category]) ?_
  rintro r w1 ⟨rfl, rfl⟩
  refine V_bne mi_9_8  (fun c1 => ?_) (fun c1 => ?_)
  · have c2 := of_decide_eq_true c1
    obtain ⟨b0, b1⟩ := hB.b4
    obtain ⟨m, rfl⟩ := Int.eq_ofNat_of_zero_le c2.1
    refine V_iload (v := Int32.ofInt (a)) mi_9_14 (by simp [stL, lv_args, Value.category]) ?_
    have sw : swT 9 15 (Int32.ofInt a).toInt = if a = 0 then 44 else if a = 1 then 56 else if a = 2 then 68 else if a = 3 then 80 else 92 := by
      rw [Int32.toInt_ofInt_of_le (by have := aI.1; omega) (by have := aI.2; omega)]
      unfold swT
      rw [show mSw 9 15 = (92, 0, [44, 56, 68, 80]) by decide +kernel]
      show (if a < 0 ∨ 0 + ((4 : Nat) : Int) ≤ a then 92 else ([44, 56, 68, 80] : List Nat).getD (a - 0).toNat 92) = _
      by_cases e0 : a = 0
      · rw [if_neg (by omega), if_pos e0, e0]; rfl
      by_cases e1 : a = 1
      · rw [if_neg (by omega), if_neg e0, if_pos e1, e1]; rfl
      by_cases e2 : a = 2
      · rw [if_neg (by omega), if_neg e0, if_neg e1, if_pos e2, e2]; rfl
      by_cases e3 : a = 3
      · rw [if_neg (by omega), if_neg e0, if_neg e1, if_neg e2, if_pos e3, e3]; rfl
      rw [if_pos (by omega), if_neg e0, if_neg e1, if_neg e2, if_neg e3]
    refine V_sw mi_9_15 ?_
    change V l D tys A 9 2 0 0 _ 0 0 (swT 9 15 (Int32.ofInt a).toInt) _ _ _
    rw [sw]
    by_cases e0 : a = 0
    · rw [if_pos e0]
      obtain ⟨sa, ea, fa⟩ := a12
      have hx : rd w1 12 m = some (.int (Int32.ofInt (G (246 + 4 * m)))) := by
        have h := HX_HY hX 8 (by omega) m (show m < 12 by omega)
        exact h
      refine V_aload (v := ad 0) mi_9_44 (by simp [stL, lv_args, Value.category]) ?_
      refine V_gR mi_9_45 g0r2 (by omega) hG ?_
      refine V_gR mi_9_48 g4r13 (by omega) hG ?_
      refine V_iload (v := Int32.ofInt ((m : Int))) mi_9_51 (by simp [stL, lv_args, Value.category]) ?_
      refine V_stat (As := [.ref (ad 12), .int (Int32.ofInt ((m : Int)))]) (st := []) mi_9_52 (by omega) (at_ct (j := m) hG ea (by omega) (by omega) hx) (by omega) (show 2 = mN 147 by decide +kernel) (by simp [Value.category]) ⟨Nat.le_refl _, Nat.le_refl _⟩ ?_
      rintro r w3 ⟨rfl, rfl⟩
      refine V_retI mi_9_55 (fun h => absurd h (by decide +kernel)) ⟨rfl, ?_⟩
      unfold sayV
      rw [Int.toNat_natCast, if_pos c2, if_pos e0]
    · rw [if_neg e0]
      by_cases e1 : a = 1
      · rw [if_pos e1]
        obtain ⟨sa, ea, fa⟩ := a13
        have hx : rd w1 13 m = some (.int (Int32.ofInt (G (246 + 4 * m + 1)))) := by
          have h := HX_HY hX 9 (by omega) m (show m < 12 by omega)
          exact h
        refine V_aload (v := ad 0) mi_9_56 (by simp [stL, lv_args, Value.category]) ?_
        refine V_gR mi_9_57 g0r2 (by omega) hG ?_
        refine V_gR mi_9_60 g4r14 (by omega) hG ?_
        refine V_iload (v := Int32.ofInt ((m : Int))) mi_9_63 (by simp [stL, lv_args, Value.category]) ?_
        refine V_stat (As := [.ref (ad 13), .int (Int32.ofInt ((m : Int)))]) (st := []) mi_9_64 (by omega) (at_ct (j := m) hG ea (by omega) (by omega) hx) (by omega) (show 2 = mN 147 by decide +kernel) (by simp [Value.category]) ⟨Nat.le_refl _, Nat.le_refl _⟩ ?_
        rintro r w3 ⟨rfl, rfl⟩
        refine V_retI mi_9_67 (fun h => absurd h (by decide +kernel)) ⟨rfl, ?_⟩
        unfold sayV
        rw [Int.toNat_natCast, if_pos c2, if_neg e0, if_pos e1]
      · rw [if_neg e1]
        by_cases e2 : a = 2
        · rw [if_pos e2]
          obtain ⟨sa, ea, fa⟩ := a14
          have hx : rd w1 14 m = some (.int (Int32.ofInt (G (246 + 4 * m + 2)))) := by
            have h := HX_HY hX 10 (by omega) m (show m < 12 by omega)
            exact h
          refine V_aload (v := ad 0) mi_9_68 (by simp [stL, lv_args, Value.category]) ?_
          refine V_gR mi_9_69 g0r2 (by omega) hG ?_
          refine V_gR mi_9_72 g4r15 (by omega) hG ?_
          refine V_iload (v := Int32.ofInt ((m : Int))) mi_9_75 (by simp [stL, lv_args, Value.category]) ?_
          refine V_stat (As := [.ref (ad 14), .int (Int32.ofInt ((m : Int)))]) (st := []) mi_9_76 (by omega) (at_ct (j := m) hG ea (by omega) (by omega) hx) (by omega) (show 2 = mN 147 by decide +kernel) (by simp [Value.category]) ⟨Nat.le_refl _, Nat.le_refl _⟩ ?_
          rintro r w3 ⟨rfl, rfl⟩
          refine V_retI mi_9_79 (fun h => absurd h (by decide +kernel)) ⟨rfl, ?_⟩
          unfold sayV
          rw [Int.toNat_natCast, if_pos c2, if_neg e0, if_neg e1, if_pos e2]
        · rw [if_neg e2]
          by_cases e3 : a = 3
          · rw [if_pos e3]
            obtain ⟨sa, ea, fa⟩ := a15
            have hx : rd w1 15 m = some (.int (Int32.ofInt (G (246 + 4 * m + 3)))) := by
              have h := HX_HY hX 11 (by omega) m (show m < 12 by omega)
              exact h
            refine V_aload (v := ad 0) mi_9_80 (by simp [stL, lv_args, Value.category]) ?_
            refine V_gR mi_9_81 g0r2 (by omega) hG ?_
            refine V_gR mi_9_84 g4r16 (by omega) hG ?_
            refine V_iload (v := Int32.ofInt ((m : Int))) mi_9_87 (by simp [stL, lv_args, Value.category]) ?_
            refine V_stat (As := [.ref (ad 15), .int (Int32.ofInt ((m : Int)))]) (st := []) mi_9_88 (by omega) (at_ct (j := m) hG ea (by omega) (by omega) hx) (by omega) (show 2 = mN 147 by decide +kernel) (by simp [Value.category]) ⟨Nat.le_refl _, Nat.le_refl _⟩ ?_
            rintro r w3 ⟨rfl, rfl⟩
            refine V_retI mi_9_91 (fun h => absurd h (by decide +kernel)) ⟨rfl, ?_⟩
            unfold sayV
            rw [Int.toNat_natCast, if_pos c2, if_neg e0, if_neg e1, if_neg e2, if_pos e3]
          · rw [if_neg e3]
            refine V_ipush mi_9_92 ?_
            refine V_retI mi_9_94 (fun h => absurd h (by decide +kernel)) ⟨rfl, ?_⟩
            unfold sayV
            rw [if_pos c2, if_neg e0, if_neg e1, if_neg e2, if_neg e3]
  · refine V_ipush mi_9_11 ?_
    refine V_retI mi_9_13 (fun h => absurd h (by decide +kernel)) ⟨rfl, ?_⟩
    unfold sayV
    rw [if_neg (of_decide_eq_false c1)]
theorem syM_ct {G : Nat → Int} (hG : GOK ad tys GG ws) (hW : W91 G ws) (hB : HB G) {s a : Int} (sI : I32 s) (aI : I32 a) : CT l D tys A 247 2 0 0 [.ref (ad 90), .int (Int32.ofInt (s)), .int (Int32.ofInt (a))] ws (fun r w => w = ws ∧ r = some (.int (Int32.ofInt (sayV G s a)))) := by
  refine CT_of_V (by omega) (show (3 : Nat) ≤ mML 247 by decide +kernel) ?_
  refine V_aload (v := ad 90) mi_247_0 (by simp [stL, lv_args, Value.category]) ?_
  refine V_iload (v := Int32.ofInt (s)) mi_247_1 (by simp [stL, lv_args, Value.category]) ?_
  refine V_callM (As := [.int (Int32.ofInt (s))]) (st := []) mi_247_2 (by omega) (by decide +kernel) (by decide +kernel) hG (msa_ct hG hW hB sI) (by omega) (show 1 = mN 202 by decide +kernel) (by simp [Value.category]) ?_
  rintro r w1 ⟨rfl, rfl⟩
  refine V_beq mi_247_5  (fun c1 => ?_) (fun c1 => ?_)
  · refine V_ipush mi_247_29 ?_
    refine V_retI mi_247_31 (fun h => absurd h (by decide +kernel)) ⟨rfl, ?_⟩
    unfold sayV
    rw [if_neg (of_decide_eq_false c1)]
  · have c2 := of_decide_eq_true c1
    obtain ⟨b0, b1⟩ := hB.b4
    obtain ⟨m, rfl⟩ := Int.eq_ofNat_of_zero_le c2.1
    refine V_iload (v := Int32.ofInt (a)) mi_247_8 (by simp [stL, lv_args, Value.category]) ?_
    refine V_i2l mi_247_9 ?_
    rw [i2lx ⟨by omega, by omega⟩]
    refine V_lpush mi_247_10 ?_
    refine V_lpush mi_247_11 ?_
    refine V_stat (As := [.long (Int64.ofInt (a)), .long (Int64.ofInt (0)), .long (Int64.ofInt (3))]) (st := []) mi_247_14 (by omega) (inM2 (m := a) (lo := 0) (hi := 3) (by omega) (by omega) (by omega) (by omega) (by omega) (by omega)) (by omega) (show 3 = mN 193 by decide +kernel) (by simp [Value.category]) ⟨Nat.le_refl _, Nat.le_refl _⟩ ?_
    rintro r w3 ⟨rfl, rfl⟩
    refine V_beq mi_247_17  (fun c3 => ?_) (fun c3 => ?_)
    · refine V_ipush mi_247_29 ?_
      have c4 := of_decide_eq_false c3
      refine V_retI mi_247_31 (fun h => absurd h (by decide +kernel)) ⟨rfl, ?_⟩
      unfold sayV
      rw [if_pos c2, if_neg (by omega), if_neg (by omega), if_neg (by omega), if_neg (by omega)]
    · have c4 := of_decide_eq_true c3
      obtain ⟨j, rfl⟩ := Int.eq_ofNat_of_zero_le c4.1
      refine V_aload (v := ad 90) mi_247_20 (by simp [stL, lv_args, Value.category]) ?_
      refine V_iload (v := Int32.ofInt ((m : Int))) mi_247_21 (by simp [stL, lv_args, Value.category]) ?_
      refine V_iload (v := Int32.ofInt ((j : Int))) mi_247_22 (by simp [stL, lv_args, Value.category]) ?_
      refine V_callM (As := [.int (Int32.ofInt ((m : Int))), .int (Int32.ofInt ((j : Int)))]) (st := []) mi_247_23 (by omega) (by decide +kernel) (by decide +kernel) hG (mos_ct (k := m) (a := j) hG hW hB (by omega) (by omega)) (by omega) (show 2 = mN 208 by decide +kernel) (by simp [Value.category]) ?_
      rintro r w4 ⟨rfl, rfl⟩
      refine V_goto mi_247_26 ?_
      refine V_retI mi_247_31 (fun h => absurd h (by decide +kernel)) ⟨rfl, ?_⟩
      unfold sayV
      rw [Int.toNat_natCast, if_pos c2]
      rcases (show j = 0 ∨ j = 1 ∨ j = 2 ∨ j = 3 by omega) with rfl | rfl | rfl | rfl
      · rw [if_pos (by omega)]
        rfl
      · rw [if_neg (by omega), if_pos (by omega)]
      · rw [if_neg (by omega), if_neg (by omega), if_pos (by omega)]
      · rw [if_neg (by omega), if_neg (by omega), if_neg (by omega), if_pos (by omega)]
end XHB
