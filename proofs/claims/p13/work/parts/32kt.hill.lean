section XSH
/-- the class has told so far -/
noncomputable abbrev TX (ad : Nat → Nat) (tys : List (ClassId × FieldType)) (G : Nat → Int) (T : TT) (w0 w : va_W) : Prop :=
  (GOK ad tys GG w) ∧
  (XKN G T.K w) ∧
  (rd w 32 3 = some (.int T.sd)) ∧
  (∀ i, i < 12 → rd w 34 i = some (.int (Int32.ofInt (T.hb i)))) ∧
  (∀ i, i < 12 → rd w 35 i = some (.int (Int32.ofInt (T.lb i)))) ∧
  (∀ c j, ¬ (c = 31 ∨ c = 34 ∨ c = 35) → ¬ (c = 32 ∧ j = 3) → rd w c j = rd w0 c j) ∧
  (kOK T.K)
theorem TX.g {ad : Nat → Nat} {tys : List (ClassId × FieldType)} {G : Nat → Int} {T : TT} {w0 w : va_W} (h : TX ad tys G T w0 w) : GOK ad tys GG w := h.1
theorem TX.k {ad : Nat → Nat} {tys : List (ClassId × FieldType)} {G : Nat → Int} {T : TT} {w0 w : va_W} (h : TX ad tys G T w0 w) : XKN G T.K w := h.2.1
theorem TX.s {ad : Nat → Nat} {tys : List (ClassId × FieldType)} {G : Nat → Int} {T : TT} {w0 w : va_W} (h : TX ad tys G T w0 w) : rd w 32 3 = some (.int T.sd) := h.2.2.1
theorem TX.h {ad : Nat → Nat} {tys : List (ClassId × FieldType)} {G : Nat → Int} {T : TT} {w0 w : va_W} (h : TX ad tys G T w0 w) : ∀ i, i < 12 → rd w 34 i = some (.int (Int32.ofInt (T.hb i))) := h.2.2.2.1
theorem TX.lr {ad : Nat → Nat} {tys : List (ClassId × FieldType)} {G : Nat → Int} {T : TT} {w0 w : va_W} (h : TX ad tys G T w0 w) : ∀ i, i < 12 → rd w 35 i = some (.int (Int32.ofInt (T.lb i))) := h.2.2.2.2.1
theorem TX.o {ad : Nat → Nat} {tys : List (ClassId × FieldType)} {G : Nat → Int} {T : TT} {w0 w : va_W} (h : TX ad tys G T w0 w) : ∀ c j, ¬ (c = 31 ∨ c = 34 ∨ c = 35) → ¬ (c = 32 ∧ j = 3) → rd w c j = rd w0 c j := h.2.2.2.2.2.1
theorem TX.b {ad : Nat → Nat} {tys : List (ClassId × FieldType)} {G : Nat → Int} {T : TT} {w0 w : va_W} (h : TX ad tys G T w0 w) : kOK T.K := h.2.2.2.2.2.2
variable {l : Launch} {D : va_G} {tys : List (ClassId × FieldType)} {A : Nat → Prop} {ad : Nat → Nat} {ws : va_W}
theorem g0r4 : gOr 0 10 13 4 28 := ⟨_, rfl, by decide +kernel⟩
theorem g0r5 : gOr 0 10 13 5 32 := ⟨_, rfl, by decide +kernel⟩
theorem tlo_ct {G : Nat → Int} {T : TT} {w0 : va_W} {s : Nat} (hB : HB G) (wf : WF G) (hX0 : HX 4 G w0) (hs : (s : Int) < G 4) (hP0 : rd w0 30 s = some (.int (Int32.ofInt (orI (preP G s) (G 3).toNat)))) (hT : TX ad tys G T w0 ws) : CT l D tys A 174 3 0 0 [.ref (ad 32), .ref (ad 4), .ref (ad 28), .int (Int32.ofInt ((s : Int)))] ws (fun r w => r = none ∧ TX ad tys G (oneT G s T) w0 w) := by
  refine CT_of_V (by omega) (show (4 : Nat) ≤ mML 174 by decide +kernel) ?_
  have b4 := hB.b4
  have b3 := hB.b3
  obtain ⟨⟨w6, o6, i6, n24⟩, g0, g1, g2, g3⟩ := say_b hB (s := s) (by omega)
  have hX : HX 4 G ws := HX_keep hX0 (fun c' i h1 h2 => hT.o _ _ (by omega) (by omega))
  have hP : rd ws 30 s = some (.int (Int32.ofInt (orI (preP G s) (G 3).toNat))) := (hT.o _ _ (by omega) (by omega)).trans hP0
  refine V_aload (v := ad 28) mi_174_0 (by simp [stL, lv_args, Value.category]) ?_
  refine V_aload (v := ad 4) mi_174_1 (by simp [stL, lv_args, Value.category]) ?_
  refine V_iload (v := Int32.ofInt ((s : Int))) mi_174_2 (by simp [stL, lv_args, Value.category]) ?_
  refine V_cO (As := [.ref (ad 4), .int (Int32.ofInt ((s : Int)))]) (st := []) mi_174_3 (by omega) (by decide +kernel) (by decide +kernel) (by omega) g28o hT.g (csy_ct hT.g hX hB wf hT.b hT.k hs) (by omega) (show 2 = mN 91 by decide +kernel) (by simp [Value.category]) ?_
  rintro r w1 ⟨rfl, rfl⟩
  refine V_beq mi_174_6  (fun q => ?_) (fun q => ?_)
  · refine V_retV mi_174_53 ⟨rfl, ?_⟩
    unfold oneT
    rw [if_neg (by rw [q]; exact Bool.false_ne_true)]
    exact hT
  · refine V_aload (v := ad 32) mi_174_9 (by simp [stL, lv_args, Value.category]) ?_
    refine V_dup mi_174_10 (by simp [Value.category]) ?_
    refine V_gO mi_174_11 g32o hT.g (hT.s) ?_
    refine V_ipush mi_174_14 ?_
    refine V_iload (v := Int32.ofInt ((s : Int))) mi_174_15 (by simp [stL, lv_args, Value.category]) ?_
    refine V_ibin mi_174_16 (by omega) ?_
    refine V_ibin mi_174_17 (by omega) ?_
    refine V_pO mi_174_18 g32f3 (by omega) (by decide +kernel) (by decide +kernel) hT.g (i32b _).1 (i32b _).2 (fun w2 G2 U2 => ?_)
    have hX2 : HX 4 G w2 := HX_keep hX (fun c' i h1 h2 => upd_ne U2 (by omega))
    refine V_aload (v := ad 32) mi_174_21 (by simp [stL, lv_args, Value.category]) ?_
    refine V_gR mi_174_22 g32r1 (by omega) G2 ?_
    refine V_iload (v := Int32.ofInt ((s : Int))) mi_174_25 (by simp [stL, lv_args, Value.category]) ?_
    refine V_aload (v := ad 28) mi_174_26 (by simp [stL, lv_args, Value.category]) ?_
    refine V_iload (v := Int32.ofInt ((s : Int))) mi_174_27 (by simp [stL, lv_args, Value.category]) ?_
    refine V_cO (As := [.int (Int32.ofInt ((s : Int)))]) (st := [.int (Int32.ofInt ((s : Int))), .ref (ad 34)]) mi_174_28 (by omega) (by decide +kernel) (by decide +kernel) (by omega) g28o G2 (prs_ct (s := s) G2 (by omega) ((upd_ne U2 (by omega)).trans hP)) (by omega) (show 1 = mN 89 by decide +kernel) (by simp [Value.category]) ?_
    rintro r w3 ⟨rfl, rfl⟩
    refine V_stat (As := [.ref (ad 34), .int (Int32.ofInt ((s : Int))), .int (Int32.ofInt (orI (preP G s) (G 3).toNat))]) (st := []) mi_174_31 (by omega) (putk_ct (j := s) a34 G2 (by omega) (by omega)) (by omega) (show 3 = mN 148 by decide +kernel) (by simp [Value.category]) ⟨Nat.le_refl _, Nat.le_refl _⟩ ?_
    rintro r w4 ⟨rfl, G4, U4⟩
    have hX4 : HX 4 G w4 := HX_keep hX2 (fun c' i h1 h2 => upd_ne U4 (by omega))
    have k4 : XKN G T.K w4 := fun j hj hp => (upd_ne U4 (by omega)).trans ((upd_ne U2 (by omega)).trans (hT.k j hj hp))
    refine V_aload (v := ad 32) mi_174_34 (by simp [stL, lv_args, Value.category]) ?_
    refine V_gR mi_174_35 g32r2 (by omega) G4 ?_
    refine V_iload (v := Int32.ofInt ((s : Int))) mi_174_38 (by simp [stL, lv_args, Value.category]) ?_
    refine V_aload (v := ad 28) mi_174_39 (by simp [stL, lv_args, Value.category]) ?_
    refine V_aload (v := ad 4) mi_174_40 (by simp [stL, lv_args, Value.category]) ?_
    refine V_iload (v := Int32.ofInt ((s : Int))) mi_174_41 (by simp [stL, lv_args, Value.category]) ?_
    refine V_aload (v := ad 28) mi_174_42 (by simp [stL, lv_args, Value.category]) ?_
    refine V_iload (v := Int32.ofInt ((s : Int))) mi_174_43 (by simp [stL, lv_args, Value.category]) ?_
    refine V_cO (As := [.int (Int32.ofInt ((s : Int)))]) (st := [.int (Int32.ofInt ((s : Int))), .ref (ad 4), .ref (ad 28), .int (Int32.ofInt ((s : Int))), .ref (ad 35)]) mi_174_44 (by omega) (by decide +kernel) (by decide +kernel) (by omega) g28o G4 (prs_ct (s := s) G4 (by omega) ((upd_ne U4 (by omega)).trans ((upd_ne U2 (by omega)).trans hP))) (by omega) (show 1 = mN 89 by decide +kernel) (by simp [Value.category]) ?_
    rintro r w5 ⟨rfl, rfl⟩
    refine V_cO (As := [.ref (ad 4), .int (Int32.ofInt ((s : Int))), .int (Int32.ofInt (orI (preP G s) (G 3).toNat))]) (st := [.int (Int32.ofInt ((s : Int))), .ref (ad 35)]) mi_174_47 (by omega) (by decide +kernel) (by decide +kernel) (by omega) g28o G4 (sprd_ct G4 hX4 hB hT.b k4 (s := s) (by omega)) (by omega) (show 3 = mN 92 by decide +kernel) (by simp [Value.category]) ?_
    rintro r w6 ⟨rfl, G6, k6, o6⟩
    refine V_stat (As := [.ref (ad 35), .int (Int32.ofInt ((s : Int))), .int (Int32.ofInt (orI (lrnP G T.K s) (G 3).toNat))]) (st := []) mi_174_50 (by omega) (putk_ct (j := s) a35 G6 (by omega) (by omega)) (by omega) (show 3 = mN 148 by decide +kernel) (by simp [Value.category]) ⟨Nat.le_refl _, Nat.le_refl _⟩ ?_
    rintro r w7 ⟨rfl, G7, U7⟩
    refine V_retV mi_174_53 ⟨rfl, ?_⟩
    unfold oneT
    rw [if_pos q]
    refine ⟨G7, fun j hj hp => (upd_ne U7 (by omega)).trans (k6 j hj hp), (upd_ne U7 (by omega)).trans ((o6 _ _ (by omega)).trans ((upd_ne U4 (by omega)).trans (upd_eq U2))), fun i hi => ?_, fun i hi => ?_, fun c j h1 h2 => (upd_ne U7 (by omega)).trans ((o6 _ _ (by omega)).trans ((upd_ne U4 (by omega)).trans ((upd_ne U2 (by omega)).trans (hT.o c j h1 h2)))), spK_ok hT.b i6⟩
    · show _ = some (Value.int (Int32.ofInt (if i = s then _ else T.hb i)))
      refine (upd_ne U7 (by omega)).trans ((o6 _ _ (by omega)).trans ?_)
      by_cases e : i = s
      · rw [if_pos e, e]
        exact upd_eq U4
      · rw [if_neg e]
        exact (upd_ne U4 (by omega)).trans ((upd_ne U2 (by omega)).trans (hT.h i hi))
    · show _ = some (Value.int (Int32.ofInt (if i = s then _ else T.lb i)))
      by_cases e : i = s
      · rw [if_pos e, e]
        exact upd_eq U7
      · rw [if_neg e]
        exact (upd_ne U7 (by omega)).trans ((o6 _ _ (by omega)).trans ((upd_ne U4 (by omega)).trans ((upd_ne U2 (by omega)).trans (hT.lr i hi))))
theorem ke_11 {mm f : Nat} {w0 : va_W} {post : Option Value → va_W → Prop} (hm24 : mm ≤ 24) (hf : f < 6) : ∀ (m o : Nat) (w : va_W), o + m = 6 → GOK ad tys GG w → (∀ j, j < 6 * f + o → rd w 33 (36 * mm + j) = rd w0 31 j) → (∀ c j, ¬ (c = 33 ∧ 36 * mm ≤ j ∧ j < 36 * mm + 36) → rd w c j = rd w0 c j) → (∀ w' : va_W, GOK ad tys GG w' → (∀ j, j < 6 * (f + 1) → rd w' 33 (36 * mm + j) = rd w0 31 j) → (∀ c j, ¬ (c = 33 ∧ 36 * mm ≤ j ∧ j < 36 * mm + 36) → rd w' c j = rd w0 c j) → V l D tys A 175 2 0 0 post 0 0 2 [(0, .ref (ad 32)), (1, .ref (ad 28)), (2, .int (Int32.ofInt ((mm : Int)))), (3, .int (Int32.ofInt (((f + 1 : Nat) : Int))))] [] w') → V l D tys A 175 2 0 0 post 0 0 11 [(0, .ref (ad 32)), (1, .ref (ad 28)), (2, .int (Int32.ofInt ((mm : Int)))), (3, .int (Int32.ofInt ((f : Int)))), (4, .int (Int32.ofInt ((o : Int))))] [] w
  | 0, o, w, hm, hG, hK, ho, kk => by
    refine V_iload (v := Int32.ofInt ((o : Int))) mi_175_11 (by simp [stL, lv_args, Value.category]) ?_
    refine V_ipush mi_175_13 ?_
    refine V_cge mi_175_15 ⟨by omega, by omega⟩ ⟨by omega, by omega⟩ (fun q => ?_) (fun q => ?_)
    · refine V_iinc (v := Int32.ofInt ((f : Int))) mi_175_50 (by simp [stL, lv_args, Value.category]) ?_
      rw [ia2]
      refine V_goto mi_175_53 ?_
      refine V_sub (lv' := [(0, .ref (ad 32)), (1, .ref (ad 28)), (2, .int (Int32.ofInt ((mm : Int)))), (3, .int (Int32.ofInt (((f + 1 : Nat) : Int))))]) (fun q hq => ?_) ?_
      · simp only [List.mem_cons, List.not_mem_nil, or_false] at hq
        rcases hq with rfl | rfl | rfl | rfl <;> simp [stL, lv_args, Value.category]
      exact kk w hG (fun j hj => hK j (by omega)) ho
    · exact absurd q (by omega)
  | m + 1, o, w, hm, hG, hK, ho, kk => by
    refine V_iload (v := Int32.ofInt ((o : Int))) mi_175_11 (by simp [stL, lv_args, Value.category]) ?_
    refine V_ipush mi_175_13 ?_
    refine V_cge mi_175_15 ⟨by omega, by omega⟩ ⟨by omega, by omega⟩ (fun q => ?_) (fun q => ?_)
    · exact absurd q (by omega)
    · obtain ⟨s31, e31, f31⟩ := a31
      obtain ⟨z, ez, -⟩ := cel hG e31 (j := 6 * f + o) (by omega) (f31 _ (by omega))
      have ez0 : rd w0 31 (6 * f + o) = some (.int (Int32.ofInt z)) := by rw [← ho _ _ (by omega)]; exact ez
      refine V_aload (v := ad 32) mi_175_18 (by simp [stL, lv_args, Value.category]) ?_
      refine V_gR mi_175_19 g32r0 (by omega) hG ?_
      refine V_iload (v := Int32.ofInt ((mm : Int))) mi_175_22 (by simp [stL, lv_args, Value.category]) ?_
      refine V_ipush mi_175_23 ?_
      refine V_ibin mi_175_25 (by omega) ?_
      rw [ib2]
      refine V_iload (v := Int32.ofInt ((f : Int))) mi_175_26 (by simp [stL, lv_args, Value.category]) ?_
      refine V_ipush mi_175_27 ?_
      refine V_ibin mi_175_29 (by omega) ?_
      rw [ib2]
      refine V_ibin mi_175_30 (by omega) ?_
      rw [ib0]
      refine V_iload (v := Int32.ofInt ((o : Int))) mi_175_31 (by simp [stL, lv_args, Value.category]) ?_
      refine V_ibin mi_175_33 (by omega) ?_
      rw [ib0]
      rw [show (mm : Int) * (36) + (f : Int) * (6) + (o : Int) = ((36 * mm + (6 * f + o) : Nat) : Int) by omega]
      refine V_aload (v := ad 28) mi_175_34 (by simp [stL, lv_args, Value.category]) ?_
      refine V_iload (v := Int32.ofInt ((f : Int))) mi_175_35 (by simp [stL, lv_args, Value.category]) ?_
      refine V_iload (v := Int32.ofInt ((o : Int))) mi_175_36 (by simp [stL, lv_args, Value.category]) ?_
      refine V_cO (As := [.int (Int32.ofInt ((f : Int))), .int (Int32.ofInt ((o : Int)))]) (st := [.int (Int32.ofInt (((36 * mm + (6 * f + o) : Nat) : Int))), .ref (ad 33)]) mi_175_38 (by omega) (by decide +kernel) (by decide +kernel) (by omega) g28o hG (bts_ct (f := f) (o := o) hG hf (by omega) ez) (by omega) (show 2 = mN 88 by decide +kernel) (by simp [Value.category]) ?_
      rintro r w1 ⟨e1, rfl⟩
      rw [e1]
      refine V_stat (As := [.ref (ad 33), .int (Int32.ofInt (((36 * mm + (6 * f + o) : Nat) : Int))), .int (Int32.ofInt (z))]) (st := []) mi_175_41 (by omega) (putk_ct (j := 36 * mm + (6 * f + o)) a33 hG (by omega) (by omega)) (by omega) (show 3 = mN 148 by decide +kernel) (by simp [Value.category]) ⟨Nat.le_refl _, Nat.le_refl _⟩ ?_
      rintro r w2 ⟨rfl, G2, U2⟩
      refine V_iinc (v := Int32.ofInt ((o : Int))) mi_175_44 (by simp [stL, lv_args, Value.category]) ?_
      rw [ia2]
      refine V_goto mi_175_47 ?_
      refine V_sub (lv' := [(0, .ref (ad 32)), (1, .ref (ad 28)), (2, .int (Int32.ofInt ((mm : Int)))), (3, .int (Int32.ofInt ((f : Int)))), (4, .int (Int32.ofInt (((o + 1 : Nat) : Int))))]) (fun q hq => ?_) ?_
      · simp only [List.mem_cons, List.not_mem_nil, or_false] at hq
        rcases hq with rfl | rfl | rfl | rfl | rfl <;> simp [stL, lv_args, Value.category]
      · refine ke_11 hm24 hf m (o + 1) w2 (by omega) G2 (fun j hj => ?_) (fun c j hc => (upd_ne U2 (by omega)).trans (ho c j hc)) kk
        by_cases e : j = 6 * f + o
        · rw [e, ez0]
          exact upd_eq U2
        · exact (upd_ne U2 (by omega)).trans (hK j (by omega))
theorem ke_2 {mm : Nat} {w0 : va_W} {post : Option Value → va_W → Prop} (hm24 : mm ≤ 24) : ∀ (m f : Nat) (w : va_W), f + m = 6 → GOK ad tys GG w → (∀ j, j < 6 * f → rd w 33 (36 * mm + j) = rd w0 31 j) → (∀ c j, ¬ (c = 33 ∧ 36 * mm ≤ j ∧ j < 36 * mm + 36) → rd w c j = rd w0 c j) → (∀ w' : va_W, GOK ad tys GG w' → (∀ j, j < 36 → rd w' 33 (36 * mm + j) = rd w0 31 j) → (∀ c j, ¬ (c = 33 ∧ 36 * mm ≤ j ∧ j < 36 * mm + 36) → rd w' c j = rd w0 c j) → post none w') → V l D tys A 175 2 0 0 post 0 0 2 [(0, .ref (ad 32)), (1, .ref (ad 28)), (2, .int (Int32.ofInt ((mm : Int)))), (3, .int (Int32.ofInt ((f : Int))))] [] w
  | 0, f, w, hm, hG, hK, ho, kk => by
    refine V_iload (v := Int32.ofInt ((f : Int))) mi_175_2 (by simp [stL, lv_args, Value.category]) ?_
    refine V_ipush mi_175_3 ?_
    refine V_cge mi_175_5 ⟨by omega, by omega⟩ ⟨by omega, by omega⟩ (fun q => ?_) (fun q => ?_)
    · exact V_retV mi_175_56 (kk w hG (fun j hj => hK j (by omega)) ho)
    · exact absurd q (by omega)
  | m + 1, f, w, hm, hG, hK, ho, kk => by
    refine V_iload (v := Int32.ofInt ((f : Int))) mi_175_2 (by simp [stL, lv_args, Value.category]) ?_
    refine V_ipush mi_175_3 ?_
    refine V_cge mi_175_5 ⟨by omega, by omega⟩ ⟨by omega, by omega⟩ (fun q => ?_) (fun q => ?_)
    · exact absurd q (by omega)
    · refine V_ipush mi_175_8 ?_
      refine V_istore mi_175_9 ?_
      refine V_sub (lv' := [(0, .ref (ad 32)), (1, .ref (ad 28)), (2, .int (Int32.ofInt ((mm : Int)))), (3, .int (Int32.ofInt ((f : Int)))), (4, .int (Int32.ofInt (((0 : Nat) : Int))))]) (fun q hq => ?_) ?_
      · simp only [List.mem_cons, List.not_mem_nil, or_false] at hq
        rcases hq with rfl | rfl | rfl | rfl | rfl <;> simp [stL, lv_args, Value.category]
      exact ke_11 (w0 := w0) hm24 (by omega) 6 0 w (by omega) hG hK ho (fun w2 G2 K2 o2 => ke_2 hm24 m (f + 1) w2 (by omega) G2 K2 o2 kk)
theorem kee_ct {mm : Nat} (hG : GOK ad tys GG ws) (hm24 : mm ≤ 24) : CT l D tys A 175 2 0 0 [.ref (ad 32), .ref (ad 28), .int (Int32.ofInt ((mm : Int)))] ws (fun r w => r = none ∧ GOK ad tys GG w ∧ (∀ j, j < 36 → rd w 33 (36 * mm + j) = rd ws 31 j) ∧ (∀ c j, ¬ (c = 33 ∧ 36 * mm ≤ j ∧ j < 36 * mm + 36) → rd w c j = rd ws c j)) := by
  refine CT_of_V (by omega) (show (3 : Nat) ≤ mML 175 by decide +kernel) ?_
  refine V_ipush mi_175_0 ?_
  refine V_istore mi_175_1 ?_
  refine V_sub (lv' := [(0, .ref (ad 32)), (1, .ref (ad 28)), (2, .int (Int32.ofInt ((mm : Int)))), (3, .int (Int32.ofInt (((0 : Nat) : Int))))]) (fun q hq => ?_) ?_
  · simp only [List.mem_cons, List.not_mem_nil, or_false] at hq
    rcases hq with rfl | rfl | rfl | rfl <;> simp [stL, lv_args, Value.category]
  exact ke_2 (w0 := ws) hm24 6 0 ws (by omega) hG (fun j hj => absurd hj (by omega)) (fun _ _ _ => rfl) (fun w2 G2 k2 o2 => ⟨rfl, G2, k2, o2⟩)
end XSH
section XSI
variable {l : Launch} {D : va_G} {tys : List (ClassId × FieldType)} {A : Nat → Prop} {ad : Nat → Nat} {ws : va_W}
theorem te_46 {G : Nat → Int} {S : Nat} {w0 : va_W} {post : Option Value → va_W → Prop} {h : Nat} (hB : HB G) (wf : WF G) (hX0 : HX 4 G w0) (hS : (S : Int) = G 4) (hw : ∀ s, s < S → sWhn G s < (G 2).toNat) (hO : ORD G S w0) (hP : PRS G S w0) (hh : (h : Int) < G 2) : ∀ (m s : Nat) (T : TT) (w : va_W), s + m = S → TX ad tys G T w0 w → (∀ w' : va_W, TX ad tys G (sayT G h m s T) w0 w' → V l D tys A 173 4 0 0 post 0 0 88 [(0, .ref (ad 32)), (1, .ref (ad 4)), (2, .ref (ad 28)), (3, .int (Int32.ofInt (((cntH G S (h + 1) : Nat) : Int)))), (4, .int (Int32.ofInt ((h : Int))))] [] w') → V l D tys A 173 4 0 0 post 0 0 46 [(0, .ref (ad 32)), (1, .ref (ad 4)), (2, .ref (ad 28)), (3, .int (Int32.ofInt (((cntH G S h + cntS G h s : Nat) : Int)))), (4, .int (Int32.ofInt ((h : Int))))] [] w
  | 0, s, T, w, hm, hT, kk => by
    have hX : HX 4 G w := HX_keep hX0 (fun c' i h1 h2 => hT.o _ _ (by omega) (by omega))
    have b4 := hB.b4
    have b2 := hB.b2
    have e : s = S := by omega
    rw [e]
    have cl0 := cntH_all (G := G) S hw
    have cl1 := cntH_le (G := G) (n := S) (h := h + 1) (G 2).toNat (by omega)
    show V l D tys A 173 4 0 0 post 0 0 46 [(0, .ref (ad 32)), (1, .ref (ad 4)), (2, .ref (ad 28)), (3, .int (Int32.ofInt (((cntH G S (h + 1) : Nat) : Int)))), (4, .int (Int32.ofInt ((h : Int))))] [] w
    refine V_iload (v := Int32.ofInt (((cntH G S (h + 1) : Nat) : Int))) mi_173_46 (by simp [stL, lv_args, Value.category]) ?_
    refine V_aload (v := ad 4) mi_173_47 (by simp [stL, lv_args, Value.category]) ?_
    refine V_gO mi_173_48 g4o hT.g (show rd _ 4 5 = some (.int (Int32.ofInt (G 4))) from hx0 hX (i := 5) (by omega)) ?_
    refine V_cge mi_173_51 ⟨by omega, by omega⟩ ⟨by omega, by omega⟩ (fun q => ?_) (fun q => ?_)
    · refine V_sub (lv' := [(0, .ref (ad 32)), (1, .ref (ad 4)), (2, .ref (ad 28)), (3, .int (Int32.ofInt (((cntH G S (h + 1) : Nat) : Int)))), (4, .int (Int32.ofInt ((h : Int))))]) (fun q hq => ?_) (kk w hT)
      simp only [List.mem_cons, List.not_mem_nil, or_false] at hq
      rcases hq with rfl | rfl | rfl | rfl | rfl <;> simp [stL, lv_args, Value.category]
    · obtain ⟨t, t1, t2, t3⟩ := pos_ex (G := G) (n := S) (h := h + 1) (G 2).toNat (by omega) (by omega)
      obtain ⟨⟨w6, o6, i6, n24⟩, g0, g1, g2, g3⟩ := say_b hB (s := t) (by omega)
      refine V_aload (v := ad 4) mi_173_54 (by simp [stL, lv_args, Value.category]) ?_
      refine V_gR mi_173_55 g4r16 (by omega) hT.g ?_
      refine V_aload (v := ad 28) mi_173_58 (by simp [stL, lv_args, Value.category]) ?_
      refine V_iload (v := Int32.ofInt (((cntH G S (h + 1) : Nat) : Int))) mi_173_59 (by simp [stL, lv_args, Value.category]) ?_
      refine V_cO (As := [.int (Int32.ofInt (((cntH G S (h + 1) : Nat) : Int)))]) (st := [.ref (ad 15)]) mi_173_60 (by omega) (by decide +kernel) (by decide +kernel) (by omega) g28o hT.g (ino_ct (s := cntH G S (h + 1)) hT.g (by omega) (by rw [← t3]; exact (hT.o _ _ (by omega) (by omega)).trans (hO t t1))) (by omega) (show 1 = mN 90 by decide +kernel) (by simp [Value.category]) ?_
      rintro r w1 ⟨e1, rfl⟩
      rw [e1]
      refine V_stat (As := [.ref (ad 15), .int (Int32.ofInt ((t : Int)))]) (st := []) mi_173_63 (by omega) (atk_ct a15 hT.g (by omega) (by omega) (say_rd hX (k := t) (r := 3) (by omega) (by omega))) (by omega) (show 2 = mN 147 by decide +kernel) (by simp [Value.category]) ⟨Nat.le_refl _, Nat.le_refl _⟩ ?_
      rintro r w2 ⟨e2, rfl⟩
      rw [e2, g3]
      refine V_iload (v := Int32.ofInt ((h : Int))) mi_173_66 (by simp [stL, lv_args, Value.category]) ?_
      refine V_cne mi_173_68 ⟨by omega, by omega⟩ ⟨by omega, by omega⟩ (fun q2 => ?_) (fun q2 => ?_)
      · refine V_sub (lv' := [(0, .ref (ad 32)), (1, .ref (ad 4)), (2, .ref (ad 28)), (3, .int (Int32.ofInt (((cntH G S (h + 1) : Nat) : Int)))), (4, .int (Int32.ofInt ((h : Int))))]) (fun q hq => ?_) (kk w hT)
        simp only [List.mem_cons, List.not_mem_nil, or_false] at hq
        rcases hq with rfl | rfl | rfl | rfl | rfl <;> simp [stL, lv_args, Value.category]
      · exact absurd q2 (by omega)
  | m + 1, s, T, w, hm, hT, kk => by
    have hX : HX 4 G w := HX_keep hX0 (fun c' i h1 h2 => hT.o _ _ (by omega) (by omega))
    have b4 := hB.b4
    have b2 := hB.b2
    by_cases heq : sWhn G s = h
    · have hs : s < S := by omega
      have hp : pos G S s = cntH G S h + cntS G h s := by unfold pos; rw [heq]
      have hp2 := pos_n hw hs
      have es : sayT G h (m + 1) s T = sayT G h m (s + 1) (oneT G s T) := by
        show sayT G h m (s + 1) (if sWhn G s = h then oneT G s T else T) = _
        rw [if_pos heq]
      rw [es] at kk
      obtain ⟨⟨w6, o6, i6, n24⟩, g0, g1, g2, g3⟩ := say_b hB (s := s) (by omega)
      refine V_iload (v := Int32.ofInt (((cntH G S h + cntS G h s : Nat) : Int))) mi_173_46 (by simp [stL, lv_args, Value.category]) ?_
      refine V_aload (v := ad 4) mi_173_47 (by simp [stL, lv_args, Value.category]) ?_
      refine V_gO mi_173_48 g4o hT.g (show rd _ 4 5 = some (.int (Int32.ofInt (G 4))) from hx0 hX (i := 5) (by omega)) ?_
      refine V_cge mi_173_51 ⟨by omega, by omega⟩ ⟨by omega, by omega⟩ (fun q => ?_) (fun q => ?_)
      · exact absurd q (by omega)
      · refine V_aload (v := ad 4) mi_173_54 (by simp [stL, lv_args, Value.category]) ?_
        refine V_gR mi_173_55 g4r16 (by omega) hT.g ?_
        refine V_aload (v := ad 28) mi_173_58 (by simp [stL, lv_args, Value.category]) ?_
        refine V_iload (v := Int32.ofInt (((cntH G S h + cntS G h s : Nat) : Int))) mi_173_59 (by simp [stL, lv_args, Value.category]) ?_
        refine V_cO (As := [.int (Int32.ofInt (((cntH G S h + cntS G h s : Nat) : Int)))]) (st := [.ref (ad 15)]) mi_173_60 (by omega) (by decide +kernel) (by decide +kernel) (by omega) g28o hT.g (ino_ct (s := cntH G S h + cntS G h s) hT.g (by omega) (by rw [← hp]; exact (hT.o _ _ (by omega) (by omega)).trans (hO s hs))) (by omega) (show 1 = mN 90 by decide +kernel) (by simp [Value.category]) ?_
        rintro r w1 ⟨e1, rfl⟩
        rw [e1]
        refine V_stat (As := [.ref (ad 15), .int (Int32.ofInt ((s : Int)))]) (st := []) mi_173_63 (by omega) (atk_ct a15 hT.g (by omega) (by omega) (say_rd hX (k := s) (r := 3) (by omega) (by omega))) (by omega) (show 2 = mN 147 by decide +kernel) (by simp [Value.category]) ⟨Nat.le_refl _, Nat.le_refl _⟩ ?_
        rintro r w2 ⟨e2, rfl⟩
        rw [e2, g3]
        refine V_iload (v := Int32.ofInt ((h : Int))) mi_173_66 (by simp [stL, lv_args, Value.category]) ?_
        refine V_cne mi_173_68 ⟨by omega, by omega⟩ ⟨by omega, by omega⟩ (fun q2 => ?_) (fun q2 => ?_)
        · exact absurd q2 (by omega)
        · refine V_aload (v := ad 32) mi_173_71 (by simp [stL, lv_args, Value.category]) ?_
          refine V_aload (v := ad 4) mi_173_72 (by simp [stL, lv_args, Value.category]) ?_
          refine V_aload (v := ad 28) mi_173_73 (by simp [stL, lv_args, Value.category]) ?_
          refine V_aload (v := ad 28) mi_173_74 (by simp [stL, lv_args, Value.category]) ?_
          refine V_iload (v := Int32.ofInt (((cntH G S h + cntS G h s : Nat) : Int))) mi_173_75 (by simp [stL, lv_args, Value.category]) ?_
          refine V_cO (As := [.int (Int32.ofInt (((cntH G S h + cntS G h s : Nat) : Int)))]) (st := [.ref (ad 28), .ref (ad 4), .ref (ad 32)]) mi_173_76 (by omega) (by decide +kernel) (by decide +kernel) (by omega) g28o hT.g (ino_ct (s := cntH G S h + cntS G h s) hT.g (by omega) (by rw [← hp]; exact (hT.o _ _ (by omega) (by omega)).trans (hO s hs))) (by omega) (show 1 = mN 90 by decide +kernel) (by simp [Value.category]) ?_
          rintro r w3 ⟨e3, rfl⟩
          rw [e3]
          refine V_cO (As := [.ref (ad 4), .ref (ad 28), .int (Int32.ofInt ((s : Int)))]) (st := []) mi_173_79 (by omega) (by decide +kernel) (by decide +kernel) (by omega) g32o hT.g (tlo_ct hB wf hX0 (s := s) (by omega) (hP s hs) hT) (by omega) (show 3 = mN 174 by decide +kernel) (by simp [Value.category]) ?_
          rintro r w4 ⟨rfl, T4⟩
          refine V_iinc (v := Int32.ofInt (((cntH G S h + cntS G h s : Nat) : Int))) mi_173_82 (by simp [stL, lv_args, Value.category]) ?_
          rw [ia2]
          rw [show ((cntH G S h + cntS G h s : Nat) : Int) + (1) = ((cntH G S h + cntS G h (s + 1) : Nat) : Int) by rw [cntS_hit heq]; omega]
          refine V_goto mi_173_85 ?_
          refine V_sub (lv' := [(0, .ref (ad 32)), (1, .ref (ad 4)), (2, .ref (ad 28)), (3, .int (Int32.ofInt (((cntH G S h + cntS G h (s + 1) : Nat) : Int)))), (4, .int (Int32.ofInt ((h : Int))))]) (fun q hq => ?_) ?_
          · simp only [List.mem_cons, List.not_mem_nil, or_false] at hq
            rcases hq with rfl | rfl | rfl | rfl | rfl <;> simp [stL, lv_args, Value.category]
          exact te_46 hB wf hX0 hS hw hO hP hh m (s + 1) (oneT G s T) w4 (by omega) T4 kk
    · have es : sayT G h (m + 1) s T = sayT G h m (s + 1) T := by
        show sayT G h m (s + 1) (if sWhn G s = h then oneT G s T else T) = _
        rw [if_neg heq]
      rw [es] at kk
      rw [show cntH G S h + cntS G h s = cntH G S h + cntS G h (s + 1) by rw [cntS_no heq]]
      exact te_46 hB wf hX0 hS hw hO hP hh m (s + 1) T w (by omega) hT kk
/-- what is known ahead of each of the first n hours, as the class keeps it -/
noncomputable def KNX (G : Nat → Int) (n : Nat) (w : va_W) : Prop := ∀ h, h < n → ∀ j, j < 36 → (j / 6 : Nat) < G 3 → rd w 33 (36 * h + j) = some (.int (Int32.ofInt ((tellT G h).K j)))
noncomputable def XTO (w0 w : va_W) : Prop := ∀ c j, ¬ (31 ≤ c ∧ c ≤ 35) → rd w c j = rd w0 c j
theorem te_37 {G : Nat → Int} {S : Nat} {w0 : va_W} {post : Option Value → va_W → Prop} (hB : HB G) (wf : WF G) (hX0 : HX 4 G w0) (hS : (S : Int) = G 4) (hw : ∀ s, s < S → sWhn G s < (G 2).toNat) (hO0 : ORD G S w0) (hP0 : PRS G S w0) : ∀ (m h : Nat) (w : va_W), ((h + m : Nat) : Int) = G 2 → TX ad tys G (tellT G h) w w → KNX G (h + 1) w → XTO w0 w → (∀ w' : va_W, TX ad tys G (tellT G (G 2).toNat) w' w' → KNX G ((G 2).toNat + 1) w' → XTO w0 w' → post none w') → V l D tys A 173 4 0 0 post 0 0 37 [(0, .ref (ad 32)), (1, .ref (ad 4)), (2, .ref (ad 28)), (3, .int (Int32.ofInt (((cntH G S h : Nat) : Int)))), (4, .int (Int32.ofInt ((h : Int))))] [] w
  | 0, h, w, hm, hT, hk, ho, kk => by
    have hX : HX 4 G w := HX_keep hX0 (fun c' i h1 h2 => ho _ _ (by omega))
    have b4 := hB.b4
    have b2 := hB.b2
    refine V_iload (v := Int32.ofInt ((h : Int))) mi_173_37 (by simp [stL, lv_args, Value.category]) ?_
    refine V_aload (v := ad 4) mi_173_39 (by simp [stL, lv_args, Value.category]) ?_
    refine V_gO mi_173_40 g4o hT.g (show rd _ 4 3 = some (.int (Int32.ofInt (G 2))) from hx0 hX (i := 3) (by omega)) ?_
    refine V_cge mi_173_43 ⟨by omega, by omega⟩ ⟨by omega, by omega⟩ (fun q => ?_) (fun q => ?_)
    · have e : h = (G 2).toNat := by omega
      rw [e] at hT hk
      exact V_retV mi_173_103 (kk w hT hk ho)
    · exact absurd q (by omega)
  | m + 1, h, w, hm, hT, hk, ho, kk => by
    have hX : HX 4 G w := HX_keep hX0 (fun c' i h1 h2 => ho _ _ (by omega))
    have b4 := hB.b4
    have b2 := hB.b2
    refine V_iload (v := Int32.ofInt ((h : Int))) mi_173_37 (by simp [stL, lv_args, Value.category]) ?_
    refine V_aload (v := ad 4) mi_173_39 (by simp [stL, lv_args, Value.category]) ?_
    refine V_gO mi_173_40 g4o hT.g (show rd _ 4 3 = some (.int (Int32.ofInt (G 2))) from hx0 hX (i := 3) (by omega)) ?_
    refine V_cge mi_173_43 ⟨by omega, by omega⟩ ⟨by omega, by omega⟩ (fun q => ?_) (fun q => ?_)
    · exact absurd q (by omega)
    · have hO : ORD G S w := fun t ht => (ho _ _ (by omega)).trans (hO0 t ht)
      have hP : PRS G S w := fun t ht => (ho _ _ (by omega)).trans (hP0 t ht)
      refine V_sub (lv' := [(0, .ref (ad 32)), (1, .ref (ad 4)), (2, .ref (ad 28)), (3, .int (Int32.ofInt (((cntH G S h : Nat) : Int)))), (4, .int (Int32.ofInt ((h : Int))))]) (fun q hq => ?_) ?_
      · simp only [List.mem_cons, List.not_mem_nil, or_false] at hq
        rcases hq with rfl | rfl | rfl | rfl | rfl <;> simp [stL, lv_args, Value.category]
      refine te_46 (w0 := w) (h := h) hB wf hX hS hw hO hP (by omega) S 0 (tellT G h) w (by omega) hT (fun w2 T2 => ?_)
      refine V_aload (v := ad 32) mi_173_88 (by simp [stL, lv_args, Value.category]) ?_
      refine V_aload (v := ad 28) mi_173_89 (by simp [stL, lv_args, Value.category]) ?_
      refine V_iload (v := Int32.ofInt ((h : Int))) mi_173_90 (by simp [stL, lv_args, Value.category]) ?_
      refine V_ipush mi_173_92 ?_
      refine V_ibin mi_173_93 (by omega) ?_
      rw [ib0]
      rw [show (h : Int) + (1) = ((h + 1 : Nat) : Int) by omega]
      refine V_cO (As := [.ref (ad 28), .int (Int32.ofInt (((h + 1 : Nat) : Int)))]) (st := []) mi_173_94 (by omega) (by decide +kernel) (by decide +kernel) (by omega) g32o T2.g (kee_ct (mm := h + 1) T2.g (by omega)) (by omega) (show 2 = mN 175 by decide +kernel) (by simp [Value.category]) ?_
      rintro r w3 ⟨rfl, G3, k3, o3⟩
      refine V_iinc (v := Int32.ofInt ((h : Int))) mi_173_97 (by simp [stL, lv_args, Value.category]) ?_
      rw [ia2]
      refine V_goto mi_173_100 ?_
      refine V_sub (lv' := [(0, .ref (ad 32)), (1, .ref (ad 4)), (2, .ref (ad 28)), (3, .int (Int32.ofInt (((cntH G S (h + 1) : Nat) : Int)))), (4, .int (Int32.ofInt (((h + 1 : Nat) : Int))))]) (fun q hq => ?_) ?_
      · simp only [List.mem_cons, List.not_mem_nil, or_false] at hq
        rcases hq with rfl | rfl | rfl | rfl | rfl <;> simp [stL, lv_args, Value.category]
      have oo : ∀ c j, ¬ (31 ≤ c ∧ c ≤ 35) → rd w3 c j = rd w c j := fun c j hc => (o3 c j (by omega)).trans (T2.o c j (by omega) (by omega))
      have e4 : sayT G h S 0 (tellT G h) = tellT G (h + 1) := by
        show _ = sayT G h (G 4).toNat 0 (tellT G h)
        rw [show (G 4).toNat = S by omega]
      rw [e4] at T2
      refine te_37 hB wf hX0 hS hw hO0 hP0 m (h + 1) w3 (by omega) ⟨G3, fun j hj hp => (o3 _ _ (by omega)).trans (T2.k j hj hp), (o3 _ _ (by omega)).trans T2.s, fun i hi => (o3 _ _ (by omega)).trans (T2.h i hi), fun i hi => (o3 _ _ (by omega)).trans (T2.lr i hi), fun _ _ _ _ => rfl, T2.b⟩ (fun g hg j hj hp => ?_) (fun c j hc => (oo c j hc).trans (ho c j hc)) kk
      by_cases e : g = h + 1
      · rw [e, k3 j hj]
        exact T2.k j hj hp
      · rw [o3 _ _ (by omega), T2.o _ _ (by omega) (by omega)]
        exact hk g (by omega) j hj hp
theorem tel_ct {G : Nat → Int} (hG : GOK ad tys GG ws) (hX : HX 4 G ws) (hB : HB G) (wf : WF G) (hO : ORD G (G 4).toNat ws) (hP : PRS G (G 4).toNat ws) : CT l D tys A 173 4 0 0 [.ref (ad 32), .ref (ad 4), .ref (ad 28)] ws (fun r w => r = none ∧ TX ad tys G (tellT G (G 2).toNat) w w ∧ KNX G ((G 2).toNat + 1) w ∧ XTO ws w) := by
  refine CT_of_V (by omega) (show (3 : Nat) ≤ mML 173 by decide +kernel) ?_
  have b3 := hB.b3
  have b2 := hB.b2
  have b4 := hB.b4
  refine V_aload (v := ad 32) mi_173_0 (by simp [stL, lv_args, Value.category]) ?_
  refine V_ipush mi_173_1 ?_
  refine V_pO mi_173_2 g32f3 (by omega) (by decide +kernel) (by decide +kernel) hG (by decide) (by decide) (fun w1 G1 U1 => ?_)
  refine V_aload (v := ad 32) mi_173_5 (by simp [stL, lv_args, Value.category]) ?_
  refine V_gR mi_173_6 g32r1 (by omega) G1 ?_
  refine V_ipush mi_173_9 ?_
  refine V_stat (As := [.ref (ad 34), .int (Int32.ofInt (0))]) (st := []) mi_173_10 (by omega) (fill_ct a34 G1 (by omega) ⟨by omega, by omega⟩ (by omega) (by omega)) (by omega) (show 2 = mN 149 by decide +kernel) (by simp [Value.category]) ⟨Nat.le_refl _, Nat.le_refl _⟩ ?_
  rintro r w2 ⟨rfl, G2, o2, z2⟩
  refine V_aload (v := ad 32) mi_173_13 (by simp [stL, lv_args, Value.category]) ?_
  refine V_gR mi_173_14 g32r2 (by omega) G2 ?_
  refine V_ipush mi_173_17 ?_
  refine V_stat (As := [.ref (ad 35), .int (Int32.ofInt (0))]) (st := []) mi_173_18 (by omega) (fill_ct a35 G2 (by omega) ⟨by omega, by omega⟩ (by omega) (by omega)) (by omega) (show 2 = mN 149 by decide +kernel) (by simp [Value.category]) ⟨Nat.le_refl _, Nat.le_refl _⟩ ?_
  rintro r w3 ⟨rfl, G3, o3, z3⟩
  have oX3 : ∀ c j, ¬ (31 ≤ c ∧ c ≤ 35) → rd w3 c j = rd ws c j := fun c j hc => (o3 _ _ (by omega)).trans ((o2 _ _ (by omega)).trans (upd_ne U1 (by omega)))
  refine V_aload (v := ad 28) mi_173_21 (by simp [stL, lv_args, Value.category]) ?_
  refine V_aload (v := ad 4) mi_173_22 (by simp [stL, lv_args, Value.category]) ?_
  refine V_cO (As := [.ref (ad 4)]) (st := []) mi_173_23 (by omega) (by decide +kernel) (by decide +kernel) (by omega) g28o G3 (bgn_ct G3 (HX_keep hX (fun c' i h1 h2 => oX3 _ _ (by omega))) hB) (by omega) (show 1 = mN 87 by decide +kernel) (by simp [Value.category]) ?_
  rintro r w4 ⟨rfl, G4, k4, o4⟩
  have ik := ini_ok hB
  refine V_aload (v := ad 32) mi_173_26 (by simp [stL, lv_args, Value.category]) ?_
  refine V_aload (v := ad 28) mi_173_27 (by simp [stL, lv_args, Value.category]) ?_
  refine V_ipush mi_173_28 ?_
  refine V_cO (As := [.ref (ad 28), .int (Int32.ofInt (0))]) (st := []) mi_173_29 (by omega) (by decide +kernel) (by decide +kernel) (by omega) g32o G4 (kee_ct (mm := 0) G4 (by omega)) (by omega) (show 2 = mN 175 by decide +kernel) (by simp [Value.category]) ?_
  rintro r w5 ⟨rfl, G5, k5, o5⟩
  refine V_ipush mi_173_32 ?_
  refine V_istore mi_173_33 ?_
  refine V_ipush mi_173_34 ?_
  refine V_istore mi_173_35 ?_
  refine V_sub (lv' := [(0, .ref (ad 32)), (1, .ref (ad 4)), (2, .ref (ad 28)), (3, .int (Int32.ofInt (((0 : Nat) : Int)))), (4, .int (Int32.ofInt (((0 : Nat) : Int))))]) (fun q hq => ?_) ?_
  · simp only [List.mem_cons, List.not_mem_nil, or_false] at hq
    rcases hq with rfl | rfl | rfl | rfl | rfl <;> simp [stL, lv_args, Value.category]
  have oo : ∀ c j, ¬ (31 ≤ c ∧ c ≤ 35) → rd w5 c j = rd ws c j := fun c j hc => (o5 c j (by omega)).trans ((o4 _ _ (by omega)).trans (oX3 c j hc))
  refine te_37 (w0 := ws) (S := (G 4).toNat) hB wf hX (by omega) (WF_n hB wf) hO hP (G 2).toNat 0 w5 (by omega) ⟨G5, fun j hj hp => (o5 _ _ (by omega)).trans (k4 j hj hp), (o5 _ _ (by omega)).trans ((o4 _ _ (by omega)).trans ((o3 _ _ (by omega)).trans ((o2 _ _ (by omega)).trans (upd_eq U1)))), fun i hi => (o5 _ _ (by omega)).trans ((o4 _ _ (by omega)).trans ((o3 _ _ (by omega)).trans (z2 i hi))), fun i hi => (o5 _ _ (by omega)).trans ((o4 _ _ (by omega)).trans (z3 i hi)), fun _ _ _ _ => rfl, ik⟩ (fun g hg j hj hp => ?_) oo (fun w6 T6 k6 o6 => ⟨rfl, T6, k6, o6⟩)
  rw [show g = 0 by omega]
  exact (k5 j hj).trans (k4 j hj hp)
/-- the class's story is that of its hill -/
noncomputable def STO (G : Nat → Int) (w : va_W) : Prop := ORD G (G 4).toNat w ∧ PRS G (G 4).toNat w ∧ KNX G ((G 2).toNat + 1) w ∧ rd w 32 3 = some (.int (tellT G (G 2).toNat).sd) ∧ (∀ i, i < 12 → rd w 34 i = some (.int (Int32.ofInt ((tellT G (G 2).toNat).hb i)))) ∧ ∀ i, i < 12 → rd w 35 i = some (.int (Int32.ofInt ((tellT G (G 2).toNat).lb i)))
theorem STO_keep {G : Nat → Int} {w w' : va_W} (h : STO G w) (o : ∀ c j, (29 ≤ c ∧ c ≤ 35 ∧ c ≠ 31) → rd w' c j = rd w c j) : STO G w' :=
  ⟨fun s hs => (o _ _ (by omega)).trans (h.1 s hs), fun s hs => (o _ _ (by omega)).trans (h.2.1 s hs), fun g hg j hj hp => (o _ _ (by omega)).trans (h.2.2.1 g hg j hj hp), (o _ _ (by omega)).trans h.2.2.2.1, fun i hi => (o _ _ (by omega)).trans (h.2.2.2.2.1 i hi), fun i hi => (o _ _ (by omega)).trans (h.2.2.2.2.2 i hi)⟩
theorem set2_ct {G : Nat → Int} (hG : GOK ad tys GG ws) (hX : HX 4 G ws) (hB : HB G) (wf : WF G) : CT l D tys A 73 5 0 0 [.ref (ad 0)] ws (fun r w => r = none ∧ GOK ad tys GG w ∧ STO G w ∧ ∀ c j, ¬ (29 ≤ c ∧ c ≤ 35) → rd w c j = rd ws c j) := by
  refine CT_of_V (by omega) (show (1 : Nat) ≤ mML 73 by decide +kernel) ?_
  refine V_aload (v := ad 0) mi_73_0 (by simp [stL, lv_args, Value.category]) ?_
  refine V_gR mi_73_1 g0r4 (by omega) hG ?_
  refine V_aload (v := ad 0) mi_73_4 (by simp [stL, lv_args, Value.category]) ?_
  refine V_gR mi_73_5 g0r2 (by omega) hG ?_
  refine V_cO (As := [.ref (ad 4)]) (st := []) mi_73_8 (by omega) (by decide +kernel) (by decide +kernel) (by omega) g28o hG (pla_ct hG hX hB wf) (by omega) (show 1 = mN 85 by decide +kernel) (by simp [Value.category]) ?_
  rintro r w1 ⟨rfl, G1, O1, P1, o1⟩
  refine V_aload (v := ad 0) mi_73_11 (by simp [stL, lv_args, Value.category]) ?_
  refine V_gR mi_73_12 g0r5 (by omega) G1 ?_
  refine V_aload (v := ad 0) mi_73_15 (by simp [stL, lv_args, Value.category]) ?_
  refine V_gR mi_73_16 g0r2 (by omega) G1 ?_
  refine V_aload (v := ad 0) mi_73_19 (by simp [stL, lv_args, Value.category]) ?_
  refine V_gR mi_73_20 g0r4 (by omega) G1 ?_
  refine V_cO (As := [.ref (ad 4), .ref (ad 28)]) (st := []) mi_73_23 (by omega) (by decide +kernel) (by decide +kernel) (by omega) g32o G1 (tel_ct G1 (HX_keep hX (fun c' i h1 h2 => o1 _ _ (by omega) (by omega))) hB wf O1 P1) (by omega) (show 2 = mN 173 by decide +kernel) (by simp [Value.category]) ?_
  rintro r w2 ⟨rfl, T2, k2, o2⟩
  exact V_retV mi_73_26 ⟨rfl, T2.g, ⟨fun s hs => (o2 _ _ (by omega)).trans (O1 s hs), fun s hs => (o2 _ _ (by omega)).trans (P1 s hs), k2, T2.s, T2.h, T2.lr⟩, fun c j hc => (o2 c j (by omega)).trans (o1 c j (by omega) (by omega))⟩
end XSI
