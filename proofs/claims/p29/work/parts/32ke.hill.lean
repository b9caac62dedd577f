section XMN
variable {l : Launch} {D : va_G} {tys : List (ClassId × FieldType)} {A : Nat → Prop} {ad : Nat → Nat} {ws : va_W}
theorem g96n : ∃ s, GG[96]? = some ((1, 0, 294), s) ∧ (∀ f, f < 6 → segAt s (6 + 7 * f) = some (0, 0, 6) ∧ ∀ k, k < 6 → segAt s (7 + 7 * f + k) = some (0, 0, 8)) ∧ (∀ f, f < 6 → segAt s (48 + f) = some (0, 0, 4) ∧ segAt s (54 + f) = some (0, 0, 100) ∧ segAt s (60 + f) = some (0, 0, 63)) ∧ segAt s 3 = some (0, 0, 6) ∧ segAt s 0 = some (0, 0, 9) ∧ segAt s 4 = some (0, 0, 12) ∧ segAt s 5 = some (0, -2147483648, 2147483647) := by
  refine ⟨_, rfl, fun f hf => ⟨?_, fun k hk => ?_⟩, fun f hf => ?_, by decide +kernel, by decide +kernel, by decide +kernel, by decide +kernel⟩
  · exact (show ∀ f : Fin 6, segAt _ (6 + 7 * f.1) = some (0, 0, 6) by decide +kernel) ⟨f, hf⟩
  · exact (show ∀ f : Fin 6, ∀ k : Fin 6, segAt _ (7 + 7 * f.1 + k.1) = some (0, 0, 8) by decide +kernel) ⟨f, hf⟩ ⟨k, hk⟩
  · exact (show ∀ f : Fin 6, segAt _ (48 + f.1) = some (0, 0, 4) ∧ segAt _ (54 + f.1) = some (0, 0, 100) ∧ segAt _ (60 + f.1) = some (0, 0, 63) by decide +kernel) ⟨f, hf⟩
/-- a line 'name' -/
noncomputable def nam1 (y : Int) (k : Nat) (s : TS) : TS := if s.2.1 = 0 ∧ s.1.1 = 2 ∧ k = 6 ∧ s.1.2.2.2 < y then errS 3 s else s
noncomputable def namN (B : Nat → Int) (n : Nat) (y : Int) (k : Nat) (s : TS) : TS := numT B n 0 (y - 1) (nam1 y k s)
noncomputable def namR (y : Int) (k : Nat) (s : TS) : Int := numR 0 (y - 1) (nam1 y k s)
noncomputable def namW (B : Nat → Int) (n : Nat) (y : Int) (F : Nat) : Nat → Nat → TS → (Nat → Int) → TS × Nat × (Nat → Int)
  | 0, k, s, g => (s, k, g)
  | f + 1, k, s, g => if (namN B n y k s).2.1 = 0 then (if (namN B n y k s).1.1 = 3 then (namN B n y k s, k + 1, updI g (7 + 7 * F + k) (namR y k s)) else namW B n y F f (k + 1) (namN B n y k s) (updI g (7 + 7 * F + k) (namR y k s))) else (namN B n y k s, k, g)
noncomputable def namZ (F : Nat) (x : TS × Nat × (Nat → Int)) : Nat → Int := if x.1.2.1 = 0 then updI (updI (updI x.2.2 (6 + 7 * F) (x.2.1 : Int)) (48 + F) 1) 3 ((F : Int) + 1) else x.2.2
theorem nam_6 {B : Nat → Int} {n : Nat} {y : Int} {s : TS} : ¬ (namN B n y 6 s).2.1 = 0 := by
  intro h
  obtain ⟨h1, h2, h3, h4, h5⟩ := num_ok (B := B) (n := n) (lo := 0) (hi := y - 1) (s := nam1 y 6 s) h
  unfold nam1 at h1 h2 h3
  split at h1
  · exact err_ok (by decide) h1
  · next q =>
    rw [if_neg q] at h2 h3
    exact q ⟨h1, h2, rfl, by omega⟩
theorem nm_98 {n F k : Nat} {B g td : Nat → Int} {s : TS} {w0 w : va_W} (hF : F < 6) (hk : k ≤ 6) (g3 : g 3 = (F : Int)) (h : MSF ad tys n B g td w0 s w) : V l D tys A 226 6 0 0 (fun r w => r = none ∧ MSF ad tys n B (updI (updI (updI g (6 + 7 * F) (k : Int)) (48 + F) 1) 3 ((F : Int) + 1)) td w0 s w) 0 0 98 [(0, .ref (ad 90)), (1, .int (Int32.ofInt (F : Int))), (2, .int (Int32.ofInt (k : Int)))] [] w := by
  obtain ⟨s96, e96, gN, gD, s3, s0, s4, s5⟩ := g96n
  refine V_aload (v := ad 90) mi_226_98 (by simp [stL, lv_args, Value.category]) ?_
  refine V_getI mi_226_99 h.1 (rref gr14 (by omega) h.1) ?_
  refine V_ipush mi_226_102 ?_
  refine V_ipush mi_226_104 ?_
  refine V_iload (v := Int32.ofInt ((F : Int))) mi_226_106 (by simp [stL, lv_args, Value.category]) ?_
  refine V_ibin mi_226_107 (by omega) ?_
  rw [ib2]
  refine V_ibin mi_226_108 (by omega) ?_
  rw [ib0]
  refine V_iload (v := Int32.ofInt ((k : Int))) mi_226_109 (by simp [stL, lv_args, Value.category]) ?_
  refine V_fst (z := (k : Int)) h e96 (j := 6 + 7 * F) (by omega) (by rw [show (6) + ((7) * ((F : Int))) = ((6 + 7 * F : Nat) : Int) by omega]) mi_226_110 (gN F hF).1 (by omega) (by omega) (by omega) (by omega) (fun w h => ?_)
  refine V_aload (v := ad 90) mi_226_111 (by simp [stL, lv_args, Value.category]) ?_
  refine V_getI mi_226_112 h.1 (rref gr14 (by omega) h.1) ?_
  refine V_ipush mi_226_115 ?_
  refine V_iload (v := Int32.ofInt ((F : Int))) mi_226_117 (by simp [stL, lv_args, Value.category]) ?_
  refine V_ibin mi_226_118 (by omega) ?_
  rw [ib0]
  refine V_ipush mi_226_119 ?_
  refine V_fst (z := 1) h e96 (j := 48 + F) (by omega) (by rw [show (48) + ((F : Int)) = ((48 + F : Nat) : Int) by omega]) mi_226_120 (gD F hF).1 (by omega) (by omega) (by omega) (by omega) (fun w h => ?_)
  refine V_aload (v := ad 90) mi_226_121 (by simp [stL, lv_args, Value.category]) ?_
  refine V_getI mi_226_122 h.1 (rref gr14 (by omega) h.1) ?_
  refine V_ipush mi_226_125 ?_
  refine V_dup2 mi_226_126 (by simp [Value.category]) (by simp [Value.category]) ?_
  refine V_fresh (a := 0) (x := 0) h (j := 3) (by omega) rfl mi_226_127 ?_
  refine V_ipush mi_226_128 ?_
  refine V_ibin mi_226_129 (by omega) ?_
  rw [ib0]
  have e3 : updI (updI g (6 + 7 * F) (k : Int)) (48 + F) 1 3 = (F : Int) := by unfold updI; rw [if_neg (by omega), if_neg (by omega)]; exact g3
  rw [e3]
  refine V_fst (z := (F : Int) + 1) h e96 (j := 3) (by omega) (by rw [show 3 = ((3 : Nat) : Int) by omega]) mi_226_130 s3 (by omega) (by omega) (by omega) (by omega) (fun w h => ?_)
  exact V_retV mi_226_131 ⟨rfl, h⟩
theorem nm_48 {n F f k : Nat} {B g td : Nat → Int} {s : TS} {w0 w : va_W} {y : Int} (y0 : 0 ≤ y) (y9 : y ≤ 9) (hF : F < 6) (hk : k ≤ 6) (hf7 : k + (f + 1) = 7) (g0 : g 0 = y) (g3 : g 3 = (F : Int)) (kk : ∀ (k : Nat) (s : TS) (g : Nat → Int) (w : va_W), k ≤ 6 → k + f = 7 → g 0 = y → g 3 = (F : Int) → MSF ad tys n B g td w0 s w → V l D tys A 226 6 0 0 (fun r w => r = none ∧ MSF ad tys n B (namZ F (namW B n y F f k s g)) td w0 (namW B n y F f k s g).1 w) 0 0 9 [(0, .ref (ad 90)), (1, .int (Int32.ofInt (F : Int))), (2, .int (Int32.ofInt (k : Int)))] [] w) (h : MSF ad tys n B g td w0 (nam1 y k s) w) : V l D tys A 226 6 0 0 (fun r w => r = none ∧ MSF ad tys n B (namZ F (namW B n y F (f + 1) k s g)) td w0 (namW B n y F (f + 1) k s g).1 w) 0 0 48 [(0, .ref (ad 90)), (1, .int (Int32.ofInt (F : Int))), (2, .int (Int32.ofInt (k : Int)))] [] w := by
  obtain ⟨s96, e96, gN, gD, s3, s0, s4, s5⟩ := g96n
  refine V_aload (v := ad 90) mi_226_48 (by simp [stL, lv_args, Value.category]) ?_
  refine V_ipush mi_226_49 ?_
  refine V_aload (v := ad 90) mi_226_50 (by simp [stL, lv_args, Value.category]) ?_
  refine V_getI mi_226_51 h.1 (rref gr14 (by omega) h.1) ?_
  refine V_ipush mi_226_54 ?_
  refine V_fresh (a := 0) (x := 0) h (j := 0) (by omega) rfl mi_226_55 ?_
  refine V_ipush mi_226_56 ?_
  refine V_ibin mi_226_57 (by omega) ?_
  rw [ib1]
  refine V_callM (As := [.int (Int32.ofInt (0)), .int (Int32.ofInt ((g 0) - (1)))]) (st := []) mi_226_58 (by omega) (by decide +kernel) (by decide +kernel) h.1 (numm_ct (by omega) (by omega) (by omega) (by omega) (MSF_q h)) (by omega) (show 2 = mN 219 by decide +kernel) (by simp [Value.category]) ?_
  rintro r w ⟨rfl, h1⟩
  have h := MSF_of h h1
  rw [g0] at h ⊢
  have h : MSF ad tys n B g td w0 (namN B n y k s) w := h
  change V l D tys A 226 6 0 0 _ 0 0 (58 + 3) _ ((some (Value.int (Int32.ofInt (namR y k s)))).toList ++ []) _
  refine V_istore mi_226_61 ?_
  obtain ⟨hG, ⟨T, ok, h10, h9, h8, h11, h12, h13⟩, -, O⟩ := id h
  obtain ⟨b1, b2, b3, b4⟩ := ok
  refine V_aload (v := ad 90) mi_226_62 (by simp [stL, lv_args, Value.category]) ?_
  refine V_callM (As := []) (st := []) mi_226_63 (by omega) (by decide +kernel) (by decide +kernel) h.1 (good_ct hG h12 b4.1 b4.2) (by omega) (show 0 = mN 214 by decide +kernel) (by simp [Value.category]) ?_
  rintro r w1 ⟨rfl, rfl⟩
  unfold namW
  by_cases hf : (namN B n y k s).2.1 = 0
  · rw [if_pos hf, if_pos hf]
    refine V_if mi_226_66 (fun _ => ?_) (fun h1 => absurd (show (1 : Int32) ≠ 0 by decide) h1)
    have k6 : k ≠ 6 := fun e => nam_6 (e ▸ hf)
    obtain ⟨-, -, c1, c2, -⟩ := num_ok (B := B) (n := n) (lo := 0) (hi := y - 1) (s := nam1 y k s) hf
    have c2 : namR y k s = (nam1 y k s).1.2.2.2 := c2
    have hj : 7 + 7 * F + k < 294 := by omega
    refine V_aload (v := ad 90) mi_226_70 (by simp [stL, lv_args, Value.category]) ?_
    refine V_getI mi_226_71 h.1 (rref gr14 (by omega) h.1) ?_
    refine V_ipush mi_226_74 ?_
    refine V_ipush mi_226_76 ?_
    refine V_iload (v := Int32.ofInt ((F : Int))) mi_226_78 (by simp [stL, lv_args, Value.category]) ?_
    refine V_ibin mi_226_79 (by omega) ?_
    rw [ib2]
    refine V_ibin mi_226_80 (by omega) ?_
    rw [ib0]
    refine V_ipush mi_226_81 ?_
    refine V_ibin mi_226_82 (by omega) ?_
    rw [ib0]
    refine V_iload (v := Int32.ofInt ((k : Int))) mi_226_83 (by simp [stL, lv_args, Value.category]) ?_
    refine V_ibin mi_226_84 (by omega) ?_
    rw [ib0]
    refine V_iload (v := Int32.ofInt (namR y k s)) mi_226_85 (by simp [stL, lv_args, Value.category]) ?_
    refine V_fst (z := namR y k s) h e96 (j := 7 + 7 * F + k) hj (by rw [show (((6) + ((7) * ((F : Int)))) + (1)) + ((k : Int)) = ((7 + 7 * F + k : Nat) : Int) by omega]) mi_226_86 ((gN F hF).2 k (by omega)) (by omega) (by omega) (by omega) (by omega) (fun w h => ?_)
    refine V_iinc (v := Int32.ofInt ((k : Int))) mi_226_87 (by simp [stL, lv_args, Value.category]) ?_
    rw [ia2]
    obtain ⟨hG, ⟨T, ok, h10, h9, h8, h11, h12, h13⟩, -, O⟩ := id h
    obtain ⟨b1, b2, b3, b4⟩ := ok
    refine V_aload (v := ad 90) mi_226_90 (by simp [stL, lv_args, Value.category]) ?_
    refine V_getI mi_226_91 h.1 (h10) ?_
    refine V_ipush mi_226_94 ?_
    refine V_cne mi_226_95 ⟨by omega, by omega⟩ ⟨by omega, by omega⟩ (fun q => ?_) (fun q => ?_)
    · rw [if_neg q]
      refine V_sub (lv' := [(0, .ref (ad 90)), (1, .int (Int32.ofInt (F : Int))), (2, .int (Int32.ofInt ((k + 1 : Nat) : Int)))]) (fun q hq => ?_) ?_
      · simp only [List.mem_cons, List.not_mem_nil, or_false] at hq
        rcases hq with rfl | rfl | rfl
        · simp [stL, lv_args, Value.category]
        · simp [stL, lv_args, Value.category]
        · simp [stL, lv_args, Value.category]
      · exact kk (k + 1) (namN B n y k s) (updI g (7 + 7 * F + k) (namR y k s)) w (by omega) (by omega) (by show (if 0 = 7 + 7 * F + k then _ else g 0) = _; rw [if_neg (by omega)]; exact g0) (by show (if 3 = 7 + 7 * F + k then _ else g 3) = _; rw [if_neg (by omega)]; exact g3) h
    · rw [if_pos q]
      unfold namZ
      rw [if_pos hf]
      refine V_sub (lv' := [(0, .ref (ad 90)), (1, .int (Int32.ofInt (F : Int))), (2, .int (Int32.ofInt ((k + 1 : Nat) : Int)))]) (fun q hq => ?_) ?_
      · simp only [List.mem_cons, List.not_mem_nil, or_false] at hq
        rcases hq with rfl | rfl | rfl
        · simp [stL, lv_args, Value.category]
        · simp [stL, lv_args, Value.category]
        · simp [stL, lv_args, Value.category]
      · exact nm_98 (k := k + 1) (g := updI g (7 + 7 * F + k) (namR y k s)) hF (by omega) (by show (if 3 = 7 + 7 * F + k then _ else g 3) = _; rw [if_neg (by omega)]; exact g3) h
  · rw [if_neg hf, if_neg hf]
    refine V_if mi_226_66 (fun h1 => absurd (show (0 : Int32) = 0 from rfl) h1) (fun _ => ?_)
    unfold namZ
    rw [if_neg hf]
    exact V_retV mi_226_69 ⟨rfl, h⟩
theorem nm_9 {n F : Nat} {B td : Nat → Int} {w0 : va_W} {y : Int} (y0 : 0 ≤ y) (y9 : y ≤ 9) (hF : F < 6) : ∀ (f k : Nat) (s : TS) (g : Nat → Int) (w : va_W), k ≤ 6 → k + f = 7 → g 0 = y → g 3 = (F : Int) → MSF ad tys n B g td w0 s w → V l D tys A 226 6 0 0 (fun r w => r = none ∧ MSF ad tys n B (namZ F (namW B n y F f k s g)) td w0 (namW B n y F f k s g).1 w) 0 0 9 [(0, .ref (ad 90)), (1, .int (Int32.ofInt (F : Int))), (2, .int (Int32.ofInt (k : Int)))] [] w
  | 0, k, s, g, w, hk, hf7, _, _, _ => by omega
  | f + 1, k, s, g, w, hk, hf7, g0, g3, h => by
    obtain ⟨hG, ⟨T, ok, h10, h9, h8, h11, h12, h13⟩, -, O⟩ := id h
    obtain ⟨b1, b2, b3, b4⟩ := ok
    have skip : ¬ (s.2.1 = 0 ∧ s.1.1 = 2 ∧ k = 6 ∧ s.1.2.2.2 < y) → V l D tys A 226 6 0 0 (fun r w => r = none ∧ MSF ad tys n B (namZ F (namW B n y F (f + 1) k s g)) td w0 (namW B n y F (f + 1) k s g).1 w) 0 0 48 [(0, .ref (ad 90)), (1, .int (Int32.ofInt (F : Int))), (2, .int (Int32.ofInt (k : Int)))] [] w := fun q => by
      refine nm_48 y0 y9 hF hk hf7 g0 g3 (fun k s g w a b c e h => nm_9 y0 y9 hF f k s g w a b c e h) ?_
      unfold nam1
      rw [if_neg q]
      exact h
    refine V_aload (v := ad 90) mi_226_9 (by simp [stL, lv_args, Value.category]) ?_
    refine V_callM (As := []) (st := []) mi_226_10 (by omega) (by decide +kernel) (by decide +kernel) h.1 (good_ct hG h12 b4.1 b4.2) (by omega) (show 0 = mN 214 by decide +kernel) (by simp [Value.category]) ?_
    rintro r w1 ⟨rfl, rfl⟩
    by_cases hf : s.2.1 = 0
    · rw [if_pos hf]
      refine V_if mi_226_13 (fun h1 => absurd (show (1 : Int32) = 0 from h1) (by decide)) (fun _ => ?_)
      refine V_aload (v := ad 90) mi_226_16 (by simp [stL, lv_args, Value.category]) ?_
      refine V_getI mi_226_17 h.1 (h10) ?_
      refine V_ipush mi_226_20 ?_
      refine V_cne mi_226_21 ⟨by omega, by omega⟩ ⟨by omega, by omega⟩ (fun q => ?_) (fun q => ?_)
      · exact skip (fun e => q e.2.1)
      · refine V_iload (v := Int32.ofInt ((k : Int))) mi_226_24 (by simp [stL, lv_args, Value.category]) ?_
        refine V_ipush mi_226_25 ?_
        refine V_cne mi_226_27 ⟨by omega, by omega⟩ ⟨by omega, by omega⟩ (fun q2 => ?_) (fun q2 => ?_)
        · exact skip (fun e => q2 (by omega))
        · refine V_aload (v := ad 90) mi_226_30 (by simp [stL, lv_args, Value.category]) ?_
          refine V_getI mi_226_31 h.1 (h11) ?_
          refine V_aload (v := ad 90) mi_226_34 (by simp [stL, lv_args, Value.category]) ?_
          refine V_getI mi_226_35 h.1 (rref gr14 (by omega) h.1) ?_
          refine V_ipush mi_226_38 ?_
          refine V_fresh (a := 0) (x := 0) h (j := 0) (by omega) rfl mi_226_39 ?_
          refine V_cge mi_226_40 ⟨b3.1, b3.2⟩ ⟨by omega, by omega⟩ (fun q3 => ?_) (fun q3 => ?_)
          · exact skip (fun e => by omega)
          · refine V_aload (v := ad 90) mi_226_43 (by simp [stL, lv_args, Value.category]) ?_
            refine V_ipush mi_226_44 ?_
            refine V_callM (As := [.int (Int32.ofInt (3))]) (st := []) mi_226_45 (by omega) (by decide +kernel) (by decide +kernel) h.1 (errm_ct (MSF_q h) (by omega) (by omega)) (by omega) (show 1 = mN 215 by decide +kernel) (by simp [Value.category]) ?_
            rintro r w2 ⟨rfl, h2⟩
            refine nm_48 y0 y9 hF hk hf7 g0 g3 (fun k s g w a b c e h => nm_9 y0 y9 hF f k s g w a b c e h) ?_
            unfold nam1
            rw [if_pos ⟨hf, q, by omega, by omega⟩]
            exact MSF_of h h2
    · rw [if_neg hf]
      exact V_if mi_226_13 (fun _ => skip (fun e => hf e.1)) (fun h1 => absurd (show (0 : Int32) = 0 from rfl) h1)
theorem namm_ct {n : Nat} {B fr td : Nat → Int} {s : TS} {w0 : va_W} {F : Nat} (hF : F < 6) (e3 : fr 3 = (F : Int)) (h : MSF ad tys n B fr td w0 s ws) : CT l D tys A 226 6 0 0 [.ref (ad 90)] ws (fun r w => r = none ∧ MSF ad tys n B (namZ F (namW B n (fr 0) F 7 0 s fr)) td w0 (namW B n (fr 0) F 7 0 s fr).1 w) := by
  obtain ⟨s96, e96, gN, gD, s3, s0, s4, s5⟩ := g96n
  have y0 := fr_seg h e96 (by omega) s0 (by omega) (by omega)
  refine CT_of_V (by omega) (show (1 : Nat) ≤ mML 226 by decide +kernel) ?_
  refine V_aload (v := ad 90) mi_226_0 (by simp [stL, lv_args, Value.category]) ?_
  refine V_getI mi_226_1 h.1 (rref gr14 (by omega) h.1) ?_
  refine V_ipush mi_226_4 ?_
  refine V_fresh (a := 0) (x := 0) h (j := 3) (by omega) rfl mi_226_5 ?_
  rw [e3]
  refine V_istore mi_226_6 ?_
  refine V_ipush mi_226_7 ?_
  refine V_istore mi_226_8 ?_
  refine V_sub (lv' := [(0, .ref (ad 90)), (1, .int (Int32.ofInt (F : Int))), (2, .int (Int32.ofInt ((0 : Nat) : Int)))]) (fun q hq => ?_) ?_
  · simp only [List.mem_cons, List.not_mem_nil, or_false] at hq
    rcases hq with rfl | rfl | rfl
    · simp [stL, lv_args, Value.category]
    · simp [stL, lv_args, Value.category]
    · simp [stL, lv_args, Value.category]
  · exact nm_9 y0.1 y0.2 hF 7 0 s fr ws (by omega) (by omega) rfl e3 h
end XMN
section XSP
variable {l : Launch} {D : va_G} {tys : List (ClassId × FieldType)} {A : Nat → Prop} {ad : Nat → Nat} {ws : va_W}
theorem numT_2ok {B : Nat → Int} {n : Nat} {lo hi : Int} {s : TS} (h : (numT B n lo hi s).2.1 = 0) : (num2 lo hi s).2.1 = 0 := by
  rw [numT_2] at h
  split at h
  · assumption
  · exact h
theorem word_ok {B : Nat → Int} {n : Nat} {cs : List Int32} {s : TS} (h : (wordS B n cs s).2.1 = 0) : s.2.1 = 0 := by
  unfold wordS at h
  split at h
  · exact h
  · exact absurd h (err_ok (by decide))
theorem need_wok {B : Nat → Int} {n : Nat} {cs : List Int32} {s : TS} (h : (needS B n cs s).2.1 = 0) : (wordS B n cs s).2.1 = 0 := by
  obtain ⟨h1, h2, -⟩ := need_ok h
  unfold wordS
  rw [if_pos h2]
  exact h1
theorem errS_bad {e : Int} {s : TS} (h : ¬ s.2.1 = 0) : errS e s = s := by
  unfold errS
  rw [if_neg h]
/-- the second of two folk: looked at, then held against the first; or the other way round -/
theorem oth_eq {f p : Int} {s : TS} (hf : s.2.1 = 0 → 0 ≤ f ∧ f ≤ p) : (if f = numR 0 p s then errS 2 (num2 0 p s) else num2 0 p s) = num2 0 p (otheP f s) := by
  by_cases g : s.2.1 = 0
  · by_cases k : s.1.1 = 2
    · by_cases v : s.1.2.2.2 = f
      · have hf := hf g
        have e : num2 0 p s = s := num2_G (fun _ => ⟨k, by omega, by omega⟩)
        obtain ⟨-, -, -, r, -⟩ := num2_ok (lo := 0) (hi := p) (s := s) (by rw [e]; exact g)
        have o : otheP f s = errS 2 s := by unfold otheP; rw [if_pos ⟨g, k, v⟩]
        have b : ¬ (errS 2 s).2.1 = 0 := err_ok (by decide)
        rw [r, v, if_pos rfl, e, o, num2_K (fun q => absurd q b), errS_bad b]
      · have o : otheP f s = s := by unfold otheP; rw [if_neg (fun q => v q.2.2)]
        rw [o]
        by_cases u : 0 ≤ s.1.2.2.2 ∧ s.1.2.2.2 ≤ p
        · have e : num2 0 p s = s := num2_G (fun _ => ⟨k, u⟩)
          obtain ⟨-, -, -, r, -⟩ := num2_ok (lo := 0) (hi := p) (s := s) (by rw [e]; exact g)
          rw [r, if_neg (fun q => v q.symm)]
        · have e : num2 0 p s = errS 2 s := num2_R (fun _ => ⟨k, u⟩)
          rw [e]
          split
          · exact errS_bad (err_ok (by decide))
          · rfl
    · have o : otheP f s = s := by unfold otheP; rw [if_neg (fun q => k q.2.1)]
      have e : num2 0 p s = errS 1 s := num2_K (fun _ => k)
      rw [o, e]
      split
      · exact errS_bad (err_ok (by decide))
      · rfl
  · have o : otheP f s = s := by unfold otheP; rw [if_neg (fun q => g q.1)]
    have e : num2 0 p s = errS 1 s := num2_K (fun q => absurd q g)
    rw [o, e]
    split
    · exact errS_bad (err_ok (by decide))
    · rfl
theorem oth_ok {f p : Int} {s : TS} (h : (num2 0 p (otheP f s)).2.1 = 0) : (num2 0 p s).2.1 = 0 ∧ numR 0 p s = numR 0 p (otheP f s) ∧ ¬ f = numR 0 p s := by
  obtain ⟨h1, h2, h3, h4, h5⟩ := num2_ok h
  have o : otheP f s = s := by
    unfold otheP at h1 ⊢
    split at h1
    · exact absurd h1 (err_ok (by decide))
    · next q => rw [if_neg q]
  rw [o] at h h1 h2 h3 h4 h5 ⊢
  refine ⟨h, rfl, ?_⟩
  rw [h4]
  intro q
  unfold otheP at o
  rw [if_pos ⟨h1, h2, q.symm⟩] at o
  have : (errS 2 s).2.1 = 0 := by rw [o]; exact h1
  exact err_ok (by decide) this
theorem XR_bad {fr td fr' td' : Nat → Int} {w0 w : va_W} {s s' : TS} (q : XR fr td w0 s w) (h : ¬ s'.2.1 = 0) : XR fr' td' w0 s' w := ⟨fun g => absurd g h, q.2⟩
theorem ofI {a b : Int} (ha : I32 a) (hb : I32 b) (h : Int32.ofInt a = Int32.ofInt b) : a = b := by
  have t1 : (Int32.ofInt a).toInt = a := Int32.toInt_ofInt_of_le ha.1 (by have := ha.2; omega)
  have t2 : (Int32.ofInt b).toInt = b := Int32.toInt_ofInt_of_le hb.1 (by have := hb.2; omega)
  rw [← t1, h, t2]
/-- what the class's draft holds at a place, by what the reference holds -/
theorem XR_at {fr td : Nat → Int} {w0 w : va_W} {s : TS} {c i j : Nat} {p : Int} (q : XR fr td w0 s w) (hp : rd w c i = some (.int (Int32.ofInt p))) (pI : I32 p) (g : s.2.1 = 0) (hj : j < 294) (hn : ¬ (102 ≤ j ∧ j < 246)) (e1 : c = 16 + hxC j) (e2 : i = hxI j) : p = fr j ∧ 0 ≤ fr j ∧ fr j ≤ 4095 := by
  obtain ⟨a, b, -⟩ := q.1 g
  have h := a j hj
  rw [← e1, ← e2, hp] at h
  have b := (b j hj).1
  simp only [Option.some.injEq, Value.int.injEq] at h
  have e : fx fr td j = fr j := by unfold fx; rw [if_neg hn]
  rw [e] at h
  exact ⟨ofI pI ⟨by omega, by omega⟩ h, b⟩
theorem XR_to {n : Nat} {B fr td : Nat → Int} {w0 w w2 : va_W} {s s2 : TS} (q : XR fr td w0 s w) (O : XMK w w2) (_ : XA ad tys n B s2 w2) (m : s2.2.1 = 0 → s.2.1 = 0) : XR fr td w0 s2 w2 := XR_of q O m
theorem len_hx {f : Nat} (hf : f < 6) : 6 + 7 * f < 294 ∧ ¬ (102 ≤ 6 + 7 * f ∧ 6 + 7 * f < 246) ∧ 17 = 16 + hxC (6 + 7 * f) ∧ f = hxI (6 + 7 * f) := by
  have e1 : hxC (6 + 7 * f) = 1 := by
    unfold hxC
    rw [if_neg (by omega), if_pos (by omega), if_pos (by omega)]
  have e2 : hxI (6 + 7 * f) = f := by
    unfold hxI
    rw [if_neg (by omega), if_pos (by omega), if_pos (by omega)]
    omega
  exact ⟨by omega, by omega, by omega, by omega⟩
theorem XR_bds {fr td : Nat → Int} {w0 w : va_W} {s : TS} (G : GOK ad tys GG w) (q : XR fr td w0 s w) (g : s.2.1 = 0) : (0 ≤ fr 0 ∧ fr 0 ≤ 9) ∧ (0 ≤ fr 1 ∧ fr 1 ≤ 4) ∧ (0 ≤ fr 2 ∧ fr 2 ≤ 24) ∧ (0 ≤ fr 3 ∧ fr 3 ≤ 6) ∧ (0 ≤ fr 4 ∧ fr 4 ≤ 12) ∧ ∀ f, f < 6 → 0 ≤ fr (6 + 7 * f) ∧ fr (6 + 7 * f) ≤ 7 := by
  obtain ⟨p0, h0, a0, b0⟩ := celO G g16f1 (by omega)
  obtain ⟨p1, h1, a1, b1⟩ := celO G g16f2 (by omega)
  obtain ⟨p2, h2, a2, b2⟩ := celO G g16f3 (by omega)
  obtain ⟨p3, h3, a3, b3⟩ := celO G g16f4 (by omega)
  obtain ⟨p4, h4, a4, b4⟩ := celO G g16f5 (by omega)
  have e0 := (XR_at (j := 0) q h0 ⟨by omega, by omega⟩ g (by omega) (by omega) rfl rfl).1
  have e1 := (XR_at (j := 1) q h1 ⟨by omega, by omega⟩ g (by omega) (by omega) rfl rfl).1
  have e2 := (XR_at (j := 2) q h2 ⟨by omega, by omega⟩ g (by omega) (by omega) rfl rfl).1
  have e3 := (XR_at (j := 3) q h3 ⟨by omega, by omega⟩ g (by omega) (by omega) rfl rfl).1
  have e4 := (XR_at (j := 4) q h4 ⟨by omega, by omega⟩ g (by omega) (by omega) rfl rfl).1
  refine ⟨by omega, by omega, by omega, by omega, by omega, fun f hf => ?_⟩
  obtain ⟨segs, hg, hs⟩ := a17
  obtain ⟨z, hz, z0, z7⟩ := cel G hg (j := f) (by omega) (hs _ hf)
  obtain ⟨x1, x2, x3, x4⟩ := len_hx hf
  have e5 := (XR_at (j := 6 + 7 * f) q hz ⟨by omega, by omega⟩ g x1 x2 x3 x4).1
  omega
theorem bitO_b2 {a i : Int} (a0 : 0 ≤ a) (a1 : a ≤ 127) (i0 : 0 ≤ i) (i1 : i ≤ 6) : 0 ≤ bitO a i ∧ bitO a i ≤ 127 := by
  obtain ⟨x, rfl⟩ := Int.eq_ofNat_of_zero_le a0
  obtain ⟨y, rfl⟩ := Int.eq_ofNat_of_zero_le i0
  have h := (kb68 (a := x) (i := y) (by omega) (by omega)).2
  rw [kbO (a := x) (i := y) (by omega) (by omega)]
  exact ⟨by omega, by omega⟩
theorem XR_bit {fr td : Nat → Int} {w0 w : va_W} {s : TS} {j : Nat} (q : XR fr td w0 s w) (g : s.2.1 = 0) (h : 60 ≤ j ∧ j < 102) : fr j ≤ 127 := ((q.1 g).2.1 j (by omega)).2 h
/-- the other kinds of lines -/
noncomputable def stT (fr : Nat → Int) (B : Nat → Int) (n : Nat) (s : TS) : TS := numT B n 1 4 (folkT B n fr s)
noncomputable def stF (fr : Nat → Int) (B : Nat → Int) (n : Nat) (s : TS) : Nat → Int := if (stT fr B n s).2.1 = 0 then updI fr (48 + (folkR fr s).toNat) (numR 1 4 (folkT B n fr s)) else fr
noncomputable def deT (fr : Nat → Int) (B : Nat → Int) (n : Nat) (s : TS) : TS := numT B n 0 100 (folkT B n fr s)
noncomputable def deF (fr : Nat → Int) (B : Nat → Int) (n : Nat) (s : TS) : Nat → Int := if (deT fr B n s).2.1 = 0 then updI fr (54 + (folkR fr s).toNat) (numR 0 100 (folkT B n fr s)) else fr
noncomputable def foO (fr : Nat → Int) (B : Nat → Int) (n : Nat) (s : TS) : Nat := (otheR fr (folkR fr s) (folkT B n fr s)).toNat
noncomputable def foT (fr : Nat → Int) (B : Nat → Int) (n : Nat) (s : TS) : TS := otheT B n fr (folkR fr s) (folkT B n fr s)
noncomputable def foF (fr : Nat → Int) (B : Nat → Int) (n : Nat) (s : TS) : Nat → Int := if (foT fr B n s).2.1 = 0 then updI fr (60 + foO fr B n s) (bitO (fr (60 + foO fr B n s)) (folkR fr s)) else fr
noncomputable def xName : List Int32 := xw 17
noncomputable def xStam : List Int32 := xw 18
noncomputable def xDeaf : List Int32 := xw 19
noncomputable def xGoes : List Int32 := xw 20
noncomputable def xKnow : List Int32 := xw 21
noncomputable def xSays : List Int32 := xw 22
noncomputable def xFoe : List Int32 := xw 23
theorem xw_eq : xw 0 = xName ∧ xw 1 = xStam ∧ xw 2 = xDeaf ∧ xw 3 = xGoes ∧ xw 4 = xKnow ∧ xw 5 = xSays ∧ xw 6 = xFoe ∧ xw 7 = xHill ∧ xw 8 = xSyll ∧ xw 9 = xPlac ∧ xw 10 = xHour ∧ xw 11 = xAt := by decide +kernel
/-- a line behind the first: where the reader then stands, and what is read -/
noncomputable def linN (B : Nat → Int) (n : Nat) (fr td : Nat → Int) (s : TS) : TS × (Nat → Int) × (Nat → Int) :=
  if isSp B n xName s = true then (if fr 3 = 6 then (errS 3 s, fr, td) else ((namW B n (fr 0) (fr 3).toNat 7 0 (advS B n s) fr).1, namZ (fr 3).toNat (namW B n (fr 0) (fr 3).toNat 7 0 (advS B n s) fr), td))
  else if isSp B n xStam s = true then (stT fr B n (advS B n s), stF fr B n (advS B n s), td)
  else if isSp B n xDeaf s = true then (deT fr B n (advS B n s), deF fr B n (advS B n s), td)
  else if isSp B n xGoes s = true then (goT fr B n (advS B n s), fr, goD fr td B n (advS B n s))
  else if isSp B n xKnow s = true then (knT fr B n (advS B n s), knG fr B n (advS B n s), td)
  else if isSp B n xSays s = true then (if fr 4 = 12 then (errS 3 s, fr, td) else (saT fr B n (advS B n s), saG fr B n (advS B n s), td))
  else if isSp B n xFoe s = true then (foT fr B n (advS B n s), foF fr B n (advS B n s), td)
  else (errS 1 s, fr, td)
/-- a line, up to its sign -/
noncomputable def linW (B : Nat → Int) (n : Nat) (fr td : Nat → Int) (s : TS) : TS × (Nat → Int) × (Nat → Int) := if fr 5 = 0 then (firT B n s, firF B n fr s, td) else linN B n fr td s
/-- a whole line -/
noncomputable def linS (B : Nat → Int) (n : Nat) (x : TS × (Nat → Int) × (Nat → Int)) : TS × (Nat → Int) × (Nat → Int) := ((if (signS (linW B n x.2.1 x.2.2 x.1).1).2.1 = 0 then advS B n (signS (linW B n x.2.1 x.2.2 x.1).1) else signS (linW B n x.2.1 x.2.2 x.1).1), updI (linW B n x.2.1 x.2.2 x.1).2.1 5 ((linW B n x.2.1 x.2.2 x.1).2.1 5 + 1), (linW B n x.2.1 x.2.2 x.1).2.2)
/-- all lines -/
noncomputable def linA (B : Nat → Int) (n : Nat) : Nat → TS × (Nat → Int) × (Nat → Int) → TS × (Nat → Int) × (Nat → Int)
  | 0, x => x
  | f + 1, x => if x.1.2.1 = 0 ∧ ¬ x.1.1.1 = 0 then linA B n f (linS B n x) else x
end XSP
