section XHC
variable {l : Launch} {D : va_G} {tys : List (ClassId × FieldType)} {A : Nat → Prop} {ad : Nat → Nat} {ws : va_W}
theorem hok_up {G : Nat → Int} {j : Nat} {z : Int} (h : hOK G) (hz : I32 z) : hOK (updI G j z) := fun i hi => by
  show I32 (if i = j then z else G i)
  split
  · exact hz
  · exact h i hi
/-- what the class may change besides, when its hill changes -/
noncomputable def XO (w0 w : va_W) : Prop := ∀ c j, ¬ ((4 ≤ c ∧ c ≤ 15) ∨ (29 ≤ c ∧ c ≤ 35)) → rd w c j = rd w0 c j
theorem XO_rf {w : va_W} : XO w w := fun _ _ _ => rfl
noncomputable def MO (w0 w : va_W) : Prop := ∀ c j, c ≠ 91 → rd w c j = rd w0 c j
theorem MO_rf {w : va_W} : MO w w := fun _ _ _ => rfl
theorem set_ct (hAD : ∀ i : Nat, ad (1000 + i) = D.2 1000 i) (hG : GOK ad tys GG ws) : ∃ d', d' < 7 ∧ CT l D tys A 73 d' 0 0 [.ref (ad 0)] ws (fun r w => r = none ∧ GOK ad tys GG w ∧ ∀ c j, ¬ (29 ≤ c ∧ c ≤ 35) → rd w c j = rd ws c j) := by
  obtain ⟨d5, k1, k2⟩ := rSet hAD (l := l) (tys := tys) (A := A) [.ref (ad 0)] ws ⟨rfl, trivial⟩ hG (fun q hq => by cases hq)
  refine ⟨d5, k1, CT_post k2 (fun r w h => ?_)⟩
  obtain ⟨G4, f4, n4, -⟩ := h
  refine ⟨?_, G4, fun c j hn => f4.1 c (fun hc => hn (by have hc : c ∈ [29, 30, 31, 32, 33, 34, 35] := hc; simp only [List.mem_cons, List.not_mem_nil, or_false] at hc; omega)) j⟩
  cases r with
  | none => rfl
  | some v => exact n4.elim
noncomputable def okSy (G : Nat → Int) (f o i h : Int) : Prop := (0 ≤ f ∧ f < G 3) ∧ ((0 ≤ o ∧ o < G 3) ∧ 0 ≤ i ∧ i < G (6 + 7 * o.toNat)) ∧ 0 ≤ h ∧ h < G 2
noncomputable def sayG (G : Nat → Int) (f o i h : Int) : Nat → Int := updI (updI (updI (updI (updI G (246 + 4 * (G 4).toNat + 0) f) (246 + 4 * (G 4).toNat + 1) o) (246 + 4 * (G 4).toNat + 2) i) (246 + 4 * (G 4).toNat + 3) h) 4 (G 4 + 1)
theorem say_hy {k r : Nat} (hk : k < 12) (hr : r < 4) : 246 + 4 * k + r < 294 ∧ 12 + r = 4 + hxC (246 + 4 * k + r) ∧ k = hxI (246 + 4 * k + r) := by
  obtain ⟨⟨a, -⟩, b, c⟩ := say_hx hk hr
  exact ⟨a, by omega, c⟩
theorem adh_ct {G : Nat → Int} (hG : GOK ad tys GG ws) (hX : HX 4 G ws) (hB : HB G) {a b c e : Int} (h12 : G 4 < 12) : CT l D tys A 112 1 0 0 [.ref (ad 4), .int (Int32.ofInt (a)), .int (Int32.ofInt (b)), .int (Int32.ofInt (c)), .int (Int32.ofInt (e))] ws (fun r w => r = none ∧ GOK ad tys GG w ∧ HX 4 (sayG G a b c e) w ∧ XO ws w) := by
  refine CT_of_V (by omega) (show (5 : Nat) ≤ mML 112 by decide +kernel) ?_
  refine V_aload (v := ad 4) mi_112_0 (by simp [stL, lv_args, Value.category]) ?_
  refine V_gO mi_112_1 g4o hG (show rd ws 4 5 = some (.int (Int32.ofInt (G 4))) from hx0 hX (i := 5) (by omega)) ?_
  refine V_ipush mi_112_4 ?_
  refine V_cge mi_112_6 ⟨by have := hB.b4; omega, by have := hB.b4; omega⟩ ⟨by omega, by omega⟩ (fun q => ?_) (fun q => ?_)
  · exact absurd q (by omega)
  · obtain ⟨k, hk⟩ := Int.eq_ofNat_of_zero_le hB.b4.1
    have k12 : k < 12 := by omega
    have kn : (G 4).toNat = k := by omega
    have h4 : rd ws 4 5 = some (.int (Int32.ofInt (k : Int))) := by rw [← hk]; exact hx0 hX (i := 5) (by omega)
    obtain ⟨s12, e12, f12⟩ := a12
    refine V_aload (v := ad 4) mi_112_9 (by simp [stL, lv_args, Value.category]) ?_
    refine V_gR mi_112_10 g4r13 (by omega) hG ?_
    refine V_aload (v := ad 4) mi_112_13 (by simp [stL, lv_args, Value.category]) ?_
    refine V_gO mi_112_14 g4o hG (h4) ?_
    refine V_iload (v := Int32.ofInt (a)) mi_112_17 (by simp [stL, lv_args, Value.category]) ?_
    refine V_stat (As := [.ref (ad 12), .int (Int32.ofInt ((k : Int))), .int (Int32.ofInt (a))]) (st := []) mi_112_18 (by omega) (put_ct (j := k) hG e12 k12 (by omega) (f12 _ k12) (i32b _).1 (i32b _).2) (by omega) (show 3 = mN 148 by decide +kernel) (by simp [Value.category]) ⟨Nat.le_refl _, Nat.le_refl _⟩ ?_
    rintro r w0 ⟨rfl, G0, U0⟩
    obtain ⟨y1, y2, y3⟩ := say_hy k12 (r := 0) (by omega)
    have hX0 := HX_upd (j := 246 + 4 * k + 0) (z := a) hX y1 (by rw [← y2, ← y3]; exact U0)
    have h4_0 := (upd_ne U0 (by omega)).trans h4
    obtain ⟨s13, e13, f13⟩ := a13
    refine V_aload (v := ad 4) mi_112_21 (by simp [stL, lv_args, Value.category]) ?_
    refine V_gR mi_112_22 g4r14 (by omega) G0 ?_
    refine V_aload (v := ad 4) mi_112_25 (by simp [stL, lv_args, Value.category]) ?_
    refine V_gO mi_112_26 g4o G0 (h4_0) ?_
    refine V_iload (v := Int32.ofInt (b)) mi_112_29 (by simp [stL, lv_args, Value.category]) ?_
    refine V_stat (As := [.ref (ad 13), .int (Int32.ofInt ((k : Int))), .int (Int32.ofInt (b))]) (st := []) mi_112_30 (by omega) (put_ct (j := k) G0 e13 k12 (by omega) (f13 _ k12) (i32b _).1 (i32b _).2) (by omega) (show 3 = mN 148 by decide +kernel) (by simp [Value.category]) ⟨Nat.le_refl _, Nat.le_refl _⟩ ?_
    rintro r w1 ⟨rfl, G1, U1⟩
    obtain ⟨y1, y2, y3⟩ := say_hy k12 (r := 1) (by omega)
    have hX1 := HX_upd (j := 246 + 4 * k + 1) (z := b) hX0 y1 (by rw [← y2, ← y3]; exact U1)
    have h4_1 := (upd_ne U1 (by omega)).trans h4_0
    obtain ⟨s14, e14, f14⟩ := a14
    refine V_aload (v := ad 4) mi_112_33 (by simp [stL, lv_args, Value.category]) ?_
    refine V_gR mi_112_34 g4r15 (by omega) G1 ?_
    refine V_aload (v := ad 4) mi_112_37 (by simp [stL, lv_args, Value.category]) ?_
    refine V_gO mi_112_38 g4o G1 (h4_1) ?_
    refine V_iload (v := Int32.ofInt (c)) mi_112_41 (by simp [stL, lv_args, Value.category]) ?_
    refine V_stat (As := [.ref (ad 14), .int (Int32.ofInt ((k : Int))), .int (Int32.ofInt (c))]) (st := []) mi_112_42 (by omega) (put_ct (j := k) G1 e14 k12 (by omega) (f14 _ k12) (i32b _).1 (i32b _).2) (by omega) (show 3 = mN 148 by decide +kernel) (by simp [Value.category]) ⟨Nat.le_refl _, Nat.le_refl _⟩ ?_
    rintro r w2 ⟨rfl, G2, U2⟩
    obtain ⟨y1, y2, y3⟩ := say_hy k12 (r := 2) (by omega)
    have hX2 := HX_upd (j := 246 + 4 * k + 2) (z := c) hX1 y1 (by rw [← y2, ← y3]; exact U2)
    have h4_2 := (upd_ne U2 (by omega)).trans h4_1
    obtain ⟨s15, e15, f15⟩ := a15
    refine V_aload (v := ad 4) mi_112_45 (by simp [stL, lv_args, Value.category]) ?_
    refine V_gR mi_112_46 g4r16 (by omega) G2 ?_
    refine V_aload (v := ad 4) mi_112_49 (by simp [stL, lv_args, Value.category]) ?_
    refine V_gO mi_112_50 g4o G2 (h4_2) ?_
    refine V_iload (v := Int32.ofInt (e)) mi_112_53 (by simp [stL, lv_args, Value.category]) ?_
    refine V_stat (As := [.ref (ad 15), .int (Int32.ofInt ((k : Int))), .int (Int32.ofInt (e))]) (st := []) mi_112_55 (by omega) (put_ct (j := k) G2 e15 k12 (by omega) (f15 _ k12) (i32b _).1 (i32b _).2) (by omega) (show 3 = mN 148 by decide +kernel) (by simp [Value.category]) ⟨Nat.le_refl _, Nat.le_refl _⟩ ?_
    rintro r w3 ⟨rfl, G3, U3⟩
    obtain ⟨y1, y2, y3⟩ := say_hy k12 (r := 3) (by omega)
    have hX3 := HX_upd (j := 246 + 4 * k + 3) (z := e) hX2 y1 (by rw [← y2, ← y3]; exact U3)
    have h4_3 := (upd_ne U3 (by omega)).trans h4_2
    refine V_aload (v := ad 4) mi_112_58 (by simp [stL, lv_args, Value.category]) ?_
    refine V_dup mi_112_59 (by simp [Value.category]) ?_
    refine V_gO mi_112_60 g4o G3 (h4_3) ?_
    refine V_ipush mi_112_63 ?_
    refine V_ibin mi_112_64 (by omega) ?_
    rw [ib0]
    refine V_pO mi_112_65 g4f5 (by omega) (by decide +kernel) (by decide +kernel) G3 (by rw [Int32.toInt_ofInt_of_le (by omega) (by omega)]; omega) (by rw [Int32.toInt_ofInt_of_le (by omega) (by omega)]; omega) (fun w4 G4 U4 => ?_)
    have hX4 := HX_upd (j := 4) (z := (k : Int) + 1) hX3 (by omega) U4
    refine V_retV mi_112_68 ⟨rfl, G4, ?_, fun c' j hn => (upd_ne U4 (by omega)).trans ((upd_ne U3 (by omega)).trans ((upd_ne U2 (by omega)).trans ((upd_ne U1 (by omega)).trans (upd_ne U0 (by omega)))))⟩
    unfold sayG
    rw [kn, hk]
    exact hX4
theorem sayX_ct (hAD : ∀ i : Nat, ad (1000 + i) = D.2 1000 i) {G : Nat → Int} (hG : GOK ad tys GG ws) (hX : HX 4 G ws) (hB : HB G) {f o i h : Int} (fI : I32 f) (oI : I32 o) (iI : I32 i) (hI : I32 h) : CT l D tys A 41 8 0 0 [.ref (ad 0), .int (Int32.ofInt (f)), .int (Int32.ofInt (o)), .int (Int32.ofInt (i)), .int (Int32.ofInt (h))] ws (fun r w => GOK ad tys GG w ∧ XO ws w ∧ (¬ okSy G f o i h → r = some (.int (Int32.ofInt (-2))) ∧ HX 4 G w) ∧ (okSy G f o i h → (G 4 = 12 → r = some (.int (Int32.ofInt (-3))) ∧ HX 4 G w) ∧ (G 4 < 12 → r = some (.int (Int32.ofInt (G 4))) ∧ HX 4 (sayG G f o i h) w))) := by
  refine CT_of_V (by omega) (show (5 : Nat) ≤ mML 41 by decide +kernel) ?_
  refine V_aload (v := ad 0) mi_41_0 (by simp [stL, lv_args, Value.category]) ?_
  refine V_gR mi_41_1 g0r2 (by omega) hG ?_
  refine V_iload (v := Int32.ofInt (f)) mi_41_4 (by simp [stL, lv_args, Value.category]) ?_
  refine V_cO (As := [.int (Int32.ofInt (f))]) (st := []) mi_41_5 (by omega) (by decide +kernel) (by decide +kernel) (by omega) g4o hG (hfk_ct hG hX hB fI) (by omega) (show 1 = mN 102 by decide +kernel) (by simp [Value.category]) ?_
  rintro r w1 ⟨rfl, rfl⟩
  refine V_beq mi_41_8  (fun c1 => ?_) (fun c1 => ?_)
  · refine V_ipush mi_41_35 ?_
    exact V_retI mi_41_37 (fun h => absurd h (by decide +kernel)) ⟨hG, XO_rf, fun _ => ⟨rfl, hX⟩, fun k => absurd k (fun k => of_decide_eq_false c1 k.1)⟩
  · refine V_aload (v := ad 0) mi_41_11 (by simp [stL, lv_args, Value.category]) ?_
    refine V_gR mi_41_12 g0r2 (by omega) hG ?_
    refine V_iload (v := Int32.ofInt (o)) mi_41_15 (by simp [stL, lv_args, Value.category]) ?_
    refine V_iload (v := Int32.ofInt (i)) mi_41_16 (by simp [stL, lv_args, Value.category]) ?_
    refine V_cO (As := [.int (Int32.ofInt (o)), .int (Int32.ofInt (i))]) (st := []) mi_41_17 (by omega) (by decide +kernel) (by decide +kernel) (by omega) g4o hG (hsy_ct hG hX hB oI iI) (by omega) (show 2 = mN 105 by decide +kernel) (by simp [Value.category]) ?_
    rintro r w2 ⟨rfl, rfl⟩
    refine V_beq mi_41_20  (fun c2 => ?_) (fun c2 => ?_)
    · refine V_ipush mi_41_35 ?_
      exact V_retI mi_41_37 (fun h => absurd h (by decide +kernel)) ⟨hG, XO_rf, fun _ => ⟨rfl, hX⟩, fun k => absurd k (fun k => of_decide_eq_false c2 k.2.1)⟩
    · refine V_aload (v := ad 0) mi_41_23 (by simp [stL, lv_args, Value.category]) ?_
      refine V_gR mi_41_24 g0r2 (by omega) hG ?_
      refine V_iload (v := Int32.ofInt (h)) mi_41_27 (by simp [stL, lv_args, Value.category]) ?_
      refine V_cO (As := [.int (Int32.ofInt (h))]) (st := []) mi_41_29 (by omega) (by decide +kernel) (by decide +kernel) (by omega) g4o hG (hho_ct hG hX hB hI) (by omega) (show 1 = mN 103 by decide +kernel) (by simp [Value.category]) ?_
      rintro r w3 ⟨rfl, rfl⟩
      refine V_bne mi_41_32  (fun c3 => ?_) (fun c3 => ?_)
      · have ok : okSy G f o i h := ⟨of_decide_eq_true c1, of_decide_eq_true c2, of_decide_eq_true c3⟩
        have b4 := hB.b4
        refine V_aload (v := ad 0) mi_41_38 (by simp [stL, lv_args, Value.category]) ?_
        refine V_gR mi_41_39 g0r2 (by omega) hG ?_
        refine V_gO mi_41_42 g4o hG (show rd _ 4 5 = some (.int (Int32.ofInt (G 4))) from hx0 hX (i := 5) (by omega)) ?_
        refine V_ipush mi_41_45 ?_
        refine V_clt mi_41_47 ⟨by omega, by omega⟩ ⟨by omega, by omega⟩ (fun q4 => ?_) (fun q4 => ?_)
        · refine V_aload (v := ad 0) mi_41_53 (by simp [stL, lv_args, Value.category]) ?_
          refine V_gR mi_41_54 g0r2 (by omega) hG ?_
          refine V_gO mi_41_57 g4o hG (show rd _ 4 5 = some (.int (Int32.ofInt (G 4))) from hx0 hX (i := 5) (by omega)) ?_
          refine V_istore mi_41_60 ?_
          refine V_aload (v := ad 0) mi_41_62 (by simp [stL, lv_args, Value.category]) ?_
          refine V_gR mi_41_63 g0r2 (by omega) hG ?_
          refine V_iload (v := Int32.ofInt (f)) mi_41_66 (by simp [stL, lv_args, Value.category]) ?_
          refine V_iload (v := Int32.ofInt (o)) mi_41_67 (by simp [stL, lv_args, Value.category]) ?_
          refine V_iload (v := Int32.ofInt (i)) mi_41_68 (by simp [stL, lv_args, Value.category]) ?_
          refine V_iload (v := Int32.ofInt (h)) mi_41_69 (by simp [stL, lv_args, Value.category]) ?_
          refine V_cO (As := [.int (Int32.ofInt (f)), .int (Int32.ofInt (o)), .int (Int32.ofInt (i)), .int (Int32.ofInt (h))]) (st := []) mi_41_71 (by omega) (by decide +kernel) (by decide +kernel) (by omega) g4o hG (adh_ct hG hX hB (by omega)) (by omega) (show 4 = mN 112 by decide +kernel) (by simp [Value.category]) ?_
          rintro r w4 ⟨rfl, G4, hX4, O4⟩
          obtain ⟨ds, dl, sc⟩ := set_ct (l := l) (A := A) hAD G4
          refine V_aload (v := ad 0) mi_41_74 (by simp [stL, lv_args, Value.category]) ?_
          refine V_cO (As := []) (st := []) mi_41_75 (by omega) (by decide +kernel) (by decide +kernel) (by omega) g0o G4 (sc) (by omega) (show 0 = mN 73 by decide +kernel) (by simp [Value.category]) ?_
          rintro r w5 ⟨rfl, G5, O5⟩
          refine V_iload (v := Int32.ofInt (G 4)) mi_41_78 (by simp [stL, lv_args, Value.category]) ?_
          exact V_retI mi_41_80 (fun h => absurd h (by decide +kernel)) ⟨G5, fun c j hn => (O5 c j (by omega)).trans (O4 c j hn), fun k => absurd ok k, fun _ => ⟨fun k => absurd k (by omega), fun _ => ⟨rfl, HX_keep hX4 (fun c i h1 h2 => O5 c i (by omega))⟩⟩⟩
        · refine V_ipush mi_41_50 ?_
          exact V_retI mi_41_52 (fun h => absurd h (by decide +kernel)) ⟨hG, XO_rf, fun k => absurd ok k, fun _ => ⟨fun _ => ⟨rfl, hX⟩, fun k => absurd k (by omega)⟩⟩
      · refine V_ipush mi_41_35 ?_
        exact V_retI mi_41_37 (fun h => absurd h (by decide +kernel)) ⟨hG, XO_rf, fun _ => ⟨rfl, hX⟩, fun k => absurd k (fun k => of_decide_eq_false c3 k.2.2)⟩
theorem sayM_ct {G : Nat → Int} (hG : GOK ad tys GG ws) (hW : W91 G ws) (hB : HB G) {f o i h : Int} (fI : I32 f) (oI : I32 o) (iI : I32 i) (hI : I32 h) : CT l D tys A 291 4 0 0 [.ref (ad 90), .int (Int32.ofInt (f)), .int (Int32.ofInt (o)), .int (Int32.ofInt (i)), .int (Int32.ofInt (h))] ws (fun r w => GOK ad tys GG w ∧ MO ws w ∧ (¬ okSy G f o i h → r = some (.int (Int32.ofInt (-2))) ∧ W91 G w) ∧ (okSy G f o i h → (G 4 = 12 → r = some (.int (Int32.ofInt (-3))) ∧ W91 G w) ∧ (G 4 < 12 → r = some (.int (Int32.ofInt (G 4))) ∧ W91 (sayG G f o i h) w))) := by
  obtain ⟨s91, e91, ⟨t0, t1, t2, t3, t4, t5⟩, sn, sd, st, sp, sy⟩ := g91s
  refine CT_of_V (by omega) (show (5 : Nat) ≤ mML 291 by decide +kernel) ?_
  refine V_aload (v := ad 90) mi_291_0 (by simp [stL, lv_args, Value.category]) ?_
  refine V_iload (v := Int32.ofInt (f)) mi_291_1 (by simp [stL, lv_args, Value.category]) ?_
  refine V_callM (As := [.int (Int32.ofInt (f))]) (st := []) mi_291_2 (by omega) (by decide +kernel) (by decide +kernel) hG (mfk_ct hG hW hB fI) (by omega) (show 1 = mN 199 by decide +kernel) (by simp [Value.category]) ?_
  rintro r w1 ⟨rfl, rfl⟩
  refine V_beq mi_291_5  (fun c1 => ?_) (fun c1 => ?_)
  · refine V_ipush mi_291_42 ?_
    exact V_retI mi_291_44 (fun h => absurd h (by decide +kernel)) ⟨hG, MO_rf, fun _ => ⟨rfl, hW⟩, fun k => absurd k (fun k => of_decide_eq_false c1 k.1)⟩
  · refine V_aload (v := ad 90) mi_291_8 (by simp [stL, lv_args, Value.category]) ?_
    refine V_iload (v := Int32.ofInt (o)) mi_291_9 (by simp [stL, lv_args, Value.category]) ?_
    refine V_callM (As := [.int (Int32.ofInt (o))]) (st := []) mi_291_10 (by omega) (by decide +kernel) (by decide +kernel) hG (mfk_ct hG hW hB oI) (by omega) (show 1 = mN 199 by decide +kernel) (by simp [Value.category]) ?_
    rintro r w2 ⟨rfl, rfl⟩
    refine V_beq mi_291_13  (fun c2 => ?_) (fun c2 => ?_)
    · refine V_ipush mi_291_42 ?_
      exact V_retI mi_291_44 (fun h => absurd h (by decide +kernel)) ⟨hG, MO_rf, fun _ => ⟨rfl, hW⟩, fun k => absurd k (fun k => of_decide_eq_false c2 k.2.1.1)⟩
    · have c22 := of_decide_eq_true c2
      obtain ⟨b30, b31⟩ := hB.b3
      obtain ⟨m, rfl⟩ := Int.eq_ofNat_of_zero_le c22.1
      have bl := hB.bl m (by omega)
      refine V_iload (v := Int32.ofInt (i)) mi_291_16 (by simp [stL, lv_args, Value.category]) ?_
      refine V_i2l mi_291_17 ?_
      rw [i2lx ⟨by omega, by omega⟩]
      refine V_lpush mi_291_18 ?_
      refine V_aload (v := ad 90) mi_291_19 (by simp [stL, lv_args, Value.category]) ?_
      refine V_iload (v := Int32.ofInt ((m : Int))) mi_291_20 (by simp [stL, lv_args, Value.category]) ?_
      refine V_callM (As := [.int (Int32.ofInt ((m : Int)))]) (st := [.long (Int64.ofInt (0)), .long (Int64.ofInt (i))]) mi_291_21 (by omega) (by decide +kernel) (by decide +kernel) hG (mle_ct (f := m) hG hW hB (by omega)) (by omega) (show 1 = mN 204 by decide +kernel) (by simp [Value.category]) ?_
      rintro r w3 ⟨rfl, rfl⟩
      refine V_ipush mi_291_24 ?_
      refine V_ibin mi_291_25 (by omega) ?_
      rw [ib1]
      refine V_i2l mi_291_26 ?_
      rw [i2lx ⟨by omega, by omega⟩]
      refine V_stat (As := [.long (Int64.ofInt (i)), .long (Int64.ofInt (0)), .long (Int64.ofInt ((G (6 + 7 * m)) - (1)))]) (st := []) mi_291_27 (by omega) (inM2 (m := i) (lo := 0) (hi := G (6 + 7 * m) - 1) (by omega) (by omega) (by omega) (by omega) (by omega) (by omega)) (by omega) (show 3 = mN 193 by decide +kernel) (by simp [Value.category]) ⟨Nat.le_refl _, Nat.le_refl _⟩ ?_
      rintro r w4 ⟨rfl, rfl⟩
      refine V_beq mi_291_30  (fun c3 => ?_) (fun c3 => ?_)
      · refine V_ipush mi_291_42 ?_
        exact V_retI mi_291_44 (fun h => absurd h (by decide +kernel)) ⟨hG, MO_rf, fun _ => ⟨rfl, hW⟩, fun k => absurd k (fun k => of_decide_eq_false c3 (by have := k.2.1.2; rw [Int.toNat_natCast] at this; omega))⟩
      · have c33 := of_decide_eq_true c3
        refine V_aload (v := ad 90) mi_291_33 (by simp [stL, lv_args, Value.category]) ?_
        refine V_iload (v := Int32.ofInt (h)) mi_291_34 (by simp [stL, lv_args, Value.category]) ?_
        refine V_callM (As := [.int (Int32.ofInt (h))]) (st := []) mi_291_36 (by omega) (by decide +kernel) (by decide +kernel) hG (mho_ct hG hW hB hI) (by omega) (show 1 = mN 201 by decide +kernel) (by simp [Value.category]) ?_
        rintro r w5 ⟨rfl, rfl⟩
        refine V_bne mi_291_39  (fun c4 => ?_) (fun c4 => ?_)
        · have ok : okSy G f (m : Int) i h := ⟨of_decide_eq_true c1, ⟨c22, by rw [Int.toNat_natCast]; omega⟩, of_decide_eq_true c4⟩
          have b4 := hB.b4
          obtain ⟨k, hk⟩ := Int.eq_ofNat_of_zero_le b4.1
          have kn : (G 4).toNat = k := by omega
          have c11 := of_decide_eq_true c1
          have c44 := of_decide_eq_true c4
          have b2 := hB.b2
          refine V_aload (v := ad 90) mi_291_45 (by simp [stL, lv_args, Value.category]) ?_
          refine V_getI mi_291_46 hG (rref gr1m (by omega) hG) ?_
          refine V_ipush mi_291_49 ?_
          refine V_aldX (j := 4) mi_291_50 rfl hG e91 (by omega) (by omega) (hW _ (by omega)) ?_
          refine V_ipush mi_291_51 ?_
          refine V_cne mi_291_53 ⟨by omega, by omega⟩ ⟨by omega, by omega⟩ (fun q4 => ?_) (fun q4 => ?_)
          · have k12 : k < 12 := by omega
            obtain ⟨y0, y1, y2, y3⟩ := sy k k12
            refine V_ipush mi_291_59 ?_
            refine V_ipush mi_291_62 ?_
            refine V_aload (v := ad 90) mi_291_63 (by simp [stL, lv_args, Value.category]) ?_
            refine V_getI mi_291_64 hG (rref gr1m (by omega) hG) ?_
            refine V_ipush mi_291_67 ?_
            refine V_aldX (j := 4) mi_291_68 rfl hG e91 (by omega) (by omega) (hW _ (by omega)) ?_
            refine V_ibin mi_291_69 (by omega) ?_
            rw [ib2]
            refine V_ibin mi_291_70 (by omega) ?_
            rw [ib0]
            rw [show (246 : Int) + 4 * G 4 = ((246 + 4 * k : Nat) : Int) by omega]
            refine V_istore mi_291_71 ?_
            refine V_aload (v := ad 90) mi_291_73 (by simp [stL, lv_args, Value.category]) ?_
            refine V_getI mi_291_74 hG (rref gr1m (by omega) hG) ?_
            refine V_iload (v := Int32.ofInt (((246 + 4 * k : Nat) : Int))) mi_291_77 (by simp [stL, lv_args, Value.category]) ?_
            refine V_ipush mi_291_79 ?_
            refine V_ibin mi_291_80 (by omega) ?_
            rw [ib0]
            refine V_iload (v := Int32.ofInt (f)) mi_291_81 (by simp [stL, lv_args, Value.category]) ?_
            refine V_astX (j := 246 + 4 * k + 0) mi_291_82 (by rw [show ((246 + 4 * k : Nat) : Int) + 0 = ((246 + 4 * k + 0 : Nat) : Int) by omega]) hG e91 (by omega) (by omega) y0 (by rw [Int32.toInt_ofInt_of_le (by omega) (by omega)]; omega) (by rw [Int32.toInt_ofInt_of_le (by omega) (by omega)]; omega) (fun v0 Gv0 Uv0 => ?_)
            have hW0 := w91_up hW Uv0
            refine V_aload (v := ad 90) mi_291_83 (by simp [stL, lv_args, Value.category]) ?_
            refine V_getI mi_291_84 Gv0 (rref gr1m (by omega) Gv0) ?_
            refine V_iload (v := Int32.ofInt (((246 + 4 * k : Nat) : Int))) mi_291_87 (by simp [stL, lv_args, Value.category]) ?_
            refine V_ipush mi_291_89 ?_
            refine V_ibin mi_291_90 (by omega) ?_
            rw [ib0]
            refine V_iload (v := Int32.ofInt ((m : Int))) mi_291_91 (by simp [stL, lv_args, Value.category]) ?_
            refine V_astX (j := 246 + 4 * k + 1) mi_291_92 (by rw [show ((246 + 4 * k : Nat) : Int) + 1 = ((246 + 4 * k + 1 : Nat) : Int) by omega]) Gv0 e91 (by omega) (by omega) y1 (by rw [Int32.toInt_ofInt_of_le (by omega) (by omega)]; omega) (by rw [Int32.toInt_ofInt_of_le (by omega) (by omega)]; omega) (fun v1 Gv1 Uv1 => ?_)
            have hW1 := w91_up hW0 Uv1
            refine V_aload (v := ad 90) mi_291_93 (by simp [stL, lv_args, Value.category]) ?_
            refine V_getI mi_291_94 Gv1 (rref gr1m (by omega) Gv1) ?_
            refine V_iload (v := Int32.ofInt (((246 + 4 * k : Nat) : Int))) mi_291_97 (by simp [stL, lv_args, Value.category]) ?_
            refine V_ipush mi_291_99 ?_
            refine V_ibin mi_291_100 (by omega) ?_
            rw [ib0]
            refine V_iload (v := Int32.ofInt (i)) mi_291_101 (by simp [stL, lv_args, Value.category]) ?_
            refine V_astX (j := 246 + 4 * k + 2) mi_291_102 (by rw [show ((246 + 4 * k : Nat) : Int) + 2 = ((246 + 4 * k + 2 : Nat) : Int) by omega]) Gv1 e91 (by omega) (by omega) y2 (by rw [Int32.toInt_ofInt_of_le (by omega) (by omega)]; omega) (by rw [Int32.toInt_ofInt_of_le (by omega) (by omega)]; omega) (fun v2 Gv2 Uv2 => ?_)
            have hW2 := w91_up hW1 Uv2
            refine V_aload (v := ad 90) mi_291_103 (by simp [stL, lv_args, Value.category]) ?_
            refine V_getI mi_291_104 Gv2 (rref gr1m (by omega) Gv2) ?_
            refine V_iload (v := Int32.ofInt (((246 + 4 * k : Nat) : Int))) mi_291_107 (by simp [stL, lv_args, Value.category]) ?_
            refine V_ipush mi_291_109 ?_
            refine V_ibin mi_291_110 (by omega) ?_
            rw [ib0]
            refine V_iload (v := Int32.ofInt (h)) mi_291_111 (by simp [stL, lv_args, Value.category]) ?_
            refine V_astX (j := 246 + 4 * k + 3) mi_291_113 (by rw [show ((246 + 4 * k : Nat) : Int) + 3 = ((246 + 4 * k + 3 : Nat) : Int) by omega]) Gv2 e91 (by omega) (by omega) y3 (by rw [Int32.toInt_ofInt_of_le (by omega) (by omega)]; omega) (by rw [Int32.toInt_ofInt_of_le (by omega) (by omega)]; omega) (fun v3 Gv3 Uv3 => ?_)
            have hW3 := w91_up hW2 Uv3
            refine V_aload (v := ad 90) mi_291_114 (by simp [stL, lv_args, Value.category]) ?_
            refine V_getI mi_291_115 Gv3 (rref gr1m (by omega) Gv3) ?_
            refine V_ipush mi_291_118 ?_
            refine V_dup2 mi_291_119 (by simp [Value.category]) (by simp [Value.category]) ?_
            have g4 : updI (updI (updI (updI G (246 + 4 * k + 0) f) (246 + 4 * k + 1) (m : Int)) (246 + 4 * k + 2) i) (246 + 4 * k + 3) h 4 = (k : Int) := by rw [updI_ne (by omega), updI_ne (by omega), updI_ne (by omega), updI_ne (by omega)]; exact hk
            refine V_aldX (j := 4) mi_291_120 rfl Gv3 e91 (by omega) (by omega) (show rd _ 91 4 = some (.int (Int32.ofInt (k : Int))) by rw [hW3 4 (by omega), g4]) ?_
            refine V_ipush mi_291_121 ?_
            refine V_ibin mi_291_122 (by omega) ?_
            rw [ib0]
            refine V_astX (j := 4) mi_291_123 rfl Gv3 e91 (by omega) (by omega) t4 (by rw [Int32.toInt_ofInt_of_le (by omega) (by omega)]; omega) (by rw [Int32.toInt_ofInt_of_le (by omega) (by omega)]; omega) (fun v4 Gv4 Uv4 => ?_)
            have hW4 := w91_up (j := 4) (z := (k : Int) + 1) hW3 Uv4
            refine V_aload (v := ad 90) mi_291_124 (by simp [stL, lv_args, Value.category]) ?_
            refine V_getI mi_291_125 Gv4 (rref gr1m (by omega) Gv4) ?_
            refine V_ipush mi_291_128 ?_
            refine V_aldX (j := 4) mi_291_129 rfl Gv4 e91 (by omega) (by omega) (upd_eq Uv4) ?_
            refine V_ipush mi_291_130 ?_
            refine V_ibin mi_291_131 (by omega) ?_
            rw [ib1]
            rw [show (k : Int) + 1 - 1 = G 4 by omega]
            refine V_retI mi_291_132 (fun h => absurd h (by decide +kernel)) ⟨Gv4, fun c j hc => (upd_ne Uv4 (by omega)).trans ((upd_ne Uv3 (by omega)).trans ((upd_ne Uv2 (by omega)).trans ((upd_ne Uv1 (by omega)).trans (upd_ne Uv0 (by omega))))), fun k => absurd ok k, fun _ => ⟨fun k => absurd k (by omega), fun _ => ⟨rfl, ?_⟩⟩⟩
            unfold sayG
            rw [kn, hk]
            exact hW4
          · refine V_ipush mi_291_56 ?_
            exact V_retI mi_291_58 (fun h => absurd h (by decide +kernel)) ⟨hG, MO_rf, fun k => absurd ok k, fun _ => ⟨fun _ => ⟨rfl, hW⟩, fun k => absurd k (by omega)⟩⟩
        · refine V_ipush mi_291_42 ?_
          exact V_retI mi_291_44 (fun h => absurd h (by decide +kernel)) ⟨hG, MO_rf, fun _ => ⟨rfl, hW⟩, fun k => absurd k (fun k => of_decide_eq_false c4 k.2.2)⟩
theorem unsX_ct (hAD : ∀ i : Nat, ad (1000 + i) = D.2 1000 i) {G : Nat → Int} (hG : GOK ad tys GG ws) (hX : HX 4 G ws) (hB : HB G) : CT l D tys A 42 8 0 0 [.ref (ad 0)] ws (fun r w => GOK ad tys GG w ∧ XO ws w ∧ (¬ 0 < G 5 → r = some (.int (Int32.ofInt (-2))) ∧ HX 4 G w) ∧ (0 < G 5 → (G 4 = 0 → r = some (.int (Int32.ofInt (-5))) ∧ HX 4 G w) ∧ (0 < G 4 → r = some (.int (Int32.ofInt (G 4 - 1))) ∧ HX 4 (updI G 4 (G 4 - 1)) w))) := by
  refine CT_of_V (by omega) (show (1 : Nat) ≤ mML 42 by decide +kernel) ?_
  have b4 := hB.b4
  refine V_aload (v := ad 0) mi_42_0 (by simp [stL, lv_args, Value.category]) ?_
  refine V_gR mi_42_1 g0r2 (by omega) hG ?_
  refine V_cO (As := []) (st := []) mi_42_4 (by omega) (by decide +kernel) (by decide +kernel) (by omega) g4o hG (hth_ct hG hX hB) (by omega) (show 0 = mN 101 by decide +kernel) (by simp [Value.category]) ?_
  rintro r w1 ⟨rfl, rfl⟩
  refine V_bne mi_42_7  (fun c1 => ?_) (fun c1 => ?_)
  · have ok := of_decide_eq_true c1
    refine V_aload (v := ad 0) mi_42_13 (by simp [stL, lv_args, Value.category]) ?_
    refine V_gR mi_42_14 g0r2 (by omega) hG ?_
    refine V_gO mi_42_17 g4o hG (show rd _ 4 5 = some (.int (Int32.ofInt (G 4))) from hx0 hX (i := 5) (by omega)) ?_
    refine V_zgt mi_42_20 ⟨by omega, by omega⟩ (fun q => ?_) (fun q => ?_)
    · refine V_aload (v := ad 0) mi_42_26 (by simp [stL, lv_args, Value.category]) ?_
      refine V_gR mi_42_27 g0r2 (by omega) hG ?_
      refine V_dup mi_42_30 (by simp [Value.category]) ?_
      refine V_gO mi_42_31 g4o hG (show rd _ 4 5 = some (.int (Int32.ofInt (G 4))) from hx0 hX (i := 5) (by omega)) ?_
      refine V_ipush mi_42_34 ?_
      refine V_ibin mi_42_35 (by omega) ?_
      rw [ib1]
      refine V_pO mi_42_36 g4f5 (by omega) (by decide +kernel) (by decide +kernel) hG (by rw [Int32.toInt_ofInt_of_le (by omega) (by omega)]; omega) (by rw [Int32.toInt_ofInt_of_le (by omega) (by omega)]; omega) (fun w2 G2 U2 => ?_)
      have hX2 := HX_upd (j := 4) (z := G 4 - 1) hX (by omega) U2
      obtain ⟨ds, dl, sc⟩ := set_ct (l := l) (A := A) hAD G2
      refine V_aload (v := ad 0) mi_42_39 (by simp [stL, lv_args, Value.category]) ?_
      refine V_cO (As := []) (st := []) mi_42_40 (by omega) (by decide +kernel) (by decide +kernel) (by omega) g0o G2 (sc) (by omega) (show 0 = mN 73 by decide +kernel) (by simp [Value.category]) ?_
      rintro r w3 ⟨rfl, G3, O3⟩
      have hX3 := HX_keep hX2 (fun c i h1 h2 => O3 c i (by omega))
      refine V_aload (v := ad 0) mi_42_43 (by simp [stL, lv_args, Value.category]) ?_
      refine V_gR mi_42_44 g0r2 (by omega) G3 ?_
      refine V_gO mi_42_47 g4o G3 (show rd w3 4 5 = some (.int (Int32.ofInt (G 4 - 1))) from (O3 _ _ (by omega)).trans (upd_eq U2)) ?_
      exact V_retI mi_42_50 (fun h => absurd h (by decide +kernel)) ⟨G3, fun c j hn => (O3 c j (by omega)).trans (upd_ne U2 (by omega)), fun k => absurd ok k, fun _ => ⟨fun k => absurd k (by omega), fun _ => ⟨rfl, hX3⟩⟩⟩
    · refine V_ipush mi_42_23 ?_
      exact V_retI mi_42_25 (fun h => absurd h (by decide +kernel)) ⟨hG, XO_rf, fun k => absurd ok k, fun _ => ⟨fun _ => ⟨rfl, hX⟩, fun k => absurd k (by omega)⟩⟩
  · refine V_ipush mi_42_10 ?_
    exact V_retI mi_42_12 (fun h => absurd h (by decide +kernel)) ⟨hG, XO_rf, fun _ => ⟨rfl, hX⟩, fun k => absurd k (of_decide_eq_false c1)⟩
theorem unsM_ct {G : Nat → Int} (hG : GOK ad tys GG ws) (hW : W91 G ws) (hB : HB G) : CT l D tys A 292 2 0 0 [.ref (ad 90)] ws (fun r w => GOK ad tys GG w ∧ MO ws w ∧ (¬ 0 < G 5 → r = some (.int (Int32.ofInt (-2))) ∧ W91 G w) ∧ (0 < G 5 → (G 4 = 0 → r = some (.int (Int32.ofInt (-5))) ∧ W91 G w) ∧ (0 < G 4 → r = some (.int (Int32.ofInt (G 4 - 1))) ∧ W91 (updI G 4 (G 4 - 1)) w))) := by
  obtain ⟨s91, e91, ⟨t0, t1, t2, t3, t4, t5⟩, sn, sd, st, sp, sy⟩ := g91s
  refine CT_of_V (by omega) (show (1 : Nat) ≤ mML 292 by decide +kernel) ?_
  have b4 := hB.b4
  refine V_aload (v := ad 90) mi_292_0 (by simp [stL, lv_args, Value.category]) ?_
  refine V_callM (As := []) (st := []) mi_292_1 (by omega) (by decide +kernel) (by decide +kernel) hG (mth_ct hG hW hB) (by omega) (show 0 = mN 198 by decide +kernel) (by simp [Value.category]) ?_
  rintro r w1 ⟨rfl, rfl⟩
  refine V_bne mi_292_4  (fun c1 => ?_) (fun c1 => ?_)
  · have ok := of_decide_eq_true c1
    refine V_aload (v := ad 90) mi_292_10 (by simp [stL, lv_args, Value.category]) ?_
    refine V_getI mi_292_11 hG (rref gr1m (by omega) hG) ?_
    refine V_ipush mi_292_14 ?_
    refine V_aldX (j := 4) mi_292_15 rfl hG e91 (by omega) (by omega) (hW _ (by omega)) ?_
    refine V_zne mi_292_16 ⟨by omega, by omega⟩ (fun q => ?_) (fun q => ?_)
    · refine V_aload (v := ad 90) mi_292_22 (by simp [stL, lv_args, Value.category]) ?_
      refine V_getI mi_292_23 hG (rref gr1m (by omega) hG) ?_
      refine V_ipush mi_292_26 ?_
      refine V_dup2 mi_292_27 (by simp [Value.category]) (by simp [Value.category]) ?_
      refine V_aldX (j := 4) mi_292_28 rfl hG e91 (by omega) (by omega) (hW _ (by omega)) ?_
      refine V_ipush mi_292_29 ?_
      refine V_ibin mi_292_30 (by omega) ?_
      rw [ib1]
      refine V_astX (j := 4) mi_292_31 rfl hG e91 (by omega) (by omega) t4 (by rw [Int32.toInt_ofInt_of_le (by omega) (by omega)]; omega) (by rw [Int32.toInt_ofInt_of_le (by omega) (by omega)]; omega) (fun v0 Gv0 Uv0 => ?_)
      have hW4 := w91_up (j := 4) (z := G 4 - 1) hW Uv0
      refine V_aload (v := ad 90) mi_292_32 (by simp [stL, lv_args, Value.category]) ?_
      refine V_getI mi_292_33 Gv0 (rref gr1m (by omega) Gv0) ?_
      refine V_ipush mi_292_36 ?_
      refine V_aldX (j := 4) mi_292_37 rfl Gv0 e91 (by omega) (by omega) (upd_eq Uv0) ?_
      exact V_retI mi_292_38 (fun h => absurd h (by decide +kernel)) ⟨Gv0, fun c j hc => upd_ne Uv0 (by omega), fun k => absurd ok k, fun _ => ⟨fun k => absurd k (by omega), fun _ => ⟨rfl, hW4⟩⟩⟩
    · refine V_ipush mi_292_19 ?_
      exact V_retI mi_292_21 (fun h => absurd h (by decide +kernel)) ⟨hG, MO_rf, fun k => absurd ok k, fun _ => ⟨fun _ => ⟨rfl, hW⟩, fun k => absurd k (by omega)⟩⟩
  · refine V_ipush mi_292_7 ?_
    exact V_retI mi_292_9 (fun h => absurd h (by decide +kernel)) ⟨hG, MO_rf, fun _ => ⟨rfl, hW⟩, fun k => absurd k (of_decide_eq_false c1)⟩
noncomputable def okMv (G : Nat → Int) (f p h : Int) : Prop := (0 ≤ f ∧ f < G 3) ∧ (0 ≤ h ∧ h < G 2) ∧ 0 ≤ p ∧ p < G 1
noncomputable def movG (G : Nat → Int) (f p h : Int) : Nat → Int := updI G (102 + (24 * f.toNat + h.toNat)) p
theorem movX_ct (hAD : ∀ i : Nat, ad (1000 + i) = D.2 1000 i) {G : Nat → Int} (hG : GOK ad tys GG ws) (hX : HX 4 G ws) (hB : HB G) {f p h : Int} (fI : I32 f) (pI : I32 p) (hI : I32 h) : CT l D tys A 43 8 0 0 [.ref (ad 0), .int (Int32.ofInt (f)), .int (Int32.ofInt (p)), .int (Int32.ofInt (h))] ws (fun r w => GOK ad tys GG w ∧ XO ws w ∧ (¬ okMv G f p h → r = some (.int (Int32.ofInt (-2))) ∧ HX 4 G w) ∧ (okMv G f p h → r = some (.int (Int32.ofInt (G (102 + (24 * f.toNat + h.toNat))))) ∧ HX 4 (movG G f p h) w)) := by
  refine CT_of_V (by omega) (show (4 : Nat) ≤ mML 43 by decide +kernel) ?_
  refine V_aload (v := ad 0) mi_43_0 (by simp [stL, lv_args, Value.category]) ?_
  refine V_gR mi_43_1 g0r2 (by omega) hG ?_
  refine V_iload (v := Int32.ofInt (f)) mi_43_4 (by simp [stL, lv_args, Value.category]) ?_
  refine V_cO (As := [.int (Int32.ofInt (f))]) (st := []) mi_43_5 (by omega) (by decide +kernel) (by decide +kernel) (by omega) g4o hG (hfk_ct hG hX hB fI) (by omega) (show 1 = mN 102 by decide +kernel) (by simp [Value.category]) ?_
  rintro r w1 ⟨rfl, rfl⟩
  refine V_beq mi_43_8  (fun c1 => ?_) (fun c1 => ?_)
  · refine V_ipush mi_43_37 ?_
    exact V_retI mi_43_39 (fun h => absurd h (by decide +kernel)) ⟨hG, XO_rf, fun _ => ⟨rfl, hX⟩, fun k => absurd k (fun k => of_decide_eq_false c1 k.1)⟩
  · refine V_aload (v := ad 0) mi_43_11 (by simp [stL, lv_args, Value.category]) ?_
    refine V_gR mi_43_12 g0r2 (by omega) hG ?_
    refine V_iload (v := Int32.ofInt (h)) mi_43_15 (by simp [stL, lv_args, Value.category]) ?_
    refine V_cO (As := [.int (Int32.ofInt (h))]) (st := []) mi_43_16 (by omega) (by decide +kernel) (by decide +kernel) (by omega) g4o hG (hho_ct hG hX hB hI) (by omega) (show 1 = mN 103 by decide +kernel) (by simp [Value.category]) ?_
    rintro r w2 ⟨rfl, rfl⟩
    refine V_beq mi_43_19  (fun c2 => ?_) (fun c2 => ?_)
    · refine V_ipush mi_43_37 ?_
      exact V_retI mi_43_39 (fun h => absurd h (by decide +kernel)) ⟨hG, XO_rf, fun _ => ⟨rfl, hX⟩, fun k => absurd k (fun k => of_decide_eq_false c2 k.2.1)⟩
    · refine V_iload (v := Int32.ofInt (p)) mi_43_22 (by simp [stL, lv_args, Value.category]) ?_
      refine V_zlt mi_43_23 pI (fun q3 => ?_) (fun q3 => ?_)
      · refine V_ipush mi_43_37 ?_
        exact V_retI mi_43_39 (fun h => absurd h (by decide +kernel)) ⟨hG, XO_rf, fun _ => ⟨rfl, hX⟩, fun k => absurd k (fun k => by have := k.2.2; omega)⟩
      · refine V_iload (v := Int32.ofInt (p)) mi_43_26 (by simp [stL, lv_args, Value.category]) ?_
        refine V_aload (v := ad 0) mi_43_27 (by simp [stL, lv_args, Value.category]) ?_
        refine V_gR mi_43_28 g0r2 (by omega) hG ?_
        refine V_gO mi_43_31 g4o hG (show rd _ 4 2 = some (.int (Int32.ofInt (G 1))) from hx0 hX (i := 2) (by omega)) ?_
        refine V_clt mi_43_34 pI ⟨by have := hB.b1; omega, by have := hB.b1; omega⟩ (fun q4 => ?_) (fun q4 => ?_)
        · have c11 := of_decide_eq_true c1
          have c22 := of_decide_eq_true c2
          have ok : okMv G f p h := ⟨c11, c22, q3, q4⟩
          have b3 := hB.b3
          have b2 := hB.b2
          obtain ⟨m, rfl⟩ := Int.eq_ofNat_of_zero_le c11.1
          obtain ⟨n, rfl⟩ := Int.eq_ofNat_of_zero_le c22.1
          refine V_aload (v := ad 0) mi_43_40 (by simp [stL, lv_args, Value.category]) ?_
          refine V_gR mi_43_41 g0r2 (by omega) hG ?_
          refine V_iload (v := Int32.ofInt ((m : Int))) mi_43_44 (by simp [stL, lv_args, Value.category]) ?_
          refine V_iload (v := Int32.ofInt ((n : Int))) mi_43_45 (by simp [stL, lv_args, Value.category]) ?_
          refine V_cO (As := [.int (Int32.ofInt ((m : Int))), .int (Int32.ofInt ((n : Int)))]) (st := []) mi_43_46 (by omega) (by decide +kernel) (by decide +kernel) (by omega) g4o hG (hpl_ct (f := m) (h := n) hG hX hB c11.2 c22.2) (by omega) (show 2 = mN 110 by decide +kernel) (by simp [Value.category]) ?_
          rintro r w3 ⟨rfl, rfl⟩
          obtain ⟨s10, e10, f10⟩ := a10
          refine V_istore mi_43_49 ?_
          refine V_aload (v := ad 0) mi_43_51 (by simp [stL, lv_args, Value.category]) ?_
          refine V_gR mi_43_52 g0r2 (by omega) hG ?_
          refine V_gR mi_43_55 g4r11 (by omega) hG ?_
          refine V_iload (v := Int32.ofInt ((m : Int))) mi_43_58 (by simp [stL, lv_args, Value.category]) ?_
          refine V_ipush mi_43_59 ?_
          refine V_ibin mi_43_61 (by omega) ?_
          rw [ib2]
          refine V_iload (v := Int32.ofInt ((n : Int))) mi_43_62 (by simp [stL, lv_args, Value.category]) ?_
          refine V_ibin mi_43_63 (by omega) ?_
          rw [ib0]
          refine V_iload (v := Int32.ofInt (p)) mi_43_64 (by simp [stL, lv_args, Value.category]) ?_
          rw [show (m : Int) * 24 + (n : Int) = ((24 * m + n : Nat) : Int) by omega]
          refine V_stat (As := [.ref (ad 10), .int (Int32.ofInt (((24 * m + n : Nat) : Int))), .int (Int32.ofInt (p))]) (st := []) mi_43_65 (by omega) (put_ct (j := 24 * m + n) hG e10 (by omega) (by omega) (f10 _ (by omega)) (i32b _).1 (i32b _).2) (by omega) (show 3 = mN 148 by decide +kernel) (by simp [Value.category]) ⟨Nat.le_refl _, Nat.le_refl _⟩ ?_
          rintro r w4 ⟨rfl, G4, U4⟩
          obtain ⟨x1, x2⟩ := stay_hx (j := 24 * m + n) (by omega)
          have hX4 := HX_upd (j := 102 + (24 * m + n)) (z := p) hX (by omega) (by rw [x1, x2]; exact U4)
          obtain ⟨ds, dl, sc⟩ := set_ct (l := l) (A := A) hAD G4
          refine V_aload (v := ad 0) mi_43_68 (by simp [stL, lv_args, Value.category]) ?_
          refine V_cO (As := []) (st := []) mi_43_69 (by omega) (by decide +kernel) (by decide +kernel) (by omega) g0o G4 (sc) (by omega) (show 0 = mN 73 by decide +kernel) (by simp [Value.category]) ?_
          rintro r w5 ⟨rfl, G5, O5⟩
          refine V_iload (v := Int32.ofInt (G (102 + (24 * m + n)))) mi_43_72 (by simp [stL, lv_args, Value.category]) ?_
          have hX5 := HX_keep hX4 (fun c i h1 h2 => O5 c i (by omega))
          exact V_retI mi_43_74 (fun h => absurd h (by decide +kernel)) ⟨G5, fun c j hn => (O5 c j (by omega)).trans (upd_ne U4 (by omega)), fun k => absurd ok k, fun _ => ⟨rfl, hX5⟩⟩
        · refine V_ipush mi_43_37 ?_
          exact V_retI mi_43_39 (fun h => absurd h (by decide +kernel)) ⟨hG, XO_rf, fun _ => ⟨rfl, hX⟩, fun k => absurd k (fun k => by have := k.2.2; omega)⟩
theorem movM_ct {G : Nat → Int} (hG : GOK ad tys GG ws) (hW : W91 G ws) (hB : HB G) {f p h : Int} (fI : I32 f) (pI : I32 p) (hI : I32 h) : CT l D tys A 293 4 0 0 [.ref (ad 90), .int (Int32.ofInt (f)), .int (Int32.ofInt (p)), .int (Int32.ofInt (h))] ws (fun r w => GOK ad tys GG w ∧ MO ws w ∧ (¬ okMv G f p h → r = some (.int (Int32.ofInt (-2))) ∧ W91 G w) ∧ (okMv G f p h → r = some (.int (Int32.ofInt (G (102 + (24 * f.toNat + h.toNat))))) ∧ W91 (movG G f p h) w)) := by
  obtain ⟨s91, e91, ⟨t0, t1, t2, t3, t4, t5⟩, sn, sd, st, sp, sy⟩ := g91s
  refine CT_of_V (by omega) (show (4 : Nat) ≤ mML 293 by decide +kernel) ?_
  have b1 := hB.b1
  refine V_aload (v := ad 90) mi_293_0 (by simp [stL, lv_args, Value.category]) ?_
  refine V_iload (v := Int32.ofInt (f)) mi_293_1 (by simp [stL, lv_args, Value.category]) ?_
  refine V_callM (As := [.int (Int32.ofInt (f))]) (st := []) mi_293_2 (by omega) (by decide +kernel) (by decide +kernel) hG (mfk_ct hG hW hB fI) (by omega) (show 1 = mN 199 by decide +kernel) (by simp [Value.category]) ?_
  rintro r w1 ⟨rfl, rfl⟩
  refine V_beq mi_293_5  (fun c1 => ?_) (fun c1 => ?_)
  · refine V_ipush mi_293_34 ?_
    exact V_retI mi_293_36 (fun h => absurd h (by decide +kernel)) ⟨hG, MO_rf, fun _ => ⟨rfl, hW⟩, fun k => absurd k (fun k => of_decide_eq_false c1 k.1)⟩
  · refine V_iload (v := Int32.ofInt (p)) mi_293_8 (by simp [stL, lv_args, Value.category]) ?_
    refine V_i2l mi_293_9 ?_
    rw [i2lx ⟨by omega, by omega⟩]
    refine V_lpush mi_293_10 ?_
    refine V_aload (v := ad 90) mi_293_11 (by simp [stL, lv_args, Value.category]) ?_
    refine V_getI mi_293_12 hG (rref gr1m (by omega) hG) ?_
    refine V_ipush mi_293_15 ?_
    refine V_aldX (j := 1) mi_293_16 rfl hG e91 (by omega) (by omega) (hW _ (by omega)) ?_
    refine V_ipush mi_293_17 ?_
    refine V_ibin mi_293_18 (by omega) ?_
    rw [ib1]
    refine V_i2l mi_293_19 ?_
    rw [i2lx ⟨by omega, by omega⟩]
    refine V_stat (As := [.long (Int64.ofInt (p)), .long (Int64.ofInt (0)), .long (Int64.ofInt ((G 1) - (1)))]) (st := []) mi_293_20 (by omega) (inM2 (m := p) (lo := 0) (hi := G 1 - 1) (by omega) (by omega) (by omega) (by omega) (by omega) (by omega)) (by omega) (show 3 = mN 193 by decide +kernel) (by simp [Value.category]) ⟨Nat.le_refl _, Nat.le_refl _⟩ ?_
    rintro r w2 ⟨rfl, rfl⟩
    refine V_beq mi_293_23  (fun c2 => ?_) (fun c2 => ?_)
    · refine V_ipush mi_293_34 ?_
      exact V_retI mi_293_36 (fun h => absurd h (by decide +kernel)) ⟨hG, MO_rf, fun _ => ⟨rfl, hW⟩, fun k => absurd k (fun k => of_decide_eq_false c2 (by have := k.2.2; omega))⟩
    · refine V_aload (v := ad 90) mi_293_26 (by simp [stL, lv_args, Value.category]) ?_
      refine V_iload (v := Int32.ofInt (h)) mi_293_27 (by simp [stL, lv_args, Value.category]) ?_
      refine V_callM (As := [.int (Int32.ofInt (h))]) (st := []) mi_293_28 (by omega) (by decide +kernel) (by decide +kernel) hG (mho_ct hG hW hB hI) (by omega) (show 1 = mN 201 by decide +kernel) (by simp [Value.category]) ?_
      rintro r w3 ⟨rfl, rfl⟩
      refine V_bne mi_293_31  (fun c3 => ?_) (fun c3 => ?_)
      · have c11 := of_decide_eq_true c1
        have c22 := of_decide_eq_true c2
        have c33 := of_decide_eq_true c3
        have ok : okMv G f p h := ⟨c11, c33, c22.1, by omega⟩
        have b3 := hB.b3
        have b2 := hB.b2
        obtain ⟨m, rfl⟩ := Int.eq_ofNat_of_zero_le c11.1
        obtain ⟨n, rfl⟩ := Int.eq_ofNat_of_zero_le c33.1
        have bp := hB.bp (24 * m + n) (by omega)
        refine V_aload (v := ad 90) mi_293_37 (by simp [stL, lv_args, Value.category]) ?_
        refine V_iload (v := Int32.ofInt ((m : Int))) mi_293_38 (by simp [stL, lv_args, Value.category]) ?_
        refine V_iload (v := Int32.ofInt ((n : Int))) mi_293_39 (by simp [stL, lv_args, Value.category]) ?_
        refine V_callM (As := [.int (Int32.ofInt ((m : Int))), .int (Int32.ofInt ((n : Int)))]) (st := []) mi_293_40 (by omega) (by decide +kernel) (by decide +kernel) hG (mpl_ct (f := m) (h := n) hG hW hB (by omega) (by omega)) (by omega) (show 2 = mN 207 by decide +kernel) (by simp [Value.category]) ?_
        rintro r w4 ⟨rfl, rfl⟩
        refine V_istore mi_293_43 ?_
        refine V_aload (v := ad 90) mi_293_45 (by simp [stL, lv_args, Value.category]) ?_
        refine V_getI mi_293_46 hG (rref gr1m (by omega) hG) ?_
        refine V_ipush mi_293_49 ?_
        refine V_ipush mi_293_51 ?_
        refine V_iload (v := Int32.ofInt ((m : Int))) mi_293_53 (by simp [stL, lv_args, Value.category]) ?_
        refine V_ibin mi_293_54 (by omega) ?_
        rw [ib2]
        refine V_ibin mi_293_55 (by omega) ?_
        rw [ib0]
        refine V_iload (v := Int32.ofInt ((n : Int))) mi_293_56 (by simp [stL, lv_args, Value.category]) ?_
        refine V_ibin mi_293_57 (by omega) ?_
        rw [ib0]
        refine V_iload (v := Int32.ofInt (p)) mi_293_58 (by simp [stL, lv_args, Value.category]) ?_
        refine V_astX (j := 102 + (24 * m + n)) mi_293_59 (by rw [show ((102) + ((24) * ((m : Int)))) + ((n : Int)) = ((102 + (24 * m + n) : Nat) : Int) by omega]) hG e91 (by omega) (by omega) (sp _ (by omega)) (by rw [Int32.toInt_ofInt_of_le (by omega) (by omega)]; omega) (by rw [Int32.toInt_ofInt_of_le (by omega) (by omega)]; omega) (fun v0 Gv0 Uv0 => ?_)
        have hW1 := w91_up hW Uv0
        refine V_iload (v := Int32.ofInt (G (102 + (24 * m + n)))) mi_293_60 (by simp [stL, lv_args, Value.category]) ?_
        exact V_retI mi_293_62 (fun h => absurd h (by decide +kernel)) ⟨Gv0, fun c j hc => upd_ne Uv0 (by omega), fun k => absurd ok k, fun _ => ⟨rfl, hW1⟩⟩
      · refine V_ipush mi_293_34 ?_
        exact V_retI mi_293_36 (fun h => absurd h (by decide +kernel)) ⟨hG, MO_rf, fun _ => ⟨rfl, hW⟩, fun k => absurd k (fun k => of_decide_eq_false c3 k.2.1)⟩
noncomputable def okTe (G : Nat → Int) (f o i t : Int) : Prop := ((0 ≤ f ∧ f < G 3) ∧ (0 ≤ o ∧ o < G 3) ∧ f ≠ o) ∧ (0 ≤ i ∧ i < G (6 + 7 * o.toNat)) ∧ 0 ≤ t ∧ t ≤ 1
/-- bit i of b made t -/
noncomputable def teaV (b i t : Int) : Int := (ibF 6 (ibF 5 (Int32.ofInt b) (ibF 7 (ibF 8 (Int32.ofInt 1) (Int32.ofInt i)) (Int32.ofInt (-1)))) (ibF 8 (Int32.ofInt t) (Int32.ofInt i))).toInt
theorem teaV_all : (List.range 64).all (fun b => (List.range 6).all (fun i => (decide (0 ≤ teaV (b : Nat) (i : Nat) 0) && decide (teaV (b : Nat) (i : Nat) 0 ≤ 63)) && (decide (0 ≤ teaV (b : Nat) (i : Nat) 1) && decide (teaV (b : Nat) (i : Nat) 1 ≤ 63)) && ((@decide _ (instDecidableEqInt32 (ibF 5 (Int32.ofInt (b : Nat)) (ibF 7 (ibF 8 (Int32.ofInt 1) (Int32.ofInt (i : Nat))) (Int32.ofInt (-1)))) (Int32.ofInt (teaV (b : Nat) (i : Nat) 0)))) && (@decide _ (instDecidableEqInt32 (ibF 6 (Int32.ofInt (b : Nat)) (ibF 8 (Int32.ofInt 1) (Int32.ofInt (i : Nat)))) (Int32.ofInt (teaV (b : Nat) (i : Nat) 1))))))) = true := by decide +kernel
theorem teaV_k {b i : Int} (b0 : 0 ≤ b) (b1 : b ≤ 63) (i0 : 0 ≤ i) (i1 : i ≤ 5) : ((0 ≤ teaV b i 0 ∧ teaV b i 0 ≤ 63) ∧ (0 ≤ teaV b i 1 ∧ teaV b i 1 ≤ 63)) ∧ ibF 5 (Int32.ofInt b) (ibF 7 (ibF 8 (Int32.ofInt 1) (Int32.ofInt i)) (Int32.ofInt (-1))) = Int32.ofInt (teaV b i 0) ∧ ibF 6 (Int32.ofInt b) (ibF 8 (Int32.ofInt 1) (Int32.ofInt i)) = Int32.ofInt (teaV b i 1) := by
  have h := List.all_eq_true.mp (List.all_eq_true.mp teaV_all b.toNat (List.mem_range.mpr (by omega))) i.toNat (List.mem_range.mpr (by omega))
  simp only [Bool.and_eq_true, decide_eq_true_eq, Int.toNat_of_nonneg b0, Int.toNat_of_nonneg i0] at h
  obtain ⟨⟨h1, h2⟩, h3, h4⟩ := h
  exact ⟨⟨h1, h2⟩, h3, h4⟩
noncomputable def teaJ (f o : Int) : Nat := 66 + (6 * f.toNat + o.toNat)
noncomputable def teaG (G : Nat → Int) (f o i t : Int) : Nat → Int := updI G (teaJ f o) (teaV (G (teaJ f o)) i t)
theorem told_hx {j : Nat} (h : j < 36) : hxC (66 + j) = 7 ∧ hxI (66 + j) = j := by
  have e1 : hxC (66 + j) = 7 := by
    unfold hxC
    rw [if_neg (by omega), if_neg (by omega), if_neg (by omega), if_neg (by omega), if_neg (by omega), if_pos (by omega)]
  have e2 : hxI (66 + j) = j := by
    unfold hxI
    rw [if_neg (by omega), if_neg (by omega), if_neg (by omega), if_neg (by omega), if_neg (by omega), if_pos (by omega)]
    omega
  exact ⟨e1, e2⟩
theorem teaX_ct (hAD : ∀ i : Nat, ad (1000 + i) = D.2 1000 i) {G : Nat → Int} (hG : GOK ad tys GG ws) (hX : HX 4 G ws) (hB : HB G) {f o i t : Int} (fI : I32 f) (oI : I32 o) (iI : I32 i) (tI : I32 t) : CT l D tys A 44 8 0 0 [.ref (ad 0), .int (Int32.ofInt (f)), .int (Int32.ofInt (o)), .int (Int32.ofInt (i)), .int (Int32.ofInt (t))] ws (fun r w => GOK ad tys GG w ∧ XO ws w ∧ (¬ okTe G f o i t → r = some (.int (Int32.ofInt (-2))) ∧ HX 4 G w) ∧ (okTe G f o i t → r = some (.int (ibF 5 (ibF 9 (Int32.ofInt (G (teaJ f o))) (Int32.ofInt i)) (Int32.ofInt 1))) ∧ HX 4 (teaG G f o i t) w)) := by
  refine CT_of_V (by omega) (show (5 : Nat) ≤ mML 44 by decide +kernel) ?_
  refine V_aload (v := ad 0) mi_44_0 (by simp [stL, lv_args, Value.category]) ?_
  refine V_iload (v := Int32.ofInt (f)) mi_44_1 (by simp [stL, lv_args, Value.category]) ?_
  refine V_iload (v := Int32.ofInt (o)) mi_44_2 (by simp [stL, lv_args, Value.category]) ?_
  refine V_cO (As := [.int (Int32.ofInt (f)), .int (Int32.ofInt (o))]) (st := []) mi_44_3 (by omega) (by decide +kernel) (by decide +kernel) (by omega) g0o hG (x2_ct hG hX hB fI oI) (by omega) (show 2 = mN 74 by decide +kernel) (by simp [Value.category]) ?_
  rintro r w1 ⟨rfl, rfl⟩
  refine V_beq mi_44_6  (fun c1 => ?_) (fun c1 => ?_)
  · refine V_ipush mi_44_32 ?_
    exact V_retI mi_44_34 (fun h => absurd h (by decide +kernel)) ⟨hG, XO_rf, fun _ => ⟨rfl, hX⟩, fun k => absurd k (fun k => of_decide_eq_false c1 k.1)⟩
  · refine V_aload (v := ad 0) mi_44_9 (by simp [stL, lv_args, Value.category]) ?_
    refine V_gR mi_44_10 g0r2 (by omega) hG ?_
    refine V_iload (v := Int32.ofInt (o)) mi_44_13 (by simp [stL, lv_args, Value.category]) ?_
    refine V_iload (v := Int32.ofInt (i)) mi_44_14 (by simp [stL, lv_args, Value.category]) ?_
    refine V_cO (As := [.int (Int32.ofInt (o)), .int (Int32.ofInt (i))]) (st := []) mi_44_15 (by omega) (by decide +kernel) (by decide +kernel) (by omega) g4o hG (hsy_ct hG hX hB oI iI) (by omega) (show 2 = mN 105 by decide +kernel) (by simp [Value.category]) ?_
    rintro r w2 ⟨rfl, rfl⟩
    refine V_beq mi_44_18  (fun c2 => ?_) (fun c2 => ?_)
    · refine V_ipush mi_44_32 ?_
      exact V_retI mi_44_34 (fun h => absurd h (by decide +kernel)) ⟨hG, XO_rf, fun _ => ⟨rfl, hX⟩, fun k => absurd k (fun k => of_decide_eq_false c2 ⟨k.1.2.1, k.2.1⟩)⟩
    · refine V_iload (v := Int32.ofInt (t)) mi_44_21 (by simp [stL, lv_args, Value.category]) ?_
      refine V_zlt mi_44_23 tI (fun q3 => ?_) (fun q3 => ?_)
      · refine V_ipush mi_44_32 ?_
        exact V_retI mi_44_34 (fun h => absurd h (by decide +kernel)) ⟨hG, XO_rf, fun _ => ⟨rfl, hX⟩, fun k => absurd k (fun k => by have := k.2.2; omega)⟩
      · refine V_iload (v := Int32.ofInt (t)) mi_44_26 (by simp [stL, lv_args, Value.category]) ?_
        refine V_ipush mi_44_28 ?_
        refine V_cle mi_44_29 tI ⟨by omega, by omega⟩ (fun q4 => ?_) (fun q4 => ?_)
        · have c11 := of_decide_eq_true c1
          have c22 := of_decide_eq_true c2
          have ok : okTe G f o i t := ⟨c11, c22.2, q3, q4⟩
          have b3 := hB.b3
          obtain ⟨s11, e11, f11⟩ := a11
          obtain ⟨m, rfl⟩ := Int.eq_ofNat_of_zero_le c11.1.1
          obtain ⟨n, rfl⟩ := Int.eq_ofNat_of_zero_le c11.2.1.1
          have c23 := c22.2
          rw [Int.toNat_natCast] at c23
          have bl := hB.bl n (by omega)
          have bt := hB.bt (6 * m + n) (by omega)
          have ej : teaJ (m : Int) (n : Int) = 66 + (6 * m + n) := by unfold teaJ; rw [Int.toNat_natCast, Int.toNat_natCast]
          obtain ⟨⟨⟨v0, v1⟩, v2, v3⟩, v4, v5⟩ := teaV_k (b := G (66 + (6 * m + n))) (i := i) bt.1 bt.2 c23.1 (by omega)
          refine V_iload (v := Int32.ofInt ((m : Int))) mi_44_35 (by simp [stL, lv_args, Value.category]) ?_
          refine V_ipush mi_44_36 ?_
          refine V_ibin mi_44_38 (by omega) ?_
          rw [ib2]
          refine V_iload (v := Int32.ofInt ((n : Int))) mi_44_39 (by simp [stL, lv_args, Value.category]) ?_
          refine V_ibin mi_44_40 (by omega) ?_
          rw [ib0]
          rw [show (m : Int) * 6 + (n : Int) = ((6 * m + n : Nat) : Int) by omega]
          refine V_istore mi_44_41 ?_
          refine V_aload (v := ad 0) mi_44_43 (by simp [stL, lv_args, Value.category]) ?_
          refine V_gR mi_44_44 g0r2 (by omega) hG ?_
          refine V_gR mi_44_47 g4r12 (by omega) hG ?_
          refine V_iload (v := Int32.ofInt (((6 * m + n : Nat) : Int))) mi_44_50 (by simp [stL, lv_args, Value.category]) ?_
          refine V_stat (As := [.ref (ad 11), .int (Int32.ofInt (((6 * m + n : Nat) : Int)))]) (st := []) mi_44_52 (by omega) (at_ct (j := 6 * m + n) hG e11 (by omega) (by omega) (show rd _ 11 (6 * m + n) = some (.int (Int32.ofInt (G (66 + (6 * m + n))))) from HX_HY hX 7 (by omega) (6 * m + n) (show 6 * m + n < 36 by omega))) (by omega) (show 2 = mN 147 by decide +kernel) (by simp [Value.category]) ⟨Nat.le_refl _, Nat.le_refl _⟩ ?_
          rintro r w3 ⟨rfl, rfl⟩
          refine V_istore mi_44_55 ?_
          refine V_aload (v := ad 0) mi_44_57 (by simp [stL, lv_args, Value.category]) ?_
          refine V_gR mi_44_58 g0r2 (by omega) hG ?_
          refine V_gR mi_44_61 g4r12 (by omega) hG ?_
          refine V_iload (v := Int32.ofInt (((6 * m + n : Nat) : Int))) mi_44_64 (by simp [stL, lv_args, Value.category]) ?_
          refine V_iload (v := Int32.ofInt (t)) mi_44_66 (by simp [stL, lv_args, Value.category]) ?_
          
          refine V_ipush mi_44_68 ?_
          refine V_cne mi_44_69 tI ⟨by omega, by omega⟩ (fun q5 => ?_) (fun q5 => ?_)
          · refine V_iload (v := Int32.ofInt (G (66 + (6 * m + n)))) mi_44_81 (by simp [stL, lv_args, Value.category]) ?_
            refine V_ipush mi_44_83 ?_
            refine V_iload (v := Int32.ofInt (i)) mi_44_84 (by simp [stL, lv_args, Value.category]) ?_
            refine V_ibin mi_44_85 (by omega) ?_
            refine V_ipush mi_44_86 ?_
            refine V_ibin mi_44_87 (by omega) ?_
            refine V_ibin mi_44_88 (by omega) ?_
            rw [v4]
            have et : t = 0 := by omega
            subst et
            refine V_stat (As := [.ref (ad 11), .int (Int32.ofInt (((6 * m + n : Nat) : Int))), .int (Int32.ofInt (teaV (G (66 + (6 * m + n))) i 0))]) (st := []) mi_44_89 (by omega) (put_ct (j := 6 * m + n) hG e11 (by omega) (by omega) (f11 _ (by omega)) (i32b _).1 (i32b _).2) (by omega) (show 3 = mN 148 by decide +kernel) (by simp [Value.category]) ⟨Nat.le_refl _, Nat.le_refl _⟩ ?_
            rintro r w4 ⟨rfl, G4, U4⟩
            obtain ⟨x1, x2⟩ := told_hx (j := 6 * m + n) (by omega)
            have hX4 := HX_upd (j := 66 + (6 * m + n)) (z := teaV (G (66 + (6 * m + n))) i 0) hX (by omega) (by rw [x1, x2]; exact U4)
            obtain ⟨ds, dl, sc⟩ := set_ct (l := l) (A := A) hAD G4
            refine V_aload (v := ad 0) mi_44_92 (by simp [stL, lv_args, Value.category]) ?_
            refine V_cO (As := []) (st := []) mi_44_93 (by omega) (by decide +kernel) (by decide +kernel) (by omega) g0o G4 (sc) (by omega) (show 0 = mN 73 by decide +kernel) (by simp [Value.category]) ?_
            rintro r w5 ⟨rfl, G5, O5⟩
            refine V_iload (v := Int32.ofInt (G (66 + (6 * m + n)))) mi_44_96 (by simp [stL, lv_args, Value.category]) ?_
            refine V_iload (v := Int32.ofInt (i)) mi_44_98 (by simp [stL, lv_args, Value.category]) ?_
            refine V_ibin mi_44_99 (by omega) ?_
            refine V_ipush mi_44_100 ?_
            refine V_ibin mi_44_101 (by omega) ?_
            have hX5 := HX_keep hX4 (fun c i h1 h2 => O5 c i (by omega))
            refine V_retI mi_44_102 (fun h => absurd h (by decide +kernel)) ⟨G5, fun c j hn => (O5 c j (by omega)).trans (upd_ne U4 (by omega)), fun k => absurd ok k, fun _ => ⟨by rw [ej], ?_⟩⟩
            unfold teaG
            rw [ej]
            exact hX5
          · refine V_iload (v := Int32.ofInt (G (66 + (6 * m + n)))) mi_44_72 (by simp [stL, lv_args, Value.category]) ?_
            refine V_ipush mi_44_74 ?_
            refine V_iload (v := Int32.ofInt (i)) mi_44_75 (by simp [stL, lv_args, Value.category]) ?_
            refine V_ibin mi_44_76 (by omega) ?_
            refine V_ibin mi_44_77 (by omega) ?_
            refine V_goto mi_44_78 ?_
            rw [v5]
            have et : t = 1 := by omega
            subst et
            refine V_stat (As := [.ref (ad 11), .int (Int32.ofInt (((6 * m + n : Nat) : Int))), .int (Int32.ofInt (teaV (G (66 + (6 * m + n))) i 1))]) (st := []) mi_44_89 (by omega) (put_ct (j := 6 * m + n) hG e11 (by omega) (by omega) (f11 _ (by omega)) (i32b _).1 (i32b _).2) (by omega) (show 3 = mN 148 by decide +kernel) (by simp [Value.category]) ⟨Nat.le_refl _, Nat.le_refl _⟩ ?_
            rintro r w4 ⟨rfl, G4, U4⟩
            obtain ⟨x1, x2⟩ := told_hx (j := 6 * m + n) (by omega)
            have hX4 := HX_upd (j := 66 + (6 * m + n)) (z := teaV (G (66 + (6 * m + n))) i 1) hX (by omega) (by rw [x1, x2]; exact U4)
            obtain ⟨ds, dl, sc⟩ := set_ct (l := l) (A := A) hAD G4
            refine V_aload (v := ad 0) mi_44_92 (by simp [stL, lv_args, Value.category]) ?_
            refine V_cO (As := []) (st := []) mi_44_93 (by omega) (by decide +kernel) (by decide +kernel) (by omega) g0o G4 (sc) (by omega) (show 0 = mN 73 by decide +kernel) (by simp [Value.category]) ?_
            rintro r w5 ⟨rfl, G5, O5⟩
            refine V_iload (v := Int32.ofInt (G (66 + (6 * m + n)))) mi_44_96 (by simp [stL, lv_args, Value.category]) ?_
            refine V_iload (v := Int32.ofInt (i)) mi_44_98 (by simp [stL, lv_args, Value.category]) ?_
            refine V_ibin mi_44_99 (by omega) ?_
            refine V_ipush mi_44_100 ?_
            refine V_ibin mi_44_101 (by omega) ?_
            have hX5 := HX_keep hX4 (fun c i h1 h2 => O5 c i (by omega))
            refine V_retI mi_44_102 (fun h => absurd h (by decide +kernel)) ⟨G5, fun c j hn => (O5 c j (by omega)).trans (upd_ne U4 (by omega)), fun k => absurd ok k, fun _ => ⟨by rw [ej], ?_⟩⟩
            unfold teaG
            rw [ej]
            exact hX5
        · refine V_ipush mi_44_32 ?_
          exact V_retI mi_44_34 (fun h => absurd h (by decide +kernel)) ⟨hG, XO_rf, fun _ => ⟨rfl, hX⟩, fun k => absurd k (fun k => by have := k.2.2; omega)⟩
theorem teaM_ct {G : Nat → Int} (hG : GOK ad tys GG ws) (hW : W91 G ws) (hB : HB G) {f o i t : Int} (fI : I32 f) (oI : I32 o) (iI : I32 i) (tI : I32 t) : CT l D tys A 294 4 0 0 [.ref (ad 90), .int (Int32.ofInt (f)), .int (Int32.ofInt (o)), .int (Int32.ofInt (i)), .int (Int32.ofInt (t))] ws (fun r w => GOK ad tys GG w ∧ MO ws w ∧ (¬ okTe G f o i t → r = some (.int (Int32.ofInt (-2))) ∧ W91 G w) ∧ (okTe G f o i t → r = some (.int (ibF 5 (ibF 9 (Int32.ofInt (G (teaJ f o))) (Int32.ofInt i)) (Int32.ofInt 1))) ∧ W91 (teaG G f o i t) w)) := by
  obtain ⟨s91, e91, ⟨t0, t1, t2, t3, t4, t5⟩, sn, sd, st, sp, sy⟩ := g91s
  refine CT_of_V (by omega) (show (5 : Nat) ≤ mML 294 by decide +kernel) ?_
  refine V_aload (v := ad 90) mi_294_0 (by simp [stL, lv_args, Value.category]) ?_
  refine V_iload (v := Int32.ofInt (f)) mi_294_1 (by simp [stL, lv_args, Value.category]) ?_
  refine V_iload (v := Int32.ofInt (o)) mi_294_2 (by simp [stL, lv_args, Value.category]) ?_
  refine V_callM (As := [.int (Int32.ofInt (f)), .int (Int32.ofInt (o))]) (st := []) mi_294_3 (by omega) (by decide +kernel) (by decide +kernel) hG (m2_ct hG hW hB fI oI) (by omega) (show 2 = mN 200 by decide +kernel) (by simp [Value.category]) ?_
  rintro r w1 ⟨rfl, rfl⟩
  refine V_beq mi_294_6  (fun c1 => ?_) (fun c1 => ?_)
  · refine V_ipush mi_294_37 ?_
    exact V_retI mi_294_39 (fun h => absurd h (by decide +kernel)) ⟨hG, MO_rf, fun _ => ⟨rfl, hW⟩, fun k => absurd k (fun k => of_decide_eq_false c1 k.1)⟩
  · have c11 := of_decide_eq_true c1
    have b3 := hB.b3
    obtain ⟨m, rfl⟩ := Int.eq_ofNat_of_zero_le c11.1.1
    obtain ⟨n, rfl⟩ := Int.eq_ofNat_of_zero_le c11.2.1.1
    have bl := hB.bl n (by omega)
    refine V_iload (v := Int32.ofInt (i)) mi_294_9 (by simp [stL, lv_args, Value.category]) ?_
    refine V_i2l mi_294_10 ?_
    rw [i2lx ⟨by omega, by omega⟩]
    refine V_lpush mi_294_11 ?_
    refine V_aload (v := ad 90) mi_294_12 (by simp [stL, lv_args, Value.category]) ?_
    refine V_iload (v := Int32.ofInt ((n : Int))) mi_294_13 (by simp [stL, lv_args, Value.category]) ?_
    refine V_callM (As := [.int (Int32.ofInt ((n : Int)))]) (st := [.long (Int64.ofInt (0)), .long (Int64.ofInt (i))]) mi_294_14 (by omega) (by decide +kernel) (by decide +kernel) hG (mle_ct (f := n) hG hW hB (by omega)) (by omega) (show 1 = mN 204 by decide +kernel) (by simp [Value.category]) ?_
    rintro r w3 ⟨rfl, rfl⟩
    refine V_ipush mi_294_17 ?_
    refine V_ibin mi_294_18 (by omega) ?_
    rw [ib1]
    refine V_i2l mi_294_19 ?_
    rw [i2lx ⟨by omega, by omega⟩]
    refine V_stat (As := [.long (Int64.ofInt (i)), .long (Int64.ofInt (0)), .long (Int64.ofInt ((G (6 + 7 * n)) - (1)))]) (st := []) mi_294_20 (by omega) (inM2 (m := i) (lo := 0) (hi := G (6 + 7 * n) - 1) (by omega) (by omega) (by omega) (by omega) (by omega) (by omega)) (by omega) (show 3 = mN 193 by decide +kernel) (by simp [Value.category]) ⟨Nat.le_refl _, Nat.le_refl _⟩ ?_
    rintro r w4 ⟨rfl, rfl⟩
    refine V_beq mi_294_23  (fun c2 => ?_) (fun c2 => ?_)
    · refine V_ipush mi_294_37 ?_
      exact V_retI mi_294_39 (fun h => absurd h (by decide +kernel)) ⟨hG, MO_rf, fun _ => ⟨rfl, hW⟩, fun k => absurd k (fun k => of_decide_eq_false c2 (by have := k.2.1; rw [Int.toNat_natCast] at this; omega))⟩
    · have c22 := of_decide_eq_true c2
      refine V_iload (v := Int32.ofInt (t)) mi_294_26 (by simp [stL, lv_args, Value.category]) ?_
      refine V_i2l mi_294_28 ?_
      rw [i2lx ⟨by omega, by omega⟩]
      refine V_lpush mi_294_29 ?_
      refine V_lpush mi_294_30 ?_
      refine V_stat (As := [.long (Int64.ofInt (t)), .long (Int64.ofInt (0)), .long (Int64.ofInt (1))]) (st := []) mi_294_31 (by omega) (inM2 (m := t) (lo := 0) (hi := 1) (by omega) (by omega) (by omega) (by omega) (by omega) (by omega)) (by omega) (show 3 = mN 193 by decide +kernel) (by simp [Value.category]) ⟨Nat.le_refl _, Nat.le_refl _⟩ ?_
      rintro r w5 ⟨rfl, rfl⟩
      refine V_bne mi_294_34  (fun c3 => ?_) (fun c3 => ?_)
      · have c33 := of_decide_eq_true c3
        have ok : okTe G (m : Int) (n : Int) i t := ⟨c11, by rw [Int.toNat_natCast]; omega, c33⟩
        have bt := hB.bt (6 * m + n) (by omega)
        have ej : teaJ (m : Int) (n : Int) = 66 + (6 * m + n) := by unfold teaJ; rw [Int.toNat_natCast, Int.toNat_natCast]
        obtain ⟨⟨⟨v0, v1⟩, v2, v3⟩, v4, v5⟩ := teaV_k (b := G (66 + (6 * m + n))) (i := i) bt.1 bt.2 c22.1 (by omega)
        have tb : 0 ≤ teaV (G (66 + (6 * m + n))) i t ∧ teaV (G (66 + (6 * m + n))) i t ≤ 63 := by
          rcases (show t = 0 ∨ t = 1 by omega) with rfl | rfl
          · exact ⟨v0, v1⟩
          · exact ⟨v2, v3⟩
        refine V_ipush mi_294_40 ?_
        refine V_ipush mi_294_42 ?_
        refine V_iload (v := Int32.ofInt ((m : Int))) mi_294_44 (by simp [stL, lv_args, Value.category]) ?_
        refine V_ibin mi_294_45 (by omega) ?_
        rw [ib2]
        refine V_ibin mi_294_46 (by omega) ?_
        rw [ib0]
        refine V_iload (v := Int32.ofInt ((n : Int))) mi_294_47 (by simp [stL, lv_args, Value.category]) ?_
        refine V_ibin mi_294_48 (by omega) ?_
        rw [ib0]
        rw [show (66 : Int) + 6 * (m : Int) + (n : Int) = ((66 + (6 * m + n) : Nat) : Int) by omega]
        refine V_istore mi_294_49 ?_
        refine V_aload (v := ad 90) mi_294_51 (by simp [stL, lv_args, Value.category]) ?_
        refine V_getI mi_294_52 hG (rref gr1m (by omega) hG) ?_
        refine V_iload (v := Int32.ofInt (((66 + (6 * m + n) : Nat) : Int))) mi_294_55 (by simp [stL, lv_args, Value.category]) ?_
        refine V_aldX (j := 66 + (6 * m + n)) mi_294_57 rfl hG e91 (by omega) (by omega) (hW _ (by omega)) ?_
        refine V_iload (v := Int32.ofInt (i)) mi_294_58 (by simp [stL, lv_args, Value.category]) ?_
        refine V_stat (As := [.int (Int32.ofInt (G (66 + (6 * m + n)))), .int (Int32.ofInt (i))]) (st := []) mi_294_59 (by omega) (bit_ct _ _ _) (by omega) (show 2 = mN 195 by decide +kernel) (by simp [Value.category]) ⟨Nat.le_refl _, Nat.le_refl _⟩ ?_
        rintro r w6 ⟨rfl, rfl⟩
        refine V_istore mi_294_62 ?_
        refine V_aload (v := ad 90) mi_294_64 (by simp [stL, lv_args, Value.category]) ?_
        refine V_getI mi_294_65 hG (rref gr1m (by omega) hG) ?_
        refine V_iload (v := Int32.ofInt (((66 + (6 * m + n) : Nat) : Int))) mi_294_68 (by simp [stL, lv_args, Value.category]) ?_
        refine V_aload (v := ad 90) mi_294_70 (by simp [stL, lv_args, Value.category]) ?_
        refine V_getI mi_294_71 hG (rref gr1m (by omega) hG) ?_
        refine V_iload (v := Int32.ofInt (((66 + (6 * m + n) : Nat) : Int))) mi_294_74 (by simp [stL, lv_args, Value.category]) ?_
        refine V_aldX (j := 66 + (6 * m + n)) mi_294_76 rfl hG e91 (by omega) (by omega) (hW _ (by omega)) ?_
        refine V_ipush mi_294_77 ?_
        refine V_iload (v := Int32.ofInt (i)) mi_294_78 (by simp [stL, lv_args, Value.category]) ?_
        refine V_ibin mi_294_79 (by omega) ?_
        refine V_ipush mi_294_80 ?_
        refine V_ibin mi_294_81 (by omega) ?_
        refine V_ibin mi_294_82 (by omega) ?_
        refine V_iload (v := Int32.ofInt (t)) mi_294_83 (by simp [stL, lv_args, Value.category]) ?_
        refine V_iload (v := Int32.ofInt (i)) mi_294_85 (by simp [stL, lv_args, Value.category]) ?_
        refine V_ibin mi_294_86 (by omega) ?_
        refine V_ibin mi_294_87 (by omega) ?_
        refine V_astX (j := 66 + (6 * m + n)) mi_294_88 rfl hG e91 (by omega) (by omega) (st _ (by omega)) (show 0 ≤ teaV (G (66 + (6 * m + n))) i t from tb.1) (show teaV (G (66 + (6 * m + n))) i t ≤ 63 from tb.2) (fun w7 G7 U7 => ?_)
        have hW1 := w91_up (z := teaV (G (66 + (6 * m + n))) i t) hW (by unfold teaV; rw [Int32.ofInt_toInt]; exact U7)
        refine V_iload (v := ibF 5 (ibF 9 (Int32.ofInt (G (66 + (6 * m + n)))) (Int32.ofInt i)) (Int32.ofInt 1)) mi_294_89 (by simp [stL, lv_args, Value.category]) ?_
        refine V_retI mi_294_91 (fun h => absurd h (by decide +kernel)) ⟨G7, fun c j hc => upd_ne U7 (by omega), fun k => absurd ok k, fun _ => ⟨by rw [ej], ?_⟩⟩
        unfold teaG
        rw [ej]
        exact hW1
      · refine V_ipush mi_294_37 ?_
        exact V_retI mi_294_39 (fun h => absurd h (by decide +kernel)) ⟨hG, MO_rf, fun _ => ⟨rfl, hW⟩, fun k => absurd k (fun k => of_decide_eq_false c3 k.2.2)⟩
end XHC
