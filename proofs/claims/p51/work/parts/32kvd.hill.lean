section XVJ
variable {l : Launch} {D : va_G} {tys : List (ClassId × FieldType)} {A : Nat → Prop} {ad : Nat → Nat} {ws : va_W}
noncomputable def mxV (a b : Int) : Int := if a < b then b else a
/-- how many of the first folk of t have v as their syllable a -/
noncomputable def lfN (G : Nat → Int) (t : Int) (a : Nat) (v : Int) : Nat → Nat
  | 0 => 0
  | f + 1 => if tb t (f : Int) = true ∧ syO G f a = v then lfN G t a v f + 1 else lfN G t a v f
theorem lfN_le {G : Nat → Int} {t : Int} {a : Nat} {v : Int} : ∀ f : Nat, lfN G t a v f ≤ f
  | 0 => Nat.le_refl _
  | f + 1 => by
    have := lfN_le (G := G) (t := t) (a := a) (v := v) f
    unfold lfN
    split <;> omega
theorem lfN_y {G : Nat → Int} {t : Int} {a f : Nat} {v : Int} (h : tb t (f : Int) = true ∧ syO G f a = v) : lfN G t a v (f + 1) = lfN G t a v f + 1 := if_pos h
theorem lfN_n {G : Nat → Int} {t : Int} {a f : Nat} {v : Int} (h : ¬ (tb t (f : Int) = true ∧ syO G f a = v)) : lfN G t a v (f + 1) = lfN G t a v f := if_neg h
/-- the most of them that one syllable leaves -/
noncomputable def lwV (G : Nat → Int) (t : Int) (a : Nat) : Nat → Int
  | 0 => 0
  | i + 1 => mxV (lwV G t a i) (lfN G t a ((i : Int) - 1) (G 3).toNat : Int)
theorem lwV_bd {G : Nat → Int} {t : Int} {a : Nat} (b3 : 0 ≤ G 3 ∧ G 3 ≤ 6) : ∀ i : Nat, 0 ≤ lwV G t a i ∧ lwV G t a i ≤ 6
  | 0 => by unfold lwV; omega
  | i + 1 => by
    have := lwV_bd (G := G) (t := t) (a := a) b3 i
    have := lfN_le (G := G) (t := t) (a := a) (v := (i : Int) - 1) (G 3).toNat
    unfold lwV mxV
    split <;> omega
noncomputable def lwW (G : Nat → Int) (t : Int) (a : Nat) : Int := lwV G t a (G 0 + 1).toNat
noncomputable def bsF (G : Nat → Int) (t : Int) : Nat → Int × Int
  | 0 => (-1, bcS t 6)
  | a + 1 => if lwW G t a < (bsF G t a).2 then ((a : Int), lwW G t a) else bsF G t a
theorem bsF_y {G : Nat → Int} {t : Int} {a : Nat} (h : lwW G t a < (bsF G t a).2) : bsF G t (a + 1) = ((a : Int), lwW G t a) := if_pos h
theorem bsF_n {G : Nat → Int} {t : Int} {a : Nat} (h : ¬ lwW G t a < (bsF G t a).2) : bsF G t (a + 1) = bsF G t a := if_neg h
theorem bsF_bd {G : Nat → Int} {t : Int} (b3 : 0 ≤ G 3 ∧ G 3 ≤ 6) : ∀ a : Nat, a ≤ 6 → (-1 ≤ (bsF G t a).1 ∧ (bsF G t a).1 ≤ 5) ∧ 0 ≤ (bsF G t a).2 ∧ (bsF G t a).2 ≤ 6
  | 0, _ => by
    have := bcS_bd (a := t) 6
    show (-1 ≤ (-1 : Int) ∧ (-1 : Int) ≤ 5) ∧ 0 ≤ bcS t 6 ∧ bcS t 6 ≤ 6
    omega
  | a + 1, ha => by
    have q := bsF_bd (G := G) (t := t) b3 a (by omega)
    have := lwV_bd (G := G) (t := t) (a := a) b3 (G 0 + 1).toNat
    by_cases c : lwW G t a < (bsF G t a).2
    · rw [bsF_y c]
      show (-1 ≤ (a : Int) ∧ (a : Int) ≤ 5) ∧ 0 ≤ lwW G t a ∧ lwW G t a ≤ 6
      exact ⟨⟨by omega, by omega⟩, this⟩
    · rw [bsF_n c]
      exact q
noncomputable def clT (G sz : Nat → Int) (nm : Nat → Int64) (s : Int) : Int := orI (gsA G nm s.toNat ((sz s.toNat).toNat / 2)) (G 3).toNat
noncomputable def lerV (G sz : Nat → Int) (nm : Nat → Int64) (s : Int) : Int := if wcrV G sz nm s = 0 then (if (bsF G (clT G sz nm s) 6).1 < 0 then bcS (clT G sz nm s) 6 else lwW G (clT G sz nm s) (bsF G (clT G sz nm s) 6).1.toNat) else wcrV G sz nm s
theorem bI_i (b : Bool) : bI b = Int32.ofInt (if b = true then 1 else 0) := by cases b <;> rfl
theorem mxx_ct {x y : Int} (xI : I32 x) (yI : I32 y) : CT l D tys A 341 0 0 0 [.int (Int32.ofInt (x)), .int (Int32.ofInt (y))] ws (fun r w => w = ws ∧ r = some (.int (Int32.ofInt (mxV x y)))) := by
  refine CT_of_V (by omega) (show (2 : Nat) ≤ mML 341 by decide +kernel) ?_
  refine V_iload (v := Int32.ofInt (x)) mi_341_0 (by simp [stL, stL2, lv_args, Value.category]) ?_
  refine V_iload (v := Int32.ofInt (y)) mi_341_1 (by simp [stL, stL2, lv_args, Value.category]) ?_
  refine V_clt mi_341_2 xI yI (fun q => ?_) (fun q => ?_)
  · refine V_iload (v := Int32.ofInt (y)) mi_341_9 (by simp [stL, stL2, lv_args, Value.category]) ?_
    exact V_retI mi_341_10 (fun h => absurd h (by decide +kernel)) ⟨rfl, by unfold mxV; rw [if_pos q]⟩
  · refine V_iload (v := Int32.ofInt (x)) mi_341_5 (by simp [stL, stL2, lv_args, Value.category]) ?_
    refine V_goto mi_341_6 ?_
    exact V_retI mi_341_10 (fun h => absurd h (by decide +kernel)) ⟨rfl, by unfold mxV; rw [if_neg (by omega)]⟩
theorem lwx_21 {G : Nat → Int} (hG : GOK ad tys GG ws) (hX : HX 4 G ws) (hg : HB G) {t : Int} (t0 : 0 ≤ t) (t1 : t ≤ 63) {a i : Nat} (ha : a ≤ 5) (i7 : i ≤ 10000) {post : Option Value → va_W → Prop} : ∀ (m p : Nat), ((p + m : Nat) : Int) = G 3 → V l D tys A 123 2 0 0 post 0 0 60 [(0, .ref (ad 47)), (1, .ref (ad 4)), (2, .int (Int32.ofInt (t))), (3, .int (Int32.ofInt ((a : Int)))), (4, .int (Int32.ofInt (lwV G t a i))), (5, .int (Int32.ofInt ((i : Int) - 1))), (6, .int (Int32.ofInt ((lfN G t a ((i : Int) - 1) (G 3).toNat : Int))))] [] ws → V l D tys A 123 2 0 0 post 0 0 21 [(0, .ref (ad 47)), (1, .ref (ad 4)), (2, .int (Int32.ofInt (t))), (3, .int (Int32.ofInt ((a : Int)))), (4, .int (Int32.ofInt (lwV G t a i))), (5, .int (Int32.ofInt ((i : Int) - 1))), (6, .int (Int32.ofInt ((lfN G t a ((i : Int) - 1) p : Int)))), (7, .int (Int32.ofInt ((p : Int))))] [] ws
  | 0, p, hm, kk => by
    have b3 := hg.b3
    refine V_iload (v := Int32.ofInt ((p : Int))) mi_123_21 (by simp [stL, stL2, lv_args, Value.category]) ?_
    refine V_aload (v := ad 4) mi_123_23 (by simp [stL, stL2, lv_args, Value.category]) ?_
    refine V_gO mi_123_24 g4o hG (show rd _ 4 4 = some (.int (Int32.ofInt (G 3))) from hx0 hX (i := 4) (by omega)) ?_
    refine V_cge mi_123_27 ⟨by omega, by omega⟩ ⟨by omega, by omega⟩ (fun q => ?_) (fun q => ?_)
    · have e : p = (G 3).toNat := by omega
      rw [e]
      refine V_sub (lv' := [(0, .ref (ad 47)), (1, .ref (ad 4)), (2, .int (Int32.ofInt (t))), (3, .int (Int32.ofInt ((a : Int)))), (4, .int (Int32.ofInt (lwV G t a i))), (5, .int (Int32.ofInt ((i : Int) - 1))), (6, .int (Int32.ofInt ((lfN G t a ((i : Int) - 1) (G 3).toNat : Int))))]) (fun q hq => ?_) ?_
      · simp only [List.mem_cons, List.not_mem_nil, or_false] at hq
        rcases hq with rfl | rfl | rfl | rfl | rfl | rfl | rfl <;> simp [stL, stL2, lv_args, Value.category]
      exact kk
    · exact absurd q (by omega)
  | m + 1, p, hm, kk => by
    have b3 := hg.b3
    refine V_iload (v := Int32.ofInt ((p : Int))) mi_123_21 (by simp [stL, stL2, lv_args, Value.category]) ?_
    refine V_aload (v := ad 4) mi_123_23 (by simp [stL, stL2, lv_args, Value.category]) ?_
    refine V_gO mi_123_24 g4o hG (show rd _ 4 4 = some (.int (Int32.ofInt (G 3))) from hx0 hX (i := 4) (by omega)) ?_
    refine V_cge mi_123_27 ⟨by omega, by omega⟩ ⟨by omega, by omega⟩ (fun q => ?_) (fun q => ?_)
    · exact absurd q (by omega)
    · have sb : -2147483648 ≤ syO G p a ∧ syO G p a ≤ 2147483647 := by
        unfold syO
        split
        · have := hg.bn p (by omega) a (by omega)
          omega
        · omega
      have le := lfN_le (G := G) (t := t) (a := a) (v := (i : Int) - 1) p
      refine V_iload (v := Int32.ofInt (t)) mi_123_30 (by simp [stL, stL2, lv_args, Value.category]) ?_
      refine V_iload (v := Int32.ofInt ((p : Int))) mi_123_31 (by simp [stL, stL2, lv_args, Value.category]) ?_
      refine V_ibin mi_123_33 (by omega) ?_
      refine V_ipush mi_123_34 ?_
      refine V_ibin mi_123_35 (by omega) ?_
      rw [(tb_k (a := t) (i := (p : Int)) t0 t1 (by omega) (by omega)).1]
      refine V_beq mi_123_36  (fun q2 => ?_) (fun q2 => ?_)
      · rw [← lfN_n (G := G) (t := t) (a := a) (f := p) (v := (i : Int) - 1) (fun k => by rw [q2] at k; exact Bool.false_ne_true k.1)]
        refine V_iinc (v := Int32.ofInt ((p : Int))) mi_123_54 (by simp [stL, stL2, lv_args, Value.category]) ?_
        rw [ia2]
        refine V_goto mi_123_57 ?_
        refine V_sub (lv' := [(0, .ref (ad 47)), (1, .ref (ad 4)), (2, .int (Int32.ofInt (t))), (3, .int (Int32.ofInt ((a : Int)))), (4, .int (Int32.ofInt (lwV G t a i))), (5, .int (Int32.ofInt ((i : Int) - 1))), (6, .int (Int32.ofInt ((lfN G t a ((i : Int) - 1) (p + 1) : Int)))), (7, .int (Int32.ofInt (((p + 1 : Nat) : Int))))]) (fun q hq => ?_) ?_
        · simp only [List.mem_cons, List.not_mem_nil, or_false] at hq
          rcases hq with rfl | rfl | rfl | rfl | rfl | rfl | rfl | rfl <;> simp [stL, stL2, lv_args, Value.category]
        exact lwx_21 hG hX hg t0 t1 ha i7 m (p + 1) (by omega) kk
      · refine V_aload (v := ad 4) mi_123_39 (by simp [stL, stL2, lv_args, Value.category]) ?_
        refine V_iload (v := Int32.ofInt ((p : Int))) mi_123_40 (by simp [stL, stL2, lv_args, Value.category]) ?_
        refine V_iload (v := Int32.ofInt ((a : Int))) mi_123_42 (by simp [stL, stL2, lv_args, Value.category]) ?_
        refine V_cO (As := [.int (Int32.ofInt ((p : Int))), .int (Int32.ofInt ((a : Int)))]) (st := []) mi_123_43 (by omega) (by decide +kernel) (by decide +kernel) (by omega) g4o hG (syx_ct (f := p) (a := a) hG hX hg (by omega) (by omega)) (by omega) (show 2 = mN 107 by decide +kernel) (by simp [Value.category]) ?_
        rintro r w1 ⟨e1, rfl⟩
        rw [e1]
        refine V_iload (v := Int32.ofInt ((i : Int) - 1)) mi_123_46 (by simp [stL, stL2, lv_args, Value.category]) ?_
        refine V_cne mi_123_48 ⟨by omega, by omega⟩ ⟨by omega, by omega⟩ (fun q3 => ?_) (fun q3 => ?_)
        · rw [← lfN_n (G := G) (t := t) (a := a) (f := p) (v := (i : Int) - 1) (fun k => q3 k.2)]
          refine V_iinc (v := Int32.ofInt ((p : Int))) mi_123_54 (by simp [stL, stL2, lv_args, Value.category]) ?_
          rw [ia2]
          refine V_goto mi_123_57 ?_
          refine V_sub (lv' := [(0, .ref (ad 47)), (1, .ref (ad 4)), (2, .int (Int32.ofInt (t))), (3, .int (Int32.ofInt ((a : Int)))), (4, .int (Int32.ofInt (lwV G t a i))), (5, .int (Int32.ofInt ((i : Int) - 1))), (6, .int (Int32.ofInt ((lfN G t a ((i : Int) - 1) (p + 1) : Int)))), (7, .int (Int32.ofInt (((p + 1 : Nat) : Int))))]) (fun q hq => ?_) ?_
          · simp only [List.mem_cons, List.not_mem_nil, or_false] at hq
            rcases hq with rfl | rfl | rfl | rfl | rfl | rfl | rfl | rfl <;> simp [stL, stL2, lv_args, Value.category]
          exact lwx_21 hG hX hg t0 t1 ha i7 m (p + 1) (by omega) kk
        · refine V_iinc (v := Int32.ofInt ((lfN G t a ((i : Int) - 1) p : Int))) mi_123_51 (by simp [stL, stL2, lv_args, Value.category]) ?_
          rw [ia2]
          rw [show (lfN G t a ((i : Int) - 1) p : Int) + 1 = (lfN G t a ((i : Int) - 1) (p + 1) : Int) by rw [lfN_y ⟨q2, q3⟩]; omega]
          refine V_iinc (v := Int32.ofInt ((p : Int))) mi_123_54 (by simp [stL, stL2, lv_args, Value.category]) ?_
          rw [ia2]
          refine V_goto mi_123_57 ?_
          refine V_sub (lv' := [(0, .ref (ad 47)), (1, .ref (ad 4)), (2, .int (Int32.ofInt (t))), (3, .int (Int32.ofInt ((a : Int)))), (4, .int (Int32.ofInt (lwV G t a i))), (5, .int (Int32.ofInt ((i : Int) - 1))), (6, .int (Int32.ofInt ((lfN G t a ((i : Int) - 1) (p + 1) : Int)))), (7, .int (Int32.ofInt (((p + 1 : Nat) : Int))))]) (fun q hq => ?_) ?_
          · simp only [List.mem_cons, List.not_mem_nil, or_false] at hq
            rcases hq with rfl | rfl | rfl | rfl | rfl | rfl | rfl | rfl <;> simp [stL, stL2, lv_args, Value.category]
          exact lwx_21 hG hX hg t0 t1 ha i7 m (p + 1) (by omega) kk
theorem lwx_6 {G : Nat → Int} (hG : GOK ad tys GG ws) (hX : HX 4 G ws) (hg : HB G) {t : Int} (t0 : 0 ≤ t) (t1 : t ≤ 63) {a : Nat} (ha : a ≤ 5) {post : Option Value → va_W → Prop} : ∀ (m i : Nat), ((i + m : Nat) : Int) = G 0 + 1 → post (some (.int (Int32.ofInt (lwV G t a (G 0 + 1).toNat)))) ws → V l D tys A 123 2 0 0 post 0 0 6 [(0, .ref (ad 47)), (1, .ref (ad 4)), (2, .int (Int32.ofInt (t))), (3, .int (Int32.ofInt ((a : Int)))), (4, .int (Int32.ofInt (lwV G t a i))), (5, .int (Int32.ofInt ((i : Int) - 1)))] [] ws
  | 0, i, hm, kk => by
    have b3 := hg.b3
    have g0 := hg.b0
    have lb := lwV_bd (G := G) (t := t) (a := a) b3 i
    have le := lfN_le (G := G) (t := t) (a := a) (v := (i : Int) - 1) (G 3).toNat
    refine V_iload (v := Int32.ofInt ((i : Int) - 1)) mi_123_6 (by simp [stL, stL2, lv_args, Value.category]) ?_
    refine V_aload (v := ad 4) mi_123_8 (by simp [stL, stL2, lv_args, Value.category]) ?_
    refine V_gO mi_123_9 g4o hG (show rd _ 4 1 = some (.int (Int32.ofInt (G 0))) from hx0 hX (i := 1) (by omega)) ?_
    refine V_cge mi_123_12 ⟨by omega, by omega⟩ ⟨by omega, by omega⟩ (fun q => ?_) (fun q => ?_)
    · refine V_iload (v := Int32.ofInt (lwV G t a i)) mi_123_75 (by simp [stL, stL2, lv_args, Value.category]) ?_
      have e : i = (G 0 + 1).toNat := by omega
      rw [e]
      exact V_retI mi_123_77 (fun h => absurd h (by decide +kernel)) kk
    · exact absurd q (by omega)
  | m + 1, i, hm, kk => by
    have b3 := hg.b3
    have g0 := hg.b0
    have lb := lwV_bd (G := G) (t := t) (a := a) b3 i
    have le := lfN_le (G := G) (t := t) (a := a) (v := (i : Int) - 1) (G 3).toNat
    refine V_iload (v := Int32.ofInt ((i : Int) - 1)) mi_123_6 (by simp [stL, stL2, lv_args, Value.category]) ?_
    refine V_aload (v := ad 4) mi_123_8 (by simp [stL, stL2, lv_args, Value.category]) ?_
    refine V_gO mi_123_9 g4o hG (show rd _ 4 1 = some (.int (Int32.ofInt (G 0))) from hx0 hX (i := 1) (by omega)) ?_
    refine V_cge mi_123_12 ⟨by omega, by omega⟩ ⟨by omega, by omega⟩ (fun q => ?_) (fun q => ?_)
    · exact absurd q (by omega)
    · refine V_ipush mi_123_15 ?_
      refine V_istore mi_123_16 ?_
      refine V_ipush mi_123_18 ?_
      refine V_istore mi_123_19 ?_
      refine V_sub (lv' := [(0, .ref (ad 47)), (1, .ref (ad 4)), (2, .int (Int32.ofInt (t))), (3, .int (Int32.ofInt ((a : Int)))), (4, .int (Int32.ofInt (lwV G t a i))), (5, .int (Int32.ofInt ((i : Int) - 1))), (6, .int (Int32.ofInt (0))), (7, .int (Int32.ofInt (((0 : Nat) : Int))))]) (fun q hq => ?_) ?_
      · simp only [List.mem_cons, List.not_mem_nil, or_false] at hq
        rcases hq with rfl | rfl | rfl | rfl | rfl | rfl | rfl | rfl <;> simp [stL, stL2, lv_args, Value.category]
      rw [show (0 : Int) = (lfN G t a ((i : Int) - 1) 0 : Int) from rfl]
      refine lwx_21 hG hX hg t0 t1 ha (by omega) (G 3).toNat 0 (by omega) ?_
      refine V_iload (v := Int32.ofInt (lwV G t a i)) mi_123_60 (by simp [stL, stL2, lv_args, Value.category]) ?_
      refine V_iload (v := Int32.ofInt ((lfN G t a ((i : Int) - 1) (G 3).toNat : Int))) mi_123_62 (by simp [stL, stL2, lv_args, Value.category]) ?_
      refine V_stat (As := [.int (Int32.ofInt (lwV G t a i)), .int (Int32.ofInt ((lfN G t a ((i : Int) - 1) (G 3).toNat : Int)))]) (st := []) mi_123_64 (by omega) (mxx_ct ⟨by omega, by omega⟩ ⟨by omega, by omega⟩) (by omega) (show 2 = mN 341 by decide +kernel) (by simp [Value.category]) ⟨Nat.le_refl _, Nat.le_refl _⟩ ?_
      rintro r w1 ⟨e1, rfl⟩
      rw [e1, show mxV (lwV G t a i) (lfN G t a ((i : Int) - 1) (G 3).toNat : Int) = lwV G t a (i + 1) from rfl]
      refine V_istore mi_123_67 ?_
      refine V_iinc (v := Int32.ofInt ((i : Int) - 1)) mi_123_69 (by simp [stL, stL2, lv_args, Value.category]) ?_
      rw [ia2]
      rw [show (i : Int) - 1 + 1 = ((i + 1 : Nat) : Int) - 1 by omega]
      refine V_goto mi_123_72 ?_
      refine V_sub (lv' := [(0, .ref (ad 47)), (1, .ref (ad 4)), (2, .int (Int32.ofInt (t))), (3, .int (Int32.ofInt ((a : Int)))), (4, .int (Int32.ofInt (lwV G t a (i + 1)))), (5, .int (Int32.ofInt (((i + 1 : Nat) : Int) - 1)))]) (fun q hq => ?_) ?_
      · simp only [List.mem_cons, List.not_mem_nil, or_false] at hq
        rcases hq with rfl | rfl | rfl | rfl | rfl | rfl <;> simp [stL, stL2, lv_args, Value.category]
      exact lwx_6 hG hX hg t0 t1 ha m (i + 1) (by omega) kk
theorem lwX_ct {G : Nat → Int} (hG : GOK ad tys GG ws) (hX : HX 4 G ws) (hg : HB G) {t : Int} (t0 : 0 ≤ t) (t1 : t ≤ 63) {a : Nat} (ha : a ≤ 5) : CT l D tys A 123 2 0 0 [.ref (ad 47), .ref (ad 4), .int (Int32.ofInt (t)), .int (Int32.ofInt ((a : Int)))] ws (fun r w => w = ws ∧ r = some (.int (Int32.ofInt (lwW G t a)))) := by
  refine CT_of_V (by omega) (show (4 : Nat) ≤ mML 123 by decide +kernel) ?_
  have g0 := hg.b0
  refine V_ipush mi_123_0 ?_
  refine V_istore mi_123_1 ?_
  refine V_ipush mi_123_3 ?_
  refine V_istore mi_123_4 ?_
  refine V_sub (lv' := [(0, .ref (ad 47)), (1, .ref (ad 4)), (2, .int (Int32.ofInt (t))), (3, .int (Int32.ofInt ((a : Int)))), (4, .int (Int32.ofInt (0))), (5, .int (Int32.ofInt ((-1))))]) (fun q hq => ?_) ?_
  · simp only [List.mem_cons, List.not_mem_nil, or_false] at hq
    rcases hq with rfl | rfl | rfl | rfl | rfl | rfl <;> simp [stL, stL2, lv_args, Value.category]
  rw [show (-1 : Int) = ((0 : Nat) : Int) - 1 from rfl, show Int32.ofInt 0 = Int32.ofInt (lwV G t a 0) from rfl]
  exact lwx_6 hG hX hg t0 t1 ha (G 0 + 1).toNat 0 (by omega) ⟨rfl, rfl⟩
theorem bsx_11 {G : Nat → Int} (hG : GOK ad tys GG ws) (hX : HX 4 G ws) (hg : HB G) {t : Int} (t0 : 0 ≤ t) (t1 : t ≤ 63) {post : Option Value → va_W → Prop} : ∀ (m a : Nat), a + m = 6 → post (some (.int (Int32.ofInt (bsF G t 6).1))) ws → V l D tys A 122 3 0 0 post 0 0 11 [(0, .ref (ad 47)), (1, .ref (ad 4)), (2, .int (Int32.ofInt (t))), (3, .int (Int32.ofInt ((bsF G t a).1))), (4, .int (Int32.ofInt ((bsF G t a).2))), (5, .int (Int32.ofInt ((a : Int))))] [] ws
  | 0, a, hm, kk => by
    have b3 := hg.b3
    have bb := bsF_bd (G := G) (t := t) b3 a (by omega)
    have lb : 0 ≤ lwW G t a ∧ lwW G t a ≤ 6 := lwV_bd b3 _
    refine V_iload (v := Int32.ofInt ((a : Int))) mi_122_11 (by simp [stL, stL2, lv_args, Value.category]) ?_
    refine V_ipush mi_122_13 ?_
    refine V_cge mi_122_15 ⟨by omega, by omega⟩ ⟨by omega, by omega⟩ (fun q => ?_) (fun q => ?_)
    · refine V_iload (v := Int32.ofInt ((bsF G t a).1)) mi_122_48 (by simp [stL, stL2, lv_args, Value.category]) ?_
      have e : a = 6 := by omega
      rw [e]
      exact V_retI mi_122_49 (fun h => absurd h (by decide +kernel)) kk
    · exact absurd q (by omega)
  | m + 1, a, hm, kk => by
    have b3 := hg.b3
    have bb := bsF_bd (G := G) (t := t) b3 a (by omega)
    have lb : 0 ≤ lwW G t a ∧ lwW G t a ≤ 6 := lwV_bd b3 _
    refine V_iload (v := Int32.ofInt ((a : Int))) mi_122_11 (by simp [stL, stL2, lv_args, Value.category]) ?_
    refine V_ipush mi_122_13 ?_
    refine V_cge mi_122_15 ⟨by omega, by omega⟩ ⟨by omega, by omega⟩ (fun q => ?_) (fun q => ?_)
    · exact absurd q (by omega)
    · refine V_aload (v := ad 47) mi_122_18 (by simp [stL, stL2, lv_args, Value.category]) ?_
      refine V_aload (v := ad 4) mi_122_19 (by simp [stL, stL2, lv_args, Value.category]) ?_
      refine V_iload (v := Int32.ofInt (t)) mi_122_20 (by simp [stL, stL2, lv_args, Value.category]) ?_
      refine V_iload (v := Int32.ofInt ((a : Int))) mi_122_21 (by simp [stL, stL2, lv_args, Value.category]) ?_
      refine V_cO (As := [.ref (ad 4), .int (Int32.ofInt (t)), .int (Int32.ofInt ((a : Int)))]) (st := []) mi_122_23 (by omega) (by decide +kernel) (by decide +kernel) (by omega) g47o hG (lwX_ct (a := a) hG hX hg t0 t1 (by omega)) (by omega) (show 3 = mN 123 by decide +kernel) (by simp [Value.category]) ?_
      rintro r w1 ⟨e1, rfl⟩
      rw [e1]
      refine V_istore mi_122_26 ?_
      refine V_iload (v := Int32.ofInt (lwW G t a)) mi_122_28 (by simp [stL, stL2, lv_args, Value.category]) ?_
      refine V_iload (v := Int32.ofInt ((bsF G t a).2)) mi_122_30 (by simp [stL, stL2, lv_args, Value.category]) ?_
      refine V_cge mi_122_32 ⟨by omega, by omega⟩ ⟨by omega, by omega⟩ (fun q2 => ?_) (fun q2 => ?_)
      · rw [← bsF_n (G := G) (t := t) (a := a) (by omega)]
        refine V_iinc (v := Int32.ofInt ((a : Int))) mi_122_42 (by simp [stL, stL2, lv_args, Value.category]) ?_
        rw [ia2]
        refine V_goto mi_122_45 ?_
        refine V_sub (lv' := [(0, .ref (ad 47)), (1, .ref (ad 4)), (2, .int (Int32.ofInt (t))), (3, .int (Int32.ofInt ((bsF G t (a + 1)).1))), (4, .int (Int32.ofInt ((bsF G t (a + 1)).2))), (5, .int (Int32.ofInt (((a + 1 : Nat) : Int))))]) (fun q hq => ?_) ?_
        · simp only [List.mem_cons, List.not_mem_nil, or_false] at hq
          rcases hq with rfl | rfl | rfl | rfl | rfl | rfl <;> simp [stL, stL2, lv_args, Value.category]
        exact bsx_11 hG hX hg t0 t1 m (a + 1) (by omega) kk
      · refine V_iload (v := Int32.ofInt (lwW G t a)) mi_122_35 (by simp [stL, stL2, lv_args, Value.category]) ?_
        refine V_istore mi_122_37 ?_
        refine V_iload (v := Int32.ofInt ((a : Int))) mi_122_39 (by simp [stL, stL2, lv_args, Value.category]) ?_
        refine V_istore mi_122_41 ?_
        have es := bsF_y (G := G) (t := t) (a := a) (by omega)
        rw [show lwW G t a = (bsF G t (a + 1)).2 by rw [es]]
        refine V_iinc (v := Int32.ofInt ((a : Int))) mi_122_42 (by simp [stL, stL2, lv_args, Value.category]) ?_
        rw [ia2]
        refine V_goto mi_122_45 ?_
        refine V_sub (lv' := [(0, .ref (ad 47)), (1, .ref (ad 4)), (2, .int (Int32.ofInt (t))), (3, .int (Int32.ofInt ((a : Int)))), (4, .int (Int32.ofInt ((bsF G t (a + 1)).2))), (5, .int (Int32.ofInt (((a + 1 : Nat) : Int))))]) (fun q hq => ?_) ?_
        · simp only [List.mem_cons, List.not_mem_nil, or_false] at hq
          rcases hq with rfl | rfl | rfl | rfl | rfl | rfl <;> simp [stL, stL2, lv_args, Value.category]
        rw [show (a : Int) = (bsF G t (a + 1)).1 by rw [es]]
        exact bsx_11 hG hX hg t0 t1 m (a + 1) (by omega) kk
theorem bsX_ct {G : Nat → Int} (hG : GOK ad tys GG ws) (hX : HX 4 G ws) (hg : HB G) {t : Int} (t0 : 0 ≤ t) (t1 : t ≤ 63) : CT l D tys A 122 3 0 0 [.ref (ad 47), .ref (ad 4), .int (Int32.ofInt (t))] ws (fun r w => w = ws ∧ r = some (.int (Int32.ofInt (bsF G t 6).1))) := by
  refine CT_of_V (by omega) (show (3 : Nat) ≤ mML 122 by decide +kernel) ?_
  refine V_ipush mi_122_0 ?_
  refine V_istore mi_122_1 ?_
  refine V_iload (v := Int32.ofInt (t)) mi_122_2 (by simp [stL, stL2, lv_args, Value.category]) ?_
  refine V_stat (As := [.int (Int32.ofInt (t))]) (st := []) mi_122_3 (by omega) (bcx_ct (a := t) t0 t1) (by omega) (show 1 = mN 344 by decide +kernel) (by simp [Value.category]) ⟨Nat.le_refl _, Nat.le_refl _⟩ ?_
  rintro r w0 ⟨rfl, rfl⟩
  refine V_istore mi_122_6 ?_
  refine V_ipush mi_122_8 ?_
  refine V_istore mi_122_9 ?_
  refine V_sub (lv' := [(0, .ref (ad 47)), (1, .ref (ad 4)), (2, .int (Int32.ofInt (t))), (3, .int (Int32.ofInt ((-1)))), (4, .int (Int32.ofInt (bcS t 6))), (5, .int (Int32.ofInt (((0 : Nat) : Int))))]) (fun q hq => ?_) ?_
  · simp only [List.mem_cons, List.not_mem_nil, or_false] at hq
    rcases hq with rfl | rfl | rfl | rfl | rfl | rfl <;> simp [stL, stL2, lv_args, Value.category]
  exact bsx_11 hG hX hg t0 t1 6 0 (by omega) ⟨rfl, rfl⟩
theorem leX_ct {G : Nat → Int} {sz wds : Nat → Int} {nm : Nat → Int64} (hG : GOK ad tys GG ws) (hX : HX 4 G ws) (hg : HB G) (h : SLX sz wds nm ws) (hB : SLB sz wds nm) {s : Int} (sI : I32 s) : CT l D tys A 56 5 0 0 [.ref (ad 0), .int (Int32.ofInt (s))] ws (fun r w => w = ws ∧ r = some (.int (Int32.ofInt (lerV G sz nm s)))) := by
  refine CT_of_V (by omega) (show (2 : Nat) ≤ mML 56 by decide +kernel) ?_
  refine V_aload (v := ad 0) mi_56_0 (by simp [stL, stL2, lv_args, Value.category]) ?_
  refine V_iload (v := Int32.ofInt (s)) mi_56_1 (by simp [stL, stL2, lv_args, Value.category]) ?_
  refine V_cO (As := [.int (Int32.ofInt (s))]) (st := []) mi_56_2 (by omega) (by decide +kernel) (by decide +kernel) (by omega) g0o hG (wcX_ct hG hX hg h hB sI) (by omega) (show 1 = mN 57 by decide +kernel) (by simp [Value.category]) ?_
  rintro r w1 ⟨rfl, rfl⟩
  have wc := wcrV_c G sz nm s
  refine V_istore mi_56_5 ?_
  refine V_iload (v := Int32.ofInt (wcrV G sz nm s)) mi_56_6 (by simp [stL, stL2, lv_args, Value.category]) ?_
  refine V_zeq mi_56_7 ⟨by omega, by omega⟩ (fun q2 => ?_) (fun q2 => ?_)
  · have b3 := hg.b3
    have k0 : wcrV G sz nm s = 0 ∧ (0 ≤ s ∧ s < 4) ∧ 0 ≤ sz s.toNat ∧ cluB G nm s.toNat (sz s.toNat).toNat = true := by
      rcases wc with e | e | e
      · exact absurd q2 (by omega)
      · exact absurd q2 (by omega)
      · exact e
    obtain ⟨j, rfl⟩ := Int.eq_ofNat_of_zero_le k0.2.1.1
    have k2 : 0 ≤ sz j := k0.2.2.1
    have k3 : cluB G nm j (sz j).toNat = true := k0.2.2.2
    unfold cluB at k3
    rw [Bool.and_eq_true] at k3
    have ev := of_decide_eq_true k3.2
    have hn : sz j = ((sz j).toNat : Int) := by omega
    have tb_ := orI_bd (P := gsA G nm j ((sz j).toNat / 2)) (f := (G 3).toNat) (by omega)
    refine V_aload (v := ad 0) mi_56_12 (by simp [stL, stL2, lv_args, Value.category]) ?_
    refine V_gR mi_56_13 g0r9 (by omega) hG ?_
    refine V_aload (v := ad 0) mi_56_16 (by simp [stL, stL2, lv_args, Value.category]) ?_
    refine V_gR mi_56_17 g0r2 (by omega) hG ?_
    refine V_aload (v := ad 0) mi_56_20 (by simp [stL, stL2, lv_args, Value.category]) ?_
    refine V_gR mi_56_21 g0r7 (by omega) hG ?_
    refine V_iload (v := Int32.ofInt ((j : Int))) mi_56_24 (by simp [stL, stL2, lv_args, Value.category]) ?_
    refine V_cO (As := [.ref (ad 4), .ref (ad 39), .int (Int32.ofInt ((j : Int)))]) (st := []) mi_56_25 (by omega) (by decide +kernel) (by decide +kernel) (by omega) g47o hG (ffX_ct (j := j) (n := (sz j).toNat) hG hX hg h hB (by omega) hn ev k3.1) (by omega) (show 3 = mN 121 by decide +kernel) (by simp [Value.category]) ?_
    rintro r w2 ⟨rfl, rfl⟩
    refine V_istore mi_56_28 ?_
    refine V_aload (v := ad 0) mi_56_29 (by simp [stL, stL2, lv_args, Value.category]) ?_
    refine V_gR mi_56_30 g0r9 (by omega) hG ?_
    refine V_aload (v := ad 0) mi_56_33 (by simp [stL, stL2, lv_args, Value.category]) ?_
    refine V_gR mi_56_34 g0r2 (by omega) hG ?_
    refine V_iload (v := Int32.ofInt (orI (gsA G nm j ((sz j).toNat / 2)) (G 3).toNat)) mi_56_37 (by simp [stL, stL2, lv_args, Value.category]) ?_
    refine V_cO (As := [.ref (ad 4), .int (Int32.ofInt (orI (gsA G nm j ((sz j).toNat / 2)) (G 3).toNat))]) (st := []) mi_56_38 (by omega) (by decide +kernel) (by decide +kernel) (by omega) g47o hG (bsX_ct (t := orI (gsA G nm j ((sz j).toNat / 2)) (G 3).toNat) hG hX hg tb_.1 tb_.2) (by omega) (show 2 = mN 122 by decide +kernel) (by simp [Value.category]) ?_
    rintro r w3 ⟨rfl, rfl⟩
    have bb := (bsF_bd (G := G) (t := orI (gsA G nm j ((sz j).toNat / 2)) (G 3).toNat) b3 6 (by omega)).1
    refine V_istore mi_56_41 ?_
    refine V_iload (v := Int32.ofInt ((bsF G (orI (gsA G nm j ((sz j).toNat / 2)) (G 3).toNat) 6).1)) mi_56_43 (by simp [stL, stL2, lv_args, Value.category]) ?_
    refine V_zge mi_56_45 ⟨by omega, by omega⟩ (fun q3 => ?_) (fun q3 => ?_)
    · refine V_aload (v := ad 0) mi_56_55 (by simp [stL, stL2, lv_args, Value.category]) ?_
      refine V_gR mi_56_56 g0r9 (by omega) hG ?_
      refine V_aload (v := ad 0) mi_56_59 (by simp [stL, stL2, lv_args, Value.category]) ?_
      refine V_gR mi_56_60 g0r2 (by omega) hG ?_
      refine V_iload (v := Int32.ofInt (orI (gsA G nm j ((sz j).toNat / 2)) (G 3).toNat)) mi_56_63 (by simp [stL, stL2, lv_args, Value.category]) ?_
      refine V_iload (v := Int32.ofInt ((bsF G (orI (gsA G nm j ((sz j).toNat / 2)) (G 3).toNat) 6).1)) mi_56_64 (by simp [stL, stL2, lv_args, Value.category]) ?_
      have eb : (bsF G (orI (gsA G nm j ((sz j).toNat / 2)) (G 3).toNat) 6).1 = ((((bsF G (orI (gsA G nm j ((sz j).toNat / 2)) (G 3).toNat) 6).1).toNat : Nat) : Int) := by omega
      rw [show Int32.ofInt ((bsF G (orI (gsA G nm j ((sz j).toNat / 2)) (G 3).toNat) 6).1) = Int32.ofInt ((((bsF G (orI (gsA G nm j ((sz j).toNat / 2)) (G 3).toNat) 6).1).toNat : Nat) : Int) from congrArg Int32.ofInt eb]
      refine V_cO (As := [.ref (ad 4), .int (Int32.ofInt (orI (gsA G nm j ((sz j).toNat / 2)) (G 3).toNat)), .int (Int32.ofInt (((((bsF G (orI (gsA G nm j ((sz j).toNat / 2)) (G 3).toNat) 6).1).toNat : Nat) : Int)))]) (st := []) mi_56_66 (by omega) (by decide +kernel) (by decide +kernel) (by omega) g47o hG (lwX_ct (t := orI (gsA G nm j ((sz j).toNat / 2)) (G 3).toNat) (a := ((bsF G (orI (gsA G nm j ((sz j).toNat / 2)) (G 3).toNat) 6).1).toNat) hG hX hg tb_.1 tb_.2 (by omega)) (by omega) (show 3 = mN 123 by decide +kernel) (by simp [Value.category]) ?_
      rintro r w4 ⟨rfl, rfl⟩
      exact V_retI mi_56_69 (fun h => absurd h (by decide +kernel)) ⟨rfl, by unfold lerV; rw [if_pos k0.1, if_neg (show ¬ (bsF G (clT G sz nm ((j : Int))) 6).1 < 0 from fun z => by have : (bsF G (orI (gsA G nm j ((sz j).toNat / 2)) (G 3).toNat) 6).1 < 0 := z; omega)]; rfl⟩
    · refine V_iload (v := Int32.ofInt (orI (gsA G nm j ((sz j).toNat / 2)) (G 3).toNat)) mi_56_48 (by simp [stL, stL2, lv_args, Value.category]) ?_
      refine V_stat (As := [.int (Int32.ofInt (orI (gsA G nm j ((sz j).toNat / 2)) (G 3).toNat))]) (st := []) mi_56_49 (by omega) (bcx_ct (a := orI (gsA G nm j ((sz j).toNat / 2)) (G 3).toNat) tb_.1 tb_.2) (by omega) (show 1 = mN 344 by decide +kernel) (by simp [Value.category]) ⟨Nat.le_refl _, Nat.le_refl _⟩ ?_
      rintro r w4 ⟨rfl, rfl⟩
      refine V_goto mi_56_52 ?_
      exact V_retI mi_56_69 (fun h => absurd h (by decide +kernel)) ⟨rfl, by unfold lerV; rw [if_pos k0.1, if_pos (show (bsF G (clT G sz nm ((j : Int))) 6).1 < 0 from q3)]; rfl⟩
  · refine V_iload (v := Int32.ofInt (wcrV G sz nm s)) mi_56_10 (by simp [stL, stL2, lv_args, Value.category]) ?_
    exact V_retI mi_56_11 (fun h => absurd h (by decide +kernel)) ⟨rfl, by unfold lerV; rw [if_neg (by omega)]⟩
theorem lwm_22 {G : Nat → Int} (hG : GOK ad tys GG ws) (hW : W91 G ws) (hg : HB G) {t : Int} (t0 : 0 ≤ t) (t1 : t ≤ 63) {a i : Nat} (ha : a ≤ 5) (i7 : i ≤ 10000) {post : Option Value → va_W → Prop} : ∀ (m p : Nat), ((p + m : Nat) : Int) = G 3 → V l D tys A 316 1 0 0 post 0 0 85 [(0, .ref (ad 90)), (1, .int (Int32.ofInt (t))), (2, .int (Int32.ofInt ((a : Int)))), (3, .int (Int32.ofInt (lwV G t a i))), (4, .int (Int32.ofInt ((i : Int) - 1))), (5, .int (Int32.ofInt ((lfN G t a ((i : Int) - 1) (G 3).toNat : Int))))] [] ws → V l D tys A 316 1 0 0 post 0 0 22 [(0, .ref (ad 90)), (1, .int (Int32.ofInt (t))), (2, .int (Int32.ofInt ((a : Int)))), (3, .int (Int32.ofInt (lwV G t a i))), (4, .int (Int32.ofInt ((i : Int) - 1))), (5, .int (Int32.ofInt ((lfN G t a ((i : Int) - 1) p : Int)))), (6, .int (Int32.ofInt ((p : Int))))] [] ws
  | 0, p, hm, kk => by
    obtain ⟨s91, e91, -⟩ := g91s
    have b3 := hg.b3
    refine V_iload (v := Int32.ofInt ((p : Int))) mi_316_22 (by simp [stL, stL2, lv_args, Value.category]) ?_
    refine V_aload (v := ad 90) mi_316_24 (by simp [stL, stL2, lv_args, Value.category]) ?_
    refine V_getI mi_316_25 hG (rref gr1m (by omega) hG) ?_
    refine V_ipush mi_316_28 ?_
    refine V_aldX (j := 3) mi_316_29 rfl hG e91 (by omega) (by omega) (hW _ (by omega)) ?_
    refine V_cge mi_316_30 ⟨by omega, by omega⟩ ⟨by omega, by omega⟩ (fun q => ?_) (fun q => ?_)
    · have e : p = (G 3).toNat := by omega
      rw [e]
      refine V_sub (lv' := [(0, .ref (ad 90)), (1, .int (Int32.ofInt (t))), (2, .int (Int32.ofInt ((a : Int)))), (3, .int (Int32.ofInt (lwV G t a i))), (4, .int (Int32.ofInt ((i : Int) - 1))), (5, .int (Int32.ofInt ((lfN G t a ((i : Int) - 1) (G 3).toNat : Int))))]) (fun q hq => ?_) ?_
      · simp only [List.mem_cons, List.not_mem_nil, or_false] at hq
        rcases hq with rfl | rfl | rfl | rfl | rfl | rfl <;> simp [stL, stL2, lv_args, Value.category]
      exact kk
    · exact absurd q (by omega)
  | m + 1, p, hm, kk => by
    obtain ⟨s91, e91, -⟩ := g91s
    have b3 := hg.b3
    refine V_iload (v := Int32.ofInt ((p : Int))) mi_316_22 (by simp [stL, stL2, lv_args, Value.category]) ?_
    refine V_aload (v := ad 90) mi_316_24 (by simp [stL, stL2, lv_args, Value.category]) ?_
    refine V_getI mi_316_25 hG (rref gr1m (by omega) hG) ?_
    refine V_ipush mi_316_28 ?_
    refine V_aldX (j := 3) mi_316_29 rfl hG e91 (by omega) (by omega) (hW _ (by omega)) ?_
    refine V_cge mi_316_30 ⟨by omega, by omega⟩ ⟨by omega, by omega⟩ (fun q => ?_) (fun q => ?_)
    · exact absurd q (by omega)
    · have gl := hg.bl p (by omega)
      have sb : -2147483648 ≤ syO G p a ∧ syO G p a ≤ 2147483647 := by
        unfold syO
        split
        · have := hg.bn p (by omega) a (by omega)
          omega
        · omega
      have le := lfN_le (G := G) (t := t) (a := a) (v := (i : Int) - 1) p
      refine V_iload (v := Int32.ofInt ((lfN G t a ((i : Int) - 1) p : Int))) mi_316_33 (by simp [stL, stL2, lv_args, Value.category]) ?_
      refine V_iload (v := Int32.ofInt (t)) mi_316_35 (by simp [stL, stL2, lv_args, Value.category]) ?_
      refine V_iload (v := Int32.ofInt ((p : Int))) mi_316_36 (by simp [stL, stL2, lv_args, Value.category]) ?_
      refine V_stat (As := [.int (Int32.ofInt (t)), .int (Int32.ofInt ((p : Int)))]) (st := [.int (Int32.ofInt ((lfN G t a ((i : Int) - 1) p : Int)))]) mi_316_38 (by omega) (bit_ct _ _ _) (by omega) (show 2 = mN 195 by decide +kernel) (by simp [Value.category]) ⟨Nat.le_refl _, Nat.le_refl _⟩ ?_
      rintro r w1 ⟨e1, rfl⟩
      rw [e1, (tb_k (a := t) (i := (p : Int)) t0 t1 (by omega) (by omega)).1, bI_i]
      have tc : (tb t (p : Int) = true ∧ (if tb t (p : Int) = true then (1 : Int) else 0) = 1) ∨ (¬ tb t (p : Int) = true ∧ (if tb t (p : Int) = true then (1 : Int) else 0) = 0) := by
        by_cases c : tb t (p : Int) = true
        · exact Or.inl ⟨c, if_pos c⟩
        · exact Or.inr ⟨c, if_neg c⟩
      refine V_ipush mi_316_41 ?_
      refine V_cne mi_316_42 ⟨by omega, by omega⟩ ⟨by omega, by omega⟩ (fun q2 => ?_) (fun q2 => ?_)
      · have es := lfN_n (G := G) (t := t) (a := a) (f := p) (v := (i : Int) - 1) (fun k => by rcases tc with c | c <;> first | exact q2 c.2 | exact c.1 k.1)
        refine V_ipush mi_316_75 ?_
        refine V_ibin mi_316_76 (by omega) ?_
        rw [ib0]
        rw [show (lfN G t a ((i : Int) - 1) p : Int) + 0 = (lfN G t a ((i : Int) - 1) (p + 1) : Int) by omega]
        refine V_istore mi_316_77 ?_
        refine V_iinc (v := Int32.ofInt ((p : Int))) mi_316_79 (by simp [stL, stL2, lv_args, Value.category]) ?_
        rw [ia2]
        refine V_goto mi_316_82 ?_
        refine V_sub (lv' := [(0, .ref (ad 90)), (1, .int (Int32.ofInt (t))), (2, .int (Int32.ofInt ((a : Int)))), (3, .int (Int32.ofInt (lwV G t a i))), (4, .int (Int32.ofInt ((i : Int) - 1))), (5, .int (Int32.ofInt ((lfN G t a ((i : Int) - 1) (p + 1) : Int)))), (6, .int (Int32.ofInt (((p + 1 : Nat) : Int))))]) (fun q hq => ?_) ?_
        · simp only [List.mem_cons, List.not_mem_nil, or_false] at hq
          rcases hq with rfl | rfl | rfl | rfl | rfl | rfl | rfl <;> simp [stL, stL2, lv_args, Value.category]
        exact lwm_22 hG hW hg t0 t1 ha i7 m (p + 1) (by omega) kk
      · have ht : tb t (p : Int) = true := by
          rcases tc with c | c
          · exact c.1
          · exact absurd q2 (by omega)
        refine V_iload (v := Int32.ofInt ((a : Int))) mi_316_45 (by simp [stL, stL2, lv_args, Value.category]) ?_
        refine V_aload (v := ad 90) mi_316_46 (by simp [stL, stL2, lv_args, Value.category]) ?_
        refine V_iload (v := Int32.ofInt ((p : Int))) mi_316_47 (by simp [stL, stL2, lv_args, Value.category]) ?_
        refine V_callM (As := [.int (Int32.ofInt ((p : Int)))]) (st := [.int (Int32.ofInt ((a : Int))), .int (Int32.ofInt ((lfN G t a ((i : Int) - 1) p : Int)))]) mi_316_49 (by omega) (by decide +kernel) (by decide +kernel) hG (mle_ct (f := p) hG hW hg (by omega)) (by omega) (show 1 = mN 204 by decide +kernel) (by simp [Value.category]) ?_
        rintro r w2 ⟨e2, rfl⟩
        rw [e2]
        refine V_cge mi_316_52 ⟨by omega, by omega⟩ ⟨by omega, by omega⟩ (fun q3 => ?_) (fun q3 => ?_)
        · refine V_ipush mi_316_65 ?_
          rw [show Int32.ofInt (-1) = Int32.ofInt (syO G p a) by unfold syO; rw [if_neg (by omega)]]
          refine V_iload (v := Int32.ofInt ((i : Int) - 1)) mi_316_66 (by simp [stL, stL2, lv_args, Value.category]) ?_
          refine V_cne mi_316_68 ⟨by omega, by omega⟩ ⟨by omega, by omega⟩ (fun q4 => ?_) (fun q4 => ?_)
          · have es := lfN_n (G := G) (t := t) (a := a) (f := p) (v := (i : Int) - 1) (fun k => q4 k.2)
            refine V_ipush mi_316_75 ?_
            refine V_ibin mi_316_76 (by omega) ?_
            rw [ib0]
            rw [show (lfN G t a ((i : Int) - 1) p : Int) + 0 = (lfN G t a ((i : Int) - 1) (p + 1) : Int) by omega]
            refine V_istore mi_316_77 ?_
            refine V_iinc (v := Int32.ofInt ((p : Int))) mi_316_79 (by simp [stL, stL2, lv_args, Value.category]) ?_
            rw [ia2]
            refine V_goto mi_316_82 ?_
            refine V_sub (lv' := [(0, .ref (ad 90)), (1, .int (Int32.ofInt (t))), (2, .int (Int32.ofInt ((a : Int)))), (3, .int (Int32.ofInt (lwV G t a i))), (4, .int (Int32.ofInt ((i : Int) - 1))), (5, .int (Int32.ofInt ((lfN G t a ((i : Int) - 1) (p + 1) : Int)))), (6, .int (Int32.ofInt (((p + 1 : Nat) : Int))))]) (fun q hq => ?_) ?_
            · simp only [List.mem_cons, List.not_mem_nil, or_false] at hq
              rcases hq with rfl | rfl | rfl | rfl | rfl | rfl | rfl <;> simp [stL, stL2, lv_args, Value.category]
            exact lwm_22 hG hW hg t0 t1 ha i7 m (p + 1) (by omega) kk
          · have es := lfN_y (G := G) (t := t) (a := a) (f := p) (v := (i : Int) - 1) ⟨ht, q4⟩
            refine V_ipush mi_316_71 ?_
            refine V_goto mi_316_72 ?_
            refine V_ibin mi_316_76 (by omega) ?_
            rw [ib0]
            rw [show (lfN G t a ((i : Int) - 1) p : Int) + 1 = (lfN G t a ((i : Int) - 1) (p + 1) : Int) by omega]
            refine V_istore mi_316_77 ?_
            refine V_iinc (v := Int32.ofInt ((p : Int))) mi_316_79 (by simp [stL, stL2, lv_args, Value.category]) ?_
            rw [ia2]
            refine V_goto mi_316_82 ?_
            refine V_sub (lv' := [(0, .ref (ad 90)), (1, .int (Int32.ofInt (t))), (2, .int (Int32.ofInt ((a : Int)))), (3, .int (Int32.ofInt (lwV G t a i))), (4, .int (Int32.ofInt ((i : Int) - 1))), (5, .int (Int32.ofInt ((lfN G t a ((i : Int) - 1) (p + 1) : Int)))), (6, .int (Int32.ofInt (((p + 1 : Nat) : Int))))]) (fun q hq => ?_) ?_
            · simp only [List.mem_cons, List.not_mem_nil, or_false] at hq
              rcases hq with rfl | rfl | rfl | rfl | rfl | rfl | rfl <;> simp [stL, stL2, lv_args, Value.category]
            exact lwm_22 hG hW hg t0 t1 ha i7 m (p + 1) (by omega) kk
        · refine V_aload (v := ad 90) mi_316_55 (by simp [stL, stL2, lv_args, Value.category]) ?_
          refine V_iload (v := Int32.ofInt ((p : Int))) mi_316_56 (by simp [stL, stL2, lv_args, Value.category]) ?_
          refine V_iload (v := Int32.ofInt ((a : Int))) mi_316_58 (by simp [stL, stL2, lv_args, Value.category]) ?_
          refine V_callM (As := [.int (Int32.ofInt ((p : Int))), .int (Int32.ofInt ((a : Int)))]) (st := [.int (Int32.ofInt ((lfN G t a ((i : Int) - 1) p : Int)))]) mi_316_59 (by omega) (by decide +kernel) (by decide +kernel) hG (msl_ct (o := p) (i := a) hG hW hg (by omega) (by omega)) (by omega) (show 2 = mN 205 by decide +kernel) (by simp [Value.category]) ?_
          rintro r w3 ⟨e3, rfl⟩
          rw [e3, show Int32.ofInt (G (7 + 7 * p + a)) = Int32.ofInt (syO G p a) by unfold syO; rw [if_pos (by omega)]]
          refine V_goto mi_316_62 ?_
          refine V_iload (v := Int32.ofInt ((i : Int) - 1)) mi_316_66 (by simp [stL, stL2, lv_args, Value.category]) ?_
          refine V_cne mi_316_68 ⟨by omega, by omega⟩ ⟨by omega, by omega⟩ (fun q4 => ?_) (fun q4 => ?_)
          · have es := lfN_n (G := G) (t := t) (a := a) (f := p) (v := (i : Int) - 1) (fun k => q4 k.2)
            refine V_ipush mi_316_75 ?_
            refine V_ibin mi_316_76 (by omega) ?_
            rw [ib0]
            rw [show (lfN G t a ((i : Int) - 1) p : Int) + 0 = (lfN G t a ((i : Int) - 1) (p + 1) : Int) by omega]
            refine V_istore mi_316_77 ?_
            refine V_iinc (v := Int32.ofInt ((p : Int))) mi_316_79 (by simp [stL, stL2, lv_args, Value.category]) ?_
            rw [ia2]
            refine V_goto mi_316_82 ?_
            refine V_sub (lv' := [(0, .ref (ad 90)), (1, .int (Int32.ofInt (t))), (2, .int (Int32.ofInt ((a : Int)))), (3, .int (Int32.ofInt (lwV G t a i))), (4, .int (Int32.ofInt ((i : Int) - 1))), (5, .int (Int32.ofInt ((lfN G t a ((i : Int) - 1) (p + 1) : Int)))), (6, .int (Int32.ofInt (((p + 1 : Nat) : Int))))]) (fun q hq => ?_) ?_
            · simp only [List.mem_cons, List.not_mem_nil, or_false] at hq
              rcases hq with rfl | rfl | rfl | rfl | rfl | rfl | rfl <;> simp [stL, stL2, lv_args, Value.category]
            exact lwm_22 hG hW hg t0 t1 ha i7 m (p + 1) (by omega) kk
          · have es := lfN_y (G := G) (t := t) (a := a) (f := p) (v := (i : Int) - 1) ⟨ht, q4⟩
            refine V_ipush mi_316_71 ?_
            refine V_goto mi_316_72 ?_
            refine V_ibin mi_316_76 (by omega) ?_
            rw [ib0]
            rw [show (lfN G t a ((i : Int) - 1) p : Int) + 1 = (lfN G t a ((i : Int) - 1) (p + 1) : Int) by omega]
            refine V_istore mi_316_77 ?_
            refine V_iinc (v := Int32.ofInt ((p : Int))) mi_316_79 (by simp [stL, stL2, lv_args, Value.category]) ?_
            rw [ia2]
            refine V_goto mi_316_82 ?_
            refine V_sub (lv' := [(0, .ref (ad 90)), (1, .int (Int32.ofInt (t))), (2, .int (Int32.ofInt ((a : Int)))), (3, .int (Int32.ofInt (lwV G t a i))), (4, .int (Int32.ofInt ((i : Int) - 1))), (5, .int (Int32.ofInt ((lfN G t a ((i : Int) - 1) (p + 1) : Int)))), (6, .int (Int32.ofInt (((p + 1 : Nat) : Int))))]) (fun q hq => ?_) ?_
            · simp only [List.mem_cons, List.not_mem_nil, or_false] at hq
              rcases hq with rfl | rfl | rfl | rfl | rfl | rfl | rfl <;> simp [stL, stL2, lv_args, Value.category]
            exact lwm_22 hG hW hg t0 t1 ha i7 m (p + 1) (by omega) kk
theorem lwm_5 {G : Nat → Int} (hG : GOK ad tys GG ws) (hW : W91 G ws) (hg : HB G) {t : Int} (t0 : 0 ≤ t) (t1 : t ≤ 63) {a : Nat} (ha : a ≤ 5) {post : Option Value → va_W → Prop} : ∀ (m i : Nat), ((i + m : Nat) : Int) = G 0 + 1 → post (some (.int (Int32.ofInt (lwV G t a (G 0 + 1).toNat)))) ws → V l D tys A 316 1 0 0 post 0 0 5 [(0, .ref (ad 90)), (1, .int (Int32.ofInt (t))), (2, .int (Int32.ofInt ((a : Int)))), (3, .int (Int32.ofInt (lwV G t a i))), (4, .int (Int32.ofInt ((i : Int) - 1)))] [] ws
  | 0, i, hm, kk => by
    obtain ⟨s91, e91, -⟩ := g91s
    have b3 := hg.b3
    have g0 := hg.b0
    have lb := lwV_bd (G := G) (t := t) (a := a) b3 i
    have le := lfN_le (G := G) (t := t) (a := a) (v := (i : Int) - 1) (G 3).toNat
    refine V_iload (v := Int32.ofInt ((i : Int) - 1)) mi_316_5 (by simp [stL, stL2, lv_args, Value.category]) ?_
    refine V_aload (v := ad 90) mi_316_7 (by simp [stL, stL2, lv_args, Value.category]) ?_
    refine V_getI mi_316_8 hG (rref gr1m (by omega) hG) ?_
    refine V_ipush mi_316_11 ?_
    refine V_aldX (j := 0) mi_316_12 rfl hG e91 (by omega) (by omega) (hW _ (by omega)) ?_
    refine V_cge mi_316_13 ⟨by omega, by omega⟩ ⟨by omega, by omega⟩ (fun q => ?_) (fun q => ?_)
    · refine V_iload (v := Int32.ofInt (lwV G t a i)) mi_316_98 (by simp [stL, stL2, lv_args, Value.category]) ?_
      have e : i = (G 0 + 1).toNat := by omega
      rw [e]
      exact V_retI mi_316_99 (fun h => absurd h (by decide +kernel)) kk
    · exact absurd q (by omega)
  | m + 1, i, hm, kk => by
    obtain ⟨s91, e91, -⟩ := g91s
    have b3 := hg.b3
    have g0 := hg.b0
    have lb := lwV_bd (G := G) (t := t) (a := a) b3 i
    have le := lfN_le (G := G) (t := t) (a := a) (v := (i : Int) - 1) (G 3).toNat
    refine V_iload (v := Int32.ofInt ((i : Int) - 1)) mi_316_5 (by simp [stL, stL2, lv_args, Value.category]) ?_
    refine V_aload (v := ad 90) mi_316_7 (by simp [stL, stL2, lv_args, Value.category]) ?_
    refine V_getI mi_316_8 hG (rref gr1m (by omega) hG) ?_
    refine V_ipush mi_316_11 ?_
    refine V_aldX (j := 0) mi_316_12 rfl hG e91 (by omega) (by omega) (hW _ (by omega)) ?_
    refine V_cge mi_316_13 ⟨by omega, by omega⟩ ⟨by omega, by omega⟩ (fun q => ?_) (fun q => ?_)
    · exact absurd q (by omega)
    · refine V_ipush mi_316_16 ?_
      refine V_istore mi_316_17 ?_
      refine V_ipush mi_316_19 ?_
      refine V_istore mi_316_20 ?_
      refine V_sub (lv' := [(0, .ref (ad 90)), (1, .int (Int32.ofInt (t))), (2, .int (Int32.ofInt ((a : Int)))), (3, .int (Int32.ofInt (lwV G t a i))), (4, .int (Int32.ofInt ((i : Int) - 1))), (5, .int (Int32.ofInt (0))), (6, .int (Int32.ofInt (((0 : Nat) : Int))))]) (fun q hq => ?_) ?_
      · simp only [List.mem_cons, List.not_mem_nil, or_false] at hq
        rcases hq with rfl | rfl | rfl | rfl | rfl | rfl | rfl <;> simp [stL, stL2, lv_args, Value.category]
      rw [show (0 : Int) = (lfN G t a ((i : Int) - 1) 0 : Int) from rfl]
      refine lwm_22 hG hW hg t0 t1 ha (by omega) (G 3).toNat 0 (by omega) ?_
      refine V_iload (v := Int32.ofInt (lwV G t a i)) mi_316_85 (by simp [stL, stL2, lv_args, Value.category]) ?_
      refine V_iload (v := Int32.ofInt ((lfN G t a ((i : Int) - 1) (G 3).toNat : Int))) mi_316_86 (by simp [stL, stL2, lv_args, Value.category]) ?_
      refine V_stat (As := [.int (Int32.ofInt (lwV G t a i)), .int (Int32.ofInt ((lfN G t a ((i : Int) - 1) (G 3).toNat : Int)))]) (st := []) mi_316_88 (by omega) (mxx_ct ⟨by omega, by omega⟩ ⟨by omega, by omega⟩) (by omega) (show 2 = mN 341 by decide +kernel) (by simp [Value.category]) ⟨Nat.le_refl _, Nat.le_refl _⟩ ?_
      rintro r w1 ⟨e1, rfl⟩
      rw [e1, show mxV (lwV G t a i) (lfN G t a ((i : Int) - 1) (G 3).toNat : Int) = lwV G t a (i + 1) from rfl]
      refine V_istore mi_316_91 ?_
      refine V_iinc (v := Int32.ofInt ((i : Int) - 1)) mi_316_92 (by simp [stL, stL2, lv_args, Value.category]) ?_
      rw [ia2]
      rw [show (i : Int) - 1 + 1 = ((i + 1 : Nat) : Int) - 1 by omega]
      refine V_goto mi_316_95 ?_
      refine V_sub (lv' := [(0, .ref (ad 90)), (1, .int (Int32.ofInt (t))), (2, .int (Int32.ofInt ((a : Int)))), (3, .int (Int32.ofInt (lwV G t a (i + 1)))), (4, .int (Int32.ofInt (((i + 1 : Nat) : Int) - 1)))]) (fun q hq => ?_) ?_
      · simp only [List.mem_cons, List.not_mem_nil, or_false] at hq
        rcases hq with rfl | rfl | rfl | rfl | rfl <;> simp [stL, stL2, lv_args, Value.category]
      exact lwm_5 hG hW hg t0 t1 ha m (i + 1) (by omega) kk
theorem lwM_ct {G : Nat → Int} (hG : GOK ad tys GG ws) (hW : W91 G ws) (hg : HB G) {t : Int} (t0 : 0 ≤ t) (t1 : t ≤ 63) {a : Nat} (ha : a ≤ 5) : CT l D tys A 316 1 0 0 [.ref (ad 90), .int (Int32.ofInt (t)), .int (Int32.ofInt ((a : Int)))] ws (fun r w => w = ws ∧ r = some (.int (Int32.ofInt (lwW G t a)))) := by
  refine CT_of_V (by omega) (show (3 : Nat) ≤ mML 316 by decide +kernel) ?_
  have g0 := hg.b0
  refine V_ipush mi_316_0 ?_
  refine V_istore mi_316_1 ?_
  refine V_ipush mi_316_2 ?_
  refine V_istore mi_316_3 ?_
  refine V_sub (lv' := [(0, .ref (ad 90)), (1, .int (Int32.ofInt (t))), (2, .int (Int32.ofInt ((a : Int)))), (3, .int (Int32.ofInt (0))), (4, .int (Int32.ofInt ((-1))))]) (fun q hq => ?_) ?_
  · simp only [List.mem_cons, List.not_mem_nil, or_false] at hq
    rcases hq with rfl | rfl | rfl | rfl | rfl <;> simp [stL, stL2, lv_args, Value.category]
  rw [show (-1 : Int) = ((0 : Nat) : Int) - 1 from rfl, show Int32.ofInt 0 = Int32.ofInt (lwV G t a 0) from rfl]
  exact lwm_5 hG hW hg t0 t1 ha (G 0 + 1).toNat 0 (by omega) ⟨rfl, rfl⟩
theorem bsm_10 {G : Nat → Int} (hG : GOK ad tys GG ws) (hW : W91 G ws) (hg : HB G) {t : Int} (t0 : 0 ≤ t) (t1 : t ≤ 63) {post : Option Value → va_W → Prop} : ∀ (m a : Nat), a + m = 6 → post (some (.int (Int32.ofInt (bsF G t 6).1))) ws → V l D tys A 317 2 0 0 post 0 0 10 [(0, .ref (ad 90)), (1, .int (Int32.ofInt (t))), (2, .int (Int32.ofInt ((bsF G t a).2))), (3, .int (Int32.ofInt ((bsF G t a).1))), (4, .int (Int32.ofInt ((a : Int))))] [] ws
  | 0, a, hm, kk => by
    have b3 := hg.b3
    have bb := bsF_bd (G := G) (t := t) b3 a (by omega)
    have lb : 0 ≤ lwW G t a ∧ lwW G t a ≤ 6 := lwV_bd b3 _
    refine V_iload (v := Int32.ofInt ((a : Int))) mi_317_10 (by simp [stL, stL2, lv_args, Value.category]) ?_
    refine V_ipush mi_317_12 ?_
    refine V_cge mi_317_14 ⟨by omega, by omega⟩ ⟨by omega, by omega⟩ (fun q => ?_) (fun q => ?_)
    · refine V_iload (v := Int32.ofInt ((bsF G t a).1)) mi_317_47 (by simp [stL, stL2, lv_args, Value.category]) ?_
      have e : a = 6 := by omega
      rw [e]
      exact V_retI mi_317_48 (fun h => absurd h (by decide +kernel)) kk
    · exact absurd q (by omega)
  | m + 1, a, hm, kk => by
    have b3 := hg.b3
    have bb := bsF_bd (G := G) (t := t) b3 a (by omega)
    have lb : 0 ≤ lwW G t a ∧ lwW G t a ≤ 6 := lwV_bd b3 _
    refine V_iload (v := Int32.ofInt ((a : Int))) mi_317_10 (by simp [stL, stL2, lv_args, Value.category]) ?_
    refine V_ipush mi_317_12 ?_
    refine V_cge mi_317_14 ⟨by omega, by omega⟩ ⟨by omega, by omega⟩ (fun q => ?_) (fun q => ?_)
    · exact absurd q (by omega)
    · refine V_aload (v := ad 90) mi_317_17 (by simp [stL, stL2, lv_args, Value.category]) ?_
      refine V_iload (v := Int32.ofInt (t)) mi_317_18 (by simp [stL, stL2, lv_args, Value.category]) ?_
      refine V_iload (v := Int32.ofInt ((a : Int))) mi_317_19 (by simp [stL, stL2, lv_args, Value.category]) ?_
      refine V_callM (As := [.int (Int32.ofInt (t)), .int (Int32.ofInt ((a : Int)))]) (st := []) mi_317_21 (by omega) (by decide +kernel) (by decide +kernel) hG (lwM_ct (a := a) hG hW hg t0 t1 (by omega)) (by omega) (show 2 = mN 316 by decide +kernel) (by simp [Value.category]) ?_
      rintro r w1 ⟨e1, rfl⟩
      rw [e1]
      refine V_istore mi_317_24 ?_
      refine V_iload (v := Int32.ofInt (lwW G t a)) mi_317_26 (by simp [stL, stL2, lv_args, Value.category]) ?_
      refine V_iload (v := Int32.ofInt ((bsF G t a).2)) mi_317_28 (by simp [stL, stL2, lv_args, Value.category]) ?_
      refine V_clt mi_317_29 ⟨by omega, by omega⟩ ⟨by omega, by omega⟩ (fun q2 => ?_) (fun q2 => ?_)
      · refine V_iload (v := Int32.ofInt (lwW G t a)) mi_317_35 (by simp [stL, stL2, lv_args, Value.category]) ?_
        refine V_istore mi_317_37 ?_
        refine V_iload (v := Int32.ofInt ((a : Int))) mi_317_38 (by simp [stL, stL2, lv_args, Value.category]) ?_
        refine V_istore mi_317_40 ?_
        have es := bsF_y (G := G) (t := t) (a := a) (by omega)
        rw [show lwW G t a = (bsF G t (a + 1)).2 by rw [es]]
        refine V_iinc (v := Int32.ofInt ((a : Int))) mi_317_41 (by simp [stL, stL2, lv_args, Value.category]) ?_
        rw [ia2]
        refine V_goto mi_317_44 ?_
        refine V_sub (lv' := [(0, .ref (ad 90)), (1, .int (Int32.ofInt (t))), (2, .int (Int32.ofInt ((bsF G t (a + 1)).2))), (3, .int (Int32.ofInt ((a : Int)))), (4, .int (Int32.ofInt (((a + 1 : Nat) : Int))))]) (fun q hq => ?_) ?_
        · simp only [List.mem_cons, List.not_mem_nil, or_false] at hq
          rcases hq with rfl | rfl | rfl | rfl | rfl <;> simp [stL, stL2, lv_args, Value.category]
        rw [show (a : Int) = (bsF G t (a + 1)).1 by rw [es]]
        exact bsm_10 hG hW hg t0 t1 m (a + 1) (by omega) kk
      · rw [← bsF_n (G := G) (t := t) (a := a) (by omega)]
        refine V_goto mi_317_32 ?_
        refine V_iinc (v := Int32.ofInt ((a : Int))) mi_317_41 (by simp [stL, stL2, lv_args, Value.category]) ?_
        rw [ia2]
        refine V_goto mi_317_44 ?_
        refine V_sub (lv' := [(0, .ref (ad 90)), (1, .int (Int32.ofInt (t))), (2, .int (Int32.ofInt ((bsF G t (a + 1)).2))), (3, .int (Int32.ofInt ((bsF G t (a + 1)).1))), (4, .int (Int32.ofInt (((a + 1 : Nat) : Int))))]) (fun q hq => ?_) ?_
        · simp only [List.mem_cons, List.not_mem_nil, or_false] at hq
          rcases hq with rfl | rfl | rfl | rfl | rfl <;> simp [stL, stL2, lv_args, Value.category]
        exact bsm_10 hG hW hg t0 t1 m (a + 1) (by omega) kk
theorem bsM_ct {G : Nat → Int} (hG : GOK ad tys GG ws) (hW : W91 G ws) (hg : HB G) {t : Int} (t0 : 0 ≤ t) (t1 : t ≤ 63) : CT l D tys A 317 2 0 0 [.ref (ad 90), .int (Int32.ofInt (t))] ws (fun r w => w = ws ∧ r = some (.int (Int32.ofInt (bsF G t 6).1))) := by
  refine CT_of_V (by omega) (show (2 : Nat) ≤ mML 317 by decide +kernel) ?_
  refine V_iload (v := Int32.ofInt (t)) mi_317_0 (by simp [stL, stL2, lv_args, Value.category]) ?_
  refine V_stat (As := [.int (Int32.ofInt (t))]) (st := []) mi_317_1 (by omega) (bcm_ct (a := t) t0 t1) (by omega) (show 1 = mN 194 by decide +kernel) (by simp [Value.category]) ⟨Nat.le_refl _, Nat.le_refl _⟩ ?_
  rintro r w0 ⟨rfl, rfl⟩
  refine V_istore mi_317_4 ?_
  refine V_ipush mi_317_5 ?_
  refine V_istore mi_317_6 ?_
  refine V_ipush mi_317_7 ?_
  refine V_istore mi_317_8 ?_
  refine V_sub (lv' := [(0, .ref (ad 90)), (1, .int (Int32.ofInt (t))), (2, .int (Int32.ofInt (bcS t 6))), (3, .int (Int32.ofInt ((-1)))), (4, .int (Int32.ofInt (((0 : Nat) : Int))))]) (fun q hq => ?_) ?_
  · simp only [List.mem_cons, List.not_mem_nil, or_false] at hq
    rcases hq with rfl | rfl | rfl | rfl | rfl <;> simp [stL, stL2, lv_args, Value.category]
  exact bsm_10 hG hW hg t0 t1 6 0 (by omega) ⟨rfl, rfl⟩
theorem leM_ct {G : Nat → Int} {sz wds : Nat → Int} {nm : Nat → Int64} (hG : GOK ad tys GG ws) (hW : W91 G ws) (hg : HB G) (h : SLM sz wds nm ws) (hB : SLB sz wds nm) {s : Int} (sI : I32 s) : CT l D tys A 319 3 0 0 [.ref (ad 90), .int (Int32.ofInt (s))] ws (fun r w => w = ws ∧ r = some (.int (Int32.ofInt (lerV G sz nm s)))) := by
  refine CT_of_V (by omega) (show (2 : Nat) ≤ mML 319 by decide +kernel) ?_
  refine V_aload (v := ad 90) mi_319_0 (by simp [stL, stL2, lv_args, Value.category]) ?_
  refine V_iload (v := Int32.ofInt (s)) mi_319_1 (by simp [stL, stL2, lv_args, Value.category]) ?_
  refine V_callM (As := [.int (Int32.ofInt (s))]) (st := []) mi_319_2 (by omega) (by decide +kernel) (by decide +kernel) hG (wcM_ct hG hW hg h hB sI) (by omega) (show 1 = mN 312 by decide +kernel) (by simp [Value.category]) ?_
  rintro r w1 ⟨rfl, rfl⟩
  have wc := wcrV_c G sz nm s
  refine V_istore mi_319_5 ?_
  refine V_iload (v := Int32.ofInt (wcrV G sz nm s)) mi_319_6 (by simp [stL, stL2, lv_args, Value.category]) ?_
  refine V_zge mi_319_7 ⟨by omega, by omega⟩ (fun q2 => ?_) (fun q2 => ?_)
  · have b3 := hg.b3
    have k0 : wcrV G sz nm s = 0 ∧ (0 ≤ s ∧ s < 4) ∧ 0 ≤ sz s.toNat ∧ cluB G nm s.toNat (sz s.toNat).toNat = true := by
      rcases wc with e | e | e
      · exact absurd q2 (by omega)
      · exact absurd q2 (by omega)
      · exact e
    obtain ⟨j, rfl⟩ := Int.eq_ofNat_of_zero_le k0.2.1.1
    have k2 : 0 ≤ sz j := k0.2.2.1
    have k3 : cluB G nm j (sz j).toNat = true := k0.2.2.2
    unfold cluB at k3
    rw [Bool.and_eq_true] at k3
    have ev := of_decide_eq_true k3.2
    have hn : sz j = ((sz j).toNat : Int) := by omega
    have tb_ := orI_bd (P := gsA G nm j ((sz j).toNat / 2)) (f := (G 3).toNat) (by omega)
    refine V_aload (v := ad 90) mi_319_12 (by simp [stL, stL2, lv_args, Value.category]) ?_
    refine V_iload (v := Int32.ofInt ((j : Int))) mi_319_13 (by simp [stL, stL2, lv_args, Value.category]) ?_
    refine V_callM (As := [.int (Int32.ofInt ((j : Int)))]) (st := []) mi_319_14 (by omega) (by decide +kernel) (by decide +kernel) hG (gbM_ct (j := j) (n := (sz j).toNat) hG hW hg h hB (by omega) hn ev k3.1) (by omega) (show 1 = mN 314 by decide +kernel) (by simp [Value.category]) ?_
    rintro r w2 ⟨rfl, rfl⟩
    refine V_istore mi_319_17 ?_
    refine V_aload (v := ad 90) mi_319_18 (by simp [stL, stL2, lv_args, Value.category]) ?_
    refine V_iload (v := Int32.ofInt (orI (gsA G nm j ((sz j).toNat / 2)) (G 3).toNat)) mi_319_19 (by simp [stL, stL2, lv_args, Value.category]) ?_
    refine V_callM (As := [.int (Int32.ofInt (orI (gsA G nm j ((sz j).toNat / 2)) (G 3).toNat))]) (st := []) mi_319_20 (by omega) (by decide +kernel) (by decide +kernel) hG (bsM_ct (t := orI (gsA G nm j ((sz j).toNat / 2)) (G 3).toNat) hG hW hg tb_.1 tb_.2) (by omega) (show 1 = mN 317 by decide +kernel) (by simp [Value.category]) ?_
    rintro r w3 ⟨rfl, rfl⟩
    have bb := (bsF_bd (G := G) (t := orI (gsA G nm j ((sz j).toNat / 2)) (G 3).toNat) b3 6 (by omega)).1
    refine V_istore mi_319_23 ?_
    refine V_iload (v := Int32.ofInt ((bsF G (orI (gsA G nm j ((sz j).toNat / 2)) (G 3).toNat) 6).1)) mi_319_25 (by simp [stL, stL2, lv_args, Value.category]) ?_
    refine V_ipush mi_319_27 ?_
    refine V_cne mi_319_28 ⟨by omega, by omega⟩ ⟨by omega, by omega⟩ (fun q3 => ?_) (fun q3 => ?_)
    · refine V_aload (v := ad 90) mi_319_38 (by simp [stL, stL2, lv_args, Value.category]) ?_
      refine V_iload (v := Int32.ofInt (orI (gsA G nm j ((sz j).toNat / 2)) (G 3).toNat)) mi_319_39 (by simp [stL, stL2, lv_args, Value.category]) ?_
      refine V_iload (v := Int32.ofInt ((bsF G (orI (gsA G nm j ((sz j).toNat / 2)) (G 3).toNat) 6).1)) mi_319_40 (by simp [stL, stL2, lv_args, Value.category]) ?_
      have eb : (bsF G (orI (gsA G nm j ((sz j).toNat / 2)) (G 3).toNat) 6).1 = ((((bsF G (orI (gsA G nm j ((sz j).toNat / 2)) (G 3).toNat) 6).1).toNat : Nat) : Int) := by omega
      rw [show Int32.ofInt ((bsF G (orI (gsA G nm j ((sz j).toNat / 2)) (G 3).toNat) 6).1) = Int32.ofInt ((((bsF G (orI (gsA G nm j ((sz j).toNat / 2)) (G 3).toNat) 6).1).toNat : Nat) : Int) from congrArg Int32.ofInt eb]
      refine V_callM (As := [.int (Int32.ofInt (orI (gsA G nm j ((sz j).toNat / 2)) (G 3).toNat)), .int (Int32.ofInt (((((bsF G (orI (gsA G nm j ((sz j).toNat / 2)) (G 3).toNat) 6).1).toNat : Nat) : Int)))]) (st := []) mi_319_42 (by omega) (by decide +kernel) (by decide +kernel) hG (lwM_ct (t := orI (gsA G nm j ((sz j).toNat / 2)) (G 3).toNat) (a := ((bsF G (orI (gsA G nm j ((sz j).toNat / 2)) (G 3).toNat) 6).1).toNat) hG hW hg tb_.1 tb_.2 (by omega)) (by omega) (show 2 = mN 316 by decide +kernel) (by simp [Value.category]) ?_
      rintro r w4 ⟨rfl, rfl⟩
      exact V_retI mi_319_45 (fun h => absurd h (by decide +kernel)) ⟨rfl, by unfold lerV; rw [if_pos k0.1, if_neg (show ¬ (bsF G (clT G sz nm ((j : Int))) 6).1 < 0 from fun z => by have : (bsF G (orI (gsA G nm j ((sz j).toNat / 2)) (G 3).toNat) 6).1 < 0 := z; omega)]; rfl⟩
    · refine V_iload (v := Int32.ofInt (orI (gsA G nm j ((sz j).toNat / 2)) (G 3).toNat)) mi_319_31 (by simp [stL, stL2, lv_args, Value.category]) ?_
      refine V_stat (As := [.int (Int32.ofInt (orI (gsA G nm j ((sz j).toNat / 2)) (G 3).toNat))]) (st := []) mi_319_32 (by omega) (bcm_ct (a := orI (gsA G nm j ((sz j).toNat / 2)) (G 3).toNat) tb_.1 tb_.2) (by omega) (show 1 = mN 194 by decide +kernel) (by simp [Value.category]) ⟨Nat.le_refl _, Nat.le_refl _⟩ ?_
      rintro r w4 ⟨rfl, rfl⟩
      refine V_goto mi_319_35 ?_
      exact V_retI mi_319_45 (fun h => absurd h (by decide +kernel)) ⟨rfl, by unfold lerV; rw [if_pos k0.1, if_pos (show (bsF G (clT G sz nm ((j : Int))) 6).1 < 0 from (show (bsF G (orI (gsA G nm j ((sz j).toNat / 2)) (G 3).toNat) 6).1 < 0 by omega))]; rfl⟩
  · refine V_iload (v := Int32.ofInt (wcrV G sz nm s)) mi_319_10 (by simp [stL, stL2, lv_args, Value.category]) ?_
    exact V_retI mi_319_11 (fun h => absurd h (by decide +kernel)) ⟨rfl, by unfold lerV; rw [if_neg (by omega)]⟩
theorem pairV_leaves (hAD : ∀ i : Nat, ad (1000 + i) = D.2 1000 i) (hG : GOK ad tys GG ws) (hR : RELV ws) (a1 : Int32) : PAIRV l D tys A ad 56 319 [.ref (ad 0), .int a1] [.ref (ad 90), .int a1] ws := by
  obtain ⟨G, o, x, y⟩ := hR.1.2.1
  have hg := hb_of hG y o
  obtain ⟨sz, wds, nm, hX, hM, hB⟩ := hR.2
  have c1 := leX_ct (l := l) (D := D) (A := A) hG x hg hX hB (i32b a1)
  have c2 := leM_ct (l := l) (D := D) (A := A) hG y hg hM hB (i32b a1)
  rw [oi] at c1 c2
  exact pairV_ro hG hR (by omega) (by omega) c1 c2
end XVJ
