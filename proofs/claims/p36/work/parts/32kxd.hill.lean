section XTD
variable {l : Launch} {D : va_G} {tys : List (ClassId × FieldType)} {A : Nat → Prop} {ad : Nat → Nat} {ws : va_W}
/-- the sets that lead to o -/
def viP (G : Nat → Int) (f o p : Nat) : Bool := (tb (p : Int) (o : Int) && !(tb (p : Int) (f : Int))) && decide (brV G (p : Int) f = bitO (p : Int) (f : Int))
theorem viP_cl {G : Nat → Int} {f p : Nat} (hB : HB G) (hf : f < 6) (hp : p < 64) (h : tb (p : Int) (f : Int) = false) : (clB (brV G (p : Int) f) (f : Int) = (p : Int)) ↔ brV G (p : Int) f = bitO (p : Int) (f : Int) := by
  have b := brV_bd (so := (p : Int)) hB hf
  have c := clB_k (i := f) b.1.1 b.1.2 hf
  have d := clB_k (a := (p : Int)) (i := f) (by omega) (by omega) hf
  constructor
  · intro e
    have q := (c.2.2.1 b.2).symm
    rw [e] at q
    exact q
  · intro e
    rw [e]
    exact d.2.1 h
theorem bitO_s (a i : Int) : ibF 6 (Int32.ofInt a) (ibF 8 (Int32.ofInt 1) (Int32.ofInt i)) = Int32.ofInt (bitO a i) := bitO_i a i
theorem ite_ct {G : Nat → Int} {w0 : va_W} (hT : MT ad tys G w0 ws) (hW : W91 G ws) (hB : HB G) {f o : Nat} (hf : f < 6) (ho : o < 6) : CT l D tys A 240 1 0 0 [.ref (ad 90), .int (Int32.ofInt ((f : Int))), .int (Int32.ofInt ((o : Int)))] ws (fun r w => w = ws ∧ r = some (.int (Int32.ofInt ((tellT G (G 2).toNat).K (6 * f + o))))) := by
  refine CT_of_V (by omega) (show (3 : Nat) ≤ mML 240 by decide +kernel) ?_
  obtain ⟨s91, e91, -⟩ := g91s
  have b3 := hB.b3
  have b2 := hB.b2
  refine V_aload (v := ad 90) mi_240_0 (by simp [stL, lv_args, Value.category]) ?_
  refine V_iload (v := Int32.ofInt ((f : Int))) mi_240_1 (by simp [stL, lv_args, Value.category]) ?_
  refine V_iload (v := Int32.ofInt ((o : Int))) mi_240_2 (by simp [stL, lv_args, Value.category]) ?_
  refine V_aload (v := ad 90) mi_240_3 (by simp [stL, lv_args, Value.category]) ?_
  refine V_getI mi_240_4 hT.1 (rref gr1m (by omega) hT.1) ?_
  refine V_ipush mi_240_7 ?_
  refine V_aldX (j := 2) mi_240_8 rfl hT.1 e91 (by omega) (by omega) (hW _ (by omega)) ?_
  rw [show G 2 = (((G 2).toNat : Nat) : Int) by omega]
  refine V_callM (As := [.int (Int32.ofInt ((f : Int))), .int (Int32.ofInt ((o : Int))), .int (Int32.ofInt (((G 2).toNat : Int)))]) (st := []) mi_240_9 (by omega) (by decide +kernel) (by decide +kernel) hT.1 (kah_ct (f := f) (o := o) (g := (G 2).toNat) hT.1 hf ho (by omega) (mt_k hT hf ho (by omega))) (by omega) (show 3 = mN 239 by decide +kernel) (by simp [Value.category]) ?_
  rintro r w2 ⟨rfl, rfl⟩
  exact V_retI mi_240_12 (fun h => absurd h (by decide +kernel)) ⟨rfl, rfl⟩
theorem knt_5 {G : Nat → Int} {w0 : va_W} (hT : MT ad tys G w0 ws) (hW : W91 G ws) (hB : HB G) {f : Nat} {post : Option Value → va_W → Prop} (hf : f < 6) {t : Int} (t0 : 0 ≤ t) (t1 : t ≤ 63) : ∀ (m p : Nat), ((p + m : Nat) : Int) = G 3 → post (some (.int (bI (brQ G t f)))) ws → V l D tys A 276 2 0 0 post 0 0 5 [(0, .ref (ad 90)), (1, .int (Int32.ofInt (t))), (2, .int (Int32.ofInt ((f : Int)))), (3, .int (Int32.ofInt (gaS (tellT G (G 2).toNat).K t f p))), (4, .int (Int32.ofInt ((p : Int))))] [] ws
  | 0, p, hm, kk => by
    obtain ⟨s91, e91, -⟩ := g91s
    have b3 := hB.b3
    have b2 := hB.b2
    refine V_iload (v := Int32.ofInt ((p : Int))) mi_276_5 (by simp [stL, lv_args, Value.category]) ?_
    refine V_aload (v := ad 90) mi_276_7 (by simp [stL, lv_args, Value.category]) ?_
    refine V_getI mi_276_8 hT.1 (rref gr1m (by omega) hT.1) ?_
    refine V_ipush mi_276_11 ?_
    refine V_aldX (j := 3) mi_276_12 rfl hT.1 e91 (by omega) (by omega) (hW _ (by omega)) ?_
    refine V_cge mi_276_13 ⟨by omega, by omega⟩ ⟨by omega, by omega⟩ (fun q => ?_) (fun q => ?_)
    · have e : p = (G 3).toNat := by omega
      have ia := gaI (K := (tellT G (G 2).toNat).K) (t := t) (f := f) p
      have ib : I32 (allV (G (6 + 7 * f))) := i32b _
      refine V_iload (v := Int32.ofInt (gaS (tellT G (G 2).toNat).K t f p)) mi_276_46 (by simp [stL, lv_args, Value.category]) ?_
      refine V_aload (v := ad 90) mi_276_47 (by simp [stL, lv_args, Value.category]) ?_
      refine V_iload (v := Int32.ofInt ((f : Int))) mi_276_48 (by simp [stL, lv_args, Value.category]) ?_
      refine V_callM (As := [.int (Int32.ofInt ((f : Int)))]) (st := [.int (Int32.ofInt (gaS (tellT G (G 2).toNat).K t f p))]) mi_276_49 (by omega) (by decide +kernel) (by decide +kernel) hT.1 (who_ct (o := f) (by omega) hT.1 hW hB) (by omega) (show 1 = mN 206 by decide +kernel) (by simp [Value.category]) ?_
      rintro r w2 ⟨e2, rfl⟩
      rw [e2]
      refine V_cne mi_276_52 ia ib (fun q2 => ?_) (fun q2 => ?_)
      · refine V_ipush mi_276_59 ?_
        exact V_retI mi_276_60 (fun _ => by decide) (by rw [e] at q2; rw [show brQ G t f = false from decide_eq_false q2] at kk; exact kk)
      · refine V_ipush mi_276_55 ?_
        refine V_goto mi_276_56 ?_
        exact V_retI mi_276_60 (fun _ => by decide) (by rw [e] at q2; rw [show brQ G t f = true from decide_eq_true q2] at kk; exact kk)
    · exact absurd q (by omega)
  | m + 1, p, hm, kk => by
    obtain ⟨s91, e91, -⟩ := g91s
    have b3 := hB.b3
    have b2 := hB.b2
    refine V_iload (v := Int32.ofInt ((p : Int))) mi_276_5 (by simp [stL, lv_args, Value.category]) ?_
    refine V_aload (v := ad 90) mi_276_7 (by simp [stL, lv_args, Value.category]) ?_
    refine V_getI mi_276_8 hT.1 (rref gr1m (by omega) hT.1) ?_
    refine V_ipush mi_276_11 ?_
    refine V_aldX (j := 3) mi_276_12 rfl hT.1 e91 (by omega) (by omega) (hW _ (by omega)) ?_
    refine V_cge mi_276_13 ⟨by omega, by omega⟩ ⟨by omega, by omega⟩ (fun q => ?_) (fun q => ?_)
    · exact absurd q (by omega)
    · refine V_iload (v := Int32.ofInt (gaS (tellT G (G 2).toNat).K t f p)) mi_276_16 (by simp [stL, lv_args, Value.category]) ?_
      refine V_iload (v := Int32.ofInt (t)) mi_276_17 (by simp [stL, lv_args, Value.category]) ?_
      refine V_iload (v := Int32.ofInt ((p : Int))) mi_276_18 (by simp [stL, lv_args, Value.category]) ?_
      refine V_stat (As := [.int (Int32.ofInt (t)), .int (Int32.ofInt ((p : Int)))]) (st := [.int (Int32.ofInt (gaS (tellT G (G 2).toNat).K t f p))]) mi_276_20 (by omega) (bit_ct _ _ _) (by omega) (show 2 = mN 195 by decide +kernel) (by simp [Value.category]) ⟨Nat.le_refl _, Nat.le_refl _⟩ ?_
      rintro r w1 ⟨e1, rfl⟩
      rw [e1, (tb_k (i := (p : Int)) t0 t1 (by omega) (by omega)).1, bI_if]
      refine V_ipush mi_276_23 ?_
      refine V_cne mi_276_24 ⟨by split <;> omega, by split <;> omega⟩ ⟨by omega, by omega⟩ (fun q2 => ?_) (fun q2 => ?_)
      · have q3 : tb t (p : Int) = false := by
          cases c : tb t (p : Int) with
          | false => rfl
          | true => exact absurd (by rw [if_pos c]) q2
        refine V_ipush mi_276_37 ?_
        refine V_ibin mi_276_38 (by omega) ?_
        rw [or0, ← gaS_0 (K := (tellT G (G 2).toNat).K) (f := f) q3]
        refine V_istore mi_276_39 ?_
        refine V_iinc (v := Int32.ofInt ((p : Int))) mi_276_40 (by simp [stL, lv_args, Value.category]) ?_
        rw [ia2]
        refine V_goto mi_276_43 ?_
        refine V_sub (lv' := [(0, .ref (ad 90)), (1, .int (Int32.ofInt (t))), (2, .int (Int32.ofInt ((f : Int)))), (3, .int (Int32.ofInt (gaS (tellT G (G 2).toNat).K t f (p + 1)))), (4, .int (Int32.ofInt (((p + 1 : Nat) : Int))))]) (fun q hq => ?_) ?_
        · simp only [List.mem_cons, List.not_mem_nil, or_false] at hq
          rcases hq with rfl | rfl | rfl | rfl | rfl <;> simp [stL, lv_args, Value.category]
        exact knt_5 hT hW hB hf t0 t1 m (p + 1) (by omega) kk
      · have q3 : tb t (p : Int) = true := by
          cases c : tb t (p : Int) with
          | true => rfl
          | false => exact absurd q2 (by rw [c, if_neg Bool.false_ne_true]; omega)
        refine V_aload (v := ad 90) mi_276_27 (by simp [stL, lv_args, Value.category]) ?_
        refine V_iload (v := Int32.ofInt ((p : Int))) mi_276_28 (by simp [stL, lv_args, Value.category]) ?_
        refine V_iload (v := Int32.ofInt ((f : Int))) mi_276_30 (by simp [stL, lv_args, Value.category]) ?_
        refine V_callM (As := [.int (Int32.ofInt ((p : Int))), .int (Int32.ofInt ((f : Int)))]) (st := [.int (Int32.ofInt (gaS (tellT G (G 2).toNat).K t f p))]) mi_276_31 (by omega) (by decide +kernel) (by decide +kernel) hT.1 (ite_ct (f := p) (o := f) hT hW hB (by omega) hf) (by omega) (show 2 = mN 240 by decide +kernel) (by simp [Value.category]) ?_
        rintro r w2 ⟨e2, rfl⟩
        rw [e2]
        refine V_goto mi_276_34 ?_
        refine V_ibin mi_276_38 (by omega) ?_
        rw [orr_i, ← gaS_1 q3]
        refine V_istore mi_276_39 ?_
        refine V_iinc (v := Int32.ofInt ((p : Int))) mi_276_40 (by simp [stL, lv_args, Value.category]) ?_
        rw [ia2]
        refine V_goto mi_276_43 ?_
        refine V_sub (lv' := [(0, .ref (ad 90)), (1, .int (Int32.ofInt (t))), (2, .int (Int32.ofInt ((f : Int)))), (3, .int (Int32.ofInt (gaS (tellT G (G 2).toNat).K t f (p + 1)))), (4, .int (Int32.ofInt (((p + 1 : Nat) : Int))))]) (fun q hq => ?_) ?_
        · simp only [List.mem_cons, List.not_mem_nil, or_false] at hq
          rcases hq with rfl | rfl | rfl | rfl | rfl <;> simp [stL, lv_args, Value.category]
        exact knt_5 hT hW hB hf t0 t1 m (p + 1) (by omega) kk
theorem knt_ct {G : Nat → Int} {w0 : va_W} (hT : MT ad tys G w0 ws) (hW : W91 G ws) (hB : HB G) {f : Nat} (hf : f < 6) {t : Int} (t0 : 0 ≤ t) (t1 : t ≤ 63) : CT l D tys A 276 2 0 0 [.ref (ad 90), .int (Int32.ofInt (t)), .int (Int32.ofInt ((f : Int)))] ws (fun r w => w = ws ∧ r = some (.int (bI (brQ G t f)))) := by
  refine CT_of_V (by omega) (show (3 : Nat) ≤ mML 276 by decide +kernel) ?_
  have b3 := hB.b3
  refine V_ipush mi_276_0 ?_
  refine V_istore mi_276_1 ?_
  refine V_ipush mi_276_2 ?_
  refine V_istore mi_276_3 ?_
  refine V_sub (lv' := [(0, .ref (ad 90)), (1, .int (Int32.ofInt (t))), (2, .int (Int32.ofInt ((f : Int)))), (3, .int (Int32.ofInt (0))), (4, .int (Int32.ofInt (((0 : Nat) : Int))))]) (fun q hq => ?_) ?_
  · simp only [List.mem_cons, List.not_mem_nil, or_false] at hq
    rcases hq with rfl | rfl | rfl | rfl | rfl <;> simp [stL, lv_args, Value.category]
  exact knt_5 hT hW hB hf t0 t1 (G 3).toNat 0 (by omega) ⟨rfl, rfl⟩
theorem bru_29 {G : Nat → Int} {w0 : va_W} (hT : MT ad tys G w0 ws) (hW : W91 G ws) (hB : HB G) {f p : Nat} {so t mo : Int} (s0 : 0 ≤ so) (s1 : so ≤ 63) (t0 : 0 ≤ t) (t1 : t ≤ 63) (hp : (p : Int) < G 3) {post : Option Value → va_W → Prop} (kn : ¬ (tb so (p : Int) = true ∧ tb t (p : Int) = false ∧ brQ G t p = true) → V l D tys A 277 3 0 0 post 0 0 18 [(0, .ref (ad 90)), (1, .int (Int32.ofInt ((f : Int)))), (2, .int (Int32.ofInt (so))), (3, .int (Int32.ofInt (t))), (4, .int (Int32.ofInt (mo))), (5, .int (Int32.ofInt (((p + 1 : Nat) : Int))))] [] ws) (ky : (tb so (p : Int) = true ∧ tb t (p : Int) = false ∧ brQ G t p = true) → V l D tys A 277 3 0 0 post 0 0 18 [(0, .ref (ad 90)), (1, .int (Int32.ofInt ((f : Int)))), (2, .int (Int32.ofInt (so))), (3, .int (Int32.ofInt (bitO t (p : Int)))), (4, .int (Int32.ofInt (1))), (5, .int (Int32.ofInt (((p + 1 : Nat) : Int))))] [] ws) : V l D tys A 277 3 0 0 post 0 0 29 [(0, .ref (ad 90)), (1, .int (Int32.ofInt ((f : Int)))), (2, .int (Int32.ofInt (so))), (3, .int (Int32.ofInt (t))), (4, .int (Int32.ofInt (mo))), (5, .int (Int32.ofInt ((p : Int))))] [] ws := by
  have b3 := hB.b3
  refine V_iload (v := Int32.ofInt (so)) mi_277_29 (by simp [stL, lv_args, Value.category]) ?_
  refine V_iload (v := Int32.ofInt ((p : Int))) mi_277_30 (by simp [stL, lv_args, Value.category]) ?_
  refine V_stat (As := [.int (Int32.ofInt (so)), .int (Int32.ofInt ((p : Int)))]) (st := []) mi_277_32 (by omega) (bit_ct _ _ _) (by omega) (show 2 = mN 195 by decide +kernel) (by simp [Value.category]) ⟨Nat.le_refl _, Nat.le_refl _⟩ ?_
  rintro r w1 ⟨e1, rfl⟩
  rw [e1, (tb_k (a := so) (i := (p : Int)) s0 s1 (by omega) (by omega)).1]
  refine V_beq mi_277_35  (fun q2 => ?_) (fun q2 => ?_)
  · refine V_iinc (v := Int32.ofInt ((p : Int))) mi_277_71 (by simp [stL, lv_args, Value.category]) ?_
    rw [ia2]
    refine V_goto mi_277_74 ?_
    refine V_sub (lv' := [(0, .ref (ad 90)), (1, .int (Int32.ofInt ((f : Int)))), (2, .int (Int32.ofInt (so))), (3, .int (Int32.ofInt (t))), (4, .int (Int32.ofInt (mo))), (5, .int (Int32.ofInt (((p + 1 : Nat) : Int))))]) (fun q hq => ?_) ?_
    · simp only [List.mem_cons, List.not_mem_nil, or_false] at hq
      rcases hq with rfl | rfl | rfl | rfl | rfl | rfl <;> simp [stL, lv_args, Value.category]
    exact kn (fun k => by rw [q2] at k; exact absurd k.1 Bool.false_ne_true)
  · refine V_iload (v := Int32.ofInt (t)) mi_277_38 (by simp [stL, lv_args, Value.category]) ?_
    refine V_iload (v := Int32.ofInt ((p : Int))) mi_277_39 (by simp [stL, lv_args, Value.category]) ?_
    refine V_stat (As := [.int (Int32.ofInt (t)), .int (Int32.ofInt ((p : Int)))]) (st := []) mi_277_41 (by omega) (bit_ct _ _ _) (by omega) (show 2 = mN 195 by decide +kernel) (by simp [Value.category]) ⟨Nat.le_refl _, Nat.le_refl _⟩ ?_
    rintro r w2 ⟨e2, rfl⟩
    rw [e2, (tb_k (a := t) (i := (p : Int)) t0 t1 (by omega) (by omega)).1, bI_if]
    refine V_ipush mi_277_44 ?_
    refine V_ceq mi_277_45 ⟨by split <;> omega, by split <;> omega⟩ ⟨by omega, by omega⟩ (fun q3 => ?_) (fun q3 => ?_)
    · refine V_iinc (v := Int32.ofInt ((p : Int))) mi_277_71 (by simp [stL, lv_args, Value.category]) ?_
      rw [ia2]
      refine V_goto mi_277_74 ?_
      refine V_sub (lv' := [(0, .ref (ad 90)), (1, .int (Int32.ofInt ((f : Int)))), (2, .int (Int32.ofInt (so))), (3, .int (Int32.ofInt (t))), (4, .int (Int32.ofInt (mo))), (5, .int (Int32.ofInt (((p + 1 : Nat) : Int))))]) (fun q hq => ?_) ?_
      · simp only [List.mem_cons, List.not_mem_nil, or_false] at hq
        rcases hq with rfl | rfl | rfl | rfl | rfl | rfl <;> simp [stL, lv_args, Value.category]
      exact kn (fun k => by rw [k.2.1, if_neg Bool.false_ne_true] at q3; omega)
    · have q4 : tb t (p : Int) = false := by
        cases c : tb t (p : Int) with
        | false => rfl
        | true => exact absurd (by rw [if_pos c]) q3
      refine V_aload (v := ad 90) mi_277_48 (by simp [stL, lv_args, Value.category]) ?_
      refine V_iload (v := Int32.ofInt (t)) mi_277_49 (by simp [stL, lv_args, Value.category]) ?_
      refine V_iload (v := Int32.ofInt ((p : Int))) mi_277_50 (by simp [stL, lv_args, Value.category]) ?_
      refine V_callM (As := [.int (Int32.ofInt (t)), .int (Int32.ofInt ((p : Int)))]) (st := []) mi_277_52 (by omega) (by decide +kernel) (by decide +kernel) hT.1 (knt_ct (f := p) (t := t) hT hW hB (by omega) t0 t1) (by omega) (show 2 = mN 276 by decide +kernel) (by simp [Value.category]) ?_
      rintro r w3 ⟨e3, rfl⟩
      rw [e3]
      refine V_bne mi_277_55  (fun q5 => ?_) (fun q5 => ?_)
      · refine V_iload (v := Int32.ofInt (t)) mi_277_61 (by simp [stL, lv_args, Value.category]) ?_
        refine V_ipush mi_277_62 ?_
        refine V_iload (v := Int32.ofInt ((p : Int))) mi_277_63 (by simp [stL, lv_args, Value.category]) ?_
        refine V_ibin mi_277_65 (by omega) ?_
        refine V_ibin mi_277_66 (by omega) ?_
        rw [bitO_i]
        refine V_istore mi_277_67 ?_
        refine V_ipush mi_277_68 ?_
        refine V_istore mi_277_69 ?_
        refine V_iinc (v := Int32.ofInt ((p : Int))) mi_277_71 (by simp [stL, lv_args, Value.category]) ?_
        rw [ia2]
        refine V_goto mi_277_74 ?_
        refine V_sub (lv' := [(0, .ref (ad 90)), (1, .int (Int32.ofInt ((f : Int)))), (2, .int (Int32.ofInt (so))), (3, .int (Int32.ofInt (bitO t (p : Int)))), (4, .int (Int32.ofInt (1))), (5, .int (Int32.ofInt (((p + 1 : Nat) : Int))))]) (fun q hq => ?_) ?_
        · simp only [List.mem_cons, List.not_mem_nil, or_false] at hq
          rcases hq with rfl | rfl | rfl | rfl | rfl | rfl <;> simp [stL, lv_args, Value.category]
        exact ky ⟨q2, q4, q5⟩
      · refine V_goto mi_277_58 ?_
        refine V_iinc (v := Int32.ofInt ((p : Int))) mi_277_71 (by simp [stL, lv_args, Value.category]) ?_
        rw [ia2]
        refine V_goto mi_277_74 ?_
        refine V_sub (lv' := [(0, .ref (ad 90)), (1, .int (Int32.ofInt ((f : Int)))), (2, .int (Int32.ofInt (so))), (3, .int (Int32.ofInt (t))), (4, .int (Int32.ofInt (mo))), (5, .int (Int32.ofInt (((p + 1 : Nat) : Int))))]) (fun q hq => ?_) ?_
        · simp only [List.mem_cons, List.not_mem_nil, or_false] at hq
          rcases hq with rfl | rfl | rfl | rfl | rfl | rfl <;> simp [stL, lv_args, Value.category]
        exact kn (fun k => by rw [q5] at k; exact absurd k.2.2 Bool.false_ne_true)
theorem bru_18 {G : Nat → Int} {w0 : va_W} (hT : MT ad tys G w0 ws) (hW : W91 G ws) (hB : HB G) {f : Nat} {so s : Int} (s0 : 0 ≤ so) (s1 : so ≤ 63) {post : Option Value → va_W → Prop} : ∀ (m p : Nat) (t mo : Int), ((p + m : Nat) : Int) = G 3 → 0 ≤ t → t ≤ 63 → (mo = 0 ∧ bcS s 6 = bcS t 6 ∧ t = s ∨ mo = 1 ∧ bcS s 6 < bcS t 6) → (∀ mo2 : Int, (mo2 = 0 ∧ bcS s 6 = bcS (scS (brQ G) so m p t) 6 ∧ scS (brQ G) so m p t = s ∨ mo2 = 1 ∧ bcS s 6 < bcS (scS (brQ G) so m p t) 6) → V l D tys A 277 3 0 0 post 0 0 7 [(0, .ref (ad 90)), (1, .int (Int32.ofInt ((f : Int)))), (2, .int (Int32.ofInt (so))), (3, .int (Int32.ofInt (scS (brQ G) so m p t))), (4, .int (Int32.ofInt (mo2)))] [] ws) → V l D tys A 277 3 0 0 post 0 0 18 [(0, .ref (ad 90)), (1, .int (Int32.ofInt ((f : Int)))), (2, .int (Int32.ofInt (so))), (3, .int (Int32.ofInt (t))), (4, .int (Int32.ofInt (mo))), (5, .int (Int32.ofInt ((p : Int))))] [] ws := by
  intro m
  induction m with
  | zero =>
    intro p t mo hm t0 t1 hmo kk
    have e0 : scS (brQ G) so 0 p t = t := rfl
    rw [e0] at kk
    obtain ⟨s91, e91, -⟩ := g91s
    have b3 := hB.b3
    have b2 := hB.b2
    refine V_iload (v := Int32.ofInt ((p : Int))) mi_277_18 (by simp [stL, lv_args, Value.category]) ?_
    refine V_aload (v := ad 90) mi_277_20 (by simp [stL, lv_args, Value.category]) ?_
    refine V_getI mi_277_21 hT.1 (rref gr1m (by omega) hT.1) ?_
    refine V_ipush mi_277_24 ?_
    refine V_aldX (j := 3) mi_277_25 rfl hT.1 e91 (by omega) (by omega) (hW _ (by omega)) ?_
    refine V_cge mi_277_26 ⟨by omega, by omega⟩ ⟨by omega, by omega⟩ (fun q => ?_) (fun q => ?_)
    · refine V_goto mi_277_77 ?_
      refine V_sub (lv' := [(0, .ref (ad 90)), (1, .int (Int32.ofInt ((f : Int)))), (2, .int (Int32.ofInt (so))), (3, .int (Int32.ofInt (t))), (4, .int (Int32.ofInt (mo)))]) (fun q hq => ?_) ?_
      · simp only [List.mem_cons, List.not_mem_nil, or_false] at hq
        rcases hq with rfl | rfl | rfl | rfl | rfl <;> simp [stL, lv_args, Value.category]
      exact kk mo hmo
    · exact absurd q (by omega)
  | succ m ih =>
    intro p t mo hm t0 t1 hmo kk
    obtain ⟨s91, e91, -⟩ := g91s
    have b3 := hB.b3
    have b2 := hB.b2
    refine V_iload (v := Int32.ofInt ((p : Int))) mi_277_18 (by simp [stL, lv_args, Value.category]) ?_
    refine V_aload (v := ad 90) mi_277_20 (by simp [stL, lv_args, Value.category]) ?_
    refine V_getI mi_277_21 hT.1 (rref gr1m (by omega) hT.1) ?_
    refine V_ipush mi_277_24 ?_
    refine V_aldX (j := 3) mi_277_25 rfl hT.1 e91 (by omega) (by omega) (hW _ (by omega)) ?_
    refine V_cge mi_277_26 ⟨by omega, by omega⟩ ⟨by omega, by omega⟩ (fun q => ?_) (fun q => ?_)
    · exact absurd q (by omega)
    · refine bru_29 hT hW hB s0 s1 t0 t1 (by omega) (fun k => ?_) (fun k => ?_)
      · rw [scS_n k] at kk
        exact ih (p + 1) t mo (by omega) t0 t1 hmo kk
      · have ck := (clB_k (i := p) t0 t1 (by omega)).2.2.2
        rw [if_neg (by rw [k.2.1]; exact Bool.false_ne_true)] at ck
        have bb := bitO_bd (i := (p : Int)) t0 t1 (by omega) (by omega)
        rw [scS_y k] at kk
        refine ih (p + 1) _ 1 (by omega) bb.1 bb.2 (Or.inr ⟨rfl, ?_⟩) kk
        rcases hmo with h | h
        · have := h.2.1
          omega
        · have := h.2
          omega
theorem bru_7 {G : Nat → Int} {w0 : va_W} (hT : MT ad tys G w0 ws) (hW : W91 G ws) (hB : HB G) {f : Nat} {so : Int} (hf : f < 6) (s0 : 0 ≤ so) (s1 : so ≤ 63) {post : Option Value → va_W → Prop} : ∀ (k : Nat) (t : Int), 6 ≤ (k : Int) + bcS t 6 → 0 ≤ t → t ≤ 63 → post (some (.int (Int32.ofInt (scN (brQ G) so (G 3).toNat k t)))) ws → V l D tys A 277 3 0 0 post 0 0 7 [(0, .ref (ad 90)), (1, .int (Int32.ofInt ((f : Int)))), (2, .int (Int32.ofInt (so))), (3, .int (Int32.ofInt (t))), (4, .int (Int32.ofInt (1)))] [] ws
  | 0, t, hk, t0, t1, kk => by
    have b3 := hB.b3
    have sb := scS_bd (Q := brQ G) (so := so) hf (G 3).toNat 0 t (by omega) ⟨t0, t1⟩
    have bd := bcS_bd (a := scS (brQ G) so (G 3).toNat 0 t) 6
    refine V_iload (v := Int32.ofInt (1)) mi_277_7 (by simp [stL, lv_args, Value.category]) ?_
    refine V_zeq mi_277_9 ⟨by omega, by omega⟩ (fun q => ?_) (fun q => ?_)
    · exact absurd q (by omega)
    · refine V_ipush mi_277_12 ?_
      refine V_istore mi_277_13 ?_
      refine V_ipush mi_277_15 ?_
      refine V_istore mi_277_16 ?_
      refine V_sub (lv' := [(0, .ref (ad 90)), (1, .int (Int32.ofInt ((f : Int)))), (2, .int (Int32.ofInt (so))), (3, .int (Int32.ofInt (t))), (4, .int (Int32.ofInt (0))), (5, .int (Int32.ofInt (((0 : Nat) : Int))))]) (fun q hq => ?_) ?_
      · simp only [List.mem_cons, List.not_mem_nil, or_false] at hq
        rcases hq with rfl | rfl | rfl | rfl | rfl | rfl <;> simp [stL, lv_args, Value.category]
      refine bru_18 hT hW hB s0 s1 (s := t) (G 3).toNat 0 t 0 (by omega) t0 t1 (Or.inl ⟨rfl, rfl, rfl⟩) (fun mo2 h => ?_)
      rcases h with ⟨rfl, -, h⟩ | ⟨rfl, h⟩
      · refine V_iload (v := Int32.ofInt (0)) mi_277_7 (by simp [stL, lv_args, Value.category]) ?_
        refine V_zeq mi_277_9 ⟨by omega, by omega⟩ (fun q2 => ?_) (fun q2 => ?_)
        · rw [scN_fx h] at kk
          rw [h]
          refine V_iload (v := Int32.ofInt (t)) mi_277_80 (by simp [stL, lv_args, Value.category]) ?_
          exact V_retI mi_277_81 (fun h => absurd h (by decide +kernel)) kk
        · exact absurd rfl q2
      · exact absurd h (by omega)
  | k + 1, t, hk, t0, t1, kk => by
    have b3 := hB.b3
    have sb := scS_bd (Q := brQ G) (so := so) hf (G 3).toNat 0 t (by omega) ⟨t0, t1⟩
    have bd := bcS_bd (a := scS (brQ G) so (G 3).toNat 0 t) 6
    refine V_iload (v := Int32.ofInt (1)) mi_277_7 (by simp [stL, lv_args, Value.category]) ?_
    refine V_zeq mi_277_9 ⟨by omega, by omega⟩ (fun q => ?_) (fun q => ?_)
    · exact absurd q (by omega)
    · refine V_ipush mi_277_12 ?_
      refine V_istore mi_277_13 ?_
      refine V_ipush mi_277_15 ?_
      refine V_istore mi_277_16 ?_
      refine V_sub (lv' := [(0, .ref (ad 90)), (1, .int (Int32.ofInt ((f : Int)))), (2, .int (Int32.ofInt (so))), (3, .int (Int32.ofInt (t))), (4, .int (Int32.ofInt (0))), (5, .int (Int32.ofInt (((0 : Nat) : Int))))]) (fun q hq => ?_) ?_
      · simp only [List.mem_cons, List.not_mem_nil, or_false] at hq
        rcases hq with rfl | rfl | rfl | rfl | rfl | rfl <;> simp [stL, lv_args, Value.category]
      refine bru_18 hT hW hB s0 s1 (s := t) (G 3).toNat 0 t 0 (by omega) t0 t1 (Or.inl ⟨rfl, rfl, rfl⟩) (fun mo2 h => ?_)
      rcases h with ⟨rfl, -, h⟩ | ⟨rfl, h⟩
      · refine V_iload (v := Int32.ofInt (0)) mi_277_7 (by simp [stL, lv_args, Value.category]) ?_
        refine V_zeq mi_277_9 ⟨by omega, by omega⟩ (fun q2 => ?_) (fun q2 => ?_)
        · rw [scN_fx h] at kk
          rw [h]
          refine V_iload (v := Int32.ofInt (t)) mi_277_80 (by simp [stL, lv_args, Value.category]) ?_
          exact V_retI mi_277_81 (fun h => absurd h (by decide +kernel)) kk
        · exact absurd rfl q2
      · exact bru_7 hT hW hB hf s0 s1 k _ (by omega) sb.1.1 sb.1.2 kk
theorem bru_ct {G : Nat → Int} {w0 : va_W} (hT : MT ad tys G w0 ws) (hW : W91 G ws) (hB : HB G) {f : Nat} {so : Int} (hf : f < 6) (s0 : 0 ≤ so) (s1 : so ≤ 63) : CT l D tys A 277 3 0 0 [.ref (ad 90), .int (Int32.ofInt ((f : Int))), .int (Int32.ofInt (so))] ws (fun r w => w = ws ∧ r = some (.int (Int32.ofInt (brV G so f)))) := by
  refine CT_of_V (by omega) (show (3 : Nat) ≤ mML 277 by decide +kernel) ?_
  have h0 := bit0 hf
  refine V_ipush mi_277_0 ?_
  refine V_iload (v := Int32.ofInt ((f : Int))) mi_277_1 (by simp [stL, lv_args, Value.category]) ?_
  refine V_ibin mi_277_2 (by omega) ?_
  rw [h0.2.2.2.2]
  refine V_istore mi_277_3 ?_
  refine V_ipush mi_277_4 ?_
  refine V_istore mi_277_5 ?_
  refine V_sub (lv' := [(0, .ref (ad 90)), (1, .int (Int32.ofInt ((f : Int)))), (2, .int (Int32.ofInt (so))), (3, .int (Int32.ofInt (bitO 0 (f : Int)))), (4, .int (Int32.ofInt (1)))]) (fun q hq => ?_) ?_
  · simp only [List.mem_cons, List.not_mem_nil, or_false] at hq
    rcases hq with rfl | rfl | rfl | rfl | rfl <;> simp [stL, lv_args, Value.category]
  exact bru_7 hT hW hB hf s0 s1 6 _ (by omega) h0.1.1 h0.1.2 ⟨rfl, rfl⟩
theorem unX_ct {G : Nat → Int} (hG : GOK ad tys GG ws) (hX : HX 4 G ws) (hB : HB G) (hS : STO G ws) {f : Int} (fI : I32 f) : CT l D tys A 32 4 0 0 [.ref (ad 0), .int (Int32.ofInt (f))] ws (fun r w => (GOK ad tys GG w ∧ XSC ws w) ∧ r = some (.int (if 0 ≤ f ∧ f < G 3 then Int32.ofInt (clB (brV G (allV (G 3)) f.toNat) (f.toNat : Int)) else Int32.ofInt (-2)))) := by
  refine CT_of_V (by omega) (show (2 : Nat) ≤ mML 32 by decide +kernel) ?_
  have b3 := hB.b3
  have al := all6 b3
  refine V_aload (v := ad 0) mi_32_0 (by simp [stL, lv_args, Value.category]) ?_
  refine V_gR mi_32_1 g0r2 (by omega) hG ?_
  refine V_iload (v := Int32.ofInt (f)) mi_32_4 (by simp [stL, lv_args, Value.category]) ?_
  refine V_cO (As := [.int (Int32.ofInt (f))]) (st := []) mi_32_5 (by omega) (by decide +kernel) (by decide +kernel) (by omega) g4o hG (hfk_ct hG hX hB fI) (by omega) (show 1 = mN 102 by decide +kernel) (by simp [Value.category]) ?_
  rintro r w1 ⟨rfl, rfl⟩
  refine V_beq mi_32_8  (fun c1 => ?_) (fun c1 => ?_)
  · refine V_ipush mi_32_37 ?_
    exact V_retI mi_32_39 (fun h => absurd h (by decide +kernel)) ⟨⟨hG, fun _ _ _ => rfl⟩, by rw [if_neg (of_decide_eq_false c1)]⟩
  · have k1 := of_decide_eq_true c1
    obtain ⟨m, rfl⟩ := Int.eq_ofNat_of_zero_le k1.1
    refine V_aload (v := ad 0) mi_32_11 (by simp [stL, lv_args, Value.category]) ?_
    refine V_gR mi_32_12 g0r6 (by omega) hG ?_
    refine V_aload (v := ad 0) mi_32_15 (by simp [stL, lv_args, Value.category]) ?_
    refine V_gR mi_32_16 g0r2 (by omega) hG ?_
    refine V_aload (v := ad 0) mi_32_19 (by simp [stL, lv_args, Value.category]) ?_
    refine V_gR mi_32_20 g0r5 (by omega) hG ?_
    refine V_iload (v := Int32.ofInt ((m : Int))) mi_32_23 (by simp [stL, lv_args, Value.category]) ?_
    refine V_aload (v := ad 0) mi_32_24 (by simp [stL, lv_args, Value.category]) ?_
    refine V_gR mi_32_25 g0r2 (by omega) hG ?_
    refine V_cO (As := []) (st := [.int (Int32.ofInt ((m : Int))), .ref (ad 32), .ref (ad 4), .ref (ad 36)]) mi_32_28 (by omega) (by decide +kernel) (by decide +kernel) (by omega) g4o hG (evy_ct hG hX hB) (by omega) (show 0 = mN 109 by decide +kernel) (by simp [Value.category]) ?_
    rintro r w2 ⟨rfl, rfl⟩
    refine V_cO (As := [.ref (ad 4), .ref (ad 32), .int (Int32.ofInt ((m : Int))), .int (Int32.ofInt (allV (G 3)))]) (st := []) mi_32_31 (by omega) (by decide +kernel) (by decide +kernel) (by omega) g36o hG (brou_ct (f := m) (so := allV (G 3)) hX hS hB (by omega) al.1 al.2 hG (fun _ _ _ => rfl)) (by omega) (show 4 = mN 78 by decide +kernel) (by simp [Value.category]) ?_
    rintro r w3 ⟨o3, rfl⟩
    refine V_goto mi_32_34 ?_
    exact V_retI mi_32_39 (fun h => absurd h (by decide +kernel)) ⟨o3, by rw [if_pos k1, Int.toNat_natCast]⟩
theorem unM_ct {G : Nat → Int} (hG : GOK ad tys GG ws) (hW : W91 G ws) (hB : HB G) (wf : WF G) (h24 : rd ws 90 24 = some (.int (Int32.ofInt 0))) (h22 : rd ws 90 22 = some (.int (Int32.ofInt (-1)))) {f : Int} (fI : I32 f) : CT l D tys A 278 9 0 0 [.ref (ad 90), .int (Int32.ofInt (f))] ws (fun r w => (GOK ad tys GG w ∧ MTO ws w) ∧ r = some (.int (if 0 ≤ f ∧ f < G 3 then Int32.ofInt (clB (brV G (allV (G 3)) f.toNat) (f.toNat : Int)) else Int32.ofInt (-2)))) := by
  refine CT_of_V (by omega) (show (2 : Nat) ≤ mML 278 by decide +kernel) ?_
  have b3 := hB.b3
  have b2 := hB.b2
  have al := all6 b3
  refine V_aload (v := ad 90) mi_278_0 (by simp [stL, lv_args, Value.category]) ?_
  refine V_iload (v := Int32.ofInt (f)) mi_278_1 (by simp [stL, lv_args, Value.category]) ?_
  refine V_callM (As := [.int (Int32.ofInt (f))]) (st := []) mi_278_2 (by omega) (by decide +kernel) (by decide +kernel) hG (mfk_ct hG hW hB fI) (by omega) (show 1 = mN 199 by decide +kernel) (by simp [Value.category]) ?_
  rintro r w1 ⟨rfl, rfl⟩
  refine V_bne mi_278_5  (fun c1 => ?_) (fun c1 => ?_)
  · have k1 := of_decide_eq_true c1
    obtain ⟨m, rfl⟩ := Int.eq_ofNat_of_zero_le k1.1
    refine V_aload (v := ad 90) mi_278_11 (by simp [stL, lv_args, Value.category]) ?_
    refine V_callM (As := []) (st := []) mi_278_12 (by omega) (by decide +kernel) (by decide +kernel) hG (gt_ct hB wf hG hW h24 h22) (by omega) (show 0 = mN 238 by decide +kernel) (by simp [Value.category]) ?_
    rintro r w4 ⟨rfl, T⟩
    refine V_aload (v := ad 90) mi_278_15 (by simp [stL, lv_args, Value.category]) ?_
    refine V_iload (v := Int32.ofInt ((m : Int))) mi_278_16 (by simp [stL, lv_args, Value.category]) ?_
    refine V_aload (v := ad 90) mi_278_17 (by simp [stL, lv_args, Value.category]) ?_
    refine V_callM (As := []) (st := [.int (Int32.ofInt ((m : Int))), .ref (ad 90)]) mi_278_18 (by omega) (by decide +kernel) (by decide +kernel) T.1 (alm_ct T.1 (mt_w T hW)) (by omega) (show 0 = mN 209 by decide +kernel) (by simp [Value.category]) ?_
    rintro r w5 ⟨rfl, rfl⟩
    refine V_callM (As := [.int (Int32.ofInt ((m : Int))), .int (Int32.ofInt (allV (G 3)))]) (st := []) mi_278_21 (by omega) (by decide +kernel) (by decide +kernel) T.1 (bru_ct (f := m) (so := allV (G 3)) T (mt_w T hW) hB (by omega) al.1 al.2) (by omega) (show 2 = mN 277 by decide +kernel) (by simp [Value.category]) ?_
    rintro r w6 ⟨rfl, rfl⟩
    refine V_ipush mi_278_24 ?_
    refine V_iload (v := Int32.ofInt ((m : Int))) mi_278_25 (by simp [stL, lv_args, Value.category]) ?_
    refine V_ibin mi_278_26 (by omega) ?_
    refine V_ipush mi_278_27 ?_
    refine V_ibin mi_278_28 (by omega) ?_
    refine V_ibin mi_278_29 (by omega) ?_
    rw [clB_i]
    exact V_retI mi_278_30 (fun h => absurd h (by decide +kernel)) ⟨⟨T.1, T.2.2.2⟩, by rw [if_pos k1, Int.toNat_natCast]⟩
  · refine V_ipush mi_278_8 ?_
    exact V_retI mi_278_10 (fun h => absurd h (by decide +kernel)) ⟨⟨hG, fun _ _ _ _ => rfl⟩, by rw [if_neg (of_decide_eq_false c1)]⟩
theorem pairT_under (hAD : ∀ i : Nat, ad (1000 + i) = D.2 1000 i) (hG : GOK ad tys GG ws) (hR : RELW ws) (a1 : Int32) : PAIRT l D tys A ad 32 278 [.ref (ad 0), .int a1] [.ref (ad 90), .int a1] ws := by
  obtain ⟨G0, o0, x0, y0⟩ := hR.1.2.1
  obtain ⟨G, o, x, y, hb, wf, hS⟩ := aux_sto hR.2 x0 y0 o0 (hb_of hG y0 o0)
  have c1 := unX_ct (l := l) (D := D) (A := A) hG x hb hS (i32b a1)
  have c2 := fun (w : va_W) (hw : GOK ad tys GG w) (K : XSC ws w) => unM_ct (l := l) (D := D) (A := A) hw (XSC_W K y) hb wf ((K _ _ (by omega)).trans hR.2.2.2.2.2) ((K _ _ (by omega)).trans hR.2.2.2.2.1) (i32b a1)
  simp only [oi] at c1 c2
  exact pairT_sc hR (by omega) (by omega) c1 c2
end XTD
