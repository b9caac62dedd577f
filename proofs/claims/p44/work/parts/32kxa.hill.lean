section
section XTA
variable {l : Launch} {D : va_G} {tys : List (ClassId × FieldType)} {A : Nat → Prop} {ad : Nat → Nat} {ws : va_W}
noncomputable def orr (a b : Int) : Int := (ibF 6 (Int32.ofInt a) (Int32.ofInt b)).toInt
theorem orr_i (a b : Int) : ibF 6 (Int32.ofInt a) (Int32.ofInt b) = Int32.ofInt (orr a b) := by
  unfold orr
  rw [Int32.ofInt_toInt]
/-- what those below n of a set know of f's name, together -/
noncomputable def gaS (K : Nat → Int) (t : Int) (f : Nat) : Nat → Int
  | 0 => 0
  | p + 1 => if tb t (p : Int) = true then orr (gaS K t f p) (K (6 * p + f)) else gaS K t f p
theorem gaS_0 {K : Nat → Int} {t : Int} {f p : Nat} (h : tb t (p : Int) = false) : gaS K t f (p + 1) = gaS K t f p := by
  show (if tb t (p : Int) = true then _ else _) = _
  rw [h, if_neg Bool.false_ne_true]
theorem gaS_1 {K : Nat → Int} {t : Int} {f p : Nat} (h : tb t (p : Int) = true) : gaS K t f (p + 1) = orr (gaS K t f p) (K (6 * p + f)) := by
  show (if tb t (p : Int) = true then _ else _) = _
  rw [if_pos h]
theorem gaI {K : Nat → Int} {t : Int} {f : Nat} : ∀ n : Nat, I32 (gaS K t f n)
  | 0 => ⟨by show (-2147483648 : Int) ≤ 0; omega, by show (0 : Int) ≤ 2147483647; omega⟩
  | p + 1 => by
    unfold gaS
    split
    · exact i32b _
    · exact gaI p
noncomputable def togP (G : Nat → Int) (g f : Nat) (t : Int) : Bool := decide (gaS (tellT G g).K t f (G 3).toNat = allV (G (6 + 7 * f)))
theorem gaw_6 {G : Nat → Int} (hG : GOK ad tys GG ws) (hX : HX 4 G ws) (hB : HB G) (hS : STO G ws) {f g : Nat} {post : Option Value → va_W → Prop} (hf : f < 6) (hg : (g : Int) ≤ G 2) {t : Int} (t0 : 0 ≤ t) (t1 : t ≤ 63) : ∀ (m p : Nat), ((p + m : Nat) : Int) = G 3 → post (some (.int (bI (togP G g f t)))) ws → V l D tys A 182 3 0 0 post 0 0 6 [(0, .ref (ad 32)), (1, .ref (ad 4)), (2, .int (Int32.ofInt (t))), (3, .int (Int32.ofInt ((f : Int)))), (4, .int (Int32.ofInt ((g : Int)))), (5, .int (Int32.ofInt (gaS (tellT G g).K t f p))), (6, .int (Int32.ofInt ((p : Int))))] [] ws
  | 0, p, hm, kk => by
    have b3 := hB.b3
    have b2 := hB.b2
    refine V_iload (v := Int32.ofInt ((p : Int))) mi_182_6 (by simp [stL, lv_args, Value.category]) ?_
    refine V_aload (v := ad 4) mi_182_8 (by simp [stL, lv_args, Value.category]) ?_
    refine V_gO mi_182_9 g4o hG (show rd _ 4 4 = some (.int (Int32.ofInt (G 3))) from hx0 hX (i := 4) (by omega)) ?_
    refine V_cge mi_182_12 ⟨by omega, by omega⟩ ⟨by omega, by omega⟩ (fun q => ?_) (fun q => ?_)
    · have e : p = (G 3).toNat := by omega
      have ia := gaI (K := (tellT G g).K) (t := t) (f := f) p
      have ib : I32 (allV (G (6 + 7 * f))) := i32b _
      refine V_iload (v := Int32.ofInt (gaS (tellT G g).K t f p)) mi_182_44 (by simp [stL, lv_args, Value.category]) ?_
      refine V_aload (v := ad 4) mi_182_46 (by simp [stL, lv_args, Value.category]) ?_
      refine V_iload (v := Int32.ofInt ((f : Int))) mi_182_47 (by simp [stL, lv_args, Value.category]) ?_
      refine V_cO (As := [.int (Int32.ofInt ((f : Int)))]) (st := [.int (Int32.ofInt (gaS (tellT G g).K t f p))]) mi_182_48 (by omega) (by decide +kernel) (by decide +kernel) (by omega) g4o hG (alf_ct (f := f) hG hX hB hf) (by omega) (show 1 = mN 108 by decide +kernel) (by simp [Value.category]) ?_
      rintro r w2 ⟨e2, rfl⟩
      rw [e2]
      refine V_cne mi_182_51 ia ib (fun q2 => ?_) (fun q2 => ?_)
      · refine V_ipush mi_182_58 ?_
        exact V_retI mi_182_59 (fun _ => by decide) (by rw [e] at q2; rw [show togP G g f t = false from decide_eq_false q2] at kk; exact kk)
      · refine V_ipush mi_182_54 ?_
        refine V_goto mi_182_55 ?_
        exact V_retI mi_182_59 (fun _ => by decide) (by rw [e] at q2; rw [show togP G g f t = true from decide_eq_true q2] at kk; exact kk)
    · exact absurd q (by omega)
  | m + 1, p, hm, kk => by
    have b3 := hB.b3
    have b2 := hB.b2
    refine V_iload (v := Int32.ofInt ((p : Int))) mi_182_6 (by simp [stL, lv_args, Value.category]) ?_
    refine V_aload (v := ad 4) mi_182_8 (by simp [stL, lv_args, Value.category]) ?_
    refine V_gO mi_182_9 g4o hG (show rd _ 4 4 = some (.int (Int32.ofInt (G 3))) from hx0 hX (i := 4) (by omega)) ?_
    refine V_cge mi_182_12 ⟨by omega, by omega⟩ ⟨by omega, by omega⟩ (fun q => ?_) (fun q => ?_)
    · exact absurd q (by omega)
    · refine V_iload (v := Int32.ofInt (t)) mi_182_15 (by simp [stL, lv_args, Value.category]) ?_
      refine V_iload (v := Int32.ofInt ((p : Int))) mi_182_16 (by simp [stL, lv_args, Value.category]) ?_
      refine V_ibin mi_182_18 (by omega) ?_
      refine V_ipush mi_182_19 ?_
      refine V_ibin mi_182_20 (by omega) ?_
      rw [(tb_k (i := (p : Int)) t0 t1 (by omega) (by omega)).1]
      refine V_beq mi_182_21  (fun q2 => ?_) (fun q2 => ?_)
      · rw [← gaS_0 (K := (tellT G g).K) (f := f) q2]
        refine V_iinc (v := Int32.ofInt ((p : Int))) mi_182_38 (by simp [stL, lv_args, Value.category]) ?_
        rw [ia2]
        refine V_goto mi_182_41 ?_
        refine V_sub (lv' := [(0, .ref (ad 32)), (1, .ref (ad 4)), (2, .int (Int32.ofInt (t))), (3, .int (Int32.ofInt ((f : Int)))), (4, .int (Int32.ofInt ((g : Int)))), (5, .int (Int32.ofInt (gaS (tellT G g).K t f (p + 1)))), (6, .int (Int32.ofInt (((p + 1 : Nat) : Int))))]) (fun q hq => ?_) ?_
        · simp only [List.mem_cons, List.not_mem_nil, or_false] at hq
          rcases hq with rfl | rfl | rfl | rfl | rfl | rfl | rfl <;> simp [stL, lv_args, Value.category]
        exact gaw_6 hG hX hB hS hf hg t0 t1 m (p + 1) (by omega) kk
      · refine V_iload (v := Int32.ofInt (gaS (tellT G g).K t f p)) mi_182_24 (by simp [stL, lv_args, Value.category]) ?_
        refine V_aload (v := ad 32) mi_182_26 (by simp [stL, lv_args, Value.category]) ?_
        refine V_iload (v := Int32.ofInt ((p : Int))) mi_182_27 (by simp [stL, lv_args, Value.category]) ?_
        refine V_iload (v := Int32.ofInt ((f : Int))) mi_182_29 (by simp [stL, lv_args, Value.category]) ?_
        refine V_iload (v := Int32.ofInt ((g : Int))) mi_182_30 (by simp [stL, lv_args, Value.category]) ?_
        refine V_cO (As := [.int (Int32.ofInt ((p : Int))), .int (Int32.ofInt ((f : Int))), .int (Int32.ofInt ((g : Int)))]) (st := [.int (Int32.ofInt (gaS (tellT G g).K t f p))]) mi_182_32 (by omega) (by decide +kernel) (by decide +kernel) (by omega) g32o hG (stb_ct (f := p) (o := f) (g := g) hG (by omega) (by omega) (by omega) (sto_k hB hS (by omega) (by omega) hg)) (by omega) (show 3 = mN 176 by decide +kernel) (by simp [Value.category]) ?_
        rintro r w1 ⟨e1, rfl⟩
        rw [e1]
        refine V_ibin mi_182_35 (by omega) ?_
        rw [orr_i, ← gaS_1 q2]
        refine V_istore mi_182_36 ?_
        refine V_iinc (v := Int32.ofInt ((p : Int))) mi_182_38 (by simp [stL, lv_args, Value.category]) ?_
        rw [ia2]
        refine V_goto mi_182_41 ?_
        refine V_sub (lv' := [(0, .ref (ad 32)), (1, .ref (ad 4)), (2, .int (Int32.ofInt (t))), (3, .int (Int32.ofInt ((f : Int)))), (4, .int (Int32.ofInt ((g : Int)))), (5, .int (Int32.ofInt (gaS (tellT G g).K t f (p + 1)))), (6, .int (Int32.ofInt (((p + 1 : Nat) : Int))))]) (fun q hq => ?_) ?_
        · simp only [List.mem_cons, List.not_mem_nil, or_false] at hq
          rcases hq with rfl | rfl | rfl | rfl | rfl | rfl | rfl <;> simp [stL, lv_args, Value.category]
        exact gaw_6 hG hX hB hS hf hg t0 t1 m (p + 1) (by omega) kk
theorem gaw_ct {G : Nat → Int} (hG : GOK ad tys GG ws) (hX : HX 4 G ws) (hB : HB G) (hS : STO G ws) {f g : Nat} (hf : f < 6) (hg : (g : Int) ≤ G 2) {t : Int} (t0 : 0 ≤ t) (t1 : t ≤ 63) : CT l D tys A 182 3 0 0 [.ref (ad 32), .ref (ad 4), .int (Int32.ofInt (t)), .int (Int32.ofInt ((f : Int))), .int (Int32.ofInt ((g : Int)))] ws (fun r w => w = ws ∧ r = some (.int (bI (togP G g f t)))) := by
  refine CT_of_V (by omega) (show (5 : Nat) ≤ mML 182 by decide +kernel) ?_
  have b3 := hB.b3
  refine V_ipush mi_182_0 ?_
  refine V_istore mi_182_1 ?_
  refine V_ipush mi_182_3 ?_
  refine V_istore mi_182_4 ?_
  refine V_sub (lv' := [(0, .ref (ad 32)), (1, .ref (ad 4)), (2, .int (Int32.ofInt (t))), (3, .int (Int32.ofInt ((f : Int)))), (4, .int (Int32.ofInt ((g : Int)))), (5, .int (Int32.ofInt (0))), (6, .int (Int32.ofInt (((0 : Nat) : Int))))]) (fun q hq => ?_) ?_
  · simp only [List.mem_cons, List.not_mem_nil, or_false] at hq
    rcases hq with rfl | rfl | rfl | rfl | rfl | rfl | rfl <;> simp [stL, lv_args, Value.category]
  exact gaw_6 hG hX hB hS hf hg t0 t1 (G 3).toNat 0 (by omega) ⟨rfl, rfl⟩
theorem bI_if (b : Bool) : bI b = Int32.ofInt (if b = true then 1 else 0) := by cases b <;> rfl
theorem gam_6 {G : Nat → Int} {w0 : va_W} (hT : MT ad tys G w0 ws) (hW : W91 G ws) (hB : HB G) {f h : Nat} {post : Option Value → va_W → Prop} (hf : f < 6) (hh : (h : Int) < G 2) {t : Int} (t0 : 0 ≤ t) (t1 : t ≤ 63) : ∀ (m p : Nat), ((p + m : Nat) : Int) = G 3 → post (some (.int (bI (togP G (h + 1) f t)))) ws → V l D tys A 295 3 0 0 post 0 0 6 [(0, .ref (ad 90)), (1, .int (Int32.ofInt (t))), (2, .int (Int32.ofInt ((f : Int)))), (3, .int (Int32.ofInt ((h : Int)))), (4, .int (Int32.ofInt (gaS (tellT G (h + 1)).K t f p))), (5, .int (Int32.ofInt ((p : Int))))] [] ws
  | 0, p, hm, kk => by
    obtain ⟨s91, e91, -⟩ := g91s
    have b3 := hB.b3
    have b2 := hB.b2
    refine V_iload (v := Int32.ofInt ((p : Int))) mi_295_6 (by simp [stL, lv_args, Value.category]) ?_
    refine V_aload (v := ad 90) mi_295_8 (by simp [stL, lv_args, Value.category]) ?_
    refine V_getI mi_295_9 hT.1 (rref gr1m (by omega) hT.1) ?_
    refine V_ipush mi_295_12 ?_
    refine V_aldX (j := 3) mi_295_13 rfl hT.1 e91 (by omega) (by omega) (hW _ (by omega)) ?_
    refine V_cge mi_295_14 ⟨by omega, by omega⟩ ⟨by omega, by omega⟩ (fun q => ?_) (fun q => ?_)
    · have e : p = (G 3).toNat := by omega
      have ia := gaI (K := (tellT G (h + 1)).K) (t := t) (f := f) p
      have ib : I32 (allV (G (6 + 7 * f))) := i32b _
      refine V_iload (v := Int32.ofInt (gaS (tellT G (h + 1)).K t f p)) mi_295_52 (by simp [stL, lv_args, Value.category]) ?_
      refine V_aload (v := ad 90) mi_295_54 (by simp [stL, lv_args, Value.category]) ?_
      refine V_iload (v := Int32.ofInt ((f : Int))) mi_295_55 (by simp [stL, lv_args, Value.category]) ?_
      refine V_callM (As := [.int (Int32.ofInt ((f : Int)))]) (st := [.int (Int32.ofInt (gaS (tellT G (h + 1)).K t f p))]) mi_295_56 (by omega) (by decide +kernel) (by decide +kernel) hT.1 (who_ct (o := f) (by omega) hT.1 hW hB) (by omega) (show 1 = mN 206 by decide +kernel) (by simp [Value.category]) ?_
      rintro r w2 ⟨e2, rfl⟩
      rw [e2]
      refine V_cne mi_295_59 ia ib (fun q2 => ?_) (fun q2 => ?_)
      · refine V_ipush mi_295_66 ?_
        exact V_retI mi_295_67 (fun _ => by decide) (by rw [e] at q2; rw [show togP G (h + 1) f t = false from decide_eq_false q2] at kk; exact kk)
      · refine V_ipush mi_295_62 ?_
        refine V_goto mi_295_63 ?_
        exact V_retI mi_295_67 (fun _ => by decide) (by rw [e] at q2; rw [show togP G (h + 1) f t = true from decide_eq_true q2] at kk; exact kk)
    · exact absurd q (by omega)
  | m + 1, p, hm, kk => by
    obtain ⟨s91, e91, -⟩ := g91s
    have b3 := hB.b3
    have b2 := hB.b2
    refine V_iload (v := Int32.ofInt ((p : Int))) mi_295_6 (by simp [stL, lv_args, Value.category]) ?_
    refine V_aload (v := ad 90) mi_295_8 (by simp [stL, lv_args, Value.category]) ?_
    refine V_getI mi_295_9 hT.1 (rref gr1m (by omega) hT.1) ?_
    refine V_ipush mi_295_12 ?_
    refine V_aldX (j := 3) mi_295_13 rfl hT.1 e91 (by omega) (by omega) (hW _ (by omega)) ?_
    refine V_cge mi_295_14 ⟨by omega, by omega⟩ ⟨by omega, by omega⟩ (fun q => ?_) (fun q => ?_)
    · exact absurd q (by omega)
    · refine V_iload (v := Int32.ofInt (gaS (tellT G (h + 1)).K t f p)) mi_295_17 (by simp [stL, lv_args, Value.category]) ?_
      refine V_iload (v := Int32.ofInt (t)) mi_295_19 (by simp [stL, lv_args, Value.category]) ?_
      refine V_iload (v := Int32.ofInt ((p : Int))) mi_295_20 (by simp [stL, lv_args, Value.category]) ?_
      refine V_stat (As := [.int (Int32.ofInt (t)), .int (Int32.ofInt ((p : Int)))]) (st := [.int (Int32.ofInt (gaS (tellT G (h + 1)).K t f p))]) mi_295_22 (by omega) (bit_ct _ _ _) (by omega) (show 2 = mN 195 by decide +kernel) (by simp [Value.category]) ⟨Nat.le_refl _, Nat.le_refl _⟩ ?_
      rintro r w1 ⟨e1, rfl⟩
      rw [e1, (tb_k (i := (p : Int)) t0 t1 (by omega) (by omega)).1, bI_if]
      refine V_ipush mi_295_25 ?_
      refine V_cne mi_295_26 ⟨by split <;> omega, by split <;> omega⟩ ⟨by omega, by omega⟩ (fun q2 => ?_) (fun q2 => ?_)
      · have q3 : tb t (p : Int) = false := by
          cases c : tb t (p : Int) with
          | false => rfl
          | true => exact absurd (by rw [if_pos c]) q2
        refine V_ipush mi_295_42 ?_
        refine V_ibin mi_295_43 (by omega) ?_
        rw [or0, ← gaS_0 (K := (tellT G (h + 1)).K) (f := f) q3]
        refine V_istore mi_295_44 ?_
        refine V_iinc (v := Int32.ofInt ((p : Int))) mi_295_46 (by simp [stL, lv_args, Value.category]) ?_
        rw [ia2]
        refine V_goto mi_295_49 ?_
        refine V_sub (lv' := [(0, .ref (ad 90)), (1, .int (Int32.ofInt (t))), (2, .int (Int32.ofInt ((f : Int)))), (3, .int (Int32.ofInt ((h : Int)))), (4, .int (Int32.ofInt (gaS (tellT G (h + 1)).K t f (p + 1)))), (5, .int (Int32.ofInt (((p + 1 : Nat) : Int))))]) (fun q hq => ?_) ?_
        · simp only [List.mem_cons, List.not_mem_nil, or_false] at hq
          rcases hq with rfl | rfl | rfl | rfl | rfl | rfl <;> simp [stL, lv_args, Value.category]
        exact gam_6 hT hW hB hf hh t0 t1 m (p + 1) (by omega) kk
      · have q3 : tb t (p : Int) = true := by
          cases c : tb t (p : Int) with
          | true => rfl
          | false => exact absurd q2 (by rw [c, if_neg Bool.false_ne_true]; omega)
        refine V_aload (v := ad 90) mi_295_29 (by simp [stL, lv_args, Value.category]) ?_
        refine V_iload (v := Int32.ofInt ((p : Int))) mi_295_30 (by simp [stL, lv_args, Value.category]) ?_
        refine V_iload (v := Int32.ofInt ((f : Int))) mi_295_32 (by simp [stL, lv_args, Value.category]) ?_
        refine V_iload (v := Int32.ofInt ((h : Int))) mi_295_33 (by simp [stL, lv_args, Value.category]) ?_
        refine V_ipush mi_295_34 ?_
        refine V_ibin mi_295_35 (by omega) ?_
        rw [ib0]
        rw [show (h : Int) + (1) = ((h + 1 : Nat) : Int) by omega]
        refine V_callM (As := [.int (Int32.ofInt ((p : Int))), .int (Int32.ofInt ((f : Int))), .int (Int32.ofInt (((h + 1 : Nat) : Int)))]) (st := [.int (Int32.ofInt (gaS (tellT G (h + 1)).K t f p))]) mi_295_36 (by omega) (by decide +kernel) (by decide +kernel) hT.1 (kah_ct (f := p) (o := f) (g := h + 1) hT.1 (by omega) (by omega) (by omega) (mt_k hT (by omega) (by omega) (by omega))) (by omega) (show 3 = mN 239 by decide +kernel) (by simp [Value.category]) ?_
        rintro r w2 ⟨e2, rfl⟩
        rw [e2]
        refine V_goto mi_295_39 ?_
        refine V_ibin mi_295_43 (by omega) ?_
        rw [orr_i, ← gaS_1 q3]
        refine V_istore mi_295_44 ?_
        refine V_iinc (v := Int32.ofInt ((p : Int))) mi_295_46 (by simp [stL, lv_args, Value.category]) ?_
        rw [ia2]
        refine V_goto mi_295_49 ?_
        refine V_sub (lv' := [(0, .ref (ad 90)), (1, .int (Int32.ofInt (t))), (2, .int (Int32.ofInt ((f : Int)))), (3, .int (Int32.ofInt ((h : Int)))), (4, .int (Int32.ofInt (gaS (tellT G (h + 1)).K t f (p + 1)))), (5, .int (Int32.ofInt (((p + 1 : Nat) : Int))))]) (fun q hq => ?_) ?_
        · simp only [List.mem_cons, List.not_mem_nil, or_false] at hq
          rcases hq with rfl | rfl | rfl | rfl | rfl | rfl <;> simp [stL, lv_args, Value.category]
        exact gam_6 hT hW hB hf hh t0 t1 m (p + 1) (by omega) kk
theorem gam_ct {G : Nat → Int} {w0 : va_W} (hT : MT ad tys G w0 ws) (hW : W91 G ws) (hB : HB G) {f h : Nat} (hf : f < 6) (hh : (h : Int) < G 2) {t : Int} (t0 : 0 ≤ t) (t1 : t ≤ 63) : CT l D tys A 295 3 0 0 [.ref (ad 90), .int (Int32.ofInt (t)), .int (Int32.ofInt ((f : Int))), .int (Int32.ofInt ((h : Int)))] ws (fun r w => w = ws ∧ r = some (.int (bI (togP G (h + 1) f t)))) := by
  refine CT_of_V (by omega) (show (4 : Nat) ≤ mML 295 by decide +kernel) ?_
  have b3 := hB.b3
  refine V_ipush mi_295_0 ?_
  refine V_istore mi_295_1 ?_
  refine V_ipush mi_295_3 ?_
  refine V_istore mi_295_4 ?_
  refine V_sub (lv' := [(0, .ref (ad 90)), (1, .int (Int32.ofInt (t))), (2, .int (Int32.ofInt ((f : Int)))), (3, .int (Int32.ofInt ((h : Int)))), (4, .int (Int32.ofInt (0))), (5, .int (Int32.ofInt (((0 : Nat) : Int))))]) (fun q hq => ?_) ?_
  · simp only [List.mem_cons, List.not_mem_nil, or_false] at hq
    rcases hq with rfl | rfl | rfl | rfl | rfl | rfl <;> simp [stL, lv_args, Value.category]
  exact gam_6 hT hW hB hf hh t0 t1 (G 3).toNat 0 (by omega) ⟨rfl, rfl⟩
theorem all_i (n : Int) : some (Value.int (ibF 1 (ibF 8 (Int32.ofInt (1)) (Int32.ofInt (n))) (Int32.ofInt (1)))) = some (.int (Int32.ofInt (allV n))) := by
  unfold allV
  rw [Int32.ofInt_toInt]
theorem all6_all : (List.range 7).all (fun n => decide (0 ≤ allV (n : Nat) ∧ allV (n : Nat) ≤ 63)) = true := by decide +kernel
theorem all6 {n : Int} (h : 0 ≤ n ∧ n ≤ 6) : 0 ≤ allV n ∧ allV n ≤ 63 := by
  have q := of_decide_eq_true (List.all_eq_true.mp all6_all n.toNat (List.mem_range.mpr (by omega)))
  rw [Int.toNat_of_nonneg h.1] at q
  exact q
theorem evy_ct {G : Nat → Int} (hG : GOK ad tys GG ws) (hX : HX 4 G ws) (hB : HB G) : CT l D tys A 109 0 0 0 [.ref (ad 4)] ws (fun r w => w = ws ∧ r = some (.int (Int32.ofInt (allV (G 3))))) := by
  refine CT_of_V (by omega) (show (1 : Nat) ≤ mML 109 by decide +kernel) ?_
  refine V_ipush mi_109_0 ?_
  refine V_aload (v := ad 4) mi_109_1 (by simp [stL, lv_args, Value.category]) ?_
  refine V_gO mi_109_2 g4o hG (show rd _ 4 4 = some (.int (Int32.ofInt (G 3))) from hx0 hX (i := 4) (by omega)) ?_
  refine V_ibin mi_109_5 (by omega) ?_
  refine V_ipush mi_109_6 ?_
  refine V_ibin mi_109_7 (by omega) ?_
  exact V_retI mi_109_8 (fun h => absurd h (by decide +kernel)) ⟨rfl, all_i (G 3)⟩
theorem alm_ct {G : Nat → Int} (hG : GOK ad tys GG ws) (hW : W91 G ws) : CT l D tys A 209 0 0 0 [.ref (ad 90)] ws (fun r w => w = ws ∧ r = some (.int (Int32.ofInt (allV (G 3))))) := by
  refine CT_of_V (by omega) (show (1 : Nat) ≤ mML 209 by decide +kernel) ?_
  obtain ⟨s91, e91, -⟩ := g91s
  
  refine V_ipush mi_209_0 ?_
  refine V_aload (v := ad 90) mi_209_1 (by simp [stL, lv_args, Value.category]) ?_
  refine V_getI mi_209_2 hG (rref gr1m (by omega) hG) ?_
  refine V_ipush mi_209_5 ?_
  refine V_aldX (j := 3) mi_209_6 rfl hG e91 (by omega) (by omega) (hW _ (by omega)) ?_
  refine V_ibin mi_209_7 (by omega) ?_
  refine V_ipush mi_209_8 ?_
  refine V_ibin mi_209_9 (by omega) ?_
  exact V_retI mi_209_10 (fun h => absurd h (by decide +kernel)) ⟨rfl, all_i (G 3)⟩
end XTA
end
section
section XTB
variable {l : Launch} {D : va_G} {tys : List (ClassId × FieldType)} {A : Nat → Prop} {ad : Nat → Nat} {ws : va_W}
/-- the least of the fewest among the sets from p on, m of them, that P holds of; a so far -/
noncomputable def slS (P : Nat → Bool) : Nat → Nat → Int → Int
  | 0, _, a => a
  | m + 1, p, a => if P p = true ∧ (a = -1 ∨ bcS (p : Int) 6 < bcS a 6) then slS P m (p + 1) (p : Int) else slS P m (p + 1) a
theorem slS_y {P : Nat → Bool} {m p : Nat} {a : Int} (h : P p = true ∧ (a = -1 ∨ bcS (p : Int) 6 < bcS a 6)) : slS P (m + 1) p a = slS P m (p + 1) (p : Int) := if_pos h
theorem slS_n {P : Nat → Bool} {m p : Nat} {a : Int} (h : ¬ (P p = true ∧ (a = -1 ∨ bcS (p : Int) 6 < bcS a 6))) : slS P (m + 1) p a = slS P m (p + 1) a := if_neg h
noncomputable def szI (a : Int) : Int := if a = -1 then 7 else bcS a 6
theorem szI_c {a : Int} : (a = -1 ∧ szI a = 7) ∨ (¬ a = -1 ∧ szI a = bcS a 6) := by
  unfold szI
  by_cases c : a = -1
  · exact Or.inl ⟨c, if_pos c⟩
  · exact Or.inr ⟨c, if_neg c⟩
theorem szI_p {p : Nat} : szI (p : Int) = bcS (p : Int) 6 := by
  unfold szI
  rw [if_neg (by omega)]
/-- those that f is aside of and that know its name together -/
noncomputable def tmP (G : Nat → Int) (g f p : Nat) : Bool := !(tb (p : Int) (f : Int)) && togP G g f (p : Int)
theorem tmx_10 {G : Nat → Int} (hG : GOK ad tys GG ws) (hX : HX 4 G ws) (hB : HB G) (hS : STO G ws) {f g : Nat} {post : Option Value → va_W → Prop} (hf : f < 6) (hg : (g : Int) ≤ G 2) : ∀ (m p : Nat) (a : Int), ((p + m : Nat) : Int) = allV (G 3) + 1 → (-1 ≤ a ∧ a ≤ 63) → post (some (.int (Int32.ofInt (slS (tmP G g f) m p a)))) ws → V l D tys A 183 4 0 0 post 0 0 10 [(0, .ref (ad 32)), (1, .ref (ad 4)), (2, .int (Int32.ofInt ((f : Int)))), (3, .int (Int32.ofInt ((g : Int)))), (4, .int (Int32.ofInt (a))), (5, .int (Int32.ofInt (szI a))), (6, .int (Int32.ofInt ((p : Int))))] [] ws
  | 0, p, a, hm, ha, kk => by
    have b3 := hB.b3
    have b2 := hB.b2
    have al := all6 b3
    have cp := bcS_bd (a := (p : Int)) 6
    have ca := bcS_bd (a := a) 6
    have ed := szI_c (a := a)
    refine V_iload (v := Int32.ofInt ((p : Int))) mi_183_10 (by simp [stL, lv_args, Value.category]) ?_
    refine V_aload (v := ad 4) mi_183_12 (by simp [stL, lv_args, Value.category]) ?_
    refine V_cO (As := []) (st := [.int (Int32.ofInt ((p : Int)))]) mi_183_13 (by omega) (by decide +kernel) (by decide +kernel) (by omega) g4o hG (evy_ct hG hX hB) (by omega) (show 0 = mN 109 by decide +kernel) (by simp [Value.category]) ?_
    rintro r w0 ⟨e0, rfl⟩
    rw [e0]
    refine V_cgt mi_183_16 ⟨by omega, by omega⟩ ⟨by omega, by omega⟩ (fun q => ?_) (fun q => ?_)
    · refine V_iload (v := Int32.ofInt (a)) mi_183_79 (by simp [stL, lv_args, Value.category]) ?_
      exact V_retI mi_183_81 (fun h => absurd h (by decide +kernel)) kk
    · exact absurd q (by omega)
  | m + 1, p, a, hm, ha, kk => by
    have b3 := hB.b3
    have b2 := hB.b2
    have al := all6 b3
    have cp := bcS_bd (a := (p : Int)) 6
    have ca := bcS_bd (a := a) 6
    have ed := szI_c (a := a)
    refine V_iload (v := Int32.ofInt ((p : Int))) mi_183_10 (by simp [stL, lv_args, Value.category]) ?_
    refine V_aload (v := ad 4) mi_183_12 (by simp [stL, lv_args, Value.category]) ?_
    refine V_cO (As := []) (st := [.int (Int32.ofInt ((p : Int)))]) mi_183_13 (by omega) (by decide +kernel) (by decide +kernel) (by omega) g4o hG (evy_ct hG hX hB) (by omega) (show 0 = mN 109 by decide +kernel) (by simp [Value.category]) ?_
    rintro r w0 ⟨e0, rfl⟩
    rw [e0]
    refine V_cgt mi_183_16 ⟨by omega, by omega⟩ ⟨by omega, by omega⟩ (fun q => ?_) (fun q => ?_)
    · exact absurd q (by omega)
    · refine V_iload (v := Int32.ofInt ((p : Int))) mi_183_19 (by simp [stL, lv_args, Value.category]) ?_
      refine V_iload (v := Int32.ofInt ((f : Int))) mi_183_21 (by simp [stL, lv_args, Value.category]) ?_
      refine V_ibin mi_183_22 (by omega) ?_
      refine V_ipush mi_183_23 ?_
      refine V_ibin mi_183_24 (by omega) ?_
      rw [(tb_k (a := (p : Int)) (i := (f : Int)) (by omega) (by omega) (by omega) (by omega)).1]
      refine V_bne mi_183_25  (fun q2 => ?_) (fun q2 => ?_)
      · refine V_ipush mi_183_32 ?_
        refine V_istore mi_183_33 ?_
        refine V_iload (v := Int32.ofInt (0)) mi_183_35 (by simp [stL, lv_args, Value.category]) ?_
        refine V_zeq mi_183_37 ⟨by omega, by omega⟩ (fun q3 => ?_) (fun q3 => ?_)
        · refine V_iinc (v := Int32.ofInt ((p : Int))) mi_183_73 (by simp [stL, lv_args, Value.category]) ?_
          rw [ia2]
          refine V_goto mi_183_76 ?_
          refine V_sub (lv' := [(0, .ref (ad 32)), (1, .ref (ad 4)), (2, .int (Int32.ofInt ((f : Int)))), (3, .int (Int32.ofInt ((g : Int)))), (4, .int (Int32.ofInt (a))), (5, .int (Int32.ofInt (szI a))), (6, .int (Int32.ofInt (((p + 1 : Nat) : Int))))]) (fun q hq => ?_) ?_
          · simp only [List.mem_cons, List.not_mem_nil, or_false] at hq
            rcases hq with rfl | rfl | rfl | rfl | rfl | rfl | rfl <;> simp [stL, lv_args, Value.category]
          rw [slS_n (fun k => by unfold tmP at k; rw [q2, Bool.not_true, Bool.false_and] at k; exact absurd k.1 Bool.false_ne_true)] at kk
          exact tmx_10 hG hX hB hS hf hg m (p + 1) a (by omega) ha kk
        · exact absurd rfl q3
      · refine V_ipush mi_183_28 ?_
        refine V_goto mi_183_29 ?_
        refine V_istore mi_183_33 ?_
        refine V_iload (v := Int32.ofInt (1)) mi_183_35 (by simp [stL, lv_args, Value.category]) ?_
        refine V_zeq mi_183_37 ⟨by omega, by omega⟩ (fun q3 => ?_) (fun q3 => ?_)
        · exact absurd q3 (by omega)
        · refine V_iload (v := Int32.ofInt ((p : Int))) mi_183_40 (by simp [stL, lv_args, Value.category]) ?_
          refine V_stat (As := [.int (Int32.ofInt ((p : Int)))]) (st := []) mi_183_42 (by omega) (bcx_ct (a := (p : Int)) (by omega) (by omega)) (by omega) (show 1 = mN 344 by decide +kernel) (by simp [Value.category]) ⟨Nat.le_refl _, Nat.le_refl _⟩ ?_
          rintro r w1 ⟨e1, rfl⟩
          rw [e1]
          refine V_iload (v := Int32.ofInt (szI a)) mi_183_45 (by simp [stL, lv_args, Value.category]) ?_
          refine V_cge mi_183_47 ⟨by omega, by omega⟩ ⟨by omega, by omega⟩ (fun q4 => ?_) (fun q4 => ?_)
          · refine V_iinc (v := Int32.ofInt ((p : Int))) mi_183_73 (by simp [stL, lv_args, Value.category]) ?_
            rw [ia2]
            refine V_goto mi_183_76 ?_
            refine V_sub (lv' := [(0, .ref (ad 32)), (1, .ref (ad 4)), (2, .int (Int32.ofInt ((f : Int)))), (3, .int (Int32.ofInt ((g : Int)))), (4, .int (Int32.ofInt (a))), (5, .int (Int32.ofInt (szI a))), (6, .int (Int32.ofInt (((p + 1 : Nat) : Int))))]) (fun q hq => ?_) ?_
            · simp only [List.mem_cons, List.not_mem_nil, or_false] at hq
              rcases hq with rfl | rfl | rfl | rfl | rfl | rfl | rfl <;> simp [stL, lv_args, Value.category]
            rw [slS_n (fun k => by have := k.2; omega)] at kk
            exact tmx_10 hG hX hB hS hf hg m (p + 1) a (by omega) ha kk
          · refine V_aload (v := ad 32) mi_183_50 (by simp [stL, lv_args, Value.category]) ?_
            refine V_aload (v := ad 4) mi_183_51 (by simp [stL, lv_args, Value.category]) ?_
            refine V_iload (v := Int32.ofInt ((p : Int))) mi_183_52 (by simp [stL, lv_args, Value.category]) ?_
            refine V_iload (v := Int32.ofInt ((f : Int))) mi_183_54 (by simp [stL, lv_args, Value.category]) ?_
            refine V_iload (v := Int32.ofInt ((g : Int))) mi_183_55 (by simp [stL, lv_args, Value.category]) ?_
            refine V_cO (As := [.ref (ad 4), .int (Int32.ofInt ((p : Int))), .int (Int32.ofInt ((f : Int))), .int (Int32.ofInt ((g : Int)))]) (st := []) mi_183_56 (by omega) (by decide +kernel) (by decide +kernel) (by omega) g32o hG (gaw_ct (f := f) (g := g) (t := (p : Int)) hG hX hB hS hf hg (by omega) (by omega)) (by omega) (show 4 = mN 182 by decide +kernel) (by simp [Value.category]) ?_
            rintro r w2 ⟨e2, rfl⟩
            rw [e2]
            refine V_beq mi_183_59  (fun q5 => ?_) (fun q5 => ?_)
            · refine V_iinc (v := Int32.ofInt ((p : Int))) mi_183_73 (by simp [stL, lv_args, Value.category]) ?_
              rw [ia2]
              refine V_goto mi_183_76 ?_
              refine V_sub (lv' := [(0, .ref (ad 32)), (1, .ref (ad 4)), (2, .int (Int32.ofInt ((f : Int)))), (3, .int (Int32.ofInt ((g : Int)))), (4, .int (Int32.ofInt (a))), (5, .int (Int32.ofInt (szI a))), (6, .int (Int32.ofInt (((p + 1 : Nat) : Int))))]) (fun q hq => ?_) ?_
              · simp only [List.mem_cons, List.not_mem_nil, or_false] at hq
                rcases hq with rfl | rfl | rfl | rfl | rfl | rfl | rfl <;> simp [stL, lv_args, Value.category]
              rw [slS_n (fun k => by unfold tmP at k; rw [q5, Bool.and_false] at k; exact absurd k.1 Bool.false_ne_true)] at kk
              exact tmx_10 hG hX hB hS hf hg m (p + 1) a (by omega) ha kk
            · refine V_iload (v := Int32.ofInt ((p : Int))) mi_183_62 (by simp [stL, lv_args, Value.category]) ?_
              refine V_istore mi_183_64 ?_
              refine V_iload (v := Int32.ofInt ((p : Int))) mi_183_66 (by simp [stL, lv_args, Value.category]) ?_
              refine V_stat (As := [.int (Int32.ofInt ((p : Int)))]) (st := []) mi_183_68 (by omega) (bcx_ct (a := (p : Int)) (by omega) (by omega)) (by omega) (show 1 = mN 344 by decide +kernel) (by simp [Value.category]) ⟨Nat.le_refl _, Nat.le_refl _⟩ ?_
              rintro r w3 ⟨e3, rfl⟩
              rw [e3, ← szI_p]
              refine V_istore mi_183_71 ?_
              refine V_iinc (v := Int32.ofInt ((p : Int))) mi_183_73 (by simp [stL, lv_args, Value.category]) ?_
              rw [ia2]
              refine V_goto mi_183_76 ?_
              refine V_sub (lv' := [(0, .ref (ad 32)), (1, .ref (ad 4)), (2, .int (Int32.ofInt ((f : Int)))), (3, .int (Int32.ofInt ((g : Int)))), (4, .int (Int32.ofInt ((p : Int)))), (5, .int (Int32.ofInt (szI (p : Int)))), (6, .int (Int32.ofInt (((p + 1 : Nat) : Int))))]) (fun q hq => ?_) ?_
              · simp only [List.mem_cons, List.not_mem_nil, or_false] at hq
                rcases hq with rfl | rfl | rfl | rfl | rfl | rfl | rfl <;> simp [stL, lv_args, Value.category]
              rw [slS_y ⟨by unfold tmP; rw [q2, q5]; rfl, by omega⟩] at kk
              exact tmx_10 hG hX hB hS hf hg m (p + 1) (p : Int) (by omega) ⟨by omega, by omega⟩ kk
theorem fwt_ct {G : Nat → Int} (hG : GOK ad tys GG ws) (hX : HX 4 G ws) (hB : HB G) (hS : STO G ws) {f g : Nat} (hf : f < 6) (hg : (g : Int) ≤ G 2) : CT l D tys A 183 4 0 0 [.ref (ad 32), .ref (ad 4), .int (Int32.ofInt ((f : Int))), .int (Int32.ofInt ((g : Int)))] ws (fun r w => w = ws ∧ r = some (.int (Int32.ofInt (slS (tmP G g f) (allV (G 3) + 1).toNat 0 (-1))))) := by
  refine CT_of_V (by omega) (show (4 : Nat) ≤ mML 183 by decide +kernel) ?_
  have b3 := hB.b3
  have al := all6 b3
  refine V_ipush mi_183_0 ?_
  refine V_istore mi_183_1 ?_
  refine V_ipush mi_183_3 ?_
  refine V_istore mi_183_5 ?_
  refine V_ipush mi_183_7 ?_
  refine V_istore mi_183_8 ?_
  refine V_sub (lv' := [(0, .ref (ad 32)), (1, .ref (ad 4)), (2, .int (Int32.ofInt ((f : Int)))), (3, .int (Int32.ofInt ((g : Int)))), (4, .int (Int32.ofInt ((-1)))), (5, .int (Int32.ofInt (7))), (6, .int (Int32.ofInt (((0 : Nat) : Int))))]) (fun q hq => ?_) ?_
  · simp only [List.mem_cons, List.not_mem_nil, or_false] at hq
    rcases hq with rfl | rfl | rfl | rfl | rfl | rfl | rfl <;> simp [stL, lv_args, Value.category]
  rw [show (7 : Int) = szI (-1) from rfl]
  exact tmx_10 hG hX hB hS hf hg (allV (G 3) + 1).toNat 0 (-1) (by omega) ⟨by omega, by omega⟩ ⟨rfl, rfl⟩
theorem tmm_5 {G : Nat → Int} {w0 : va_W} (hT : MT ad tys G w0 ws) (hW : W91 G ws) (hB : HB G) {f h : Nat} {post : Option Value → va_W → Prop} (hf : f < 6) (hh : (h : Int) < G 2) : ∀ (m p : Nat) (a : Int), ((p + m : Nat) : Int) = allV (G 3) + 1 → (-1 ≤ a ∧ a ≤ 63) → post (some (.int (Int32.ofInt (slS (tmP G (h + 1) f) m p a)))) ws → V l D tys A 297 4 0 0 post 0 0 5 [(0, .ref (ad 90)), (1, .int (Int32.ofInt ((f : Int)))), (2, .int (Int32.ofInt ((h : Int)))), (3, .int (Int32.ofInt (a))), (4, .int (Int32.ofInt ((p : Int))))] [] ws
  | 0, p, a, hm, ha, kk => by
    have b3 := hB.b3
    have b2 := hB.b2
    have al := all6 b3
    have cp := bcS_bd (a := (p : Int)) 6
    have ca := bcS_bd (a := a) 6
    refine V_iload (v := Int32.ofInt ((p : Int))) mi_297_5 (by simp [stL, lv_args, Value.category]) ?_
    refine V_aload (v := ad 90) mi_297_7 (by simp [stL, lv_args, Value.category]) ?_
    refine V_callM (As := []) (st := [.int (Int32.ofInt ((p : Int)))]) mi_297_8 (by omega) (by decide +kernel) (by decide +kernel) hT.1 (alm_ct hT.1 hW) (by omega) (show 0 = mN 209 by decide +kernel) (by simp [Value.category]) ?_
    rintro r w0 ⟨e0, rfl⟩
    rw [e0]
    refine V_cgt mi_297_11 ⟨by omega, by omega⟩ ⟨by omega, by omega⟩ (fun q => ?_) (fun q => ?_)
    · refine V_iload (v := Int32.ofInt (a)) mi_297_60 (by simp [stL, lv_args, Value.category]) ?_
      exact V_retI mi_297_61 (fun h => absurd h (by decide +kernel)) kk
    · exact absurd q (by omega)
  | m + 1, p, a, hm, ha, kk => by
    have b3 := hB.b3
    have b2 := hB.b2
    have al := all6 b3
    have cp := bcS_bd (a := (p : Int)) 6
    have ca := bcS_bd (a := a) 6
    refine V_iload (v := Int32.ofInt ((p : Int))) mi_297_5 (by simp [stL, lv_args, Value.category]) ?_
    refine V_aload (v := ad 90) mi_297_7 (by simp [stL, lv_args, Value.category]) ?_
    refine V_callM (As := []) (st := [.int (Int32.ofInt ((p : Int)))]) mi_297_8 (by omega) (by decide +kernel) (by decide +kernel) hT.1 (alm_ct hT.1 hW) (by omega) (show 0 = mN 209 by decide +kernel) (by simp [Value.category]) ?_
    rintro r w0 ⟨e0, rfl⟩
    rw [e0]
    refine V_cgt mi_297_11 ⟨by omega, by omega⟩ ⟨by omega, by omega⟩ (fun q => ?_) (fun q => ?_)
    · exact absurd q (by omega)
    · refine V_iload (v := Int32.ofInt ((p : Int))) mi_297_14 (by simp [stL, lv_args, Value.category]) ?_
      refine V_iload (v := Int32.ofInt ((f : Int))) mi_297_16 (by simp [stL, lv_args, Value.category]) ?_
      refine V_stat (As := [.int (Int32.ofInt ((p : Int))), .int (Int32.ofInt ((f : Int)))]) (st := []) mi_297_17 (by omega) (bit_ct _ _ _) (by omega) (show 2 = mN 195 by decide +kernel) (by simp [Value.category]) ⟨Nat.le_refl _, Nat.le_refl _⟩ ?_
      rintro r w1 ⟨e1, rfl⟩
      rw [e1, (tb_k (a := (p : Int)) (i := (f : Int)) (by omega) (by omega) (by omega) (by omega)).1]
      refine V_bne mi_297_20  (fun q2 => ?_) (fun q2 => ?_)
      · refine V_iinc (v := Int32.ofInt ((p : Int))) mi_297_54 (by simp [stL, lv_args, Value.category]) ?_
        rw [ia2]
        refine V_goto mi_297_57 ?_
        refine V_sub (lv' := [(0, .ref (ad 90)), (1, .int (Int32.ofInt ((f : Int)))), (2, .int (Int32.ofInt ((h : Int)))), (3, .int (Int32.ofInt (a))), (4, .int (Int32.ofInt (((p + 1 : Nat) : Int))))]) (fun q hq => ?_) ?_
        · simp only [List.mem_cons, List.not_mem_nil, or_false] at hq
          rcases hq with rfl | rfl | rfl | rfl | rfl <;> simp [stL, lv_args, Value.category]
        rw [slS_n (fun k => by unfold tmP at k; rw [q2, Bool.not_true, Bool.false_and] at k; exact absurd k.1 Bool.false_ne_true)] at kk
        exact tmm_5 hT hW hB hf hh m (p + 1) a (by omega) ha kk
      · refine V_iload (v := Int32.ofInt (a)) mi_297_23 (by simp [stL, lv_args, Value.category]) ?_
        refine V_ipush mi_297_24 ?_
        refine V_ceq mi_297_25 ⟨by omega, by omega⟩ ⟨by omega, by omega⟩ (fun q3 => ?_) (fun q3 => ?_)
        · refine V_aload (v := ad 90) mi_297_40 (by simp [stL, lv_args, Value.category]) ?_
          refine V_iload (v := Int32.ofInt ((p : Int))) mi_297_41 (by simp [stL, lv_args, Value.category]) ?_
          refine V_iload (v := Int32.ofInt ((f : Int))) mi_297_43 (by simp [stL, lv_args, Value.category]) ?_
          refine V_iload (v := Int32.ofInt ((h : Int))) mi_297_44 (by simp [stL, lv_args, Value.category]) ?_
          refine V_callM (As := [.int (Int32.ofInt ((p : Int))), .int (Int32.ofInt ((f : Int))), .int (Int32.ofInt ((h : Int)))]) (st := []) mi_297_45 (by omega) (by decide +kernel) (by decide +kernel) hT.1 (gam_ct (f := f) (h := h) (t := (p : Int)) hT hW hB hf hh (by omega) (by omega)) (by omega) (show 3 = mN 295 by decide +kernel) (by simp [Value.category]) ?_
          rintro r w2 ⟨e2, rfl⟩
          rw [e2]
          refine V_beq mi_297_48  (fun q5 => ?_) (fun q5 => ?_)
          · refine V_iinc (v := Int32.ofInt ((p : Int))) mi_297_54 (by simp [stL, lv_args, Value.category]) ?_
            rw [ia2]
            refine V_goto mi_297_57 ?_
            refine V_sub (lv' := [(0, .ref (ad 90)), (1, .int (Int32.ofInt ((f : Int)))), (2, .int (Int32.ofInt ((h : Int)))), (3, .int (Int32.ofInt (a))), (4, .int (Int32.ofInt (((p + 1 : Nat) : Int))))]) (fun q hq => ?_) ?_
            · simp only [List.mem_cons, List.not_mem_nil, or_false] at hq
              rcases hq with rfl | rfl | rfl | rfl | rfl <;> simp [stL, lv_args, Value.category]
            rw [slS_n (fun k => by unfold tmP at k; rw [q5, Bool.and_false] at k; exact absurd k.1 Bool.false_ne_true)] at kk
            exact tmm_5 hT hW hB hf hh m (p + 1) a (by omega) ha kk
          · refine V_iload (v := Int32.ofInt ((p : Int))) mi_297_51 (by simp [stL, lv_args, Value.category]) ?_
            refine V_istore mi_297_53 ?_
            refine V_iinc (v := Int32.ofInt ((p : Int))) mi_297_54 (by simp [stL, lv_args, Value.category]) ?_
            rw [ia2]
            refine V_goto mi_297_57 ?_
            refine V_sub (lv' := [(0, .ref (ad 90)), (1, .int (Int32.ofInt ((f : Int)))), (2, .int (Int32.ofInt ((h : Int)))), (3, .int (Int32.ofInt ((p : Int)))), (4, .int (Int32.ofInt (((p + 1 : Nat) : Int))))]) (fun q hq => ?_) ?_
            · simp only [List.mem_cons, List.not_mem_nil, or_false] at hq
              rcases hq with rfl | rfl | rfl | rfl | rfl <;> simp [stL, lv_args, Value.category]
            rw [slS_y ⟨by unfold tmP; rw [q2, q5]; rfl, by omega⟩] at kk
            exact tmm_5 hT hW hB hf hh m (p + 1) (p : Int) (by omega) ⟨by omega, by omega⟩ kk
        · refine V_iload (v := Int32.ofInt ((p : Int))) mi_297_28 (by simp [stL, lv_args, Value.category]) ?_
          refine V_stat (As := [.int (Int32.ofInt ((p : Int)))]) (st := []) mi_297_30 (by omega) (bcm_ct (a := (p : Int)) (by omega) (by omega)) (by omega) (show 1 = mN 194 by decide +kernel) (by simp [Value.category]) ⟨Nat.le_refl _, Nat.le_refl _⟩ ?_
          rintro r w3 ⟨e3, rfl⟩
          rw [e3]
          refine V_iload (v := Int32.ofInt (a)) mi_297_33 (by simp [stL, lv_args, Value.category]) ?_
          refine V_stat (As := [.int (Int32.ofInt (a))]) (st := [.int (Int32.ofInt (bcS (p : Int) 6))]) mi_297_34 (by omega) (bcm_ct (a := a) (by omega) (by omega)) (by omega) (show 1 = mN 194 by decide +kernel) (by simp [Value.category]) ⟨Nat.le_refl _, Nat.le_refl _⟩ ?_
          rintro r w4 ⟨e4, rfl⟩
          rw [e4]
          refine V_cge mi_297_37 ⟨by omega, by omega⟩ ⟨by omega, by omega⟩ (fun q4 => ?_) (fun q4 => ?_)
          · refine V_iinc (v := Int32.ofInt ((p : Int))) mi_297_54 (by simp [stL, lv_args, Value.category]) ?_
            rw [ia2]
            refine V_goto mi_297_57 ?_
            refine V_sub (lv' := [(0, .ref (ad 90)), (1, .int (Int32.ofInt ((f : Int)))), (2, .int (Int32.ofInt ((h : Int)))), (3, .int (Int32.ofInt (a))), (4, .int (Int32.ofInt (((p + 1 : Nat) : Int))))]) (fun q hq => ?_) ?_
            · simp only [List.mem_cons, List.not_mem_nil, or_false] at hq
              rcases hq with rfl | rfl | rfl | rfl | rfl <;> simp [stL, lv_args, Value.category]
            rw [slS_n (fun k => by have := k.2; omega)] at kk
            exact tmm_5 hT hW hB hf hh m (p + 1) a (by omega) ha kk
          · refine V_aload (v := ad 90) mi_297_40 (by simp [stL, lv_args, Value.category]) ?_
            refine V_iload (v := Int32.ofInt ((p : Int))) mi_297_41 (by simp [stL, lv_args, Value.category]) ?_
            refine V_iload (v := Int32.ofInt ((f : Int))) mi_297_43 (by simp [stL, lv_args, Value.category]) ?_
            refine V_iload (v := Int32.ofInt ((h : Int))) mi_297_44 (by simp [stL, lv_args, Value.category]) ?_
            refine V_callM (As := [.int (Int32.ofInt ((p : Int))), .int (Int32.ofInt ((f : Int))), .int (Int32.ofInt ((h : Int)))]) (st := []) mi_297_45 (by omega) (by decide +kernel) (by decide +kernel) hT.1 (gam_ct (f := f) (h := h) (t := (p : Int)) hT hW hB hf hh (by omega) (by omega)) (by omega) (show 3 = mN 295 by decide +kernel) (by simp [Value.category]) ?_
            rintro r w2 ⟨e2, rfl⟩
            rw [e2]
            refine V_beq mi_297_48  (fun q5 => ?_) (fun q5 => ?_)
            · refine V_iinc (v := Int32.ofInt ((p : Int))) mi_297_54 (by simp [stL, lv_args, Value.category]) ?_
              rw [ia2]
              refine V_goto mi_297_57 ?_
              refine V_sub (lv' := [(0, .ref (ad 90)), (1, .int (Int32.ofInt ((f : Int)))), (2, .int (Int32.ofInt ((h : Int)))), (3, .int (Int32.ofInt (a))), (4, .int (Int32.ofInt (((p + 1 : Nat) : Int))))]) (fun q hq => ?_) ?_
              · simp only [List.mem_cons, List.not_mem_nil, or_false] at hq
                rcases hq with rfl | rfl | rfl | rfl | rfl <;> simp [stL, lv_args, Value.category]
              rw [slS_n (fun k => by unfold tmP at k; rw [q5, Bool.and_false] at k; exact absurd k.1 Bool.false_ne_true)] at kk
              exact tmm_5 hT hW hB hf hh m (p + 1) a (by omega) ha kk
            · refine V_iload (v := Int32.ofInt ((p : Int))) mi_297_51 (by simp [stL, lv_args, Value.category]) ?_
              refine V_istore mi_297_53 ?_
              refine V_iinc (v := Int32.ofInt ((p : Int))) mi_297_54 (by simp [stL, lv_args, Value.category]) ?_
              rw [ia2]
              refine V_goto mi_297_57 ?_
              refine V_sub (lv' := [(0, .ref (ad 90)), (1, .int (Int32.ofInt ((f : Int)))), (2, .int (Int32.ofInt ((h : Int)))), (3, .int (Int32.ofInt ((p : Int)))), (4, .int (Int32.ofInt (((p + 1 : Nat) : Int))))]) (fun q hq => ?_) ?_
              · simp only [List.mem_cons, List.not_mem_nil, or_false] at hq
                rcases hq with rfl | rfl | rfl | rfl | rfl <;> simp [stL, lv_args, Value.category]
              rw [slS_y ⟨by unfold tmP; rw [q2, q5]; rfl, by omega⟩] at kk
              exact tmm_5 hT hW hB hf hh m (p + 1) (p : Int) (by omega) ⟨by omega, by omega⟩ kk
theorem tmq_ct {G : Nat → Int} {w0 : va_W} (hT : MT ad tys G w0 ws) (hW : W91 G ws) (hB : HB G) {f h : Nat} (hf : f < 6) (hh : (h : Int) < G 2) : CT l D tys A 297 4 0 0 [.ref (ad 90), .int (Int32.ofInt ((f : Int))), .int (Int32.ofInt ((h : Int)))] ws (fun r w => w = ws ∧ r = some (.int (Int32.ofInt (slS (tmP G (h + 1) f) (allV (G 3) + 1).toNat 0 (-1))))) := by
  refine CT_of_V (by omega) (show (3 : Nat) ≤ mML 297 by decide +kernel) ?_
  have b3 := hB.b3
  have al := all6 b3
  refine V_ipush mi_297_0 ?_
  refine V_istore mi_297_1 ?_
  refine V_ipush mi_297_2 ?_
  refine V_istore mi_297_3 ?_
  refine V_sub (lv' := [(0, .ref (ad 90)), (1, .int (Int32.ofInt ((f : Int)))), (2, .int (Int32.ofInt ((h : Int)))), (3, .int (Int32.ofInt ((-1)))), (4, .int (Int32.ofInt (((0 : Nat) : Int))))]) (fun q hq => ?_) ?_
  · simp only [List.mem_cons, List.not_mem_nil, or_false] at hq
    rcases hq with rfl | rfl | rfl | rfl | rfl <;> simp [stL, lv_args, Value.category]
  exact tmm_5 hT hW hB hf hh (allV (G 3) + 1).toNat 0 (-1) (by omega) ⟨by omega, by omega⟩ ⟨rfl, rfl⟩
theorem tdX_ct {G : Nat → Int} (hG : GOK ad tys GG ws) (hX : HX 4 G ws) (hB : HB G) (hS : STO G ws) {f h : Int} (fI : I32 f) (hI : I32 h) : CT l D tys A 47 5 0 0 [.ref (ad 0), .int (Int32.ofInt (f)), .int (Int32.ofInt (h))] ws (fun r w => w = ws ∧ r = some (.int (if (0 ≤ f ∧ f < G 3) ∧ 0 ≤ h ∧ h < G 2 then Int32.ofInt (slS (tmP G (h.toNat + 1) f.toNat) (allV (G 3) + 1).toNat 0 (-1)) else Int32.ofInt (-2)))) := by
  refine CT_of_V (by omega) (show (3 : Nat) ≤ mML 47 by decide +kernel) ?_
  have b3 := hB.b3
  have b2 := hB.b2
  have al := all6 b3
  refine V_aload (v := ad 0) mi_47_0 (by simp [stL, lv_args, Value.category]) ?_
  refine V_gR mi_47_1 g0r2 (by omega) hG ?_
  refine V_iload (v := Int32.ofInt (f)) mi_47_4 (by simp [stL, lv_args, Value.category]) ?_
  refine V_cO (As := [.int (Int32.ofInt (f))]) (st := []) mi_47_5 (by omega) (by decide +kernel) (by decide +kernel) (by omega) g4o hG (hfk_ct hG hX hB fI) (by omega) (show 1 = mN 102 by decide +kernel) (by simp [Value.category]) ?_
  rintro r w1 ⟨rfl, rfl⟩
  refine V_beq mi_47_8  (fun c1 => ?_) (fun c1 => ?_)
  · refine V_ipush mi_47_22 ?_
    exact V_retI mi_47_24 (fun h => absurd h (by decide +kernel)) ⟨rfl, by rw [if_neg (fun k => of_decide_eq_false c1 k.1)]⟩
  · refine V_aload (v := ad 0) mi_47_11 (by simp [stL, lv_args, Value.category]) ?_
    refine V_gR mi_47_12 g0r2 (by omega) hG ?_
    refine V_iload (v := Int32.ofInt (h)) mi_47_15 (by simp [stL, lv_args, Value.category]) ?_
    refine V_cO (As := [.int (Int32.ofInt (h))]) (st := []) mi_47_16 (by omega) (by decide +kernel) (by decide +kernel) (by omega) g4o hG (hho_ct hG hX hB hI) (by omega) (show 1 = mN 103 by decide +kernel) (by simp [Value.category]) ?_
    rintro r w2 ⟨rfl, rfl⟩
    refine V_bne mi_47_19  (fun c2 => ?_) (fun c2 => ?_)
    · have k1 := of_decide_eq_true c1
      have k2 := of_decide_eq_true c2
      obtain ⟨m, rfl⟩ := Int.eq_ofNat_of_zero_le k1.1
      obtain ⟨k, rfl⟩ := Int.eq_ofNat_of_zero_le k2.1
      refine V_aload (v := ad 0) mi_47_25 (by simp [stL, lv_args, Value.category]) ?_
      refine V_gR mi_47_26 g0r5 (by omega) hG ?_
      refine V_aload (v := ad 0) mi_47_29 (by simp [stL, lv_args, Value.category]) ?_
      refine V_gR mi_47_30 g0r2 (by omega) hG ?_
      refine V_iload (v := Int32.ofInt ((m : Int))) mi_47_33 (by simp [stL, lv_args, Value.category]) ?_
      refine V_iload (v := Int32.ofInt ((k : Int))) mi_47_34 (by simp [stL, lv_args, Value.category]) ?_
      refine V_ipush mi_47_35 ?_
      refine V_ibin mi_47_36 (by omega) ?_
      rw [ib0]
      rw [show (k : Int) + (1) = ((k + 1 : Nat) : Int) by omega]
      refine V_cO (As := [.ref (ad 4), .int (Int32.ofInt ((m : Int))), .int (Int32.ofInt (((k + 1 : Nat) : Int)))]) (st := []) mi_47_37 (by omega) (by decide +kernel) (by decide +kernel) (by omega) g32o hG (fwt_ct (f := m) (g := k + 1) hG hX hB hS (by omega) (by omega)) (by omega) (show 3 = mN 183 by decide +kernel) (by simp [Value.category]) ?_
      rintro r w3 ⟨rfl, rfl⟩
      exact V_retI mi_47_40 (fun h => absurd h (by decide +kernel)) ⟨rfl, by rw [if_pos ⟨k1, k2⟩, Int.toNat_natCast, Int.toNat_natCast]⟩
    · refine V_ipush mi_47_22 ?_
      exact V_retI mi_47_24 (fun h => absurd h (by decide +kernel)) ⟨rfl, by rw [if_neg (fun k => of_decide_eq_false c2 k.2)]⟩
theorem tdM_ct {G : Nat → Int} (hG : GOK ad tys GG ws) (hW : W91 G ws) (hB : HB G) (wf : WF G) (h24 : rd ws 90 24 = some (.int (Int32.ofInt 0))) (h22 : rd ws 90 22 = some (.int (Int32.ofInt (-1)))) {f h : Int} (fI : I32 f) (hI : I32 h) : CT l D tys A 299 9 0 0 [.ref (ad 90), .int (Int32.ofInt (f)), .int (Int32.ofInt (h))] ws (fun r w => (GOK ad tys GG w ∧ MTO ws w) ∧ r = some (.int (if (0 ≤ f ∧ f < G 3) ∧ 0 ≤ h ∧ h < G 2 then Int32.ofInt (slS (tmP G (h.toNat + 1) f.toNat) (allV (G 3) + 1).toNat 0 (-1)) else Int32.ofInt (-2)))) := by
  refine CT_of_V (by omega) (show (3 : Nat) ≤ mML 299 by decide +kernel) ?_
  have b3 := hB.b3
  have b2 := hB.b2
  have al := all6 b3
  refine V_aload (v := ad 90) mi_299_0 (by simp [stL, lv_args, Value.category]) ?_
  refine V_iload (v := Int32.ofInt (f)) mi_299_1 (by simp [stL, lv_args, Value.category]) ?_
  refine V_callM (As := [.int (Int32.ofInt (f))]) (st := []) mi_299_2 (by omega) (by decide +kernel) (by decide +kernel) hG (mfk_ct hG hW hB fI) (by omega) (show 1 = mN 199 by decide +kernel) (by simp [Value.category]) ?_
  rintro r w1 ⟨rfl, rfl⟩
  refine V_beq mi_299_5  (fun c1 => ?_) (fun c1 => ?_)
  · refine V_ipush mi_299_16 ?_
    exact V_retI mi_299_18 (fun h => absurd h (by decide +kernel)) ⟨⟨hG, fun _ _ _ _ => rfl⟩, by rw [if_neg (fun k => of_decide_eq_false c1 k.1)]⟩
  · refine V_aload (v := ad 90) mi_299_8 (by simp [stL, lv_args, Value.category]) ?_
    refine V_iload (v := Int32.ofInt (h)) mi_299_9 (by simp [stL, lv_args, Value.category]) ?_
    refine V_callM (As := [.int (Int32.ofInt (h))]) (st := []) mi_299_10 (by omega) (by decide +kernel) (by decide +kernel) hG (mho_ct hG hW hB hI) (by omega) (show 1 = mN 201 by decide +kernel) (by simp [Value.category]) ?_
    rintro r w2 ⟨rfl, rfl⟩
    refine V_bne mi_299_13  (fun c2 => ?_) (fun c2 => ?_)
    · have k1 := of_decide_eq_true c1
      have k2 := of_decide_eq_true c2
      obtain ⟨m, rfl⟩ := Int.eq_ofNat_of_zero_le k1.1
      obtain ⟨k, rfl⟩ := Int.eq_ofNat_of_zero_le k2.1
      refine V_aload (v := ad 90) mi_299_19 (by simp [stL, lv_args, Value.category]) ?_
      refine V_callM (As := []) (st := []) mi_299_20 (by omega) (by decide +kernel) (by decide +kernel) hG (gt_ct hB wf hG hW h24 h22) (by omega) (show 0 = mN 238 by decide +kernel) (by simp [Value.category]) ?_
      rintro r w4 ⟨rfl, T⟩
      refine V_aload (v := ad 90) mi_299_23 (by simp [stL, lv_args, Value.category]) ?_
      refine V_iload (v := Int32.ofInt ((m : Int))) mi_299_24 (by simp [stL, lv_args, Value.category]) ?_
      refine V_iload (v := Int32.ofInt ((k : Int))) mi_299_25 (by simp [stL, lv_args, Value.category]) ?_
      refine V_callM (As := [.int (Int32.ofInt ((m : Int))), .int (Int32.ofInt ((k : Int)))]) (st := []) mi_299_26 (by omega) (by decide +kernel) (by decide +kernel) T.1 (tmq_ct (f := m) (h := k) T (mt_w T hW) hB (by omega) (by omega)) (by omega) (show 2 = mN 297 by decide +kernel) (by simp [Value.category]) ?_
      rintro r w5 ⟨rfl, rfl⟩
      exact V_retI mi_299_29 (fun h => absurd h (by decide +kernel)) ⟨⟨T.1, T.2.2.2⟩, by rw [if_pos ⟨k1, k2⟩, Int.toNat_natCast, Int.toNat_natCast]⟩
    · refine V_ipush mi_299_16 ?_
      exact V_retI mi_299_18 (fun h => absurd h (by decide +kernel)) ⟨⟨hG, fun _ _ _ _ => rfl⟩, by rw [if_neg (fun k => of_decide_eq_false c2 k.2)]⟩
theorem pairT_teamed (hAD : ∀ i : Nat, ad (1000 + i) = D.2 1000 i) (hG : GOK ad tys GG ws) (hR : RELW ws) (a1 a2 : Int32) : PAIRT l D tys A ad 47 299 [.ref (ad 0), .int a1, .int a2] [.ref (ad 90), .int a1, .int a2] ws := by
  obtain ⟨G0, o0, x0, y0⟩ := hR.1.2.1
  obtain ⟨G, o, x, y, hb, wf, hS⟩ := aux_sto hR.2 x0 y0 o0 (hb_of hG y0 o0)
  have c1 := tdX_ct (l := l) (D := D) (A := A) hG x hb hS (i32b a1) (i32b a2)
  have c2 := tdM_ct (l := l) (D := D) (A := A) hG y hb wf hR.2.2.2.2.2 hR.2.2.2.2.1 (i32b a1) (i32b a2)
  simp only [oi] at c1 c2
  exact pairT_st hG hR (by omega) (by omega) c1 c2
end XTB
end
