section XSO
variable {l : Launch} {D : va_G} {tys : List (ClassId × FieldType)} {A : Nat → Prop} {ad : Nat → Nat} {ws : va_W}
/-- when p knows the name of f first -/
def fwA (G : Nat → Int) (p f : Nat) : Int := fwI G p f ((G 2).toNat + 1) 0
theorem fwA_bd {G : Nat → Int} (hB : HB G) {p f : Nat} : fwA G p f = -1 ∨ fwA G p f = 0 ∨ (1 ≤ fwA G p f ∧ fwA G p f ≤ 24) := by
  have b2 := hB.b2
  rcases fwI_bd (G := G) (f := p) (o := f) ((G 2).toNat + 1) 0 with e | e
  · exact Or.inl e
  · have e1 : (0 : Int) ≤ fwA G p f := e.1
    have e2 : fwA G p f < ((0 : Nat) : Int) + (((G 2).toNat + 1 : Nat) : Int) := e.2
    omega
/-- the foe that knows it first -/
def ffS (G : Nat → Int) (f : Nat) : Nat → Nat → Int → Int → Int
  | 0, _, a, _ => a
  | m + 1, p, a, s => if tb (G (60 + f)) (p : Int) = true ∧ 0 ≤ fwA G p f ∧ fwA G p f < s then ffS G f m (p + 1) (p : Int) (fwA G p f) else ffS G f m (p + 1) a s
theorem ffS_y {G : Nat → Int} {f m p : Nat} {a s : Int} (h : tb (G (60 + f)) (p : Int) = true ∧ 0 ≤ fwA G p f ∧ fwA G p f < s) : ffS G f (m + 1) p a s = ffS G f m (p + 1) (p : Int) (fwA G p f) := if_pos h
theorem ffS_n {G : Nat → Int} {f m p : Nat} {a s : Int} (h : ¬ (tb (G (60 + f)) (p : Int) = true ∧ 0 ≤ fwA G p f ∧ fwA G p f < s)) : ffS G f (m + 1) p a s = ffS G f m (p + 1) a s := if_neg h
theorem ffS_bd {G : Nat → Int} {f : Nat} : ∀ (m p : Nat) (a s : Int), p + m ≤ 6 → -1 ≤ a ∧ a ≤ 5 → -1 ≤ ffS G f m p a s ∧ ffS G f m p a s ≤ 5
  | 0, p, a, s, _, h => h
  | m + 1, p, a, s, hm, h => by
    unfold ffS
    split
    · exact ffS_bd m (p + 1) _ _ (by omega) ⟨by omega, by omega⟩
    · exact ffS_bd m (p + 1) _ _ (by omega) h
theorem ffS_lt {G : Nat → Int} {f : Nat} : ∀ (m p : Nat) (a s : Int), (a = -1 ∨ a < ((p + m : Nat) : Int)) → (ffS G f m p a s = -1 ∨ ffS G f m p a s < ((p + m : Nat) : Int))
  | 0, p, a, s, h => h
  | m + 1, p, a, s, h => by
    unfold ffS
    split
    · rcases ffS_lt (G := G) (f := f) m (p + 1) (p : Int) (fwA G p f) (Or.inr (by omega)) with e | e
      · exact Or.inl e
      · exact Or.inr (by omega)
    · rcases ffS_lt (G := G) (f := f) m (p + 1) a s (by omega) with e | e
      · exact Or.inl e
      · exact Or.inr (by omega)
/-- the reference's soonest -/
def smI (s : Int) : Int := if s = 25 then 1000000 else s - 1
theorem ff_9 {G : Nat → Int} (hG : GOK ad tys GG ws) (hX : HX 4 G ws) (hB : HB G) (hS : STO G ws) {f : Nat} {post : Option Value → va_W → Prop} (hf : f < 6) : ∀ (m p : Nat) (a s : Int), ((p + m : Nat) : Int) = G 3 → (-1 ≤ a ∧ a ≤ 5) → (0 ≤ s ∧ s ≤ 25) → post (some (.int (Int32.ofInt (ffS G f m p a s)))) ws → V l D tys A 180 4 0 0 post 0 0 9 [(0, .ref (ad 32)), (1, .ref (ad 4)), (2, .int (Int32.ofInt ((f : Int)))), (3, .int (Int32.ofInt (a))), (4, .int (Int32.ofInt (s))), (5, .int (Int32.ofInt ((p : Int))))] [] ws
  | 0, p, a, s, hm, ha, hs, kk => by
    have b3 := hB.b3
    have b2 := hB.b2
    refine V_iload (v := Int32.ofInt ((p : Int))) mi_180_9 (by simp [stL, lv_args, Value.category]) ?_
    refine V_aload (v := ad 4) mi_180_11 (by simp [stL, lv_args, Value.category]) ?_
    refine V_gO mi_180_12 g4o hG (show rd _ 4 4 = some (.int (Int32.ofInt (G 3))) from hx0 hX (i := 4) (by omega)) ?_
    refine V_cge mi_180_15 ⟨by omega, by omega⟩ ⟨by omega, by omega⟩ (fun q => ?_) (fun q => ?_)
    · refine V_iload (v := Int32.ofInt (a)) mi_180_69 (by simp [stL, lv_args, Value.category]) ?_
      exact V_retI mi_180_70 (fun h => absurd h (by decide +kernel)) kk
    · exact absurd q (by omega)
  | m + 1, p, a, s, hm, ha, hs, kk => by
    have b3 := hB.b3
    have b2 := hB.b2
    refine V_iload (v := Int32.ofInt ((p : Int))) mi_180_9 (by simp [stL, lv_args, Value.category]) ?_
    refine V_aload (v := ad 4) mi_180_11 (by simp [stL, lv_args, Value.category]) ?_
    refine V_gO mi_180_12 g4o hG (show rd _ 4 4 = some (.int (Int32.ofInt (G 3))) from hx0 hX (i := 4) (by omega)) ?_
    refine V_cge mi_180_15 ⟨by omega, by omega⟩ ⟨by omega, by omega⟩ (fun q => ?_) (fun q => ?_)
    · exact absurd q (by omega)
    · have bf := hB.bf f hf
      obtain ⟨t1, -, -⟩ := tb_k (a := G (60 + f)) (i := (p : Int)) bf.1 bf.2 (by omega) (by omega)
      have fb := fwA_bd hB (p := p) (f := f)
      refine V_aload (v := ad 4) mi_180_18 (by simp [stL, lv_args, Value.category]) ?_
      refine V_gR mi_180_19 g4r10 (by omega) hG ?_
      refine V_iload (v := Int32.ofInt ((f : Int))) mi_180_22 (by simp [stL, lv_args, Value.category]) ?_
      refine V_stat (As := [.ref (ad 9), .int (Int32.ofInt ((f : Int)))]) (st := []) mi_180_23 (by omega) (atk_ct (j := f) a9 hG (by omega) hf (HX_HY hX 5 (by omega) f hf)) (by omega) (show 2 = mN 147 by decide +kernel) (by simp [Value.category]) ⟨Nat.le_refl _, Nat.le_refl _⟩ ?_
      rintro r w1 ⟨e1, rfl⟩
      rw [e1, show hxJ 5 f = 60 + f from rfl]
      refine V_iload (v := Int32.ofInt ((p : Int))) mi_180_26 (by simp [stL, lv_args, Value.category]) ?_
      refine V_ibin mi_180_28 (by omega) ?_
      refine V_ipush mi_180_29 ?_
      refine V_ibin mi_180_30 (by omega) ?_
      rw [t1]
      refine V_beq mi_180_31  (fun q2 => ?_) (fun q2 => ?_)
      · refine V_iinc (v := Int32.ofInt ((p : Int))) mi_180_63 (by simp [stL, lv_args, Value.category]) ?_
        rw [ia2]
        refine V_goto mi_180_66 ?_
        refine V_sub (lv' := [(0, .ref (ad 32)), (1, .ref (ad 4)), (2, .int (Int32.ofInt ((f : Int)))), (3, .int (Int32.ofInt (a))), (4, .int (Int32.ofInt (s))), (5, .int (Int32.ofInt (((p + 1 : Nat) : Int))))]) (fun q hq => ?_) ?_
        · simp only [List.mem_cons, List.not_mem_nil, or_false] at hq
          rcases hq with rfl | rfl | rfl | rfl | rfl | rfl <;> simp [stL, lv_args, Value.category]
        rw [ffS_n (fun k => by rw [q2] at k; exact Bool.false_ne_true k.1)] at kk
        exact ff_9 hG hX hB hS hf m (p + 1) (a) (s) (by omega) ha hs kk
      · refine V_aload (v := ad 32) mi_180_34 (by simp [stL, lv_args, Value.category]) ?_
        refine V_aload (v := ad 4) mi_180_35 (by simp [stL, lv_args, Value.category]) ?_
        refine V_iload (v := Int32.ofInt ((p : Int))) mi_180_36 (by simp [stL, lv_args, Value.category]) ?_
        refine V_iload (v := Int32.ofInt ((f : Int))) mi_180_38 (by simp [stL, lv_args, Value.category]) ?_
        refine V_cO (As := [.ref (ad 4), .int (Int32.ofInt ((p : Int))), .int (Int32.ofInt ((f : Int)))]) (st := []) mi_180_39 (by omega) (by decide +kernel) (by decide +kernel) (by omega) g32o hG (fwh_ct (f := p) (o := f) hG hX hB hS (by omega) hf) (by omega) (show 3 = mN 178 by decide +kernel) (by simp [Value.category]) ?_
        rintro r w2 ⟨e2, rfl⟩
        rw [e2, show fwI G p f ((G 2).toNat + 1) 0 = fwA G p f from rfl]
        refine V_istore mi_180_42 ?_
        refine V_iload (v := Int32.ofInt (fwA G p f)) mi_180_44 (by simp [stL, lv_args, Value.category]) ?_
        refine V_zlt mi_180_46 ⟨by omega, by omega⟩ (fun q3 => ?_) (fun q3 => ?_)
        · refine V_iinc (v := Int32.ofInt ((p : Int))) mi_180_63 (by simp [stL, lv_args, Value.category]) ?_
          rw [ia2]
          refine V_goto mi_180_66 ?_
          refine V_sub (lv' := [(0, .ref (ad 32)), (1, .ref (ad 4)), (2, .int (Int32.ofInt ((f : Int)))), (3, .int (Int32.ofInt (a))), (4, .int (Int32.ofInt (s))), (5, .int (Int32.ofInt (((p + 1 : Nat) : Int))))]) (fun q hq => ?_) ?_
          · simp only [List.mem_cons, List.not_mem_nil, or_false] at hq
            rcases hq with rfl | rfl | rfl | rfl | rfl | rfl <;> simp [stL, lv_args, Value.category]
          rw [ffS_n (fun k => by omega)] at kk
          exact ff_9 hG hX hB hS hf m (p + 1) (a) (s) (by omega) ha hs kk
        · refine V_iload (v := Int32.ofInt (fwA G p f)) mi_180_49 (by simp [stL, lv_args, Value.category]) ?_
          refine V_iload (v := Int32.ofInt (s)) mi_180_51 (by simp [stL, lv_args, Value.category]) ?_
          refine V_cge mi_180_53 ⟨by omega, by omega⟩ ⟨by omega, by omega⟩ (fun q4 => ?_) (fun q4 => ?_)
          · refine V_iinc (v := Int32.ofInt ((p : Int))) mi_180_63 (by simp [stL, lv_args, Value.category]) ?_
            rw [ia2]
            refine V_goto mi_180_66 ?_
            refine V_sub (lv' := [(0, .ref (ad 32)), (1, .ref (ad 4)), (2, .int (Int32.ofInt ((f : Int)))), (3, .int (Int32.ofInt (a))), (4, .int (Int32.ofInt (s))), (5, .int (Int32.ofInt (((p + 1 : Nat) : Int))))]) (fun q hq => ?_) ?_
            · simp only [List.mem_cons, List.not_mem_nil, or_false] at hq
              rcases hq with rfl | rfl | rfl | rfl | rfl | rfl <;> simp [stL, lv_args, Value.category]
            rw [ffS_n (fun k => by omega)] at kk
            exact ff_9 hG hX hB hS hf m (p + 1) (a) (s) (by omega) ha hs kk
          · refine V_iload (v := Int32.ofInt (fwA G p f)) mi_180_56 (by simp [stL, lv_args, Value.category]) ?_
            refine V_istore mi_180_58 ?_
            refine V_iload (v := Int32.ofInt ((p : Int))) mi_180_60 (by simp [stL, lv_args, Value.category]) ?_
            refine V_istore mi_180_62 ?_
            refine V_iinc (v := Int32.ofInt ((p : Int))) mi_180_63 (by simp [stL, lv_args, Value.category]) ?_
            rw [ia2]
            refine V_goto mi_180_66 ?_
            refine V_sub (lv' := [(0, .ref (ad 32)), (1, .ref (ad 4)), (2, .int (Int32.ofInt ((f : Int)))), (3, .int (Int32.ofInt ((p : Int)))), (4, .int (Int32.ofInt (fwA G p f))), (5, .int (Int32.ofInt (((p + 1 : Nat) : Int))))]) (fun q hq => ?_) ?_
            · simp only [List.mem_cons, List.not_mem_nil, or_false] at hq
              rcases hq with rfl | rfl | rfl | rfl | rfl | rfl <;> simp [stL, lv_args, Value.category]
            rw [ffS_y ⟨q2, q3, q4⟩] at kk
            exact ff_9 hG hX hB hS hf m (p + 1) ((p : Int)) (fwA G p f) (by omega) ⟨by omega, by omega⟩ ⟨by omega, by omega⟩ kk
theorem ffX_ct {G : Nat → Int} (hG : GOK ad tys GG ws) (hX : HX 4 G ws) (hB : HB G) (hS : STO G ws) {f : Nat} (hf : f < 6) : CT l D tys A 180 4 0 0 [.ref (ad 32), .ref (ad 4), .int (Int32.ofInt ((f : Int)))] ws (fun r w => w = ws ∧ r = some (.int (Int32.ofInt (ffS G f (G 3).toNat 0 (-1) 25)))) := by
  refine CT_of_V (by omega) (show (3 : Nat) ≤ mML 180 by decide +kernel) ?_
  have b3 := hB.b3
  refine V_ipush mi_180_0 ?_
  refine V_istore mi_180_1 ?_
  refine V_ipush mi_180_2 ?_
  refine V_istore mi_180_4 ?_
  refine V_ipush mi_180_6 ?_
  refine V_istore mi_180_7 ?_
  refine V_sub (lv' := [(0, .ref (ad 32)), (1, .ref (ad 4)), (2, .int (Int32.ofInt ((f : Int)))), (3, .int (Int32.ofInt (-1))), (4, .int (Int32.ofInt (25))), (5, .int (Int32.ofInt (((0 : Nat) : Int))))]) (fun q hq => ?_) ?_
  · simp only [List.mem_cons, List.not_mem_nil, or_false] at hq
    rcases hq with rfl | rfl | rfl | rfl | rfl | rfl <;> simp [stL, lv_args, Value.category]
  exact ff_9 hG hX hB hS hf (G 3).toNat 0 (-1) 25 (by omega) ⟨by omega, by omega⟩ ⟨by omega, by omega⟩ ⟨rfl, rfl⟩
theorem fm_9 {G : Nat → Int} {w0 : va_W} (hT : MT ad tys G w0 ws) (hW : W91 G ws) (hB : HB G) {f : Nat} {post : Option Value → va_W → Prop} (hf : f < 6) : ∀ (m p : Nat) (a s : Int), ((p + m : Nat) : Int) = G 3 → (-1 ≤ a ∧ a ≤ 5) → (0 ≤ s ∧ s ≤ 25) → post (some (.int (Int32.ofInt (ffS G f m p a s)))) ws → V l D tys A 257 4 0 0 post 0 0 9 [(0, .ref (ad 90)), (1, .int (Int32.ofInt ((f : Int)))), (2, .int (Int32.ofInt (a))), (3, .int (Int32.ofInt (smI s))), (4, .int (Int32.ofInt ((p : Int))))] [] ws
  | 0, p, a, s, hm, ha, hs, kk => by
    obtain ⟨s91, e91, -⟩ := g91s
    have b3 := hB.b3
    have b2 := hB.b2
    have es : smI s = 1000000 ∧ s = 25 ∨ smI s = s - 1 ∧ s < 25 := by
      unfold smI
      split <;> omega
    refine V_iload (v := Int32.ofInt ((p : Int))) mi_257_9 (by simp [stL, lv_args, Value.category]) ?_
    refine V_aload (v := ad 90) mi_257_11 (by simp [stL, lv_args, Value.category]) ?_
    refine V_getI mi_257_12 hT.1 (rref gr1m (by omega) hT.1) ?_
    refine V_ipush mi_257_15 ?_
    refine V_aldX (j := 3) mi_257_16 rfl hT.1 e91 (by omega) (by omega) (hW _ (by omega)) ?_
    refine V_cge mi_257_17 ⟨by omega, by omega⟩ ⟨by omega, by omega⟩ (fun q => ?_) (fun q => ?_)
    · refine V_iload (v := Int32.ofInt (a)) mi_257_97 (by simp [stL, lv_args, Value.category]) ?_
      exact V_retI mi_257_98 (fun h => absurd h (by decide +kernel)) kk
    · exact absurd q (by omega)
  | m + 1, p, a, s, hm, ha, hs, kk => by
    obtain ⟨s91, e91, -⟩ := g91s
    have b3 := hB.b3
    have b2 := hB.b2
    have es : smI s = 1000000 ∧ s = 25 ∨ smI s = s - 1 ∧ s < 25 := by
      unfold smI
      split <;> omega
    refine V_iload (v := Int32.ofInt ((p : Int))) mi_257_9 (by simp [stL, lv_args, Value.category]) ?_
    refine V_aload (v := ad 90) mi_257_11 (by simp [stL, lv_args, Value.category]) ?_
    refine V_getI mi_257_12 hT.1 (rref gr1m (by omega) hT.1) ?_
    refine V_ipush mi_257_15 ?_
    refine V_aldX (j := 3) mi_257_16 rfl hT.1 e91 (by omega) (by omega) (hW _ (by omega)) ?_
    refine V_cge mi_257_17 ⟨by omega, by omega⟩ ⟨by omega, by omega⟩ (fun q => ?_) (fun q => ?_)
    · exact absurd q (by omega)
    · have bf := hB.bf f hf
      obtain ⟨t1, -, -⟩ := tb_k (a := G (60 + f)) (i := (p : Int)) bf.1 bf.2 (by omega) (by omega)
      have fb := fwA_bd hB (p := p) (f := f)
      refine V_aload (v := ad 90) mi_257_20 (by simp [stL, lv_args, Value.category]) ?_
      refine V_getI mi_257_21 hT.1 (rref gr1m (by omega) hT.1) ?_
      refine V_ipush mi_257_24 ?_
      refine V_iload (v := Int32.ofInt ((f : Int))) mi_257_26 (by simp [stL, lv_args, Value.category]) ?_
      refine V_ibin mi_257_27 (by omega) ?_
      rw [ib0]
      refine V_aldX (j := 60 + f) mi_257_28 (by rw [show (60) + ((f : Int)) = ((60 + f : Nat) : Int) by omega]) hT.1 e91 (by omega) (by omega) (hW _ (by omega)) ?_
      refine V_iload (v := Int32.ofInt ((p : Int))) mi_257_29 (by simp [stL, lv_args, Value.category]) ?_
      refine V_stat (As := [.int (Int32.ofInt (G (60 + f))), .int (Int32.ofInt ((p : Int)))]) (st := []) mi_257_31 (by omega) (bit_ct _ _ _) (by omega) (show 2 = mN 195 by decide +kernel) (by simp [Value.category]) ⟨Nat.le_refl _, Nat.le_refl _⟩ ?_
      rintro r w1 ⟨e1, rfl⟩
      rw [e1, t1]
      change V l D tys A 257 4 0 0 _ 0 0 _ _ (.int (bI (tb (G (60 + f)) (p : Int))) :: _) _
      refine V_bne mi_257_34  (fun q2 => ?_) (fun q2 => ?_)
      · refine V_aload (v := ad 90) mi_257_40 (by simp [stL, lv_args, Value.category]) ?_
        refine V_iload (v := Int32.ofInt ((p : Int))) mi_257_41 (by simp [stL, lv_args, Value.category]) ?_
        refine V_iload (v := Int32.ofInt ((f : Int))) mi_257_43 (by simp [stL, lv_args, Value.category]) ?_
        refine V_callM (As := [.int (Int32.ofInt ((p : Int))), .int (Int32.ofInt ((f : Int)))]) (st := []) mi_257_44 (by omega) (by decide +kernel) (by decide +kernel) hT.1 (wha_ct (f := p) (o := f) hT hW hB (by omega) hf) (by omega) (show 2 = mN 253 by decide +kernel) (by simp [Value.category]) ?_
        rintro r w2 ⟨e2, rfl⟩
        rw [e2, show fwI G p f ((G 2).toNat + 1) 0 = fwA G p f from rfl]
        rcases fb with fb | fb | fb
        · rw [show tmI (fwA G p f) = -1 by unfold tmI; rw [if_pos (by omega)]]
          refine V_istore mi_257_47 ?_
          refine V_iload (v := Int32.ofInt (-1)) mi_257_49 (by simp [stL, lv_args, Value.category]) ?_
          refine V_ipush mi_257_51 ?_
          refine V_cne mi_257_53 ⟨by omega, by omega⟩ ⟨by omega, by omega⟩ (fun q3 => ?_) (fun q3 => ?_)
          · refine V_iload (v := Int32.ofInt (-1)) mi_257_60 (by simp [stL, lv_args, Value.category]) ?_
            refine V_ipush mi_257_62 ?_
            refine V_cne mi_257_63 ⟨by omega, by omega⟩ ⟨by omega, by omega⟩ (fun q4 => ?_) (fun q4 => ?_)
            · exact absurd q4 (by omega)
            · refine V_ipush mi_257_66 ?_
              refine V_goto mi_257_69 ?_
              refine V_istore mi_257_74 ?_
              refine V_iload (v := Int32.ofInt (1000000)) mi_257_76 (by simp [stL, lv_args, Value.category]) ?_
              refine V_iload (v := Int32.ofInt (smI s)) mi_257_78 (by simp [stL, lv_args, Value.category]) ?_
              refine V_clt mi_257_79 ⟨by omega, by omega⟩ ⟨by omega, by omega⟩ (fun q5 => ?_) (fun q5 => ?_)
              · exact absurd q5 (by omega)
              · refine V_goto mi_257_82 ?_
                refine V_iinc (v := Int32.ofInt ((p : Int))) mi_257_91 (by simp [stL, lv_args, Value.category]) ?_
                rw [ia2]
                refine V_goto mi_257_94 ?_
                refine V_sub (lv' := [(0, .ref (ad 90)), (1, .int (Int32.ofInt ((f : Int)))), (2, .int (Int32.ofInt (a))), (3, .int (Int32.ofInt (smI (s)))), (4, .int (Int32.ofInt (((p + 1 : Nat) : Int))))]) (fun q hq => ?_) ?_
                · simp only [List.mem_cons, List.not_mem_nil, or_false] at hq
                  rcases hq with rfl | rfl | rfl | rfl | rfl <;> simp [stL, lv_args, Value.category]
                rw [ffS_n (fun k => by omega)] at kk
                exact fm_9 hT hW hB hf m (p + 1) (a) (s) (by omega) ha hs kk
          · exact absurd q3 (by omega)
        · rw [show tmI (fwA G p f) = -3 by unfold tmI; rw [if_neg (by omega), if_pos fb]]
          refine V_istore mi_257_47 ?_
          refine V_iload (v := Int32.ofInt (-3)) mi_257_49 (by simp [stL, lv_args, Value.category]) ?_
          refine V_ipush mi_257_51 ?_
          refine V_cne mi_257_53 ⟨by omega, by omega⟩ ⟨by omega, by omega⟩ (fun q3 => ?_) (fun q3 => ?_)
          · exact absurd q3 (by omega)
          · refine V_ipush mi_257_56 ?_
            refine V_goto mi_257_57 ?_
            refine V_istore mi_257_74 ?_
            refine V_iload (v := Int32.ofInt (-1)) mi_257_76 (by simp [stL, lv_args, Value.category]) ?_
            refine V_iload (v := Int32.ofInt (smI s)) mi_257_78 (by simp [stL, lv_args, Value.category]) ?_
            refine V_clt mi_257_79 ⟨by omega, by omega⟩ ⟨by omega, by omega⟩ (fun q5 => ?_) (fun q5 => ?_)
            · refine V_iload (v := Int32.ofInt (-1)) mi_257_85 (by simp [stL, lv_args, Value.category]) ?_
              refine V_istore mi_257_87 ?_
              refine V_iload (v := Int32.ofInt ((p : Int))) mi_257_88 (by simp [stL, lv_args, Value.category]) ?_
              refine V_istore mi_257_90 ?_
              refine V_iinc (v := Int32.ofInt ((p : Int))) mi_257_91 (by simp [stL, lv_args, Value.category]) ?_
              rw [ia2]
              refine V_goto mi_257_94 ?_
              rw [show (-1 : Int) = smI (fwA G p f) by unfold smI; rw [if_neg (by omega)]; omega]
              refine V_sub (lv' := [(0, .ref (ad 90)), (1, .int (Int32.ofInt ((f : Int)))), (2, .int (Int32.ofInt ((p : Int)))), (3, .int (Int32.ofInt (smI (fwA G p f)))), (4, .int (Int32.ofInt (((p + 1 : Nat) : Int))))]) (fun q hq => ?_) ?_
              · simp only [List.mem_cons, List.not_mem_nil, or_false] at hq
                rcases hq with rfl | rfl | rfl | rfl | rfl <;> simp [stL, lv_args, Value.category]
              rw [ffS_y ⟨q2, by omega, by omega⟩] at kk
              exact fm_9 hT hW hB hf m (p + 1) ((p : Int)) (fwA G p f) (by omega) ⟨by omega, by omega⟩ ⟨by omega, by omega⟩ kk
            · refine V_goto mi_257_82 ?_
              refine V_iinc (v := Int32.ofInt ((p : Int))) mi_257_91 (by simp [stL, lv_args, Value.category]) ?_
              rw [ia2]
              refine V_goto mi_257_94 ?_
              refine V_sub (lv' := [(0, .ref (ad 90)), (1, .int (Int32.ofInt ((f : Int)))), (2, .int (Int32.ofInt (a))), (3, .int (Int32.ofInt (smI (s)))), (4, .int (Int32.ofInt (((p + 1 : Nat) : Int))))]) (fun q hq => ?_) ?_
              · simp only [List.mem_cons, List.not_mem_nil, or_false] at hq
                rcases hq with rfl | rfl | rfl | rfl | rfl <;> simp [stL, lv_args, Value.category]
              rw [ffS_n (fun k => by omega)] at kk
              exact fm_9 hT hW hB hf m (p + 1) (a) (s) (by omega) ha hs kk
        · rw [show tmI (fwA G p f) = fwA G p f - 1 by unfold tmI; rw [if_neg (by omega), if_neg (by omega)]]
          refine V_istore mi_257_47 ?_
          refine V_iload (v := Int32.ofInt (fwA G p f - 1)) mi_257_49 (by simp [stL, lv_args, Value.category]) ?_
          refine V_ipush mi_257_51 ?_
          refine V_cne mi_257_53 ⟨by omega, by omega⟩ ⟨by omega, by omega⟩ (fun q3 => ?_) (fun q3 => ?_)
          · refine V_iload (v := Int32.ofInt (fwA G p f - 1)) mi_257_60 (by simp [stL, lv_args, Value.category]) ?_
            refine V_ipush mi_257_62 ?_
            refine V_cne mi_257_63 ⟨by omega, by omega⟩ ⟨by omega, by omega⟩ (fun q4 => ?_) (fun q4 => ?_)
            · refine V_iload (v := Int32.ofInt (fwA G p f - 1)) mi_257_72 (by simp [stL, lv_args, Value.category]) ?_
              refine V_istore mi_257_74 ?_
              refine V_iload (v := Int32.ofInt (fwA G p f - 1)) mi_257_76 (by simp [stL, lv_args, Value.category]) ?_
              refine V_iload (v := Int32.ofInt (smI s)) mi_257_78 (by simp [stL, lv_args, Value.category]) ?_
              refine V_clt mi_257_79 ⟨by omega, by omega⟩ ⟨by omega, by omega⟩ (fun q5 => ?_) (fun q5 => ?_)
              · refine V_iload (v := Int32.ofInt (fwA G p f - 1)) mi_257_85 (by simp [stL, lv_args, Value.category]) ?_
                refine V_istore mi_257_87 ?_
                refine V_iload (v := Int32.ofInt ((p : Int))) mi_257_88 (by simp [stL, lv_args, Value.category]) ?_
                refine V_istore mi_257_90 ?_
                refine V_iinc (v := Int32.ofInt ((p : Int))) mi_257_91 (by simp [stL, lv_args, Value.category]) ?_
                rw [ia2]
                refine V_goto mi_257_94 ?_
                rw [show (fwA G p f - 1 : Int) = smI (fwA G p f) by unfold smI; rw [if_neg (by omega)]]
                refine V_sub (lv' := [(0, .ref (ad 90)), (1, .int (Int32.ofInt ((f : Int)))), (2, .int (Int32.ofInt ((p : Int)))), (3, .int (Int32.ofInt (smI (fwA G p f)))), (4, .int (Int32.ofInt (((p + 1 : Nat) : Int))))]) (fun q hq => ?_) ?_
                · simp only [List.mem_cons, List.not_mem_nil, or_false] at hq
                  rcases hq with rfl | rfl | rfl | rfl | rfl <;> simp [stL, lv_args, Value.category]
                rw [ffS_y ⟨q2, by omega, by omega⟩] at kk
                exact fm_9 hT hW hB hf m (p + 1) ((p : Int)) (fwA G p f) (by omega) ⟨by omega, by omega⟩ ⟨by omega, by omega⟩ kk
              · refine V_goto mi_257_82 ?_
                refine V_iinc (v := Int32.ofInt ((p : Int))) mi_257_91 (by simp [stL, lv_args, Value.category]) ?_
                rw [ia2]
                refine V_goto mi_257_94 ?_
                refine V_sub (lv' := [(0, .ref (ad 90)), (1, .int (Int32.ofInt ((f : Int)))), (2, .int (Int32.ofInt (a))), (3, .int (Int32.ofInt (smI (s)))), (4, .int (Int32.ofInt (((p + 1 : Nat) : Int))))]) (fun q hq => ?_) ?_
                · simp only [List.mem_cons, List.not_mem_nil, or_false] at hq
                  rcases hq with rfl | rfl | rfl | rfl | rfl <;> simp [stL, lv_args, Value.category]
                rw [ffS_n (fun k => by omega)] at kk
                exact fm_9 hT hW hB hf m (p + 1) (a) (s) (by omega) ha hs kk
            · exact absurd q4 (by omega)
          · exact absurd q3 (by omega)
      · refine V_goto mi_257_37 ?_
        refine V_iinc (v := Int32.ofInt ((p : Int))) mi_257_91 (by simp [stL, lv_args, Value.category]) ?_
        rw [ia2]
        refine V_goto mi_257_94 ?_
        refine V_sub (lv' := [(0, .ref (ad 90)), (1, .int (Int32.ofInt ((f : Int)))), (2, .int (Int32.ofInt (a))), (3, .int (Int32.ofInt (smI (s)))), (4, .int (Int32.ofInt (((p + 1 : Nat) : Int))))]) (fun q hq => ?_) ?_
        · simp only [List.mem_cons, List.not_mem_nil, or_false] at hq
          rcases hq with rfl | rfl | rfl | rfl | rfl <;> simp [stL, lv_args, Value.category]
        rw [ffS_n (fun k => by rw [q2] at k; exact Bool.false_ne_true k.1)] at kk
        exact fm_9 hT hW hB hf m (p + 1) (a) (s) (by omega) ha hs kk
theorem ffM_ct {G : Nat → Int} {w0 : va_W} (hT : MT ad tys G w0 ws) (hW : W91 G ws) (hB : HB G) {f : Nat} (hf : f < 6) : CT l D tys A 257 4 0 0 [.ref (ad 90), .int (Int32.ofInt ((f : Int)))] ws (fun r w => w = ws ∧ r = some (.int (Int32.ofInt (ffS G f (G 3).toNat 0 (-1) 25)))) := by
  refine CT_of_V (by omega) (show (2 : Nat) ≤ mML 257 by decide +kernel) ?_
  have b3 := hB.b3
  refine V_ipush mi_257_0 ?_
  refine V_istore mi_257_1 ?_
  refine V_ipush mi_257_2 ?_
  refine V_istore mi_257_5 ?_
  refine V_ipush mi_257_6 ?_
  refine V_istore mi_257_7 ?_
  refine V_sub (lv' := [(0, .ref (ad 90)), (1, .int (Int32.ofInt ((f : Int)))), (2, .int (Int32.ofInt (-1))), (3, .int (Int32.ofInt (1000000))), (4, .int (Int32.ofInt (((0 : Nat) : Int))))]) (fun q hq => ?_) ?_
  · simp only [List.mem_cons, List.not_mem_nil, or_false] at hq
    rcases hq with rfl | rfl | rfl | rfl | rfl <;> simp [stL, lv_args, Value.category]
  exact fm_9 hT hW hB hf (G 3).toNat 0 (-1) 25 (by omega) ⟨by omega, by omega⟩ ⟨by omega, by omega⟩ ⟨rfl, rfl⟩
end XSO
