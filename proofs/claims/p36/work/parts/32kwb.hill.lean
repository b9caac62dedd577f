section XSM
variable {l : Launch} {D : va_G} {tys : List (ClassId × FieldType)} {A : Nat → Prop} {ad : Nat → Nat} {ws : va_W}
theorem V_zge {k pc d y z : Nat} {a : Int} {post : Option Value → va_W → Prop} {lv : List (Nat × Value)} {st : List Value} {u : Int} (hi : mI k pc = (14, a, 3, y, z)) (b : I32 u) (kt : 0 ≤ u → V l D tys A k d 0 0 post 0 0 y lv st ws) (kf : u < 0 → V l D tys A k d 0 0 post 0 0 (pc + 3) lv st ws) : V l D tys A k d 0 0 post 0 0 pc lv (.int (Int32.ofInt u) :: st) ws := by
  have h : cdP 3 (Int32.ofInt u) 0 ↔ cdZ 3 (u - 0) := cdP_iff (b := 0) b.1 b.2 (by omega) (by omega)
  exact V_if hi (fun q => kt (by have : 0 ≤ u - 0 := h.mp q; omega)) (fun q => kf (by by_cases e : u < 0; exact e; exact absurd (h.mpr (show 0 ≤ u - 0 by omega)) q))
/-- whole, ahead of hour g -/
def whB (G : Nat → Int) (g f o : Nat) : Bool := decide ((tellT G g).K (6 * f + o) = allV (G (6 + 7 * o)))
def fwI (G : Nat → Int) (f o : Nat) : Nat → Nat → Int
  | 0, _ => -1
  | m + 1, g => if whB G g f o = true then (g : Int) else fwI G f o m (g + 1)
def tmI (x : Int) : Int := if x < 0 then -1 else if x = 0 then -3 else x - 1
theorem fwI_bd {G : Nat → Int} {f o : Nat} : ∀ m g : Nat, fwI G f o m g = -1 ∨ ((g : Int) ≤ fwI G f o m g ∧ fwI G f o m g < g + m)
  | 0, g => Or.inl rfl
  | m + 1, g => by
    unfold fwI
    split
    · exact Or.inr ⟨by omega, by omega⟩
    · rcases fwI_bd (G := G) (f := f) (o := o) m (g + 1) with e | e
      · exact Or.inl e
      · exact Or.inr ⟨by omega, by omega⟩
theorem swh_ct {G : Nat → Int} (hG : GOK ad tys GG ws) (hX : HX 4 G ws) (hB : HB G) (hS : STO G ws) {f o g : Nat} (hf : (f : Int) < G 3) (ho : o < 6) (hg : (g : Int) ≤ G 2) : CT l D tys A 177 2 0 0 [.ref (ad 32), .ref (ad 4), .int (Int32.ofInt ((f : Int))), .int (Int32.ofInt ((o : Int))), .int (Int32.ofInt ((g : Int)))] ws (fun r w => w = ws ∧ r = some (.int (bI (whB G g f o)))) := by
  refine CT_of_V (by omega) (show (5 : Nat) ≤ mML 177 by decide +kernel) ?_
  have b3 := hB.b3
  have b2 := hB.b2
  have bl := hB.bl o ho
  have ba := (allV_k bl.1 bl.2).2
  have bk := tell_ok hB g (6 * f + o) (by omega)
  refine V_aload (v := ad 32) mi_177_0 (by simp [stL, lv_args, Value.category]) ?_
  refine V_iload (v := Int32.ofInt ((f : Int))) mi_177_1 (by simp [stL, lv_args, Value.category]) ?_
  refine V_iload (v := Int32.ofInt ((o : Int))) mi_177_2 (by simp [stL, lv_args, Value.category]) ?_
  refine V_iload (v := Int32.ofInt ((g : Int))) mi_177_3 (by simp [stL, lv_args, Value.category]) ?_
  refine V_cO (As := [.int (Int32.ofInt ((f : Int))), .int (Int32.ofInt ((o : Int))), .int (Int32.ofInt ((g : Int)))]) (st := []) mi_177_5 (by omega) (by decide +kernel) (by decide +kernel) (by omega) g32o hG (stb_ct (f := f) (o := o) (g := g) hG (by omega) ho (by omega) (sto_k hB hS hf ho hg)) (by omega) (show 3 = mN 176 by decide +kernel) (by simp [Value.category]) ?_
  rintro r w1 ⟨rfl, rfl⟩
  refine V_aload (v := ad 4) mi_177_8 (by simp [stL, lv_args, Value.category]) ?_
  refine V_iload (v := Int32.ofInt ((o : Int))) mi_177_9 (by simp [stL, lv_args, Value.category]) ?_
  refine V_cO (As := [.int (Int32.ofInt ((o : Int)))]) (st := [.int (Int32.ofInt ((tellT G g).K (6 * f + o)))]) mi_177_10 (by omega) (by decide +kernel) (by decide +kernel) (by omega) g4o hG (alf_ct (f := o) hG hX hB ho) (by omega) (show 1 = mN 108 by decide +kernel) (by simp [Value.category]) ?_
  rintro r w2 ⟨rfl, rfl⟩
  refine V_cne mi_177_13 ⟨by omega, by omega⟩ ⟨by omega, by omega⟩ (fun q => ?_) (fun q => ?_)
  · refine V_ipush mi_177_20 ?_
    exact V_retI mi_177_21 (fun _ => by decide) ⟨rfl, by rw [show whB G g f o = false from decide_eq_false q]; rfl⟩
  · refine V_ipush mi_177_16 ?_
    refine V_goto mi_177_17 ?_
    exact V_retI mi_177_21 (fun _ => by decide) ⟨rfl, by rw [show whB G g f o = true from decide_eq_true q]; rfl⟩
theorem fw_3 {G : Nat → Int} (hG : GOK ad tys GG ws) (hX : HX 4 G ws) (hB : HB G) (hS : STO G ws) {f o : Nat} {post : Option Value → va_W → Prop} (hf : (f : Int) < G 3) (ho : o < 6) : ∀ (m g : Nat), ((g + m : Nat) : Int) = G 2 + 1 → post (some (.int (Int32.ofInt (fwI G f o m g)))) ws → V l D tys A 178 3 0 0 post 0 0 3 [(0, .ref (ad 32)), (1, .ref (ad 4)), (2, .int (Int32.ofInt ((f : Int)))), (3, .int (Int32.ofInt ((o : Int)))), (4, .int (Int32.ofInt ((g : Int))))] [] ws
  | 0, g, hm, kk => by
    have b2 := hB.b2
    refine V_iload (v := Int32.ofInt ((g : Int))) mi_178_3 (by simp [stL, lv_args, Value.category]) ?_
    refine V_aload (v := ad 4) mi_178_5 (by simp [stL, lv_args, Value.category]) ?_
    refine V_gO mi_178_6 g4o hG (show rd _ 4 3 = some (.int (Int32.ofInt (G 2))) from hx0 hX (i := 3) (by omega)) ?_
    refine V_cgt mi_178_9 ⟨by omega, by omega⟩ ⟨by omega, by omega⟩ (fun q => ?_) (fun q => ?_)
    · refine V_ipush mi_178_33 ?_
      exact V_retI mi_178_34 (fun h => absurd h (by decide +kernel)) kk
    · exact absurd q (by omega)
  | m + 1, g, hm, kk => by
    have b2 := hB.b2
    refine V_iload (v := Int32.ofInt ((g : Int))) mi_178_3 (by simp [stL, lv_args, Value.category]) ?_
    refine V_aload (v := ad 4) mi_178_5 (by simp [stL, lv_args, Value.category]) ?_
    refine V_gO mi_178_6 g4o hG (show rd _ 4 3 = some (.int (Int32.ofInt (G 2))) from hx0 hX (i := 3) (by omega)) ?_
    refine V_cgt mi_178_9 ⟨by omega, by omega⟩ ⟨by omega, by omega⟩ (fun q => ?_) (fun q => ?_)
    · exact absurd q (by omega)
    · refine V_aload (v := ad 32) mi_178_12 (by simp [stL, lv_args, Value.category]) ?_
      refine V_aload (v := ad 4) mi_178_13 (by simp [stL, lv_args, Value.category]) ?_
      refine V_iload (v := Int32.ofInt ((f : Int))) mi_178_14 (by simp [stL, lv_args, Value.category]) ?_
      refine V_iload (v := Int32.ofInt ((o : Int))) mi_178_15 (by simp [stL, lv_args, Value.category]) ?_
      refine V_iload (v := Int32.ofInt ((g : Int))) mi_178_16 (by simp [stL, lv_args, Value.category]) ?_
      refine V_cO (As := [.ref (ad 4), .int (Int32.ofInt ((f : Int))), .int (Int32.ofInt ((o : Int))), .int (Int32.ofInt ((g : Int)))]) (st := []) mi_178_18 (by omega) (by decide +kernel) (by decide +kernel) (by omega) g32o hG (swh_ct (f := f) (o := o) (g := g) hG hX hB hS hf ho (by omega)) (by omega) (show 4 = mN 177 by decide +kernel) (by simp [Value.category]) ?_
      rintro r w1 ⟨e1, rfl⟩
      rw [e1]
      refine V_beq mi_178_21  (fun q2 => ?_) (fun q2 => ?_)
      · refine V_iinc (v := Int32.ofInt ((g : Int))) mi_178_27 (by simp [stL, lv_args, Value.category]) ?_
        rw [ia2]
        refine V_goto mi_178_30 ?_
        refine V_sub (lv' := [(0, .ref (ad 32)), (1, .ref (ad 4)), (2, .int (Int32.ofInt ((f : Int)))), (3, .int (Int32.ofInt ((o : Int)))), (4, .int (Int32.ofInt (((g + 1 : Nat) : Int))))]) (fun q hq => ?_) ?_
        · simp only [List.mem_cons, List.not_mem_nil, or_false] at hq
          rcases hq with rfl | rfl | rfl | rfl | rfl <;> simp [stL, lv_args, Value.category]
        have es : fwI G f o (m + 1) g = fwI G f o m (g + 1) := by
          show (if whB G g f o = true then (g : Int) else fwI G f o m (g + 1)) = _
          rw [if_neg (by rw [q2]; exact Bool.false_ne_true)]
        rw [es] at kk
        exact fw_3 hG hX hB hS hf ho m (g + 1) (by omega) kk
      · have es : fwI G f o (m + 1) g = (g : Int) := if_pos q2
        rw [es] at kk
        refine V_iload (v := Int32.ofInt ((g : Int))) mi_178_24 (by simp [stL, lv_args, Value.category]) ?_
        exact V_retI mi_178_26 (fun h => absurd h (by decide +kernel)) kk
theorem fwh_ct {G : Nat → Int} (hG : GOK ad tys GG ws) (hX : HX 4 G ws) (hB : HB G) (hS : STO G ws) {f o : Nat} (hf : (f : Int) < G 3) (ho : o < 6) : CT l D tys A 178 3 0 0 [.ref (ad 32), .ref (ad 4), .int (Int32.ofInt ((f : Int))), .int (Int32.ofInt ((o : Int)))] ws (fun r w => w = ws ∧ r = some (.int (Int32.ofInt (fwI G f o ((G 2).toNat + 1) 0)))) := by
  refine CT_of_V (by omega) (show (4 : Nat) ≤ mML 178 by decide +kernel) ?_
  have b2 := hB.b2
  refine V_ipush mi_178_0 ?_
  refine V_istore mi_178_1 ?_
  refine V_sub (lv' := [(0, .ref (ad 32)), (1, .ref (ad 4)), (2, .int (Int32.ofInt ((f : Int)))), (3, .int (Int32.ofInt ((o : Int)))), (4, .int (Int32.ofInt (((0 : Nat) : Int))))]) (fun q hq => ?_) ?_
  · simp only [List.mem_cons, List.not_mem_nil, or_false] at hq
    rcases hq with rfl | rfl | rfl | rfl | rfl <;> simp [stL, lv_args, Value.category]
  exact fw_3 hG hX hB hS hf ho ((G 2).toNat + 1) 0 (by omega) ⟨rfl, rfl⟩
theorem tmo_ct {x : Int} (xI : I32 x) : CT l D tys A 75 0 0 0 [.int (Int32.ofInt (x))] ws (fun r w => w = ws ∧ r = some (.int (Int32.ofInt (tmI x)))) := by
  refine CT_of_V (by omega) (show (1 : Nat) ≤ mML 75 by decide +kernel) ?_
  refine V_iload (v := Int32.ofInt (x)) mi_75_0 (by simp [stL, lv_args, Value.category]) ?_
  refine V_zge mi_75_1 xI (fun q => ?_) (fun q => ?_)
  · refine V_iload (v := Int32.ofInt (x)) mi_75_6 (by simp [stL, lv_args, Value.category]) ?_
    refine V_zne mi_75_7 xI (fun q2 => ?_) (fun q2 => ?_)
    · refine V_iload (v := Int32.ofInt (x)) mi_75_15 (by simp [stL, lv_args, Value.category]) ?_
      refine V_ipush mi_75_16 ?_
      refine V_ibin mi_75_17 (by omega) ?_
      rw [ib1]
      exact V_retI mi_75_18 (fun h => absurd h (by decide +kernel)) ⟨rfl, by rw [show tmI x = x - 1 by unfold tmI; rw [if_neg (by omega), if_neg q2]]⟩
    · refine V_ipush mi_75_10 ?_
      refine V_goto mi_75_12 ?_
      exact V_retI mi_75_18 (fun h => absurd h (by decide +kernel)) ⟨rfl, by rw [show tmI x = -3 by unfold tmI; rw [if_neg (by omega), if_pos q2]]⟩
  · refine V_ipush mi_75_4 ?_
    exact V_retI mi_75_5 (fun h => absurd h (by decide +kernel)) ⟨rfl, by rw [show tmI x = -1 from if_pos q]⟩
theorem two_ct {G : Nat → Int} (hG : GOK ad tys GG ws) (hX : HX 4 G ws) (hB : HB G) {f o : Int} (fI : I32 f) (oI : I32 o) : CT l D tys A 74 2 0 0 [.ref (ad 0), .int (Int32.ofInt (f)), .int (Int32.ofInt (o))] ws (fun r w => w = ws ∧ r = some (.int (bI (decide ((0 ≤ f ∧ f < G 3) ∧ (0 ≤ o ∧ o < G 3) ∧ f ≠ o))))) := by
  refine CT_of_V (by omega) (show (3 : Nat) ≤ mML 74 by decide +kernel) ?_
  refine V_aload (v := ad 0) mi_74_0 (by simp [stL, lv_args, Value.category]) ?_
  refine V_gR mi_74_1 g0r2 (by omega) hG ?_
  refine V_iload (v := Int32.ofInt (f)) mi_74_4 (by simp [stL, lv_args, Value.category]) ?_
  refine V_cO (As := [.int (Int32.ofInt (f))]) (st := []) mi_74_5 (by omega) (by decide +kernel) (by decide +kernel) (by omega) g4o hG (hfk_ct hG hX hB fI) (by omega) (show 1 = mN 102 by decide +kernel) (by simp [Value.category]) ?_
  rintro r w1 ⟨rfl, rfl⟩
  refine V_beq mi_74_8  (fun c1 => ?_) (fun c1 => ?_)
  · refine V_ipush mi_74_31 ?_
    exact V_retI mi_74_32 (fun _ => by decide) ⟨rfl, by rw [show decide ((0 ≤ f ∧ f < G 3) ∧ (0 ≤ o ∧ o < G 3) ∧ f ≠ o) = false from decide_eq_false (fun k => of_decide_eq_false c1 k.1)]; rfl⟩
  · refine V_aload (v := ad 0) mi_74_11 (by simp [stL, lv_args, Value.category]) ?_
    refine V_gR mi_74_12 g0r2 (by omega) hG ?_
    refine V_iload (v := Int32.ofInt (o)) mi_74_15 (by simp [stL, lv_args, Value.category]) ?_
    refine V_cO (As := [.int (Int32.ofInt (o))]) (st := []) mi_74_16 (by omega) (by decide +kernel) (by decide +kernel) (by omega) g4o hG (hfk_ct hG hX hB oI) (by omega) (show 1 = mN 102 by decide +kernel) (by simp [Value.category]) ?_
    rintro r w2 ⟨rfl, rfl⟩
    refine V_beq mi_74_19  (fun c2 => ?_) (fun c2 => ?_)
    · refine V_ipush mi_74_31 ?_
      exact V_retI mi_74_32 (fun _ => by decide) ⟨rfl, by rw [show decide ((0 ≤ f ∧ f < G 3) ∧ (0 ≤ o ∧ o < G 3) ∧ f ≠ o) = false from decide_eq_false (fun k => of_decide_eq_false c2 k.2.1)]; rfl⟩
    · refine V_iload (v := Int32.ofInt (f)) mi_74_22 (by simp [stL, lv_args, Value.category]) ?_
      refine V_iload (v := Int32.ofInt (o)) mi_74_23 (by simp [stL, lv_args, Value.category]) ?_
      refine V_ceq mi_74_24 fI oI (fun q => ?_) (fun q => ?_)
      · refine V_ipush mi_74_31 ?_
        exact V_retI mi_74_32 (fun _ => by decide) ⟨rfl, by rw [show decide ((0 ≤ f ∧ f < G 3) ∧ (0 ≤ o ∧ o < G 3) ∧ f ≠ o) = false from decide_eq_false (fun k => k.2.2 q)]; rfl⟩
      · refine V_ipush mi_74_27 ?_
        refine V_goto mi_74_28 ?_
        exact V_retI mi_74_32 (fun _ => by decide) ⟨rfl, by rw [show decide ((0 ≤ f ∧ f < G 3) ∧ (0 ≤ o ∧ o < G 3) ∧ f ≠ o) = true from decide_eq_true ⟨of_decide_eq_true c1, of_decide_eq_true c2, q⟩]; rfl⟩
theorem whX_ct {G : Nat → Int} (hG : GOK ad tys GG ws) (hX : HX 4 G ws) (hB : HB G) (hS : STO G ws) {f o : Int} (fI : I32 f) (oI : I32 o) : CT l D tys A 15 4 0 0 [.ref (ad 0), .int (Int32.ofInt (f)), .int (Int32.ofInt (o))] ws (fun r w => w = ws ∧ r = some (.int (if (0 ≤ f ∧ f < G 3) ∧ (0 ≤ o ∧ o < G 3) ∧ f ≠ o then Int32.ofInt (tmI (fwI G f.toNat o.toNat ((G 2).toNat + 1) 0)) else Int32.ofInt (-2)))) := by
  refine CT_of_V (by omega) (show (3 : Nat) ≤ mML 15 by decide +kernel) ?_
  have b3 := hB.b3
  have b2 := hB.b2
  refine V_aload (v := ad 0) mi_15_0 (by simp [stL, lv_args, Value.category]) ?_
  refine V_iload (v := Int32.ofInt (f)) mi_15_1 (by simp [stL, lv_args, Value.category]) ?_
  refine V_iload (v := Int32.ofInt (o)) mi_15_2 (by simp [stL, lv_args, Value.category]) ?_
  refine V_cO (As := [.int (Int32.ofInt (f)), .int (Int32.ofInt (o))]) (st := []) mi_15_3 (by omega) (by decide +kernel) (by decide +kernel) (by omega) g0o hG (two_ct hG hX hB fI oI) (by omega) (show 2 = mN 74 by decide +kernel) (by simp [Value.category]) ?_
  rintro r w1 ⟨rfl, rfl⟩
  refine V_bne mi_15_6  (fun c1 => ?_) (fun c1 => ?_)
  · have k1 := of_decide_eq_true c1
    obtain ⟨m, rfl⟩ := Int.eq_ofNat_of_zero_le k1.1.1
    obtain ⟨n, rfl⟩ := Int.eq_ofNat_of_zero_le k1.2.1.1
    have bd := fwI_bd (G := G) (f := m) (o := n) ((G 2).toNat + 1) 0
    refine V_aload (v := ad 0) mi_15_12 (by simp [stL, lv_args, Value.category]) ?_
    refine V_gR mi_15_13 g0r5 (by omega) hG ?_
    refine V_aload (v := ad 0) mi_15_16 (by simp [stL, lv_args, Value.category]) ?_
    refine V_gR mi_15_17 g0r2 (by omega) hG ?_
    refine V_iload (v := Int32.ofInt ((m : Int))) mi_15_20 (by simp [stL, lv_args, Value.category]) ?_
    refine V_iload (v := Int32.ofInt ((n : Int))) mi_15_21 (by simp [stL, lv_args, Value.category]) ?_
    refine V_cO (As := [.ref (ad 4), .int (Int32.ofInt ((m : Int))), .int (Int32.ofInt ((n : Int)))]) (st := []) mi_15_22 (by omega) (by decide +kernel) (by decide +kernel) (by omega) g32o hG (fwh_ct (f := m) (o := n) hG hX hB hS (by omega) (by omega)) (by omega) (show 3 = mN 178 by decide +kernel) (by simp [Value.category]) ?_
    rintro r w2 ⟨rfl, rfl⟩
    refine V_stat (As := [.int (Int32.ofInt (fwI G m n ((G 2).toNat + 1) 0))]) (st := []) mi_15_25 (by omega) (tmo_ct (x := fwI G m n ((G 2).toNat + 1) 0) ⟨by omega, by omega⟩) (by omega) (show 1 = mN 75 by decide +kernel) (by simp [Value.category]) ⟨Nat.le_refl _, Nat.le_refl _⟩ ?_
    rintro r w3 ⟨rfl, rfl⟩
    exact V_retI mi_15_28 (fun h => absurd h (by decide +kernel)) ⟨rfl, by rw [if_pos k1, Int.toNat_natCast, Int.toNat_natCast]⟩
  · refine V_ipush mi_15_9 ?_
    exact V_retI mi_15_11 (fun h => absurd h (by decide +kernel)) ⟨rfl, by rw [if_neg (of_decide_eq_false c1)]⟩
theorem mwh_ct {G : Nat → Int} {w0 : va_W} (hT : MT ad tys G w0 ws) (hW : W91 G ws) (hB : HB G) {f o g : Nat} (hf : f < 6) (ho : o < 6) (hg : (g : Int) ≤ G 2) : CT l D tys A 241 2 0 0 [.ref (ad 90), .int (Int32.ofInt ((f : Int))), .int (Int32.ofInt ((o : Int))), .int (Int32.ofInt ((g : Int)))] ws (fun r w => w = ws ∧ r = some (.int (bI (whB G g f o)))) := by
  refine CT_of_V (by omega) (show (4 : Nat) ≤ mML 241 by decide +kernel) ?_
  have b3 := hB.b3
  have b2 := hB.b2
  have bl := hB.bl o ho
  have ba := (allV_k bl.1 bl.2).2
  have bk := tell_ok hB g (6 * f + o) (by omega)
  refine V_aload (v := ad 90) mi_241_0 (by simp [stL, lv_args, Value.category]) ?_
  refine V_iload (v := Int32.ofInt ((f : Int))) mi_241_1 (by simp [stL, lv_args, Value.category]) ?_
  refine V_iload (v := Int32.ofInt ((o : Int))) mi_241_2 (by simp [stL, lv_args, Value.category]) ?_
  refine V_iload (v := Int32.ofInt ((g : Int))) mi_241_3 (by simp [stL, lv_args, Value.category]) ?_
  refine V_callM (As := [.int (Int32.ofInt ((f : Int))), .int (Int32.ofInt ((o : Int))), .int (Int32.ofInt ((g : Int)))]) (st := []) mi_241_4 (by omega) (by decide +kernel) (by decide +kernel) hT.1 (kah_ct (f := f) (o := o) (g := g) hT.1 hf ho (by omega) (mt_k hT hf ho hg)) (by omega) (show 3 = mN 239 by decide +kernel) (by simp [Value.category]) ?_
  rintro r w1 ⟨rfl, rfl⟩
  refine V_aload (v := ad 90) mi_241_7 (by simp [stL, lv_args, Value.category]) ?_
  refine V_iload (v := Int32.ofInt ((o : Int))) mi_241_8 (by simp [stL, lv_args, Value.category]) ?_
  refine V_callM (As := [.int (Int32.ofInt ((o : Int)))]) (st := [.int (Int32.ofInt ((tellT G g).K (6 * f + o)))]) mi_241_9 (by omega) (by decide +kernel) (by decide +kernel) hT.1 (who_ct (o := o) ho hT.1 hW hB) (by omega) (show 1 = mN 206 by decide +kernel) (by simp [Value.category]) ?_
  rintro r w2 ⟨rfl, rfl⟩
  refine V_cne mi_241_12 ⟨by omega, by omega⟩ ⟨by omega, by omega⟩ (fun q => ?_) (fun q => ?_)
  · refine V_ipush mi_241_19 ?_
    exact V_retI mi_241_20 (fun _ => by decide) ⟨rfl, by rw [show whB G g f o = false from decide_eq_false q]; rfl⟩
  · refine V_ipush mi_241_15 ?_
    refine V_goto mi_241_16 ?_
    exact V_retI mi_241_20 (fun _ => by decide) ⟨rfl, by rw [show whB G g f o = true from decide_eq_true q]; rfl⟩
theorem wa_2 {G : Nat → Int} {w0 : va_W} (hT : MT ad tys G w0 ws) (hW : W91 G ws) (hB : HB G) {f o : Nat} {post : Option Value → va_W → Prop} (hf : f < 6) (ho : o < 6) : ∀ (m g : Nat), ((g + m : Nat) : Int) = G 2 + 1 → post (some (.int (Int32.ofInt (tmI (fwI G f o m g))))) ws → V l D tys A 253 3 0 0 post 0 0 2 [(0, .ref (ad 90)), (1, .int (Int32.ofInt ((f : Int)))), (2, .int (Int32.ofInt ((o : Int)))), (3, .int (Int32.ofInt ((g : Int))))] [] ws
  | 0, g, hm, kk => by
    obtain ⟨s91, e91, -⟩ := g91s
    have b2 := hB.b2
    refine V_iload (v := Int32.ofInt ((g : Int))) mi_253_2 (by simp [stL, lv_args, Value.category]) ?_
    refine V_aload (v := ad 90) mi_253_3 (by simp [stL, lv_args, Value.category]) ?_
    refine V_getI mi_253_4 hT.1 (rref gr1m (by omega) hT.1) ?_
    refine V_ipush mi_253_7 ?_
    refine V_aldX (j := 2) mi_253_8 rfl hT.1 e91 (by omega) (by omega) (hW _ (by omega)) ?_
    refine V_cgt mi_253_9 ⟨by omega, by omega⟩ ⟨by omega, by omega⟩ (fun q => ?_) (fun q => ?_)
    · refine V_ipush mi_253_41 ?_
      exact V_retI mi_253_42 (fun h => absurd h (by decide +kernel)) kk
    · exact absurd q (by omega)
  | m + 1, g, hm, kk => by
    obtain ⟨s91, e91, -⟩ := g91s
    have b2 := hB.b2
    refine V_iload (v := Int32.ofInt ((g : Int))) mi_253_2 (by simp [stL, lv_args, Value.category]) ?_
    refine V_aload (v := ad 90) mi_253_3 (by simp [stL, lv_args, Value.category]) ?_
    refine V_getI mi_253_4 hT.1 (rref gr1m (by omega) hT.1) ?_
    refine V_ipush mi_253_7 ?_
    refine V_aldX (j := 2) mi_253_8 rfl hT.1 e91 (by omega) (by omega) (hW _ (by omega)) ?_
    refine V_cgt mi_253_9 ⟨by omega, by omega⟩ ⟨by omega, by omega⟩ (fun q => ?_) (fun q => ?_)
    · exact absurd q (by omega)
    · refine V_aload (v := ad 90) mi_253_12 (by simp [stL, lv_args, Value.category]) ?_
      refine V_iload (v := Int32.ofInt ((f : Int))) mi_253_13 (by simp [stL, lv_args, Value.category]) ?_
      refine V_iload (v := Int32.ofInt ((o : Int))) mi_253_14 (by simp [stL, lv_args, Value.category]) ?_
      refine V_iload (v := Int32.ofInt ((g : Int))) mi_253_15 (by simp [stL, lv_args, Value.category]) ?_
      refine V_callM (As := [.int (Int32.ofInt ((f : Int))), .int (Int32.ofInt ((o : Int))), .int (Int32.ofInt ((g : Int)))]) (st := []) mi_253_16 (by omega) (by decide +kernel) (by decide +kernel) hT.1 (mwh_ct (f := f) (o := o) (g := g) hT hW hB hf ho (by omega)) (by omega) (show 3 = mN 241 by decide +kernel) (by simp [Value.category]) ?_
      rintro r w1 ⟨e1, rfl⟩
      rw [e1]
      refine V_beq mi_253_19  (fun q2 => ?_) (fun q2 => ?_)
      · refine V_iinc (v := Int32.ofInt ((g : Int))) mi_253_35 (by simp [stL, lv_args, Value.category]) ?_
        rw [ia2]
        refine V_goto mi_253_38 ?_
        refine V_sub (lv' := [(0, .ref (ad 90)), (1, .int (Int32.ofInt ((f : Int)))), (2, .int (Int32.ofInt ((o : Int)))), (3, .int (Int32.ofInt (((g + 1 : Nat) : Int))))]) (fun q hq => ?_) ?_
        · simp only [List.mem_cons, List.not_mem_nil, or_false] at hq
          rcases hq with rfl | rfl | rfl | rfl <;> simp [stL, lv_args, Value.category]
        have es : fwI G f o (m + 1) g = fwI G f o m (g + 1) := by
          show (if whB G g f o = true then (g : Int) else fwI G f o m (g + 1)) = _
          rw [if_neg (by rw [q2]; exact Bool.false_ne_true)]
        rw [es] at kk
        exact wa_2 hT hW hB hf ho m (g + 1) (by omega) kk
      · have es : fwI G f o (m + 1) g = (g : Int) := if_pos q2
        rw [es] at kk
        refine V_iload (v := Int32.ofInt ((g : Int))) mi_253_22 (by simp [stL, lv_args, Value.category]) ?_
        refine V_zne mi_253_23 ⟨by omega, by omega⟩ (fun q3 => ?_) (fun q3 => ?_)
        · refine V_iload (v := Int32.ofInt ((g : Int))) mi_253_31 (by simp [stL, lv_args, Value.category]) ?_
          refine V_ipush mi_253_32 ?_
          refine V_ibin mi_253_33 (by omega) ?_
          rw [ib1]
          rw [show tmI (g : Int) = (g : Int) - 1 by unfold tmI; rw [if_neg (by omega), if_neg q3]] at kk
          exact V_retI mi_253_34 (fun h => absurd h (by decide +kernel)) kk
        · refine V_ipush mi_253_26 ?_
          refine V_goto mi_253_28 ?_
          rw [show tmI (g : Int) = -3 by unfold tmI; rw [if_neg (by omega), if_pos q3]] at kk
          exact V_retI mi_253_34 (fun h => absurd h (by decide +kernel)) kk
theorem wha_ct {G : Nat → Int} {w0 : va_W} (hT : MT ad tys G w0 ws) (hW : W91 G ws) (hB : HB G) {f o : Nat} (hf : f < 6) (ho : o < 6) : CT l D tys A 253 3 0 0 [.ref (ad 90), .int (Int32.ofInt ((f : Int))), .int (Int32.ofInt ((o : Int)))] ws (fun r w => w = ws ∧ r = some (.int (Int32.ofInt (tmI (fwI G f o ((G 2).toNat + 1) 0))))) := by
  refine CT_of_V (by omega) (show (3 : Nat) ≤ mML 253 by decide +kernel) ?_
  have b2 := hB.b2
  refine V_ipush mi_253_0 ?_
  refine V_istore mi_253_1 ?_
  refine V_sub (lv' := [(0, .ref (ad 90)), (1, .int (Int32.ofInt ((f : Int)))), (2, .int (Int32.ofInt ((o : Int)))), (3, .int (Int32.ofInt (((0 : Nat) : Int))))]) (fun q hq => ?_) ?_
  · simp only [List.mem_cons, List.not_mem_nil, or_false] at hq
    rcases hq with rfl | rfl | rfl | rfl <;> simp [stL, lv_args, Value.category]
  exact wa_2 hT hW hB hf ho ((G 2).toNat + 1) 0 (by omega) ⟨rfl, rfl⟩
theorem mt_w {G : Nat → Int} {w0 w : va_W} (h : MT ad tys G w0 w) (hW : W91 G w0) : W91 G w := fun j hj => (h.2.2.2 91 j (by omega) (by omega)).trans (hW j hj)
theorem whM_ct {G : Nat → Int} (hG : GOK ad tys GG ws) (hW : W91 G ws) (hB : HB G) (wf : WF G) (h24 : rd ws 90 24 = some (.int (Int32.ofInt 0))) (h22 : rd ws 90 22 = some (.int (Int32.ofInt (-1)))) {f o : Int} (fI : I32 f) (oI : I32 o) : CT l D tys A 254 9 0 0 [.ref (ad 90), .int (Int32.ofInt (f)), .int (Int32.ofInt (o))] ws (fun r w => (GOK ad tys GG w ∧ MTO ws w) ∧ r = some (.int (if (0 ≤ f ∧ f < G 3) ∧ (0 ≤ o ∧ o < G 3) ∧ f ≠ o then Int32.ofInt (tmI (fwI G f.toNat o.toNat ((G 2).toNat + 1) 0)) else Int32.ofInt (-2)))) := by
  refine CT_of_V (by omega) (show (3 : Nat) ≤ mML 254 by decide +kernel) ?_
  have b3 := hB.b3
  have b2 := hB.b2
  refine V_aload (v := ad 90) mi_254_0 (by simp [stL, lv_args, Value.category]) ?_
  refine V_iload (v := Int32.ofInt (f)) mi_254_1 (by simp [stL, lv_args, Value.category]) ?_
  refine V_iload (v := Int32.ofInt (o)) mi_254_2 (by simp [stL, lv_args, Value.category]) ?_
  refine V_callM (As := [.int (Int32.ofInt (f)), .int (Int32.ofInt (o))]) (st := []) mi_254_3 (by omega) (by decide +kernel) (by decide +kernel) hG (m2_ct hG hW hB fI oI) (by omega) (show 2 = mN 200 by decide +kernel) (by simp [Value.category]) ?_
  rintro r w1 ⟨rfl, rfl⟩
  refine V_bne mi_254_6  (fun c1 => ?_) (fun c1 => ?_)
  · have k1 := of_decide_eq_true c1
    obtain ⟨m, rfl⟩ := Int.eq_ofNat_of_zero_le k1.1.1
    obtain ⟨n, rfl⟩ := Int.eq_ofNat_of_zero_le k1.2.1.1
    refine V_aload (v := ad 90) mi_254_12 (by simp [stL, lv_args, Value.category]) ?_
    refine V_callM (As := []) (st := []) mi_254_13 (by omega) (by decide +kernel) (by decide +kernel) hG (gt_ct hB wf hG hW h24 h22) (by omega) (show 0 = mN 238 by decide +kernel) (by simp [Value.category]) ?_
    rintro r w4 ⟨rfl, T⟩
    refine V_aload (v := ad 90) mi_254_16 (by simp [stL, lv_args, Value.category]) ?_
    refine V_iload (v := Int32.ofInt ((m : Int))) mi_254_17 (by simp [stL, lv_args, Value.category]) ?_
    refine V_iload (v := Int32.ofInt ((n : Int))) mi_254_18 (by simp [stL, lv_args, Value.category]) ?_
    refine V_callM (As := [.int (Int32.ofInt ((m : Int))), .int (Int32.ofInt ((n : Int)))]) (st := []) mi_254_19 (by omega) (by decide +kernel) (by decide +kernel) T.1 (wha_ct (f := m) (o := n) T (mt_w T hW) hB (by omega) (by omega)) (by omega) (show 2 = mN 253 by decide +kernel) (by simp [Value.category]) ?_
    rintro r w5 ⟨rfl, rfl⟩
    exact V_retI mi_254_22 (fun h => absurd h (by decide +kernel)) ⟨⟨T.1, T.2.2.2⟩, by rw [if_pos k1, Int.toNat_natCast, Int.toNat_natCast]⟩
  · refine V_ipush mi_254_9 ?_
    exact V_retI mi_254_11 (fun h => absurd h (by decide +kernel)) ⟨⟨hG, fun _ _ _ _ => rfl⟩, by rw [if_neg (of_decide_eq_false c1)]⟩
theorem pairT_whole (hAD : ∀ i : Nat, ad (1000 + i) = D.2 1000 i) (hG : GOK ad tys GG ws) (hR : RELW ws) (a1 a2 : Int32) : PAIRT l D tys A ad 15 254 [.ref (ad 0), .int a1, .int a2] [.ref (ad 90), .int a1, .int a2] ws := by
  obtain ⟨G0, o0, x0, y0⟩ := hR.1.2.1
  obtain ⟨G, o, x, y, hb, wf, hS⟩ := aux_sto hR.2 x0 y0 o0 (hb_of hG y0 o0)
  have c1 := whX_ct (l := l) (D := D) (A := A) hG x hb hS (i32b a1) (i32b a2)
  have c2 := whM_ct (l := l) (D := D) (A := A) hG y hb wf hR.2.2.2.2.2 hR.2.2.2.2.1 (i32b a1) (i32b a2)
  simp only [oi] at c1 c2
  exact pairT_st hG hR (by omega) (by omega) c1 c2
end XSM
