section XSX
variable {l : Launch} {D : va_G} {tys : List (ClassId × FieldType)} {A : Nat → Prop} {ad : Nat → Nat} {ws : va_W}
def LBK (T : TT) : Prop := ∀ i, 0 ≤ T.lb i ∧ T.lb i ≤ 63
theorem lb_one {G : Nat → Int} (hB : HB G) {s : Nat} {T : TT} (h : LBK T) : LBK (oneT G s T) := by
  unfold oneT
  split
  · intro i
    show 0 ≤ (if i = s then _ else T.lb i) ∧ (if i = s then _ else T.lb i) ≤ 63
    split
    · exact orI_bd (by have := hB.b3; omega)
    · exact h i
  · exact h
theorem lb_say {G : Nat → Int} {h : Nat} (hB : HB G) : ∀ (m s : Nat) (T : TT), LBK T → LBK (sayT G h m s T)
  | 0, s, T, k => k
  | m + 1, s, T, k => by
    unfold sayT
    split
    · exact lb_say hB m (s + 1) _ (lb_one hB k)
    · exact lb_say hB m (s + 1) _ k
theorem lb_tell {G : Nat → Int} (hB : HB G) : ∀ h : Nat, LBK (tellT G h)
  | 0 => fun i => ⟨by show (0 : Int) ≤ 0; omega, by show (0 : Int) ≤ 63; omega⟩
  | h + 1 => lb_say hB _ _ _ (lb_tell hB h)
def goS (G : Nat → Int) (f : Nat) : Nat → Int
  | 0 => 0
  | s + 1 => goS G f s + (if sWho G s = f then bcS ((tellT G (G 2).toNat).lb s) 6 else 0)
/-- the wisest of the first n -/
def wiS (G : Nat → Int) (g : Nat) : Nat → Nat → Int → Int
  | 0, _, a => a
  | m + 1, p, a => if a = -1 ∨ loS G g a.toNat (G 3).toNat < loS G g p (G 3).toNat then wiS G g m (p + 1) (p : Int) else wiS G g m (p + 1) a
theorem wiS_y {G : Nat → Int} {g m p : Nat} {a : Int} (h : a = -1 ∨ loS G g a.toNat (G 3).toNat < loS G g p (G 3).toNat) : wiS G g (m + 1) p a = wiS G g m (p + 1) (p : Int) := if_pos h
theorem wiS_n {G : Nat → Int} {g m p : Nat} {a : Int} (h : ¬ (a = -1 ∨ loS G g a.toNat (G 3).toNat < loS G g p (G 3).toNat)) : wiS G g (m + 1) p a = wiS G g m (p + 1) a := if_neg h
def moI (G : Nat → Int) (g : Nat) (a : Int) : Int := if a = -1 then -1 else loS G g a.toNat (G 3).toNat
theorem go_18 {G : Nat → Int} (hG : GOK ad tys GG ws) (hX : HX 4 G ws) (hB : HB G) (hS : STO G ws) {f : Nat} {post : Option Value → va_W → Prop} : ∀ (m s : Nat), ((s + m : Nat) : Int) = G 4 → post (some (.int (Int32.ofInt (goS G f (G 4).toNat)))) ws → f < 6 → V l D tys A 28 2 0 0 post 0 0 18 [(0, .ref (ad 0)), (1, .int (Int32.ofInt ((f : Int)))), (2, .int (Int32.ofInt (goS G f s))), (3, .int (Int32.ofInt ((s : Int))))] [] ws
  | 0, s, hm, kk, hf => by
    have b4 := hB.b4
    refine V_iload (v := Int32.ofInt ((s : Int))) mi_28_18 (by simp [stL, lv_args, Value.category]) ?_
    refine V_aload (v := ad 0) mi_28_19 (by simp [stL, lv_args, Value.category]) ?_
    refine V_gR mi_28_20 g0r2 (by omega) hG ?_
    refine V_gO mi_28_23 g4o hG (show rd _ 4 5 = some (.int (Int32.ofInt (G 4))) from hx0 hX (i := 5) (by omega)) ?_
    refine V_cge mi_28_26 ⟨by omega, by omega⟩ ⟨by omega, by omega⟩ (fun q => ?_) (fun q => ?_)
    · have e : s = (G 4).toNat := by omega
      rw [← e] at kk
      refine V_iload (v := Int32.ofInt (goS G f s)) mi_28_67 (by simp [stL, lv_args, Value.category]) ?_
      exact V_retI mi_28_68 (fun h => absurd h (by decide +kernel)) kk
    · exact absurd q (by omega)
  | m + 1, s, hm, kk, hf => by
    have b4 := hB.b4
    refine V_iload (v := Int32.ofInt ((s : Int))) mi_28_18 (by simp [stL, lv_args, Value.category]) ?_
    refine V_aload (v := ad 0) mi_28_19 (by simp [stL, lv_args, Value.category]) ?_
    refine V_gR mi_28_20 g0r2 (by omega) hG ?_
    refine V_gO mi_28_23 g4o hG (show rd _ 4 5 = some (.int (Int32.ofInt (G 4))) from hx0 hX (i := 5) (by omega)) ?_
    refine V_cge mi_28_26 ⟨by omega, by omega⟩ ⟨by omega, by omega⟩ (fun q => ?_) (fun q => ?_)
    · exact absurd q (by omega)
    · have es : goS G f (s + 1) = goS G f s + (if sWho G s = f then bcS ((tellT G (G 2).toNat).lb s) 6 else 0) := rfl
      have bk := lb_tell hB (G 2).toNat s
      obtain ⟨⟨w6, o6, i6, n24⟩, g0, g1, g2, g3⟩ := say_b hB (s := s) (by omega)
      refine V_aload (v := ad 0) mi_28_29 (by simp [stL, lv_args, Value.category]) ?_
      refine V_gR mi_28_30 g0r2 (by omega) hG ?_
      refine V_gR mi_28_33 g4r13 (by omega) hG ?_
      refine V_iload (v := Int32.ofInt ((s : Int))) mi_28_36 (by simp [stL, lv_args, Value.category]) ?_
      refine V_stat (As := [.ref (ad 12), .int (Int32.ofInt ((s : Int)))]) (st := []) mi_28_37 (by omega) (atk_ct a12 hG (by omega) (by omega) (say_rd hX (k := s) (r := 0) (by omega) (by omega))) (by omega) (show 2 = mN 147 by decide +kernel) (by simp [Value.category]) ⟨Nat.le_refl _, Nat.le_refl _⟩ ?_
      rintro r w1 ⟨e1, rfl⟩
      rw [e1, show G (246 + 4 * s + 0) = G (246 + 4 * s) from rfl, g0]
      refine V_iload (v := Int32.ofInt ((f : Int))) mi_28_40 (by simp [stL, lv_args, Value.category]) ?_
      refine V_cne mi_28_41 ⟨by omega, by omega⟩ ⟨by omega, by omega⟩ (fun q2 => ?_) (fun q2 => ?_)
      · rw [if_neg (show ¬ sWho G s = f by omega), Int.add_zero] at es
        rw [← es]
        refine V_iinc (v := Int32.ofInt ((s : Int))) mi_28_61 (by simp [stL, lv_args, Value.category]) ?_
        rw [ia2]
        refine V_goto mi_28_64 ?_
        refine V_sub (lv' := [(0, .ref (ad 0)), (1, .int (Int32.ofInt ((f : Int)))), (2, .int (Int32.ofInt (goS G f (s + 1)))), (3, .int (Int32.ofInt (((s + 1 : Nat) : Int))))]) (fun q hq => ?_) ?_
        · simp only [List.mem_cons, List.not_mem_nil, or_false] at hq
          rcases hq with rfl | rfl | rfl | rfl <;> simp [stL, lv_args, Value.category]
        exact go_18 hG hX hB hS m (s + 1) (by omega) kk hf
      · rw [if_pos (show sWho G s = f by omega)] at es
        refine V_iload (v := Int32.ofInt (goS G f s)) mi_28_44 (by simp [stL, lv_args, Value.category]) ?_
        refine V_aload (v := ad 0) mi_28_45 (by simp [stL, lv_args, Value.category]) ?_
        refine V_gR mi_28_46 g0r5 (by omega) hG ?_
        refine V_gR mi_28_49 g32r2 (by omega) hG ?_
        refine V_iload (v := Int32.ofInt ((s : Int))) mi_28_52 (by simp [stL, lv_args, Value.category]) ?_
        refine V_stat (As := [.ref (ad 35), .int (Int32.ofInt ((s : Int)))]) (st := [.int (Int32.ofInt (goS G f s))]) mi_28_53 (by omega) (atk_ct (j := s) a35 hG (by omega) (by omega) (hS.2.2.2.2.2 s (by omega))) (by omega) (show 2 = mN 147 by decide +kernel) (by simp [Value.category]) ⟨Nat.le_refl _, Nat.le_refl _⟩ ?_
        rintro r w2 ⟨e2, rfl⟩
        rw [e2]
        refine V_stat (As := [.int (Int32.ofInt ((tellT G (G 2).toNat).lb s))]) (st := [.int (Int32.ofInt (goS G f s))]) mi_28_56 (by omega) (bcx_ct (a := (tellT G (G 2).toNat).lb s) bk.1 bk.2) (by omega) (show 1 = mN 344 by decide +kernel) (by simp [Value.category]) ⟨Nat.le_refl _, Nat.le_refl _⟩ ?_
        rintro r w3 ⟨e3, rfl⟩
        rw [e3]
        refine V_ibin mi_28_59 (by omega) ?_
        rw [ib0]
        rw [← es]
        refine V_istore mi_28_60 ?_
        refine V_iinc (v := Int32.ofInt ((s : Int))) mi_28_61 (by simp [stL, lv_args, Value.category]) ?_
        rw [ia2]
        refine V_goto mi_28_64 ?_
        refine V_sub (lv' := [(0, .ref (ad 0)), (1, .int (Int32.ofInt ((f : Int)))), (2, .int (Int32.ofInt (goS G f (s + 1)))), (3, .int (Int32.ofInt (((s + 1 : Nat) : Int))))]) (fun q hq => ?_) ?_
        · simp only [List.mem_cons, List.not_mem_nil, or_false] at hq
          rcases hq with rfl | rfl | rfl | rfl <;> simp [stL, lv_args, Value.category]
        exact go_18 hG hX hB hS m (s + 1) (by omega) kk hf
theorem goX2_ct {G : Nat → Int} (hG : GOK ad tys GG ws) (hX : HX 4 G ws) (hB : HB G) (hS : STO G ws) {f : Int} (fI : I32 f) : CT l D tys A 28 2 0 0 [.ref (ad 0), .int (Int32.ofInt (f))] ws (fun r w => w = ws ∧ r = some (.int (if 0 ≤ f ∧ f < G 3 then Int32.ofInt (goS G f.toNat (G 4).toNat) else Int32.ofInt (-2)))) := by
  refine CT_of_V (by omega) (show (2 : Nat) ≤ mML 28 by decide +kernel) ?_
  have b3 := hB.b3
  have b4 := hB.b4
  refine V_aload (v := ad 0) mi_28_0 (by simp [stL, lv_args, Value.category]) ?_
  refine V_gR mi_28_1 g0r2 (by omega) hG ?_
  refine V_iload (v := Int32.ofInt (f)) mi_28_4 (by simp [stL, lv_args, Value.category]) ?_
  refine V_cO (As := [.int (Int32.ofInt (f))]) (st := []) mi_28_5 (by omega) (by decide +kernel) (by decide +kernel) (by omega) g4o hG (hfk_ct hG hX hB fI) (by omega) (show 1 = mN 102 by decide +kernel) (by simp [Value.category]) ?_
  rintro r w1 ⟨rfl, rfl⟩
  refine V_bne mi_28_8  (fun c1 => ?_) (fun c1 => ?_)
  · have k1 := of_decide_eq_true c1
    obtain ⟨m, rfl⟩ := Int.eq_ofNat_of_zero_le k1.1
    refine V_ipush mi_28_14 ?_
    refine V_istore mi_28_15 ?_
    refine V_ipush mi_28_16 ?_
    refine V_istore mi_28_17 ?_
    refine V_sub (lv' := [(0, .ref (ad 0)), (1, .int (Int32.ofInt (m : Int))), (2, .int (Int32.ofInt 0)), (3, .int (Int32.ofInt ((0 : Nat) : Int)))]) (fun q hq => ?_) ?_
    · simp only [List.mem_cons, List.not_mem_nil, or_false] at hq
      rcases hq with rfl | rfl | rfl | rfl <;> simp [stL, lv_args, Value.category]
    exact go_18 hG hX hB hS (f := m) (G 4).toNat 0 (by omega) ⟨rfl, by rw [if_pos k1, Int.toNat_natCast]⟩ (by omega)
  · refine V_ipush mi_28_11 ?_
    exact V_retI mi_28_13 (fun h => absurd h (by decide +kernel)) ⟨rfl, by rw [if_neg (of_decide_eq_false c1)]⟩
theorem gom_19 {G : Nat → Int} {w0 : va_W} (hT : MT ad tys G w0 ws) (hW : W91 G ws) (hB : HB G) {f : Nat} {post : Option Value → va_W → Prop} : ∀ (m s : Nat), ((s + m : Nat) : Int) = G 4 → post (some (.int (Int32.ofInt (goS G f (G 4).toNat)))) ws → f < 6 → V l D tys A 271 9 0 0 post 0 0 19 [(0, .ref (ad 90)), (1, .int (Int32.ofInt ((f : Int)))), (2, .int (Int32.ofInt (goS G f s))), (3, .int (Int32.ofInt ((s : Int))))] [] ws
  | 0, s, hm, kk, hf => by
    obtain ⟨s91, e91, -⟩ := g91s
    have b4 := hB.b4
    refine V_iload (v := Int32.ofInt ((s : Int))) mi_271_19 (by simp [stL, lv_args, Value.category]) ?_
    refine V_aload (v := ad 90) mi_271_20 (by simp [stL, lv_args, Value.category]) ?_
    refine V_getI mi_271_21 hT.1 (rref gr1m (by omega) hT.1) ?_
    refine V_ipush mi_271_24 ?_
    refine V_aldX (j := 4) mi_271_25 rfl hT.1 e91 (by omega) (by omega) (hW _ (by omega)) ?_
    refine V_cge mi_271_26 ⟨by omega, by omega⟩ ⟨by omega, by omega⟩ (fun q => ?_) (fun q => ?_)
    · have e : s = (G 4).toNat := by omega
      rw [← e] at kk
      refine V_iload (v := Int32.ofInt (goS G f s)) mi_271_61 (by simp [stL, lv_args, Value.category]) ?_
      exact V_retI mi_271_62 (fun h => absurd h (by decide +kernel)) kk
    · exact absurd q (by omega)
  | m + 1, s, hm, kk, hf => by
    obtain ⟨s91, e91, -⟩ := g91s
    have b4 := hB.b4
    refine V_iload (v := Int32.ofInt ((s : Int))) mi_271_19 (by simp [stL, lv_args, Value.category]) ?_
    refine V_aload (v := ad 90) mi_271_20 (by simp [stL, lv_args, Value.category]) ?_
    refine V_getI mi_271_21 hT.1 (rref gr1m (by omega) hT.1) ?_
    refine V_ipush mi_271_24 ?_
    refine V_aldX (j := 4) mi_271_25 rfl hT.1 e91 (by omega) (by omega) (hW _ (by omega)) ?_
    refine V_cge mi_271_26 ⟨by omega, by omega⟩ ⟨by omega, by omega⟩ (fun q => ?_) (fun q => ?_)
    · exact absurd q (by omega)
    · have es : goS G f (s + 1) = goS G f s + (if sWho G s = f then bcS ((tellT G (G 2).toNat).lb s) 6 else 0) := rfl
      have bk := lb_tell hB (G 2).toNat s
      obtain ⟨⟨w6, o6, i6, n24⟩, g0, g1, g2, g3⟩ := say_b hB (s := s) (by omega)
      refine V_iload (v := Int32.ofInt (goS G f s)) mi_271_29 (by simp [stL, lv_args, Value.category]) ?_
      refine V_aload (v := ad 90) mi_271_30 (by simp [stL, lv_args, Value.category]) ?_
      refine V_iload (v := Int32.ofInt ((s : Int))) mi_271_31 (by simp [stL, lv_args, Value.category]) ?_
      refine V_ipush mi_271_32 ?_
      refine V_callM (As := [.int (Int32.ofInt ((s : Int))), .int (Int32.ofInt (0))]) (st := [.int (Int32.ofInt (goS G f s))]) mi_271_33 (by omega) (by decide +kernel) (by decide +kernel) hT.1 (mos_ct (k := s) (a := 0) hT.1 hW hB (by omega) (by omega)) (by omega) (show 2 = mN 208 by decide +kernel) (by simp [Value.category]) ?_
      rintro r w1 ⟨e1, rfl⟩
      rw [e1, show G (246 + 4 * s + 0) = G (246 + 4 * s) from rfl, g0]
      refine V_iload (v := Int32.ofInt ((f : Int))) mi_271_36 (by simp [stL, lv_args, Value.category]) ?_
      refine V_cne mi_271_37 ⟨by omega, by omega⟩ ⟨by omega, by omega⟩ (fun q2 => ?_) (fun q2 => ?_)
      · rw [if_neg (show ¬ sWho G s = f by omega)] at es
        refine V_ipush mi_271_52 ?_
        refine V_ibin mi_271_53 (by omega) ?_
        rw [ib0]
        rw [← es]
        refine V_istore mi_271_54 ?_
        refine V_iinc (v := Int32.ofInt ((s : Int))) mi_271_55 (by simp [stL, lv_args, Value.category]) ?_
        rw [ia2]
        refine V_goto mi_271_58 ?_
        refine V_sub (lv' := [(0, .ref (ad 90)), (1, .int (Int32.ofInt ((f : Int)))), (2, .int (Int32.ofInt (goS G f (s + 1)))), (3, .int (Int32.ofInt (((s + 1 : Nat) : Int))))]) (fun q hq => ?_) ?_
        · simp only [List.mem_cons, List.not_mem_nil, or_false] at hq
          rcases hq with rfl | rfl | rfl | rfl <;> simp [stL, lv_args, Value.category]
        exact gom_19 hT hW hB m (s + 1) (by omega) kk hf
      · rw [if_pos (show sWho G s = f by omega)] at es
        obtain ⟨sC, eC, fC⟩ := a101
        refine V_aload (v := ad 90) mi_271_40 (by simp [stL, lv_args, Value.category]) ?_
        refine V_getI mi_271_41 hT.1 (rref gr20 (by omega) hT.1) ?_
        refine V_iload (v := Int32.ofInt ((s : Int))) mi_271_44 (by simp [stL, lv_args, Value.category]) ?_
        refine V_aldX (j := s) mi_271_45 rfl hT.1 eC (by omega) (by omega) (hT.2.2.1.2.2 s (by omega)) ?_
        refine V_stat (As := [.int (Int32.ofInt ((tellT G (G 2).toNat).lb s))]) (st := [.int (Int32.ofInt (goS G f s))]) mi_271_46 (by omega) (bcm_ct (a := (tellT G (G 2).toNat).lb s) bk.1 bk.2) (by omega) (show 1 = mN 194 by decide +kernel) (by simp [Value.category]) ⟨Nat.le_refl _, Nat.le_refl _⟩ ?_
        rintro r w3 ⟨e3, rfl⟩
        rw [e3]
        refine V_goto mi_271_49 ?_
        refine V_ibin mi_271_53 (by omega) ?_
        rw [ib0]
        rw [← es]
        refine V_istore mi_271_54 ?_
        refine V_iinc (v := Int32.ofInt ((s : Int))) mi_271_55 (by simp [stL, lv_args, Value.category]) ?_
        rw [ia2]
        refine V_goto mi_271_58 ?_
        refine V_sub (lv' := [(0, .ref (ad 90)), (1, .int (Int32.ofInt ((f : Int)))), (2, .int (Int32.ofInt (goS G f (s + 1)))), (3, .int (Int32.ofInt (((s + 1 : Nat) : Int))))]) (fun q hq => ?_) ?_
        · simp only [List.mem_cons, List.not_mem_nil, or_false] at hq
          rcases hq with rfl | rfl | rfl | rfl <;> simp [stL, lv_args, Value.category]
        exact gom_19 hT hW hB m (s + 1) (by omega) kk hf
theorem goM2_ct {G : Nat → Int} (hG : GOK ad tys GG ws) (hW : W91 G ws) (hB : HB G) (wf : WF G) (h24 : rd ws 90 24 = some (.int (Int32.ofInt 0))) (h22 : rd ws 90 22 = some (.int (Int32.ofInt (-1)))) {f : Int} (fI : I32 f) : CT l D tys A 271 9 0 0 [.ref (ad 90), .int (Int32.ofInt (f))] ws (fun r w => (GOK ad tys GG w ∧ MTO ws w) ∧ r = some (.int (if 0 ≤ f ∧ f < G 3 then Int32.ofInt (goS G f.toNat (G 4).toNat) else Int32.ofInt (-2)))) := by
  refine CT_of_V (by omega) (show (2 : Nat) ≤ mML 271 by decide +kernel) ?_
  have b3 := hB.b3
  have b4 := hB.b4
  refine V_aload (v := ad 90) mi_271_0 (by simp [stL, lv_args, Value.category]) ?_
  refine V_iload (v := Int32.ofInt (f)) mi_271_1 (by simp [stL, lv_args, Value.category]) ?_
  refine V_callM (As := [.int (Int32.ofInt (f))]) (st := []) mi_271_2 (by omega) (by decide +kernel) (by decide +kernel) hG (mfk_ct hG hW hB fI) (by omega) (show 1 = mN 199 by decide +kernel) (by simp [Value.category]) ?_
  rintro r w1 ⟨rfl, rfl⟩
  refine V_bne mi_271_5  (fun c1 => ?_) (fun c1 => ?_)
  · have k1 := of_decide_eq_true c1
    obtain ⟨m, rfl⟩ := Int.eq_ofNat_of_zero_le k1.1
    refine V_aload (v := ad 90) mi_271_11 (by simp [stL, lv_args, Value.category]) ?_
    refine V_callM (As := []) (st := []) mi_271_12 (by omega) (by decide +kernel) (by decide +kernel) hG (gt_ct hB wf hG hW h24 h22) (by omega) (show 0 = mN 238 by decide +kernel) (by simp [Value.category]) ?_
    rintro r w4 ⟨rfl, T⟩
    refine V_ipush mi_271_15 ?_
    refine V_istore mi_271_16 ?_
    refine V_ipush mi_271_17 ?_
    refine V_istore mi_271_18 ?_
    refine V_sub (lv' := [(0, .ref (ad 90)), (1, .int (Int32.ofInt (m : Int))), (2, .int (Int32.ofInt 0)), (3, .int (Int32.ofInt ((0 : Nat) : Int)))]) (fun q hq => ?_) ?_
    · simp only [List.mem_cons, List.not_mem_nil, or_false] at hq
      rcases hq with rfl | rfl | rfl | rfl <;> simp [stL, lv_args, Value.category]
    exact gom_19 T (mt_w T hW) hB (f := m) (G 4).toNat 0 (by omega) ⟨⟨T.1, T.2.2.2⟩, by rw [if_pos k1, Int.toNat_natCast]⟩ (by omega)
  · refine V_ipush mi_271_8 ?_
    exact V_retI mi_271_10 (fun h => absurd h (by decide +kernel)) ⟨⟨hG, fun _ _ _ _ => rfl⟩, by rw [if_neg (of_decide_eq_false c1)]⟩
theorem pairT_gossip (hAD : ∀ i : Nat, ad (1000 + i) = D.2 1000 i) (hG : GOK ad tys GG ws) (hR : RELW ws) (a1 : Int32) : PAIRT l D tys A ad 28 271 [.ref (ad 0), .int a1] [.ref (ad 90), .int a1] ws := by
  obtain ⟨G0, o0, x0, y0⟩ := hR.1.2.1
  obtain ⟨G, o, x, y, hb, wf, hS⟩ := aux_sto hR.2 x0 y0 o0 (hb_of hG y0 o0)
  have c1 := goX2_ct (l := l) (D := D) (A := A) hG x hb hS (i32b a1)
  have c2 := goM2_ct (l := l) (D := D) (A := A) hG y hb wf hR.2.2.2.2.2 hR.2.2.2.2.1 (i32b a1)
  simp only [oi] at c1 c2
  exact pairT_st hG hR (by omega) (by omega) c1 c2
end XSX
