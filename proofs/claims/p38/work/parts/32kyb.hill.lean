section XUB
variable {l : Launch} {D : va_G} {tys : List (ClassId × FieldType)} {A : Nat → Prop} {ad : Nat → Nat} {ws : va_W}
theorem sprw_28 {P : Nat → Bool} {G K : Nat → Int} {w0 : va_W} {s : Nat} {post : Option Value → va_W → Prop} (hB : HB G) (hs : s < 12) (hX0 : HX 4 G w0) (hk : kOK K) : ∀ (m f : Nat) (w : va_W), ((f + m : Nat) : Int) = G 3 → GOK ad tys GG w → XKN G (spW P G s f K) w → (∀ c j, c ≠ 31 → rd w c j = rd w0 c j) → (∀ w' : va_W, GOK ad tys GG w' → XKN G (spW P G s (G 3).toNat K) w' → (∀ c j, c ≠ 31 → rd w' c j = rd w0 c j) → post (some (.int (Int32.ofInt (orI (lrW P G K s) (G 3).toNat)))) w') → V l D tys A 92 2 0 0 post 0 0 28 [(0, .ref (ad 28)), (1, .ref (ad 4)), (2, .int (Int32.ofInt ((s : Int)))), (3, .int (Int32.ofInt (orI (P) (G 3).toNat))), (4, .int (Int32.ofInt ((sWhs G s : Int)))), (5, .int (ibF 8 (Int32.ofInt 1) (Int32.ofInt (sWhi G s : Int)))), (6, .int (Int32.ofInt (orI (lrW P G K s) f))), (7, .int (Int32.ofInt ((f : Int))))] [] w
  | 0, f, w, hm, hG, hK, ho, kk => by
    have hX : HX 4 G w := HX_keep hX0 (fun c' i h1 h2 => ho _ _ (by omega))
    have b3 := hB.b3
    have b4 := hB.b4
    obtain ⟨⟨w6, o6, i6, n24⟩, -⟩ := say_b hB (s := s) (by omega)
    refine V_iload (v := Int32.ofInt ((f : Int))) mi_92_28 (by simp [stL, lv_args, Value.category]) ?_
    refine V_aload (v := ad 4) mi_92_30 (by simp [stL, lv_args, Value.category]) ?_
    refine V_gO mi_92_31 g4o hG (show rd _ 4 4 = some (.int (Int32.ofInt (G 3))) from hx0 hX (i := 4) (by omega)) ?_
    refine V_cge mi_92_34 ⟨by omega, by omega⟩ ⟨by omega, by omega⟩ (fun q => ?_) (fun q => ?_)
    · have e : f = (G 3).toNat := by omega
      rw [e] at hK
      rw [e]
      refine V_iload (v := Int32.ofInt (orI (lrW P G K s) (G 3).toNat)) mi_92_101 (by simp [stL, lv_args, Value.category]) ?_
      exact V_retI mi_92_103 (fun h => absurd h (by decide +kernel)) (kk w hG hK ho)
    · exact absurd q (by omega)
  | m + 1, f, w, hm, hG, hK, ho, kk => by
    have hX : HX 4 G w := HX_keep hX0 (fun c' i h1 h2 => ho _ _ (by omega))
    have b3 := hB.b3
    have b4 := hB.b4
    obtain ⟨⟨w6, o6, i6, n24⟩, -⟩ := say_b hB (s := s) (by omega)
    refine V_iload (v := Int32.ofInt ((f : Int))) mi_92_28 (by simp [stL, lv_args, Value.category]) ?_
    refine V_aload (v := ad 4) mi_92_30 (by simp [stL, lv_args, Value.category]) ?_
    refine V_gO mi_92_31 g4o hG (show rd _ 4 4 = some (.int (Int32.ofInt (G 3))) from hx0 hX (i := 4) (by omega)) ?_
    refine V_cge mi_92_34 ⟨by omega, by omega⟩ ⟨by omega, by omega⟩ (fun q => ?_) (fun q => ?_)
    · exact absurd q (by omega)
    · have ob := orI_bd (P := P) (f := (G 3).toNat) (by omega)
      have p1 := (tb_k (a := orI (P) (G 3).toNat) (i := (f : Int)) ob.1 ob.2 (by omega) (by omega)).1
      rw [tb_orI (by omega) _ (by omega), decide_eq_true (show f < (G 3).toNat by omega), Bool.true_and] at p1
      have bk := hk (6 * f + sWhs G s) (by omega)
      obtain ⟨t1, t2, t3⟩ := tb_k (a := K (6 * f + sWhs G s)) (i := (sWhi G s : Int)) bk.1 bk.2 (by omega) (by omega)
      have hKn : rd w 31 (6 * f + sWhs G s) = some (.int (Int32.ofInt (K (6 * f + sWhs G s)))) := by rw [hK _ (by omega) (by omega), spW_new o6]
      refine V_iload (v := Int32.ofInt (orI (P) (G 3).toNat)) mi_92_37 (by simp [stL, lv_args, Value.category]) ?_
      refine V_iload (v := Int32.ofInt ((f : Int))) mi_92_38 (by simp [stL, lv_args, Value.category]) ?_
      refine V_ibin mi_92_40 (by omega) ?_
      refine V_ipush mi_92_41 ?_
      refine V_ibin mi_92_42 (by omega) ?_
      rw [p1]
      refine V_beq mi_92_43  (fun q2 => ?_) (fun q2 => ?_)
      · have lf : lrW P G K s f = false := by unfold lrW; rw [q2, Bool.false_and]
        rw [← orI_s0 (P := lrW P G K s) lf]
        refine V_iinc (v := Int32.ofInt ((f : Int))) mi_92_95 (by simp [stL, lv_args, Value.category]) ?_
        rw [ia2]
        refine V_goto mi_92_98 ?_
        refine V_sub (lv' := [(0, .ref (ad 28)), (1, .ref (ad 4)), (2, .int (Int32.ofInt ((s : Int)))), (3, .int (Int32.ofInt (orI (P) (G 3).toNat))), (4, .int (Int32.ofInt ((sWhs G s : Int)))), (5, .int (ibF 8 (Int32.ofInt 1) (Int32.ofInt (sWhi G s : Int)))), (6, .int (Int32.ofInt (orI (lrW P G K s) (f + 1)))), (7, .int (Int32.ofInt (((f + 1 : Nat) : Int))))]) (fun q hq => ?_) ?_
        · simp only [List.mem_cons, List.not_mem_nil, or_false] at hq
          rcases hq with rfl | rfl | rfl | rfl | rfl | rfl | rfl | rfl <;> simp [stL, lv_args, Value.category]
        exact sprw_28 hB hs hX0 hk m (f + 1) w (by omega) hG (by rw [spW_skip q2]; exact hK) ho kk
      · refine V_aload (v := ad 28) mi_92_46 (by simp [stL, lv_args, Value.category]) ?_
        refine V_iload (v := Int32.ofInt ((f : Int))) mi_92_47 (by simp [stL, lv_args, Value.category]) ?_
        refine V_iload (v := Int32.ofInt ((sWhs G s : Int))) mi_92_49 (by simp [stL, lv_args, Value.category]) ?_
        refine V_cO (As := [.int (Int32.ofInt ((f : Int))), .int (Int32.ofInt ((sWhs G s : Int)))]) (st := []) mi_92_51 (by omega) (by decide +kernel) (by decide +kernel) (by omega) g28o hG (bts_ct (f := f) (o := sWhs G s) hG (by omega) o6 hKn) (by omega) (show 2 = mN 88 by decide +kernel) (by simp [Value.category]) ?_
        rintro r w1 ⟨e1, rfl⟩
        rw [e1]
        refine V_iload (v := ibF 8 (Int32.ofInt 1) (Int32.ofInt (sWhi G s : Int))) mi_92_54 (by simp [stL, lv_args, Value.category]) ?_
        refine V_ibin mi_92_56 (by omega) ?_
        refine V_rne mi_92_57 (fun q3 => ?_) (fun q3 => ?_)
        · have tt : tb (K (6 * f + sWhs G s)) (sWhi G s : Int) = true := by
            cases h : tb (K (6 * f + sWhs G s)) (sWhi G s : Int)
            · exact absurd (t3.mpr h) q3
            · rfl
          have lf : lrW P G K s f = false := by unfold lrW; rw [q2, tt]; rfl
          rw [← orI_s0 (P := lrW P G K s) lf]
          refine V_iinc (v := Int32.ofInt ((f : Int))) mi_92_95 (by simp [stL, lv_args, Value.category]) ?_
          rw [ia2]
          refine V_goto mi_92_98 ?_
          refine V_sub (lv' := [(0, .ref (ad 28)), (1, .ref (ad 4)), (2, .int (Int32.ofInt ((s : Int)))), (3, .int (Int32.ofInt (orI (P) (G 3).toNat))), (4, .int (Int32.ofInt ((sWhs G s : Int)))), (5, .int (ibF 8 (Int32.ofInt 1) (Int32.ofInt (sWhi G s : Int)))), (6, .int (Int32.ofInt (orI (lrW P G K s) (f + 1)))), (7, .int (Int32.ofInt (((f + 1 : Nat) : Int))))]) (fun q hq => ?_) ?_
          · simp only [List.mem_cons, List.not_mem_nil, or_false] at hq
            rcases hq with rfl | rfl | rfl | rfl | rfl | rfl | rfl | rfl <;> simp [stL, lv_args, Value.category]
          refine sprw_28 hB hs hX0 hk m (f + 1) w (by omega) hG (fun j hj hp => ?_) ho kk
          rw [spW_step q2 o6]
          show _ = some (Value.int (Int32.ofInt (if j = 6 * f + sWhs G s then _ else _)))
          by_cases e : j = 6 * f + sWhs G s
          · rw [if_pos e, e, t2 tt]
            exact hKn
          · rw [if_neg e]
            exact hK j hj hp
        · have lf : lrW P G K s f = true := by unfold lrW; rw [q2, t3.mp q3]; rfl
          refine V_aload (v := ad 28) mi_92_60 (by simp [stL, lv_args, Value.category]) ?_
          refine V_gR mi_92_61 g28r2 (by omega) hG ?_
          refine V_iload (v := Int32.ofInt ((f : Int))) mi_92_64 (by simp [stL, lv_args, Value.category]) ?_
          refine V_ipush mi_92_66 ?_
          refine V_ibin mi_92_68 (by omega) ?_
          rw [ib2]
          refine V_iload (v := Int32.ofInt ((sWhs G s : Int))) mi_92_69 (by simp [stL, lv_args, Value.category]) ?_
          refine V_ibin mi_92_71 (by omega) ?_
          rw [ib0]
          rw [show (f : Int) * (6) + (sWhs G s : Int) = ((6 * f + sWhs G s : Nat) : Int) by omega]
          refine V_aload (v := ad 28) mi_92_72 (by simp [stL, lv_args, Value.category]) ?_
          refine V_iload (v := Int32.ofInt ((f : Int))) mi_92_73 (by simp [stL, lv_args, Value.category]) ?_
          refine V_iload (v := Int32.ofInt ((sWhs G s : Int))) mi_92_75 (by simp [stL, lv_args, Value.category]) ?_
          refine V_cO (As := [.int (Int32.ofInt ((f : Int))), .int (Int32.ofInt ((sWhs G s : Int)))]) (st := [.int (Int32.ofInt (((6 * f + sWhs G s : Nat) : Int))), .ref (ad 31)]) mi_92_77 (by omega) (by decide +kernel) (by decide +kernel) (by omega) g28o hG (bts_ct (f := f) (o := sWhs G s) hG (by omega) o6 hKn) (by omega) (show 2 = mN 88 by decide +kernel) (by simp [Value.category]) ?_
          rintro r w2 ⟨e2, rfl⟩
          rw [e2]
          refine V_iload (v := ibF 8 (Int32.ofInt 1) (Int32.ofInt (sWhi G s : Int))) mi_92_80 (by simp [stL, lv_args, Value.category]) ?_
          refine V_ibin mi_92_82 (by omega) ?_
          rw [bitO_i]
          refine V_stat (As := [.ref (ad 31), .int (Int32.ofInt (((6 * f + sWhs G s : Nat) : Int))), .int (Int32.ofInt (bitO (K (6 * f + sWhs G s)) (sWhi G s : Int)))]) (st := []) mi_92_83 (by omega) (putk_ct (j := 6 * f + sWhs G s) a31 hG (by omega) (by omega)) (by omega) (show 3 = mN 148 by decide +kernel) (by simp [Value.category]) ⟨Nat.le_refl _, Nat.le_refl _⟩ ?_
          rintro r w3 ⟨rfl, G3, U3⟩
          refine V_iload (v := Int32.ofInt (orI (lrW P G K s) f)) mi_92_86 (by simp [stL, lv_args, Value.category]) ?_
          refine V_ipush mi_92_88 ?_
          refine V_iload (v := Int32.ofInt ((f : Int))) mi_92_89 (by simp [stL, lv_args, Value.category]) ?_
          refine V_ibin mi_92_91 (by omega) ?_
          refine V_ibin mi_92_92 (by omega) ?_
          rw [bitO_i, ← orI_s1 (P := lrW P G K s) lf]
          refine V_istore mi_92_93 ?_
          refine V_iinc (v := Int32.ofInt ((f : Int))) mi_92_95 (by simp [stL, lv_args, Value.category]) ?_
          rw [ia2]
          refine V_goto mi_92_98 ?_
          refine V_sub (lv' := [(0, .ref (ad 28)), (1, .ref (ad 4)), (2, .int (Int32.ofInt ((s : Int)))), (3, .int (Int32.ofInt (orI (P) (G 3).toNat))), (4, .int (Int32.ofInt ((sWhs G s : Int)))), (5, .int (ibF 8 (Int32.ofInt 1) (Int32.ofInt (sWhi G s : Int)))), (6, .int (Int32.ofInt (orI (lrW P G K s) (f + 1)))), (7, .int (Int32.ofInt (((f + 1 : Nat) : Int))))]) (fun q hq => ?_) ?_
          · simp only [List.mem_cons, List.not_mem_nil, or_false] at hq
            rcases hq with rfl | rfl | rfl | rfl | rfl | rfl | rfl | rfl <;> simp [stL, lv_args, Value.category]
          · refine sprw_28 hB hs hX0 hk m (f + 1) w3 (by omega) G3 (fun j hj hp => ?_) (fun c j hc => (upd_ne U3 (by omega)).trans (ho c j hc)) kk
            rw [spW_step q2 o6]
            show _ = some (Value.int (Int32.ofInt (if j = 6 * f + sWhs G s then _ else _)))
            by_cases e : j = 6 * f + sWhs G s
            · rw [if_pos e, e]
              exact upd_eq U3
            · rw [if_neg e]
              exact (upd_ne U3 (by omega)).trans (hK j hj hp)
theorem sprw_ct {G : Nat → Int} (hG : GOK ad tys GG ws) (hX : HX 4 G ws) (hB : HB G) {P : Nat → Bool} {K : Nat → Int} (hk : kOK K) (hK : XKN G K ws) {s : Nat} (hs : s < 12) : CT l D tys A 92 2 0 0 [.ref (ad 28), .ref (ad 4), .int (Int32.ofInt ((s : Int))), .int (Int32.ofInt (orI (P) (G 3).toNat))] ws (fun r w => r = some (.int (Int32.ofInt (orI (lrW P G K s) (G 3).toNat))) ∧ GOK ad tys GG w ∧ XKN G (spW P G s (G 3).toNat K) w ∧ ∀ c j, c ≠ 31 → rd w c j = rd ws c j) := by
  refine CT_of_V (by omega) (show (4 : Nat) ≤ mML 92 by decide +kernel) ?_
  have b4 := hB.b4
  have b3 := hB.b3
  obtain ⟨⟨w6, o6, i6, n24⟩, g0, g1, g2, g3⟩ := say_b hB (s := s) (by omega)
  refine V_aload (v := ad 4) mi_92_0 (by simp [stL, lv_args, Value.category]) ?_
  refine V_gR mi_92_1 g4r14 (by omega) hG ?_
  refine V_iload (v := Int32.ofInt ((s : Int))) mi_92_4 (by simp [stL, lv_args, Value.category]) ?_
  refine V_stat (As := [.ref (ad 13), .int (Int32.ofInt ((s : Int)))]) (st := []) mi_92_5 (by omega) (atk_ct a13 hG (by omega) (by omega) (say_rd hX (k := s) (r := 1) (by omega) (by omega))) (by omega) (show 2 = mN 147 by decide +kernel) (by simp [Value.category]) ⟨Nat.le_refl _, Nat.le_refl _⟩ ?_
  rintro r w1 ⟨e1, rfl⟩
  rw [e1, g1]
  refine V_istore mi_92_8 ?_
  refine V_ipush mi_92_10 ?_
  refine V_aload (v := ad 4) mi_92_11 (by simp [stL, lv_args, Value.category]) ?_
  refine V_gR mi_92_12 g4r15 (by omega) hG ?_
  refine V_iload (v := Int32.ofInt ((s : Int))) mi_92_15 (by simp [stL, lv_args, Value.category]) ?_
  refine V_stat (As := [.ref (ad 14), .int (Int32.ofInt ((s : Int)))]) (st := [.int (Int32.ofInt (1))]) mi_92_16 (by omega) (atk_ct a14 hG (by omega) (by omega) (say_rd hX (k := s) (r := 2) (by omega) (by omega))) (by omega) (show 2 = mN 147 by decide +kernel) (by simp [Value.category]) ⟨Nat.le_refl _, Nat.le_refl _⟩ ?_
  rintro r w1 ⟨e1, rfl⟩
  rw [e1, g2]
  refine V_ibin mi_92_19 (by omega) ?_
  refine V_istore mi_92_20 ?_
  refine V_ipush mi_92_22 ?_
  refine V_istore mi_92_23 ?_
  refine V_ipush mi_92_25 ?_
  refine V_istore mi_92_26 ?_
  refine V_sub (lv' := [(0, .ref (ad 28)), (1, .ref (ad 4)), (2, .int (Int32.ofInt ((s : Int)))), (3, .int (Int32.ofInt (orI (P) (G 3).toNat))), (4, .int (Int32.ofInt ((sWhs G s : Int)))), (5, .int (ibF 8 (Int32.ofInt 1) (Int32.ofInt (sWhi G s : Int)))), (6, .int (Int32.ofInt (0))), (7, .int (Int32.ofInt (((0 : Nat) : Int))))]) (fun q hq => ?_) ?_
  · simp only [List.mem_cons, List.not_mem_nil, or_false] at hq
    rcases hq with rfl | rfl | rfl | rfl | rfl | rfl | rfl | rfl <;> simp [stL, lv_args, Value.category]
  exact sprw_28 (w0 := ws) hB hs hX hk (G 3).toNat 0 ws (by omega) hG (by rw [spW_0]; exact hK) (fun _ _ _ => rfl) (fun w2 G2 k2 o2 => ⟨rfl, G2, k2, o2⟩)
theorem and1 (y : Int32) : ibF 5 y (Int32.ofInt 1) = Int32.ofInt 0 ∨ ibF 5 y (Int32.ofInt 1) = Int32.ofInt 1 := by
  have h : (y &&& 1).toBitVec.toNat = y.toBitVec.toNat % 2 := by
    show (y.toBitVec &&& 1#32).toNat = _
    rw [BitVec.toNat_and]
    exact Nat.and_one_is_mod _
  rcases Nat.mod_two_eq_zero_or_one y.toBitVec.toNat with e | e
  · left
    show y &&& 1 = 0
    exact Int32.toBitVec_inj.1 (BitVec.eq_of_toNat_eq (by rw [h, e]; rfl))
  · right
    show y &&& 1 = 1
    exact Int32.toBitVec_inj.1 (BitVec.eq_of_toNat_eq (by rw [h, e]; rfl))
/-- whether s is hushed, by bits -/
def huB (hz : Int32) (s : Nat) : Bool := decide (ibF 5 (ibF 9 hz (Int32.ofInt (s : Int))) (Int32.ofInt 1) = Int32.ofInt 1)
theorem huB_i (hz : Int32) (s : Nat) : ibF 5 (ibF 9 hz (Int32.ofInt (s : Int))) (Int32.ofInt 1) = Int32.ofInt (if huB hz s = true then 1 else 0) := by
  unfold huB
  rcases and1 (ibF 9 hz (Int32.ofInt (s : Int))) with e | e
  · rw [e, decide_eq_false (by decide), if_neg Bool.false_ne_true]
  · rw [e, decide_eq_true rfl, if_pos rfl]
def heT : Nat → Int → Nat → Bool := fun _ _ _ => true
def dxI : Nat → Int → Nat → Int := fun _ x _ => x
def htS (G : Nat → Int) (hz : Int32) (h : Nat) : TT × Int := tellW G (huB hz) heT dxI 0 h
/-- whether f knows o's name whole in the end, without what is hushed -/
def hshB (G : Nat → Int) (hz : Int32) (f o : Nat) : Bool := decide ((htS G hz (G 2).toNat).1.K (6 * f + o) = allV (G (6 + 7 * o)))
theorem pW_T {G : Nat → Int} {s : Nat} {x : Int} : pW G heT s x = preP G s := by
  funext f
  unfold pW heT
  rw [Bool.and_true]
theorem oneW_ok {G : Nat → Int} {hu : Nat → Bool} {he : Nat → Int → Nat → Bool} {dx : Nat → Int → Nat → Int} {s : Nat} {S : TT × Int} (h : kOK S.1.K) (hi : sWhi G s < 6) : kOK (oneW G hu he dx s S).1.K := by
  unfold oneW
  split
  · exact spW_ok h hi
  · exact h
theorem sayW_ok {G : Nat → Int} {hu : Nat → Bool} {he : Nat → Int → Nat → Bool} {dx : Nat → Int → Nat → Int} {h : Nat} (hB : HB G) : ∀ (m s : Nat) (S : TT × Int), s + m ≤ 12 → kOK S.1.K → kOK (sayW G hu he dx h m s S).1.K
  | 0, s, S, _, k => k
  | m + 1, s, S, hm, k => by
    obtain ⟨⟨w6, o6, i6, n24⟩, -⟩ := say_b hB (s := s) (by omega)
    unfold sayW
    split
    · exact sayW_ok hB m (s + 1) _ (by omega) (oneW_ok k i6)
    · exact sayW_ok hB m (s + 1) _ (by omega) k
theorem tellW_ok {G : Nat → Int} {hu : Nat → Bool} {he : Nat → Int → Nat → Bool} {dx : Nat → Int → Nat → Int} {x0 : Int} (hB : HB G) : ∀ h : Nat, kOK (tellW G hu he dx x0 h).1.K
  | 0 => ini_ok hB
  | h + 1 => sayW_ok hB _ _ _ (by have := hB.b4; omega) (tellW_ok hB h)
/-- the reference's frame -/
def MTW (w0 w : va_W) : Prop := ∀ c j, ¬ (98 ≤ c ∧ c ≤ 101) → ¬ (c = 90 ∧ (j = 18 ∨ j = 21 ∨ j = 23 ∨ j = 25)) → rd w c j = rd w0 c j
theorem xww_8 {G : Nat → Int} {w0 : va_W} (hX0 : HX 4 G w0) (hS0 : STO G w0) (hB : HB G) (wf : WF G) {f o : Nat} {hz : Int32} {h : Nat} {post : Option Value → va_W → Prop} : ∀ (m s : Nat) (S : TT × Int) (ws : va_W), s + m = (G 4).toNat → kOK S.1.K → GOK ad tys GG ws → XSC w0 ws → XKN G S.1.K ws → (∀ w : va_W, GOK ad tys GG w → XSC w0 w → XKN G (sayW G (huB hz) heT dxI h m s S).1.K w → kOK (sayW G (huB hz) heT dxI h m s S).1.K → V l D tys A 93 4 0 0 post 0 0 8 [(0, .ref (ad 28)), (1, .ref (ad 4)), (2, .int (Int32.ofInt ((f : Int)))), (3, .int (Int32.ofInt ((o : Int)))), (4, .int (hz)), (5, .int (Int32.ofInt (((cntH G (G 4).toNat (h + 1) : Nat) : Int))))] [] w) → V l D tys A 93 4 0 0 post 0 0 8 [(0, .ref (ad 28)), (1, .ref (ad 4)), (2, .int (Int32.ofInt ((f : Int)))), (3, .int (Int32.ofInt ((o : Int)))), (4, .int (hz)), (5, .int (Int32.ofInt (((cntH G (G 4).toNat h + cntS G h s : Nat) : Int))))] [] ws
  | 0, s, S, ws, hm, hk, hG, hO, hK, kk => by
    have e : cntH G (G 4).toNat (h + 1) = cntH G (G 4).toNat h + cntS G h s := by rw [show s = (G 4).toNat by omega]; rfl
    rw [e] at kk
    exact kk ws hG hO hK hk
  | m + 1, s, S, ws, hm, hk, hG, hO, hK, kk => by
    by_cases e : sWhn G s = h
    · have hX : HX 4 G ws := XSC_X hO hX0
      have b4 := hB.b4
      have wn := WF_n hB wf
      have ep : pos G (G 4).toNat s = cntH G (G 4).toNat h + cntS G h s := by unfold pos; rw [e]
      have pn : pos G (G 4).toNat s < (G 4).toNat := pos_n wn (by omega)
      obtain ⟨⟨w6, o6, i6, n24⟩, g0, g1, g2, g3⟩ := say_b hB (s := s) (by omega)
      have hord : rd ws 29 (cntH G (G 4).toNat h + cntS G h s) = some (.int (Int32.ofInt (s : Int))) := by rw [← ep]; exact (hO 29 _ (by omega)).trans (hS0.1 s (by omega))
      have hprs : rd ws 30 s = some (.int (Int32.ofInt (orI (preP G s) (G 3).toNat))) := (hO 30 _ (by omega)).trans (hS0.2.1 s (by omega))
      have ec : cntS G h (s + 1) = cntS G h s + 1 := cntS_hit e
      have es : sayW G (huB hz) heT dxI h (m + 1) s S = sayW G (huB hz) heT dxI h m (s + 1) (oneW G (huB hz) heT dxI s S) := by
        show sayW G (huB hz) heT dxI h m (s + 1) (if sWhn G s = h then oneW G (huB hz) heT dxI s S else S) = _
        rw [if_pos e]
      rw [es] at kk
      refine V_iload (v := Int32.ofInt (((cntH G (G 4).toNat h + cntS G h s : Nat) : Int))) mi_93_8 (by simp [stL, lv_args, Value.category]) ?_
      refine V_aload (v := ad 4) mi_93_10 (by simp [stL, lv_args, Value.category]) ?_
      refine V_gO mi_93_11 g4o hG (show rd _ 4 5 = some (.int (Int32.ofInt (G 4))) from hx0 hX (i := 5) (by omega)) ?_
      refine V_cge mi_93_14 ⟨by omega, by omega⟩ ⟨by omega, by omega⟩ (fun q => ?_) (fun q => ?_)
      · exact absurd q (by omega)
      · refine V_aload (v := ad 28) mi_93_17 (by simp [stL, lv_args, Value.category]) ?_
        refine V_iload (v := Int32.ofInt (((cntH G (G 4).toNat h + cntS G h s : Nat) : Int))) mi_93_18 (by simp [stL, lv_args, Value.category]) ?_
        refine V_cO (As := [.int (Int32.ofInt (((cntH G (G 4).toNat h + cntS G h s : Nat) : Int)))]) (st := []) mi_93_20 (by omega) (by decide +kernel) (by decide +kernel) (by omega) g28o hG (ino_ct (s := cntH G (G 4).toNat h + cntS G h s) hG (by omega) hord) (by omega) (show 1 = mN 90 by decide +kernel) (by simp [Value.category]) ?_
        rintro r w1 ⟨e1, rfl⟩
        rw [e1]
        refine V_istore mi_93_23 ?_
        refine V_iload (v := hz) mi_93_25 (by simp [stL, lv_args, Value.category]) ?_
        refine V_iload (v := Int32.ofInt ((s : Int))) mi_93_27 (by simp [stL, lv_args, Value.category]) ?_
        refine V_ibin mi_93_29 (by omega) ?_
        refine V_ipush mi_93_30 ?_
        refine V_ibin mi_93_31 (by omega) ?_
        rw [huB_i]
        refine V_zne mi_93_32 ⟨by split <;> omega, by split <;> omega⟩ (fun q2 => ?_) (fun q2 => ?_)
        · have hn : huB hz s = true := by
            cases c : huB hz s with
            | true => rfl
            | false => exact absurd (by rw [c, if_neg Bool.false_ne_true]) q2
          refine V_iinc (v := Int32.ofInt (((cntH G (G 4).toNat h + cntS G h s : Nat) : Int))) mi_93_59 (by simp [stL, lv_args, Value.category]) ?_
          rw [ia2]
          rw [show ((cntH G (G 4).toNat h + cntS G h s : Nat) : Int) + (1) = ((cntH G (G 4).toNat h + cntS G h (s + 1) : Nat) : Int) by omega]
          refine V_goto mi_93_62 ?_
          refine V_sub (lv' := [(0, .ref (ad 28)), (1, .ref (ad 4)), (2, .int (Int32.ofInt ((f : Int)))), (3, .int (Int32.ofInt ((o : Int)))), (4, .int (hz)), (5, .int (Int32.ofInt (((cntH G (G 4).toNat h + cntS G h (s + 1) : Nat) : Int))))]) (fun q hq => ?_) ?_
          · simp only [List.mem_cons, List.not_mem_nil, or_false] at hq
            rcases hq with rfl | rfl | rfl | rfl | rfl | rfl <;> simp [stL, lv_args, Value.category]
          exact xww_8 hX0 hS0 hB wf m (s + 1) _ ws (by omega) (oneW_ok hk i6) hG hO (by unfold oneW; rw [if_neg (fun k => by rw [hn] at k; exact absurd k.1 (by decide))]; exact hK) kk
        · have hn : huB hz s = false := by
            cases c : huB hz s with
            | false => rfl
            | true => exact absurd (by rw [c, if_pos rfl] at q2; exact q2) (by omega)
          refine V_aload (v := ad 28) mi_93_35 (by simp [stL, lv_args, Value.category]) ?_
          refine V_aload (v := ad 4) mi_93_36 (by simp [stL, lv_args, Value.category]) ?_
          refine V_iload (v := Int32.ofInt ((s : Int))) mi_93_37 (by simp [stL, lv_args, Value.category]) ?_
          refine V_cO (As := [.ref (ad 4), .int (Int32.ofInt ((s : Int)))]) (st := []) mi_93_39 (by omega) (by decide +kernel) (by decide +kernel) (by omega) g28o hG (csy_ct hG hX hB wf hk hK (s := s) (by omega)) (by omega) (show 2 = mN 91 by decide +kernel) (by simp [Value.category]) ?_
          rintro r w2 ⟨e2, rfl⟩
          rw [e2]
          refine V_beq mi_93_42  (fun q3 => ?_) (fun q3 => ?_)
          · refine V_iinc (v := Int32.ofInt (((cntH G (G 4).toNat h + cntS G h s : Nat) : Int))) mi_93_59 (by simp [stL, lv_args, Value.category]) ?_
            rw [ia2]
            rw [show ((cntH G (G 4).toNat h + cntS G h s : Nat) : Int) + (1) = ((cntH G (G 4).toNat h + cntS G h (s + 1) : Nat) : Int) by omega]
            refine V_goto mi_93_62 ?_
            refine V_sub (lv' := [(0, .ref (ad 28)), (1, .ref (ad 4)), (2, .int (Int32.ofInt ((f : Int)))), (3, .int (Int32.ofInt ((o : Int)))), (4, .int (hz)), (5, .int (Int32.ofInt (((cntH G (G 4).toNat h + cntS G h (s + 1) : Nat) : Int))))]) (fun q hq => ?_) ?_
            · simp only [List.mem_cons, List.not_mem_nil, or_false] at hq
              rcases hq with rfl | rfl | rfl | rfl | rfl | rfl <;> simp [stL, lv_args, Value.category]
            exact xww_8 hX0 hS0 hB wf m (s + 1) _ ws (by omega) (oneW_ok hk i6) hG hO (by unfold oneW; rw [if_neg (fun k => by rw [q3] at k; exact absurd k.2 Bool.false_ne_true)]; exact hK) kk
          · refine V_aload (v := ad 28) mi_93_45 (by simp [stL, lv_args, Value.category]) ?_
            refine V_aload (v := ad 4) mi_93_46 (by simp [stL, lv_args, Value.category]) ?_
            refine V_iload (v := Int32.ofInt ((s : Int))) mi_93_47 (by simp [stL, lv_args, Value.category]) ?_
            refine V_aload (v := ad 28) mi_93_49 (by simp [stL, lv_args, Value.category]) ?_
            refine V_iload (v := Int32.ofInt ((s : Int))) mi_93_50 (by simp [stL, lv_args, Value.category]) ?_
            refine V_cO (As := [.int (Int32.ofInt ((s : Int)))]) (st := [.int (Int32.ofInt ((s : Int))), .ref (ad 4), .ref (ad 28)]) mi_93_52 (by omega) (by decide +kernel) (by decide +kernel) (by omega) g28o hG (prs_ct (s := s) hG (by omega) hprs) (by omega) (show 1 = mN 89 by decide +kernel) (by simp [Value.category]) ?_
            rintro r w3 ⟨e3, rfl⟩
            rw [e3]
            refine V_cO (As := [.ref (ad 4), .int (Int32.ofInt ((s : Int))), .int (Int32.ofInt (orI (preP G s) (G 3).toNat))]) (st := []) mi_93_55 (by omega) (by decide +kernel) (by decide +kernel) (by omega) g28o hG (sprw_ct (P := preP G s) hG hX hB hk hK (s := s) (by omega)) (by omega) (show 3 = mN 92 by decide +kernel) (by simp [Value.category]) ?_
            rintro r w4 ⟨rfl, G4, k4, o4⟩
            refine V_pop mi_93_58 (by simp [Value.category]) ?_
            refine V_iinc (v := Int32.ofInt (((cntH G (G 4).toNat h + cntS G h s : Nat) : Int))) mi_93_59 (by simp [stL, lv_args, Value.category]) ?_
            rw [ia2]
            rw [show ((cntH G (G 4).toNat h + cntS G h s : Nat) : Int) + (1) = ((cntH G (G 4).toNat h + cntS G h (s + 1) : Nat) : Int) by omega]
            refine V_goto mi_93_62 ?_
            refine V_sub (lv' := [(0, .ref (ad 28)), (1, .ref (ad 4)), (2, .int (Int32.ofInt ((f : Int)))), (3, .int (Int32.ofInt ((o : Int)))), (4, .int (hz)), (5, .int (Int32.ofInt (((cntH G (G 4).toNat h + cntS G h (s + 1) : Nat) : Int))))]) (fun q hq => ?_) ?_
            · simp only [List.mem_cons, List.not_mem_nil, or_false] at hq
              rcases hq with rfl | rfl | rfl | rfl | rfl | rfl <;> simp [stL, lv_args, Value.category]
            exact xww_8 hX0 hS0 hB wf m (s + 1) _ w4 (by omega) (oneW_ok hk i6) G4 (fun c j hc => (o4 c j (by omega)).trans (hO c j hc)) (by unfold oneW; rw [if_pos ⟨hn, q3⟩, pW_T]; exact k4) kk
    · have es : sayW G (huB hz) heT dxI h (m + 1) s S = sayW G (huB hz) heT dxI h m (s + 1) S := by
        show sayW G (huB hz) heT dxI h m (s + 1) (if sWhn G s = h then _ else S) = _
        rw [if_neg e]
      rw [es] at kk
      rw [← cntS_no e]
      exact xww_8 hX0 hS0 hB wf m (s + 1) S ws (by omega) hk hG hO hK kk
theorem xwh_8 {G : Nat → Int} {w0 : va_W} (hX0 : HX 4 G w0) (hS0 : STO G w0) (hB : HB G) (wf : WF G) {f o : Nat} {hz : Int32} (hf : (f : Int) < G 3) (ho : o < 6) {post : Option Value → va_W → Prop} : ∀ (m h : Nat) (ws : va_W), ((h + m : Nat) : Int) = G 2 → kOK (htS G hz h).1.K → GOK ad tys GG ws → XSC w0 ws → XKN G (htS G hz h).1.K ws → (∀ w : va_W, GOK ad tys GG w → XSC w0 w → post (some (.int (bI (hshB G hz f o)))) w) → V l D tys A 93 4 0 0 post 0 0 8 [(0, .ref (ad 28)), (1, .ref (ad 4)), (2, .int (Int32.ofInt ((f : Int)))), (3, .int (Int32.ofInt ((o : Int)))), (4, .int (hz)), (5, .int (Int32.ofInt (((cntH G (G 4).toNat h : Nat) : Int))))] [] ws
  | 0, h, ws, hm, hk, hG, hO, hK, kk => by
    have hX : HX 4 G ws := XSC_X hO hX0
    have b4 := hB.b4
    have b3 := hB.b3
    have e0 : h = (G 2).toNat := by omega
    have ec : cntH G (G 4).toNat h = (G 4).toNat := by rw [e0]; exact cntH_all _ (WF_n hB wf)
    rw [e0] at hK hk
    refine V_iload (v := Int32.ofInt (((cntH G (G 4).toNat h : Nat) : Int))) mi_93_8 (by simp [stL, lv_args, Value.category]) ?_
    refine V_aload (v := ad 4) mi_93_10 (by simp [stL, lv_args, Value.category]) ?_
    refine V_gO mi_93_11 g4o hG (show rd _ 4 5 = some (.int (Int32.ofInt (G 4))) from hx0 hX (i := 5) (by omega)) ?_
    refine V_cge mi_93_14 ⟨by omega, by omega⟩ ⟨by omega, by omega⟩ (fun q => ?_) (fun q => ?_)
    · refine V_aload (v := ad 28) mi_93_65 (by simp [stL, lv_args, Value.category]) ?_
      refine V_iload (v := Int32.ofInt ((f : Int))) mi_93_66 (by simp [stL, lv_args, Value.category]) ?_
      refine V_iload (v := Int32.ofInt ((o : Int))) mi_93_67 (by simp [stL, lv_args, Value.category]) ?_
      refine V_cO (As := [.int (Int32.ofInt ((f : Int))), .int (Int32.ofInt ((o : Int)))]) (st := []) mi_93_68 (by omega) (by decide +kernel) (by decide +kernel) (by omega) g28o hG (bts_ct (f := f) (o := o) hG (by omega) ho (hK _ (by omega) (by omega))) (by omega) (show 2 = mN 88 by decide +kernel) (by simp [Value.category]) ?_
      rintro r w2 ⟨e2, rfl⟩
      rw [e2]
      refine V_aload (v := ad 4) mi_93_71 (by simp [stL, lv_args, Value.category]) ?_
      refine V_iload (v := Int32.ofInt ((o : Int))) mi_93_72 (by simp [stL, lv_args, Value.category]) ?_
      refine V_cO (As := [.int (Int32.ofInt ((o : Int)))]) (st := [.int (Int32.ofInt ((htS G hz (G 2).toNat).1.K (6 * f + o)))]) mi_93_73 (by omega) (by decide +kernel) (by decide +kernel) (by omega) g4o hG (alf_ct (f := o) hG hX hB ho) (by omega) (show 1 = mN 108 by decide +kernel) (by simp [Value.category]) ?_
      rintro r w3 ⟨e3, rfl⟩
      rw [e3]
      have bk := hk (6 * f + o) (by omega)
      have ib : I32 (allV (G (6 + 7 * o))) := i32b _
      refine V_cne mi_93_76 ⟨by omega, by omega⟩ ib (fun q2 => ?_) (fun q2 => ?_)
      · refine V_ipush mi_93_83 ?_
        exact V_retI mi_93_84 (fun _ => by decide) (by have k := kk _ hG hO; rw [show hshB G hz f o = false from decide_eq_false q2] at k; exact k)
      · refine V_ipush mi_93_79 ?_
        refine V_goto mi_93_80 ?_
        exact V_retI mi_93_84 (fun _ => by decide) (by have k := kk _ hG hO; rw [show hshB G hz f o = true from decide_eq_true q2] at k; exact k)
    · exact absurd q (by omega)
  | m + 1, h, ws, hm, hk, hG, hO, hK, kk => by
    have b4 := hB.b4
    have g := xww_8 (l := l) (D := D) (A := A) (f := f) (o := o) (post := post) hX0 hS0 hB wf (h := h) (G 4).toNat 0 (htS G hz h) ws (by omega) hk hG hO hK (fun w g o' k kk2 => xwh_8 hX0 hS0 hB wf hf ho m (h + 1) w (by omega) kk2 g o' k kk)
    exact g
theorem xww_ct {G : Nat → Int} (hG : GOK ad tys GG ws) (hX : HX 4 G ws) (hS : STO G ws) (hB : HB G) (wf : WF G) {f o : Nat} {hz : Int32} (hf : (f : Int) < G 3) (ho : o < 6) : CT l D tys A 93 4 0 0 [.ref (ad 28), .ref (ad 4), .int (Int32.ofInt ((f : Int))), .int (Int32.ofInt ((o : Int))), .int (hz)] ws (fun r w => (GOK ad tys GG w ∧ XSC ws w) ∧ r = some (.int (bI (hshB G hz f o)))) := by
  refine CT_of_V (by omega) (show (5 : Nat) ≤ mML 93 by decide +kernel) ?_
  have b2 := hB.b2
  refine V_aload (v := ad 28) mi_93_0 (by simp [stL, lv_args, Value.category]) ?_
  refine V_aload (v := ad 4) mi_93_1 (by simp [stL, lv_args, Value.category]) ?_
  refine V_cO (As := [.ref (ad 4)]) (st := []) mi_93_2 (by omega) (by decide +kernel) (by decide +kernel) (by omega) g28o hG (bgn_ct hG hX hB) (by omega) (show 1 = mN 87 by decide +kernel) (by simp [Value.category]) ?_
  rintro r w1 ⟨rfl, G1, k1, o1⟩
  refine V_ipush mi_93_5 ?_
  refine V_istore mi_93_6 ?_
  refine V_sub (lv' := [(0, .ref (ad 28)), (1, .ref (ad 4)), (2, .int (Int32.ofInt ((f : Int)))), (3, .int (Int32.ofInt ((o : Int)))), (4, .int (hz)), (5, .int (Int32.ofInt (0)))]) (fun q hq => ?_) ?_
  · simp only [List.mem_cons, List.not_mem_nil, or_false] at hq
    rcases hq with rfl | rfl | rfl | rfl | rfl | rfl <;> simp [stL, lv_args, Value.category]
  rw [show Int32.ofInt (0 : Int) = Int32.ofInt ((cntH G (G 4).toNat 0 : Nat) : Int) from rfl]
  exact xwh_8 hX hS hB wf hf ho (G 2).toNat 0 w1 (by omega) (ini_ok hB) G1 (fun c j hc => o1 c j (by omega)) k1 (fun w g o2 => ⟨⟨g, o2⟩, rfl⟩)
def MoH (hz : Int32) (_ : Int) (w : va_W) : Prop := rd w 90 21 = some (.int hz) ∧ rd w 90 24 = some (.int (Int32.ofInt 0)) ∧ rd w 90 22 = some (.int (Int32.ofInt (-1)))
theorem heaH {G : Nat → Int} {hz : Int32} (hB : HB G) : HEA l D tys A ad G hz (huB hz) heT dxI (MoH hz) :=
  ⟨fun x w w2 h o => ⟨(o _ _ (by omega) (by omega)).trans h.1, (o _ _ (by omega) (by omega)).trans h.2.1, (o _ _ (by omega) (by omega)).trans h.2.2⟩, fun x w h => h.1, fun s _ => huB_i hz s, fun s x f w hs hf hG hW hM hp => ⟨1, by omega, CT_post (hea_ct (f := f) (s := s) (by have := hB.b3; omega) hs hG hM.2.1 hM.2.2) (fun r w2 h => by
    obtain ⟨e, h⟩ := h
    subst e
    exact ⟨h, hG, hM, fun _ _ _ => rfl⟩)⟩, fun _ _ _ _ => rfl, fun _ _ => rfl⟩
theorem mwh2_ct {G : Nat → Int} (hG : GOK ad tys GG ws) (hW : W91 G ws) (hB : HB G) (h24 : rd ws 90 24 = some (.int (Int32.ofInt 0))) (h22 : rd ws 90 22 = some (.int (Int32.ofInt (-1)))) {f o : Nat} {hz : Int32} (hf : f < 6) (ho : o < 6) : CT l D tys A 284 8 0 0 [.ref (ad 90), .int (Int32.ofInt ((f : Int))), .int (Int32.ofInt ((o : Int))), .int (hz)] ws (fun r w => (GOK ad tys GG w ∧ (∀ c j, ¬ (98 ≤ c ∧ c ≤ 101) → ¬ (c = 90 ∧ (j = 18 ∨ j = 21 ∨ j = 25)) → rd w c j = rd ws c j) ∧ rd w 90 21 = some (.int (Int32.ofInt 0))) ∧ r = some (.int (bI (hshB G hz f o)))) := by
  refine CT_of_V (by omega) (show (4 : Nat) ≤ mML 284 by decide +kernel) ?_
  have b2 := hB.b2
  have b3 := hB.b3
  refine V_aload (v := ad 90) mi_284_0 (by simp [stL, lv_args, Value.category]) ?_
  refine V_iload (v := hz) mi_284_1 (by simp [stL, lv_args, Value.category]) ?_
  refine V_putI mi_284_2 hG f21m (by omega) rfl (by decide +kernel) (i32b _).1 (i32b _).2 (fun w1 G1 U1 => ?_)
  have hW1 : W91 G w1 := fun j hj => (upd_ne U1 (by omega)).trans (hW j hj)
  refine V_aload (v := ad 90) mi_284_5 (by simp [stL, lv_args, Value.category]) ?_
  refine V_callM (As := []) (st := []) mi_284_6 (by omega) (by decide +kernel) (by decide +kernel) G1 (gonw_ct (heaH hB) (x0 := 0) hB G1 hW1 ⟨upd_eq U1, (upd_ne U1 (by omega)).trans h24, (upd_ne U1 (by omega)).trans h22⟩) (by omega) (show 0 = mN 237 by decide +kernel) (by simp [Value.category]) ?_
  rintro r w2 ⟨rfl, T2, k2, o2⟩
  refine V_aload (v := ad 90) mi_284_9 (by simp [stL, lv_args, Value.category]) ?_
  refine V_ipush mi_284_10 ?_
  refine V_putI mi_284_11 T2.g f21m (by omega) rfl (by decide +kernel) (by rw [Int32.toInt_ofInt_of_le (by omega) (by omega)]; omega) (by rw [Int32.toInt_ofInt_of_le (by omega) (by omega)]; omega) (fun w3 G3 U3 => ?_)
  have hW3 : W91 G w3 := fun j hj => (upd_ne U3 (by omega)).trans ((o2 _ _ (by omega) (by omega)).trans (hW1 j hj))
  have bk := tellW_ok (hu := huB hz) (he := heT) (dx := dxI) (x0 := 0) hB (G 2).toNat (6 * f + o) (by omega)
  refine V_aload (v := ad 90) mi_284_14 (by simp [stL, lv_args, Value.category]) ?_
  refine V_iload (v := Int32.ofInt ((f : Int))) mi_284_15 (by simp [stL, lv_args, Value.category]) ?_
  refine V_iload (v := Int32.ofInt ((o : Int))) mi_284_16 (by simp [stL, lv_args, Value.category]) ?_
  refine V_callM (As := [.int (Int32.ofInt ((f : Int))), .int (Int32.ofInt ((o : Int)))]) (st := []) mi_284_17 (by omega) (by decide +kernel) (by decide +kernel) G3 (wez_ct hB G3 hW3 (f := f) (o := o) (z := (htS G hz (G 2).toNat).1.K (6 * f + o)) ⟨by show -2147483648 ≤ (tellW G (huB hz) heT dxI 0 (G 2).toNat).1.K (6 * f + o); omega, by show (tellW G (huB hz) heT dxI 0 (G 2).toNat).1.K (6 * f + o) ≤ 2147483647; omega⟩ hf ho ((upd_ne U3 (by omega)).trans (k2 (G 2).toNat (by omega) (6 * f + o) (by omega)))) (by omega) (show 2 = mN 242 by decide +kernel) (by simp [Value.category]) ?_
  rintro r w4 ⟨rfl, rfl⟩
  exact V_retI mi_284_20 (fun _ => by show bI (hshB G hz f o) &&& 1 = bI (hshB G hz f o); cases hshB G hz f o <;> decide) ⟨⟨G3, fun c j h1 h2 => (upd_ne U3 (by omega)).trans ((o2 c j h1 (by omega)).trans (upd_ne U1 (by omega))), upd_eq U3⟩, rfl⟩
end XUB
