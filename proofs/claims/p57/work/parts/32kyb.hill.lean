section XUB
variable {l : Launch} {D : va_G} {tys : List (ClassId × FieldType)} {A : Nat → Prop} {ad : Nat → Nat} {ws : va_W}
theorem sprw_28 {P : Nat → Bool} {G K : Nat → Int} {w0 : va_W} {s : Nat} {post : Option Value → va_W → Prop} (hB : HB G) (hs : s < 12) (hX0 : HX 4 G w0) (hk : kOK K) : ∀ (m f : Nat) (w : va_W), ((f + m : Nat) : Int) = G 3 → GOK ad tys GG w → XKN G (spW P G s f K) w → (∀ c j, c ≠ 31 → rd w c j = rd w0 c j) → (∀ w' : va_W, GOK ad tys GG w' → XKN G (spW P G s (G 3).toNat K) w' → (∀ c j, c ≠ 31 → rd w' c j = rd w0 c j) → post (some (.int (Int32.ofInt (orI (lrW P G K s) (G 3).toNat)))) w') → V l D tys A 92 2 0 0 post 0 0 28 [(0, .ref (ad 28)), (1, .ref (ad 4)), (2, .int (Int32.ofInt ((s : Int)))), (3, .int (Int32.ofInt (orI (P) (G 3).toNat))), (4, .int (Int32.ofInt ((sWhs G s : Int)))), (5, .int (ibF 8 (Int32.ofInt 1) (Int32.ofInt (sWhi G s : Int)))), (6, .int (Int32.ofInt (orI (lrW P G K s) f))), (7, .int (Int32.ofInt ((f : Int))))] [] w
  | 0, f, w, hm, hG, hK, ho, kk => by
    have hX : HX 4 G w := HX_keep hX0 (fun c' i h1 h2 => ho _ _ (by omega))
    have b3 := hB.b3
    have b4 := hB.b4
    obtain ⟨⟨w6, o6, i6, n24⟩, -⟩ := say_b hB (s := s) (by omega)
    refine V_iload (v := Int32.ofInt ((f : Int))) mi_92_28 (by simp [stL, lv_args, Value.category]) ?_
    refine V_aload (v := ad 4) mi_92_30 (by simp [stL, lv_args, Value.category]) ?_
    refine V_gO mi_92_31 g4o hG (show rd _ 4 4 = some (.int (Int32.ofInt (G 3))) from hx0 hX (i := 4) (by omega)) ?_
    refine V_cge mi_92_34 ⟨by omega, by omega⟩ ⟨by omega, by omega⟩ (fun q => ?_) (fun q => ?_)
    · have e : f = (G 3).toNat := by omega
      rw [e] at hK
      rw [e]
      refine V_iload (v := Int32.ofInt (orI (lrW P G K s) (G 3).toNat)) mi_92_101 (by simp [stL, lv_args, Value.category]) ?_
      exact V_retI mi_92_103 (fun h => absurd h (by decide +kernel)) (kk w hG hK ho)
    · exact absurd q (by omega)
  | m + 1, f, w, hm, hG, hK, ho, kk => by
    have hX : HX 4 G w := HX_keep hX0 (fun c' i h1 h2 => ho _ _ (by omega))
    have b3 := hB.b3
    have b4 := hB.b4
    obtain ⟨⟨w6, o6, i6, n24⟩, -⟩ := say_b hB (s := s) (by omega)
    refine V_iload (v := Int32.ofInt ((f : Int))) mi_92_28 (by simp [stL, lv_args, Value.category]) ?_
    refine V_aload (v := ad 4) mi_92_30 (by simp [stL, lv_args, Value.category]) ?_
    refine V_gO mi_92_31 g4o hG (show rd _ 4 4 = some (.int (Int32.ofInt (G 3))) from hx0 hX (i := 4) (by omega)) ?_
    refine V_cge mi_92_34 ⟨by omega, by omega⟩ ⟨by omega, by omega⟩ (fun q => ?_) (fun q => ?_)
    · exact absurd q (by omega)
    · have ob := orI_bd (P := P) (f := (G 3).toNat) (by omega)
      have p1 := (tb_k (a := orI (P) (G 3).toNat) (i := (f : Int)) ob.1 ob.2 (by omega) (by omega)).1
      rw [tb_orI (by omega) _ (by omega), decide_eq_true (show f < (G 3).toNat by omega), Bool.true_and] at p1
      have bk := hk (6 * f + sWhs G s) (by omega)
      obtain ⟨t1, t2, t3⟩ := tb_k (a := K (6 * f + sWhs G s)) (i := (sWhi G s : Int)) bk.1 bk.2 (by omega) (by omega)
      have hKn : rd w 31 (6 * f + sWhs G s) = some (.int (Int32.ofInt (K (6 * f + sWhs G s)))) := by rw [hK _ (by omega) (by omega), spW_new o6]
      refine V_iload (v := Int32.ofInt (orI (P) (G 3).toNat)) mi_92_37 (by simp [stL, lv_args, Value.category]) ?_
      refine V_iload (v := Int32.ofInt ((f : Int))) mi_92_38 (by simp [stL, lv_args, Value.category]) ?_
      refine V_ibin mi_92_40 (by omega) ?_
      refine V_ipush mi_92_41 ?_
      refine V_ibin mi_92_42 (by omega) ?_
      rw [p1]
      refine V_beq mi_92_43  (fun q2 => ?_) (fun q2 => ?_)
      · have lf : lrW P G K s f = false := by unfold lrW; rw [q2, Bool.false_and]
        rw [← orI_s0 (P := lrW P G K s) lf]
        refine V_iinc (v := Int32.ofInt ((f : Int))) mi_92_95 (by simp [stL, lv_args, Value.category]) ?_
        rw [ia2]
        refine V_goto mi_92_98 ?_
        refine V_sub (lv' := [(0, .ref (ad 28)), (1, .ref (ad 4)), (2, .int (Int32.ofInt ((s : Int)))), (3, .int (Int32.ofInt (orI (P) (G 3).toNat))), (4, .int (Int32.ofInt ((sWhs G s : Int)))), (5, .int (ibF 8 (Int32.ofInt 1) (Int32.ofInt (sWhi G s : Int)))), (6, .int (Int32.ofInt (orI (lrW P G K s) (f + 1)))), (7, .int (Int32.ofInt (((f + 1 : Nat) : Int))))]) (fun q hq => ?_) ?_
        · simp only [List.mem_cons, List.not_mem_nil, or_false] at hq
          rcases hq with rfl | rfl | rfl | rfl | rfl | rfl | rfl | rfl <;> simp [stL, lv_args, Value.category]
        exact sprw_28 hB hs hX0 hk m (f + 1) w (by omega) hG (by rw [spW_skip q2]; exact hK) ho kk
      · refine V_aload (v := ad 28) mi_92_46 (by simp [stL, lv_args, Value.category]) ?_
        refine V_iload (v := Int32.ofInt ((f : Int))) mi_92_47 (by simp [stL, lv_args, Value.category]) ?_
        refine V_iload (v := Int32.ofInt ((sWhs G s : Int))) mi_92_49 (by simp [stL, lv_args, Value.category]) ?_
        refine V_cO (As := [.int (Int32.ofInt ((f : Int))), .int (Int32.ofInt ((sWhs G s : Int)))]) (st := []) mi_92_51 (by omega) (by decide +kernel) (by decide +kernel) (by omega) g28o hG (bts_ct (f := f) (o := sWhs G s) hG (by omega) o6 hKn) (by omega) (show 2 = mN 88 by decide +kernel) (by simp [Value.category]) ?_
        rintro r w1 ⟨e1, rfl⟩
        rw [e1]
        refine V_iload (v := ibF 8 (Int32.ofInt 1) (Int32.ofInt (sWhi G s : Int))) mi_92_54 (by simp [stL, lv_args, Value.category]) ?_
        refine V_ibin mi_92_56 (by omega) ?_
        refine V_rne mi_92_57 (fun q3 => ?_) (fun q3 => ?_)
        · have tt : tb (K (6 * f + sWhs G s)) (sWhi G s : Int) = true := by
            cases h : tb (K (6 * f + sWhs G s)) (sWhi G s : Int)
            · exact absurd (t3.mpr h) q3
            · rfl
          have lf : lrW P G K s f = false := by unfold lrW; rw [q2, tt]; rfl
          rw [← orI_s0 (P := lrW P G K s) lf]
          refine V_iinc (v := Int32.ofInt ((f : Int))) mi_92_95 (by simp [stL, lv_args, Value.category]) ?_
          rw [ia2]
          refine V_goto mi_92_98 ?_
          refine V_sub (lv' := [(0, .ref (ad 28)), (1, .ref (ad 4)), (2, .int (Int32.ofInt ((s : Int)))), (3, .int (Int32.ofInt (orI (P) (G 3).toNat))), (4, .int (Int32.ofInt ((sWhs G s : Int)))), (5, .int (ibF 8 (Int32.ofInt 1) (Int32.ofInt (sWhi G s : Int)))), (6, .int (Int32.ofInt (orI (lrW P G K s) (f + 1)))), (7, .int (Int32.ofInt (((f + 1 : Nat) : Int))))]) (fun q hq => ?_) ?_
          · simp only [List.mem_cons, List.not_mem_nil, or_false] at hq
            rcases hq with rfl | rfl | rfl | rfl | rfl | rfl | rfl | rfl <;> simp [stL, lv_args, Value.category]
          refine sprw_28 hB hs hX0 hk m (f + 1) w (by omega) hG (fun j hj hp => ?_) ho kk
          rw [spW_step q2 o6]
          show _ = some (Value.int (Int32.ofInt (if j = 6 * f + sWhs G s then _ else _)))
          by_cases e : j = 6 * f + sWhs G s
          · rw [if_pos e, e, t2 tt]
            exact hKn
          · rw [if_neg e]
            exact hK j hj hp
        · have lf : lrW P G K s f = true := by unfold lrW; rw [q2, t3.mp q3]; rfl
          refine V_aload (v := ad 28) mi_92_60 (by simp [stL, lv_args, Value.category]) ?_
          refine V_gR mi_92_61 g28r2 (by omega) hG ?_
          refine V_iload (v := Int32.ofInt ((f : Int))) mi_92_64 (by simp [stL, lv_args, Value.category]) ?_
          refine V_ipush mi_92_66 ?_
          refine V_ibin mi_92_68 (by omega) ?_
          rw [ib2]
          refine V_iload (v := Int32.ofInt ((sWhs G s : Int))) mi_92_69 (by simp [stL, lv_args, Value.category]) ?_
          refine V_ibin mi_92_71 (by omega) ?_
          rw [ib0]
          rw [show (f : Int) * (6) + (sWhs G s : Int) = ((6 * f + sWhs G s : Nat) : Int) by omega]
          refine V_aload (v := ad 28) mi_92_72 (by simp [stL, lv_args, Value.category]) ?_
          refine V_iload (v := Int32.ofInt ((f : Int))) mi_92_73 (by simp [stL, lv_args, Value.category]) ?_
          refine V_iload (v := Int32.ofInt ((sWhs G s : Int))) mi_92_75 (by simp [stL, lv_args, Value.category]) ?_
          refine V_cO (As := [.int (Int32.ofInt ((f : Int))), .int (Int32.ofInt ((sWhs G s : Int)))]) (st := [.int (Int32.ofInt (((6 * f + sWhs G s : Nat) : Int))), .ref (ad 31)]) mi_92_77 (by omega) (by decide +kernel) (by decide +kernel) (by omega) g28o hG (bts_ct (f := f) (o := sWhs G s) hG (by omega) o6 hKn) (by omega) (show 2 = mN 88 by decide +kernel) (by simp [Value.category]) ?_
          rintro r w2 ⟨e2, rfl⟩
          rw [e2]
          refine V_iload (v := ibF 8 (Int32.ofInt 1) (Int32.ofInt (sWhi G s : Int))) mi_92_80 (by simp [stL, lv_args, Value.category]) ?_
          refine V_ibin mi_92_82 (by omega) ?_
          rw [bitO_i]
          refine V_stat (As := [.ref (ad 31), .int (Int32.ofInt (((6 * f + sWhs G s : Nat) : Int))), .int (Int32.ofInt (bitO (K (6 * f + sWhs G s)) (sWhi G s : Int)))]) (st := []) mi_92_83 (by omega) (putk_ct (j := 6 * f + sWhs G s) a31 hG (by omega) (by omega)) (by omega) (show 3 = mN 148 by decide +kernel) (by simp [Value.category]) ⟨Nat.le_refl _, Nat.le_refl _⟩ ?_
          rintro r w3 ⟨rfl, G3, U3⟩
          refine V_iload (v := Int32.ofInt (orI (lrW P G K s) f)) mi_92_86 (by simp [stL, lv_args, Value.category]) ?_
          refine V_ipush mi_92_88 ?_
          refine V_iload (v := Int32.ofInt ((f : Int))) mi_92_89 (by simp [stL, lv_args, Value.category]) ?_
          refine V_ibin mi_92_91 (by omega) ?_
          refine V_ibin mi_92_92 (by omega) ?_
          rw [bitO_i, ← orI_s1 (P := lrW P G K s) lf]
          refine V_istore mi_92_93 ?_
          refine V_iinc (v := Int32.ofInt ((f : Int))) mi_92_95 (by simp [stL, lv_args, Value.category]) ?_
          rw [ia2]
          refine V_goto mi_92_98 ?_
          refine V_sub (lv' := [(0, .ref (ad 28)), (1, .ref (ad 4)), (2, .int (Int32.ofInt ((s : Int)))), (3, .int (Int32.ofInt (orI (P) (G 3).toNat))), (4, .int (Int32.ofInt ((sWhs G s : Int)))), (5, .int (ibF 8 (Int32.ofInt 1) (Int32.ofInt (sWhi G s : Int)))), (6, .int (Int32.ofInt (orI (lrW P G K s) (f + 1)))), (7, .int (Int32.ofInt (((f + 1 : Nat) : Int))))]) (fun q hq => ?_) ?_
          · simp only [List.mem_cons, List.not_mem_nil, or_false] at hq
            rcases hq with rfl | rfl | rfl | rfl | rfl | rfl | rfl | rfl <;> simp [stL, lv_args, Value.category]
          · refine sprw_28 hB hs hX0 hk m (f + 1) w3 (by omega) G3 (fun j hj hp => ?_) (fun c j hc => (upd_ne U3 (by omega)).trans (ho c j hc)) kk
            rw [spW_step q2 o6]
            show _ = some (Value.int (Int32.ofInt (if j = 6 * f + sWhs G s then _ else _)))
            by_cases e : j = 6 * f + sWhs G s
            · rw [if_pos e, e]
              exact upd_eq U3
            · rw [if_neg e]
              exact (upd_ne U3 (by omega)).trans (hK j hj hp)
theorem sprw_ct {G : Nat → Int} (hG : GOK ad tys GG ws) (hX : HX 4 G ws) (hB : HB G) {P : Nat → Bool} {K : Nat → Int} (hk : kOK K) (hK : XKN G K ws) {s : Nat} (hs : s < 12) : CT l D tys A 92 2 0 0 [.ref (ad 28), .ref (ad 4), .int (Int32.ofInt ((s : Int))), .int (Int32.ofInt (orI (P) (G 3).toNat))] ws (fun r w => r = some (.int (Int32.ofInt (orI (lrW P G K s) (G 3).toNat))) ∧ GOK ad tys GG w ∧ XKN G (spW P G s (G 3).toNat K) w ∧ ∀ c j, c ≠ 31 → rd w c j = rd ws c j) := by
  refine CT_of_V (by omega) (show (4 : Nat) ≤ mML 92 by decide +kernel) ?_
  have b4 := hB.b4
  have b3 := hB.b3
  obtain ⟨⟨w6, o6, i6, n24⟩, g0, g1, g2, g3⟩ := say_b hB (s := s) (by omega)
  refine V_aload (v := ad 4) mi_92_0 (by simp [stL, lv_args, Value.category]) ?_
  refine V_gR mi_92_1 g4r14 (by omega) hG ?_
  refine V_iload (v := Int32.ofInt ((s : Int))) mi_92_4 (by simp [stL, lv_args, Value.category]) ?_
  refine V_stat (As := [.ref (ad 13), .int (Int32.ofInt ((s : Int)))]) (st := []) mi_92_5 (by omega) (atk_ct a13 hG (by omega) (by omega) (say_rd hX (k := s) (r := 1) (by omega) (by omega))) (by omega) (show 2 = mN 147 by decide +kernel) (by simp [Value.category]) ⟨Nat.le_refl _, Nat.le_refl _⟩ ?_
  rintro r w1 ⟨e1, rfl⟩
  rw [e1, g1]
  refine V_istore mi_92_8 ?_
  refine V_ipush mi_92_10 ?_
  refine V_aload (v := ad 4) mi_92_11 (by simp [stL, lv_args, Value.category]) ?_
  refine V_gR mi_92_12 g4r15 (by omega) hG ?_
  refine V_iload (v := Int32.ofInt ((s : Int))) mi_92_15 (by simp [stL, lv_args, Value.category]) ?_
  refine V_stat (As := [.ref (ad 14), .int (Int32.ofInt ((s : Int)))]) (st := [.int (Int32.ofInt (1))]) mi_92_16 (by omega) (atk_ct a14 hG (by omega) (by omega) (say_rd hX (k := s) (r := 2) (by omega) (by omega))) (by omega) (show 2 = mN 147 by decide +kernel) (by simp [Value.category]) ⟨Nat.le_refl _, Nat.le_refl _⟩ ?_
  rintro r w1 ⟨e1, rfl⟩
  rw [e1, g2]
  refine V_ibin mi_92_19 (by omega) ?_
  refine V_istore mi_92_20 ?_
  refine V_ipush mi_92_22 ?_
  refine V_istore mi_92_23 ?_
  refine V_ipush mi_92_25 ?_
  refine V_istore mi_92_26 ?_
  refine V_sub (lv' := [(0, .ref (ad 28)), (1, .ref (ad 4)), (2, .int (Int32.ofInt ((s : Int)))), (3, .int (Int32.ofInt (orI (P) (G 3).toNat))), (4, .int (Int32.ofInt ((sWhs G s : Int)))), (5, .int (ibF 8 (Int32.ofInt 1) (Int32.ofInt (sWhi G s : Int)))), (6, .int (Int32.ofInt (0))), (7, .int (Int32.ofInt (((0 : Nat) : Int))))]) (fun q hq => ?_) ?_
  · simp only [List.mem_cons, List.not_mem_nil, or_false] at hq
    rcases hq with rfl | rfl | rfl | rfl | rfl | rfl | rfl | rfl <;> simp [stL, lv_args, Value.category]
  exact sprw_28 (w0 := ws) hB hs hX hk (G 3).toNat 0 ws (by omega) hG (by rw [spW_0]; exact hK) (fun _ _ _ => rfl) (fun w2 G2 k2 o2 => ⟨rfl, G2, k2, o2⟩)
theorem and1 (y : Int32) : ibF 5 y (Int32.ofInt 1) = Int32.ofInt 0 ∨ ibF 5 y (Int32.ofInt 1) = Int32.ofInt 1 := by
  have h : (y &&& 1).toBitVec.toNat = y.toBitVec.toNat % 2 := by
    show (y.toBitVec &&& 1#32).toNat = _
    rw [BitVec.toNat_and]
    exact Nat.and_one_is_mod _
  rcases Nat.mod_two_eq_zero_or_one y.toBitVec.toNat with e | e
  · left
    show y &&& 1 = 0
    exact Int32.toBitVec_inj.1 (BitVec.eq_of_toNat_eq (by rw [h, e]; rfl))
  · right
    show y &&& 1 = 1
    exact Int32.toBitVec_inj.1 (BitVec.eq_of_toNat_eq (by rw [h, e]; rfl))
/-- whether s is hushed, by bits -/
noncomputable def huB (hz : Int32) (s : Nat) : Bool := decide (ibF 5 (ibF 9 hz (Int32.ofInt (s : Int))) (Int32.ofInt 1) = Int32.ofInt 1)
theorem huB_i (hz : Int32) (s : Nat) : ibF 5 (ibF 9 hz (Int32.ofInt (s : Int))) (Int32.ofInt 1) = Int32.ofInt (if huB hz s = true then 1 else 0) := by
  unfold huB
  rcases and1 (ibF 9 hz (Int32.ofInt (s : Int))) with e | e
  · rw [e, decide_eq_false (by decide), if_neg Bool.false_ne_true]
  · rw [e, decide_eq_true rfl, if_pos rfl]
noncomputable def dxI : Nat → Int → Nat → Int := fun _ x _ => x
theorem oneW_ok {G : Nat → Int} {hu : Nat → Bool} {he : Nat → Int → Nat → Bool} {dx : Nat → Int → Nat → Int} {s : Nat} {S : TT × Int} (h : kOK S.1.K) (hi : sWhi G s < 6) : kOK (oneW G hu he dx s S).1.K := by
  unfold oneW
  split
  · exact spW_ok h hi
  · exact h
theorem sayW_ok {G : Nat → Int} {hu : Nat → Bool} {he : Nat → Int → Nat → Bool} {dx : Nat → Int → Nat → Int} {h : Nat} (hB : HB G) : ∀ (m s : Nat) (S : TT × Int), s + m ≤ 12 → kOK S.1.K → kOK (sayW G hu he dx h m s S).1.K
  | 0, s, S, _, k => k
  | m + 1, s, S, hm, k => by
    obtain ⟨⟨w6, o6, i6, n24⟩, -⟩ := say_b hB (s := s) (by omega)
    unfold sayW
    split
    · exact sayW_ok hB m (s + 1) _ (by omega) (oneW_ok k i6)
    · exact sayW_ok hB m (s + 1) _ (by omega) k
theorem tellW_ok {G : Nat → Int} {hu : Nat → Bool} {he : Nat → Int → Nat → Bool} {dx : Nat → Int → Nat → Int} {x0 : Int} (hB : HB G) : ∀ h : Nat, kOK (tellW G hu he dx x0 h).1.K
  | 0 => ini_ok hB
  | h + 1 => sayW_ok hB _ _ _ (by have := hB.b4; omega) (tellW_ok hB h)
/-- the reference's frame -/
noncomputable def MTW (w0 w : va_W) : Prop := ∀ c j, ¬ (98 ≤ c ∧ c ≤ 101) → ¬ (c = 90 ∧ (j = 18 ∨ j = 21 ∨ j = 23 ∨ j = 25)) → rd w c j = rd w0 c j
end XUB
