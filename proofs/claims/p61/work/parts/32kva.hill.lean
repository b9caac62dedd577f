section XVF
variable {l : Launch} {D : va_G} {tys : List (ClassId × FieldType)} {A : Nat → Prop} {ad : Nat → Nat} {ws : va_W}
/-- the rows that stand among the first j slots -/
def rwsN (sz : Nat → Int) : Nat → Nat
  | 0 => 0
  | j + 1 => if sz j < 0 then rwsN sz j else rwsN sz j + 1
theorem rwsN_le (sz : Nat → Int) : ∀ j, rwsN sz j ≤ j
  | 0 => Nat.le_refl _
  | j + 1 => by
    have := rwsN_le sz j
    unfold rwsN
    split <;> omega
def cntV (G : Nat → Int) (n r : Nat) (k : Int) : Int := if 0 ≤ k ∧ k ≤ 5 then G k.toNat else if k = 6 then (n : Int) else if k = 7 then (r : Int) else -1
theorem crX_4 {sz wds : Nat → Int} {nm : Nat → Int64} {post : Option Value → va_W → Prop} (hG : GOK ad tys GG ws) (h : SLX sz wds nm ws) (hB : SLB sz wds nm) : ∀ (m j : Nat), j + m = 4 → post (some (.int (Int32.ofInt (rwsN sz 4 : Int)))) ws → V l D tys A 171 3 0 0 post 0 0 4 [(0, .ref (ad 39)), (1, .int (Int32.ofInt ((rwsN sz j : Int)))), (2, .int (Int32.ofInt ((j : Int))))] [] ws
  | 0, j, hm, kk => by
    have rl := rwsN_le sz j
    refine V_iload (v := Int32.ofInt ((j : Int))) mi_171_4 (by simp [stL, stL2, lv_args, Value.category]) ?_
    refine V_ipush mi_171_5 ?_
    refine V_cge mi_171_6 ⟨by omega, by omega⟩ ⟨by omega, by omega⟩ (fun q => ?_) (fun q => ?_)
    · refine V_iload (v := Int32.ofInt ((rwsN sz j : Int))) mi_171_26 (by simp [stL, stL2, lv_args, Value.category]) ?_
      have e : j = 4 := by omega
      rw [e]
      exact V_retI mi_171_27 (fun h => absurd h (by decide +kernel)) kk
    · exact absurd q (by omega)
  | m + 1, j, hm, kk => by
    have rl := rwsN_le sz j
    refine V_iload (v := Int32.ofInt ((j : Int))) mi_171_4 (by simp [stL, stL2, lv_args, Value.category]) ?_
    refine V_ipush mi_171_5 ?_
    refine V_cge mi_171_6 ⟨by omega, by omega⟩ ⟨by omega, by omega⟩ (fun q => ?_) (fun q => ?_)
    · exact absurd q (by omega)
    · have g := h j (by omega)
      have b := hB j (by omega)
      refine V_aload (v := ad 39) mi_171_9 (by simp [stL, stL2, lv_args, Value.category]) ?_
      refine V_iload (v := Int32.ofInt ((j : Int))) mi_171_10 (by simp [stL, stL2, lv_args, Value.category]) ?_
      refine V_cO (As := [.int (Int32.ofInt ((j : Int)))]) (st := []) mi_171_11 (by omega) (by decide +kernel) (by decide +kernel) (by omega) g39o hG (baX_ct hG (by omega) ⟨by omega, by omega⟩ g.1) (by omega) (show 1 = mN 161 by decide +kernel) (by simp [Value.category]) ?_
      rintro r w1 ⟨e1, rfl⟩
      rw [e1]
      refine V_bne mi_171_14  (fun q2 => ?_) (fun q2 => ?_)
      · have e2 : rwsN sz (j + 1) = rwsN sz j := if_pos (of_decide_eq_true q2)
        rw [← e2]
        refine V_iinc (v := Int32.ofInt ((j : Int))) mi_171_20 (by simp [stL, stL2, lv_args, Value.category]) ?_
        rw [ia2]
        refine V_goto mi_171_23 ?_
        refine V_sub (lv' := [(0, .ref (ad 39)), (1, .int (Int32.ofInt ((rwsN sz (j + 1) : Int)))), (2, .int (Int32.ofInt (((j + 1 : Nat) : Int))))]) (fun q hq => ?_) ?_
        · simp only [List.mem_cons, List.not_mem_nil, or_false] at hq
          rcases hq with rfl | rfl | rfl <;> simp [stL, stL2, lv_args, Value.category]
        exact crX_4 hG h hB m (j + 1) (by omega) kk
      · have e2 : rwsN sz (j + 1) = rwsN sz j + 1 := if_neg (of_decide_eq_false q2)
        refine V_iinc (v := Int32.ofInt ((rwsN sz j : Int))) mi_171_17 (by simp [stL, stL2, lv_args, Value.category]) ?_
        rw [ia2]
        rw [show (rwsN sz j : Int) + 1 = ((rwsN sz (j + 1) : Nat) : Int) by omega]
        refine V_iinc (v := Int32.ofInt ((j : Int))) mi_171_20 (by simp [stL, stL2, lv_args, Value.category]) ?_
        rw [ia2]
        refine V_goto mi_171_23 ?_
        refine V_sub (lv' := [(0, .ref (ad 39)), (1, .int (Int32.ofInt ((rwsN sz (j + 1) : Int)))), (2, .int (Int32.ofInt (((j + 1 : Nat) : Int))))]) (fun q hq => ?_) ?_
        · simp only [List.mem_cons, List.not_mem_nil, or_false] at hq
          rcases hq with rfl | rfl | rfl <;> simp [stL, stL2, lv_args, Value.category]
        exact crX_4 hG h hB m (j + 1) (by omega) kk
theorem crX_ct {sz wds : Nat → Int} {nm : Nat → Int64} (hG : GOK ad tys GG ws) (h : SLX sz wds nm ws) (hB : SLB sz wds nm) : CT l D tys A 171 3 0 0 [.ref (ad 39)] ws (fun r w => w = ws ∧ r = some (.int (Int32.ofInt (rwsN sz 4 : Int)))) := by
  refine CT_of_V (by omega) (show (1 : Nat) ≤ mML 171 by decide +kernel) ?_
  refine V_ipush mi_171_0 ?_
  refine V_istore mi_171_1 ?_
  refine V_ipush mi_171_2 ?_
  refine V_istore mi_171_3 ?_
  refine V_sub (lv' := [(0, .ref (ad 39)), (1, .int (Int32.ofInt (0))), (2, .int (Int32.ofInt (((0 : Nat) : Int))))]) (fun q hq => ?_) ?_
  · simp only [List.mem_cons, List.not_mem_nil, or_false] at hq
    rcases hq with rfl | rfl | rfl <;> simp [stL, stL2, lv_args, Value.category]
  rw [show (0 : Int) = ((rwsN sz 0 : Nat) : Int) from rfl]
  exact crX_4 hG h hB 4 0 (by omega) ⟨rfl, rfl⟩
theorem cntX_ct {G : Nat → Int} {sz wds : Nat → Int} {nm : Nat → Int64} {n : Nat} {k : Int} (hG : GOK ad tys GG ws) (hX : HX 4 G ws) (h : SLX sz wds nm ws) (hB : SLB sz wds nm) (hn : rd ws 2 1 = some (.int (Int32.ofInt (n : Int)))) (kI : I32 k) : CT l D tys A 66 4 0 0 [.ref (ad 0), .int (Int32.ofInt (k))] ws (fun r w => w = ws ∧ r = some (.int (Int32.ofInt (cntV G n (rwsN sz 4) k)))) := by
  refine CT_of_V (by omega) (show (2 : Nat) ≤ mML 66 by decide +kernel) ?_
  have kb : -2147483648 ≤ k ∧ k ≤ 2147483647 := kI
  refine V_iload (v := Int32.ofInt (k)) mi_66_0 (by simp [stL, stL2, lv_args, Value.category]) ?_
  have sw : swT 66 1 (Int32.ofInt (k)).toInt = if k = 0 then 48 else if k = 1 then 56 else if k = 2 then 64 else if k = 3 then 72 else if k = 4 then 80 else if k = 5 then 88 else if k = 6 then 96 else if k = 7 then 104 else 112 := by
    rw [Int32.toInt_ofInt_of_le (by omega) (by omega)]
    unfold swT
    rw [show mSw 66 1 = (112, 0, [48, 56, 64, 72, 80, 88, 96, 104]) by decide +kernel]
    show (if k < 0 ∨ 0 + ((8 : Nat) : Int) ≤ k then 112 else ([48, 56, 64, 72, 80, 88, 96, 104] : List Nat).getD (k - 0).toNat 112) = _
    by_cases e0 : k = 0
    · rw [if_neg (by omega), if_pos e0, e0]; rfl
    by_cases e1 : k = 1
    · rw [if_neg (by omega), if_neg e0, if_pos e1, e1]; rfl
    by_cases e2 : k = 2
    · rw [if_neg (by omega), if_neg e0, if_neg e1, if_pos e2, e2]; rfl
    by_cases e3 : k = 3
    · rw [if_neg (by omega), if_neg e0, if_neg e1, if_neg e2, if_pos e3, e3]; rfl
    by_cases e4 : k = 4
    · rw [if_neg (by omega), if_neg e0, if_neg e1, if_neg e2, if_neg e3, if_pos e4, e4]; rfl
    by_cases e5 : k = 5
    · rw [if_neg (by omega), if_neg e0, if_neg e1, if_neg e2, if_neg e3, if_neg e4, if_pos e5, e5]; rfl
    by_cases e6 : k = 6
    · rw [if_neg (by omega), if_neg e0, if_neg e1, if_neg e2, if_neg e3, if_neg e4, if_neg e5, if_pos e6, e6]; rfl
    by_cases e7 : k = 7
    · rw [if_neg (by omega), if_neg e0, if_neg e1, if_neg e2, if_neg e3, if_neg e4, if_neg e5, if_neg e6, if_pos e7, e7]; rfl
    rw [if_pos (by omega), if_neg e0, if_neg e1, if_neg e2, if_neg e3, if_neg e4, if_neg e5, if_neg e6, if_neg e7]
  refine V_sw mi_66_1 ?_
  change V l D tys A 66 4 0 0 _ 0 0 (swT 66 1 (Int32.ofInt k).toInt) _ _ _
  rw [sw]
  by_cases e0 : k = 0
  · rw [if_pos e0]
    refine V_aload (v := ad 0) mi_66_48 (by simp [stL, stL2, lv_args, Value.category]) ?_
    refine V_gR mi_66_49 g0r2 (by omega) hG ?_
    refine V_gO mi_66_52 g4o hG (show rd _ 4 1 = some (.int (Int32.ofInt (G 0))) from hx0 hX (i := 1) (by omega)) ?_
    exact V_retI mi_66_55 (fun h => absurd h (by decide +kernel)) ⟨rfl, by unfold cntV; rw [if_pos (by omega), e0]; rfl⟩
  · rw [if_neg e0]
    by_cases e1 : k = 1
    · rw [if_pos e1]
      refine V_aload (v := ad 0) mi_66_56 (by simp [stL, stL2, lv_args, Value.category]) ?_
      refine V_gR mi_66_57 g0r2 (by omega) hG ?_
      refine V_gO mi_66_60 g4o hG (show rd _ 4 2 = some (.int (Int32.ofInt (G 1))) from hx0 hX (i := 2) (by omega)) ?_
      exact V_retI mi_66_63 (fun h => absurd h (by decide +kernel)) ⟨rfl, by unfold cntV; rw [if_pos (by omega), e1]; rfl⟩
    · rw [if_neg e1]
      by_cases e2 : k = 2
      · rw [if_pos e2]
        refine V_aload (v := ad 0) mi_66_64 (by simp [stL, stL2, lv_args, Value.category]) ?_
        refine V_gR mi_66_65 g0r2 (by omega) hG ?_
        refine V_gO mi_66_68 g4o hG (show rd _ 4 3 = some (.int (Int32.ofInt (G 2))) from hx0 hX (i := 3) (by omega)) ?_
        exact V_retI mi_66_71 (fun h => absurd h (by decide +kernel)) ⟨rfl, by unfold cntV; rw [if_pos (by omega), e2]; rfl⟩
      · rw [if_neg e2]
        by_cases e3 : k = 3
        · rw [if_pos e3]
          refine V_aload (v := ad 0) mi_66_72 (by simp [stL, stL2, lv_args, Value.category]) ?_
          refine V_gR mi_66_73 g0r2 (by omega) hG ?_
          refine V_gO mi_66_76 g4o hG (show rd _ 4 4 = some (.int (Int32.ofInt (G 3))) from hx0 hX (i := 4) (by omega)) ?_
          exact V_retI mi_66_79 (fun h => absurd h (by decide +kernel)) ⟨rfl, by unfold cntV; rw [if_pos (by omega), e3]; rfl⟩
        · rw [if_neg e3]
          by_cases e4 : k = 4
          · rw [if_pos e4]
            refine V_aload (v := ad 0) mi_66_80 (by simp [stL, stL2, lv_args, Value.category]) ?_
            refine V_gR mi_66_81 g0r2 (by omega) hG ?_
            refine V_gO mi_66_84 g4o hG (show rd _ 4 5 = some (.int (Int32.ofInt (G 4))) from hx0 hX (i := 5) (by omega)) ?_
            exact V_retI mi_66_87 (fun h => absurd h (by decide +kernel)) ⟨rfl, by unfold cntV; rw [if_pos (by omega), e4]; rfl⟩
          · rw [if_neg e4]
            by_cases e5 : k = 5
            · rw [if_pos e5]
              refine V_aload (v := ad 0) mi_66_88 (by simp [stL, stL2, lv_args, Value.category]) ?_
              refine V_gR mi_66_89 g0r2 (by omega) hG ?_
              refine V_gO mi_66_92 g4o hG (show rd _ 4 0 = some (.int (Int32.ofInt (G 5))) from hx0 hX (i := 0) (by omega)) ?_
              exact V_retI mi_66_95 (fun h => absurd h (by decide +kernel)) ⟨rfl, by unfold cntV; rw [if_pos (by omega), e5]; rfl⟩
            · rw [if_neg e5]
              by_cases e6 : k = 6
              · rw [if_pos e6]
                refine V_aload (v := ad 0) mi_66_96 (by simp [stL, stL2, lv_args, Value.category]) ?_
                refine V_gR mi_66_97 g0r1 (by omega) hG ?_
                refine V_gO mi_66_100 g2o hG (hn) ?_
                exact V_retI mi_66_103 (fun h => absurd h (by decide +kernel)) ⟨rfl, by unfold cntV; rw [if_neg (by omega), if_pos e6]⟩
              · rw [if_neg e6]
                by_cases e7 : k = 7
                · rw [if_pos e7]
                  refine V_aload (v := ad 0) mi_66_104 (by simp [stL, stL2, lv_args, Value.category]) ?_
                  refine V_gR mi_66_105 g0r7 (by omega) hG ?_
                  refine V_cO (As := []) (st := []) mi_66_108 (by omega) (by decide +kernel) (by decide +kernel) (by omega) g39o hG (crX_ct hG h hB) (by omega) (show 0 = mN 171 by decide +kernel) (by simp [Value.category]) ?_
                  rintro r w1 ⟨e9, rfl⟩
                  rw [e9]
                  exact V_retI mi_66_111 (fun h => absurd h (by decide +kernel)) ⟨rfl, by unfold cntV; rw [if_neg (by omega), if_neg e6, if_pos e7]⟩
                · rw [if_neg e7]
                  refine V_ipush mi_66_112 ?_
                  exact V_retI mi_66_113 (fun h => absurd h (by decide +kernel)) ⟨rfl, by unfold cntV; rw [if_neg (by omega), if_neg e6, if_neg e7]⟩
theorem crM_97 {sz wds : Nat → Int} {nm : Nat → Int64} {k : Int} {post : Option Value → va_W → Prop} (hG : GOK ad tys GG ws) (h : SLM sz wds nm ws) (hB : SLB sz wds nm) : ∀ (m j : Nat), j + m = 4 → post (some (.int (Int32.ofInt (rwsN sz 4 : Int)))) ws → V l D tys A 335 0 0 0 post 0 0 97 [(0, .ref (ad 90)), (1, .int (Int32.ofInt (k))), (2, .int (Int32.ofInt ((rwsN sz j : Int)))), (3, .int (Int32.ofInt ((j : Int))))] [] ws
  | 0, j, hm, kk => by
    have rl := rwsN_le sz j
    refine V_iload (v := Int32.ofInt ((j : Int))) mi_335_97 (by simp [stL, stL2, lv_args, Value.category]) ?_
    refine V_ipush mi_335_98 ?_
    refine V_cge mi_335_99 ⟨by omega, by omega⟩ ⟨by omega, by omega⟩ (fun q => ?_) (fun q => ?_)
    · refine V_iload (v := Int32.ofInt ((rwsN sz j : Int))) mi_335_126 (by simp [stL, stL2, lv_args, Value.category]) ?_
      have e : j = 4 := by omega
      rw [e]
      exact V_retI mi_335_127 (fun h => absurd h (by decide +kernel)) kk
    · exact absurd q (by omega)
  | m + 1, j, hm, kk => by
    obtain ⟨s107, e107, f107⟩ := a107
    have rl := rwsN_le sz j
    refine V_iload (v := Int32.ofInt ((j : Int))) mi_335_97 (by simp [stL, stL2, lv_args, Value.category]) ?_
    refine V_ipush mi_335_98 ?_
    refine V_cge mi_335_99 ⟨by omega, by omega⟩ ⟨by omega, by omega⟩ (fun q => ?_) (fun q => ?_)
    · exact absurd q (by omega)
    · have g := h j (by omega)
      have b := hB j (by omega)
      refine V_iload (v := Int32.ofInt ((rwsN sz j : Int))) mi_335_102 (by simp [stL, stL2, lv_args, Value.category]) ?_
      refine V_aload (v := ad 90) mi_335_103 (by simp [stL, stL2, lv_args, Value.category]) ?_
      refine V_getI mi_335_104 hG (rref gr32 (by omega) hG) ?_
      refine V_iload (v := Int32.ofInt ((j : Int))) mi_335_107 (by simp [stL, stL2, lv_args, Value.category]) ?_
      refine V_aldX (j := j) mi_335_108 rfl hG e107 (by omega) (by omega) (g.1) ?_
      refine V_ipush mi_335_109 ?_
      refine V_cne mi_335_110 ⟨by omega, by omega⟩ ⟨by omega, by omega⟩ (fun q2 => ?_) (fun q2 => ?_)
      · have e2 : rwsN sz (j + 1) = rwsN sz j + 1 := if_neg (by omega)
        refine V_ipush mi_335_117 ?_
        refine V_ibin mi_335_118 (by omega) ?_
        rw [ib0]
        rw [show (rwsN sz j : Int) + 1 = ((rwsN sz (j + 1) : Nat) : Int) by omega]
        refine V_istore mi_335_119 ?_
        refine V_iinc (v := Int32.ofInt ((j : Int))) mi_335_120 (by simp [stL, stL2, lv_args, Value.category]) ?_
        rw [ia2]
        refine V_goto mi_335_123 ?_
        refine V_sub (lv' := [(0, .ref (ad 90)), (1, .int (Int32.ofInt (k))), (2, .int (Int32.ofInt ((rwsN sz (j + 1) : Int)))), (3, .int (Int32.ofInt (((j + 1 : Nat) : Int))))]) (fun q hq => ?_) ?_
        · simp only [List.mem_cons, List.not_mem_nil, or_false] at hq
          rcases hq with rfl | rfl | rfl | rfl <;> simp [stL, stL2, lv_args, Value.category]
        exact crM_97 hG h hB m (j + 1) (by omega) kk
      · have e2 : rwsN sz (j + 1) = rwsN sz j := if_pos (by omega)
        refine V_ipush mi_335_113 ?_
        refine V_goto mi_335_114 ?_
        refine V_ibin mi_335_118 (by omega) ?_
        rw [ib0]
        rw [show (rwsN sz j : Int) + 0 = ((rwsN sz (j + 1) : Nat) : Int) by omega]
        refine V_istore mi_335_119 ?_
        refine V_iinc (v := Int32.ofInt ((j : Int))) mi_335_120 (by simp [stL, stL2, lv_args, Value.category]) ?_
        rw [ia2]
        refine V_goto mi_335_123 ?_
        refine V_sub (lv' := [(0, .ref (ad 90)), (1, .int (Int32.ofInt (k))), (2, .int (Int32.ofInt ((rwsN sz (j + 1) : Int)))), (3, .int (Int32.ofInt (((j + 1 : Nat) : Int))))]) (fun q hq => ?_) ?_
        · simp only [List.mem_cons, List.not_mem_nil, or_false] at hq
          rcases hq with rfl | rfl | rfl | rfl <;> simp [stL, stL2, lv_args, Value.category]
        exact crM_97 hG h hB m (j + 1) (by omega) kk
theorem cntM_ct {G : Nat → Int} {sz wds : Nat → Int} {nm : Nat → Int64} {n : Nat} {k : Int} (hG : GOK ad tys GG ws) (hW : W91 G ws) (h : SLM sz wds nm ws) (hB : SLB sz wds nm) (hn : rd ws 90 5 = some (.int (Int32.ofInt (n : Int)))) (kI : I32 k) : CT l D tys A 335 0 0 0 [.ref (ad 90), .int (Int32.ofInt (k))] ws (fun r w => w = ws ∧ r = some (.int (Int32.ofInt (cntV G n (rwsN sz 4) k)))) := by
  refine CT_of_V (by omega) (show (2 : Nat) ≤ mML 335 by decide +kernel) ?_
  have kb : -2147483648 ≤ k ∧ k ≤ 2147483647 := kI
  obtain ⟨s91, e91, -⟩ := g91s
  refine V_ipush mi_335_0 ?_
  refine V_istore mi_335_1 ?_
  refine V_iload (v := Int32.ofInt (k)) mi_335_2 (by simp [stL, stL2, lv_args, Value.category]) ?_
  have sw : swT 335 3 (Int32.ofInt (k)).toInt = if k = 0 then 48 else if k = 1 then 55 else if k = 2 then 62 else if k = 3 then 69 else if k = 4 then 76 else if k = 5 then 83 else if k = 6 then 90 else if k = 7 then 95 else 128 := by
    rw [Int32.toInt_ofInt_of_le (by omega) (by omega)]
    unfold swT
    rw [show mSw 335 3 = (128, 0, [48, 55, 62, 69, 76, 83, 90, 95]) by decide +kernel]
    show (if k < 0 ∨ 0 + ((8 : Nat) : Int) ≤ k then 128 else ([48, 55, 62, 69, 76, 83, 90, 95] : List Nat).getD (k - 0).toNat 128) = _
    by_cases e0 : k = 0
    · rw [if_neg (by omega), if_pos e0, e0]; rfl
    by_cases e1 : k = 1
    · rw [if_neg (by omega), if_neg e0, if_pos e1, e1]; rfl
    by_cases e2 : k = 2
    · rw [if_neg (by omega), if_neg e0, if_neg e1, if_pos e2, e2]; rfl
    by_cases e3 : k = 3
    · rw [if_neg (by omega), if_neg e0, if_neg e1, if_neg e2, if_pos e3, e3]; rfl
    by_cases e4 : k = 4
    · rw [if_neg (by omega), if_neg e0, if_neg e1, if_neg e2, if_neg e3, if_pos e4, e4]; rfl
    by_cases e5 : k = 5
    · rw [if_neg (by omega), if_neg e0, if_neg e1, if_neg e2, if_neg e3, if_neg e4, if_pos e5, e5]; rfl
    by_cases e6 : k = 6
    · rw [if_neg (by omega), if_neg e0, if_neg e1, if_neg e2, if_neg e3, if_neg e4, if_neg e5, if_pos e6, e6]; rfl
    by_cases e7 : k = 7
    · rw [if_neg (by omega), if_neg e0, if_neg e1, if_neg e2, if_neg e3, if_neg e4, if_neg e5, if_neg e6, if_pos e7, e7]; rfl
    rw [if_pos (by omega), if_neg e0, if_neg e1, if_neg e2, if_neg e3, if_neg e4, if_neg e5, if_neg e6, if_neg e7]
  refine V_sw mi_335_3 ?_
  change V l D tys A 335 0 0 0 _ 0 0 (swT 335 3 (Int32.ofInt k).toInt) _ _ _
  rw [sw]
  by_cases e0 : k = 0
  · rw [if_pos e0]
    refine V_aload (v := ad 90) mi_335_48 (by simp [stL, stL2, lv_args, Value.category]) ?_
    refine V_getI mi_335_49 hG (rref gr1m (by omega) hG) ?_
    refine V_ipush mi_335_52 ?_
    refine V_aldX (j := 0) mi_335_53 rfl hG e91 (by omega) (by omega) (hW _ (by omega)) ?_
    exact V_retI mi_335_54 (fun h => absurd h (by decide +kernel)) ⟨rfl, by unfold cntV; rw [if_pos (by omega), e0]; rfl⟩
  · rw [if_neg e0]
    by_cases e1 : k = 1
    · rw [if_pos e1]
      refine V_aload (v := ad 90) mi_335_55 (by simp [stL, stL2, lv_args, Value.category]) ?_
      refine V_getI mi_335_56 hG (rref gr1m (by omega) hG) ?_
      refine V_ipush mi_335_59 ?_
      refine V_aldX (j := 1) mi_335_60 rfl hG e91 (by omega) (by omega) (hW _ (by omega)) ?_
      exact V_retI mi_335_61 (fun h => absurd h (by decide +kernel)) ⟨rfl, by unfold cntV; rw [if_pos (by omega), e1]; rfl⟩
    · rw [if_neg e1]
      by_cases e2 : k = 2
      · rw [if_pos e2]
        refine V_aload (v := ad 90) mi_335_62 (by simp [stL, stL2, lv_args, Value.category]) ?_
        refine V_getI mi_335_63 hG (rref gr1m (by omega) hG) ?_
        refine V_ipush mi_335_66 ?_
        refine V_aldX (j := 2) mi_335_67 rfl hG e91 (by omega) (by omega) (hW _ (by omega)) ?_
        exact V_retI mi_335_68 (fun h => absurd h (by decide +kernel)) ⟨rfl, by unfold cntV; rw [if_pos (by omega), e2]; rfl⟩
      · rw [if_neg e2]
        by_cases e3 : k = 3
        · rw [if_pos e3]
          refine V_aload (v := ad 90) mi_335_69 (by simp [stL, stL2, lv_args, Value.category]) ?_
          refine V_getI mi_335_70 hG (rref gr1m (by omega) hG) ?_
          refine V_ipush mi_335_73 ?_
          refine V_aldX (j := 3) mi_335_74 rfl hG e91 (by omega) (by omega) (hW _ (by omega)) ?_
          exact V_retI mi_335_75 (fun h => absurd h (by decide +kernel)) ⟨rfl, by unfold cntV; rw [if_pos (by omega), e3]; rfl⟩
        · rw [if_neg e3]
          by_cases e4 : k = 4
          · rw [if_pos e4]
            refine V_aload (v := ad 90) mi_335_76 (by simp [stL, stL2, lv_args, Value.category]) ?_
            refine V_getI mi_335_77 hG (rref gr1m (by omega) hG) ?_
            refine V_ipush mi_335_80 ?_
            refine V_aldX (j := 4) mi_335_81 rfl hG e91 (by omega) (by omega) (hW _ (by omega)) ?_
            exact V_retI mi_335_82 (fun h => absurd h (by decide +kernel)) ⟨rfl, by unfold cntV; rw [if_pos (by omega), e4]; rfl⟩
          · rw [if_neg e4]
            by_cases e5 : k = 5
            · rw [if_pos e5]
              refine V_aload (v := ad 90) mi_335_83 (by simp [stL, stL2, lv_args, Value.category]) ?_
              refine V_getI mi_335_84 hG (rref gr1m (by omega) hG) ?_
              refine V_ipush mi_335_87 ?_
              refine V_aldX (j := 5) mi_335_88 rfl hG e91 (by omega) (by omega) (hW _ (by omega)) ?_
              exact V_retI mi_335_89 (fun h => absurd h (by decide +kernel)) ⟨rfl, by unfold cntV; rw [if_pos (by omega), e5]; rfl⟩
            · rw [if_neg e5]
              by_cases e6 : k = 6
              · rw [if_pos e6]
                refine V_aload (v := ad 90) mi_335_90 (by simp [stL, stL2, lv_args, Value.category]) ?_
                refine V_getI mi_335_91 hG (hn) ?_
                exact V_retI mi_335_94 (fun h => absurd h (by decide +kernel)) ⟨rfl, by unfold cntV; rw [if_neg (by omega), if_pos e6]⟩
              · rw [if_neg e6]
                by_cases e7 : k = 7
                · rw [if_pos e7]
                  refine V_ipush mi_335_95 ?_
                  refine V_istore mi_335_96 ?_
                  refine V_sub (lv' := [(0, .ref (ad 90)), (1, .int (Int32.ofInt (k))), (2, .int (Int32.ofInt (0))), (3, .int (Int32.ofInt (((0 : Nat) : Int))))]) (fun q hq => ?_) ?_
                  · simp only [List.mem_cons, List.not_mem_nil, or_false] at hq
                    rcases hq with rfl | rfl | rfl | rfl <;> simp [stL, stL2, lv_args, Value.category]
                  rw [show (0 : Int) = ((rwsN sz 0 : Nat) : Int) from rfl]
                  exact crM_97 hG h hB 4 0 (by omega) ⟨rfl, by unfold cntV; rw [if_neg (by omega), if_neg e6, if_pos e7]⟩
                · rw [if_neg e7]
                  refine V_ipush mi_335_128 ?_
                  exact V_retI mi_335_129 (fun h => absurd h (by decide +kernel)) ⟨rfl, by unfold cntV; rw [if_neg (by omega), if_neg e6, if_neg e7]⟩
theorem pairV_count (hAD : ∀ i : Nat, ad (1000 + i) = D.2 1000 i) (hG : GOK ad tys GG ws) (hR : RELV ws) (a1 : Int32) : PAIRV l D tys A ad 66 335 [.ref (ad 0), .int a1] [.ref (ad 90), .int a1] ws := by
  obtain ⟨n, B, h0, ⟨h1, h2⟩, h3, h4⟩ := hR.1.1.1
  obtain ⟨G, o, x, y⟩ := hR.1.2.1
  obtain ⟨sz, wds, nm, hX, hM, hB⟩ := hR.2
  have c1 := cntX_ct (l := l) (D := D) (A := A) hG x hX hB h1 (i32b a1)
  have c2 := cntM_ct (l := l) (D := D) (A := A) hG y hM hB h3 (i32b a1)
  rw [oi] at c1 c2
  exact pairV_ro hG hR (by omega) (by omega) c1 c2
end XVF
