section XSG
variable {l : Launch} {D : va_G} {tys : List (ClassId × FieldType)} {A : Nat → Prop} {ad : Nat → Nat} {ws : va_W}
theorem alf_ct {G : Nat → Int} (hG : GOK ad tys GG ws) (hX : HX 4 G ws) (hB : HB G) {f : Nat} (hf : f < 6) : CT l D tys A 108 1 0 0 [.ref (ad 4), .int (Int32.ofInt ((f : Int)))] ws (fun r w => w = ws ∧ r = some (.int (Int32.ofInt (allV (G (6 + 7 * f)))))) := by
  refine CT_of_V (by omega) (show (2 : Nat) ≤ mML 108 by decide +kernel) ?_
  have bl := hB.bl f hf
  refine V_ipush mi_108_0 ?_
  refine V_aload (v := ad 4) mi_108_1 (by simp [stL, lv_args, Value.category]) ?_
  refine V_iload (v := Int32.ofInt ((f : Int))) mi_108_2 (by simp [stL, lv_args, Value.category]) ?_
  refine V_cO (As := [.int (Int32.ofInt ((f : Int)))]) (st := [.int (Int32.ofInt (1))]) mi_108_3 (by omega) (by decide +kernel) (by decide +kernel) (by omega) g4o hG (hle_ct (f := f) hG hX hB hf) (by omega) (show 1 = mN 106 by decide +kernel) (by simp [Value.category]) ?_
  rintro r w1 ⟨rfl, rfl⟩
  refine V_ibin mi_108_6 (by omega) ?_
  refine V_ipush mi_108_7 ?_
  refine V_ibin mi_108_8 (by omega) ?_
  rw [(allV_k bl.1 bl.2).1]
  exact V_retI mi_108_9 (fun h => absurd h (by decide +kernel)) ⟨rfl, rfl⟩
/-- what is known once the first n folk know their own -/
noncomputable def bgK (G : Nat → Int) (n j : Nat) : Int := if j / 6 = j % 6 ∧ j / 6 < n then allV (G (6 + 7 * (j % 6))) else G (66 + j)
theorem bgK_i {G : Nat → Int} {n j : Nat} (h : j / 6 < n) : bgK G n j = iniK G j := by
  unfold bgK iniK
  by_cases e : j / 6 = j % 6
  · rw [if_pos ⟨e, h⟩, if_pos e]
  · rw [if_neg (fun q => e q.1), if_neg e]
theorem bgK_s {G : Nat → Int} {n j : Nat} (hn : n < 6) (h : j ≠ 6 * n + n) : bgK G (n + 1) j = bgK G n j := by
  unfold bgK
  by_cases e : j / 6 = j % 6 ∧ j / 6 < n
  · rw [if_pos e, if_pos ⟨e.1, by omega⟩]
  · rw [if_neg e, if_neg (fun q => by omega)]
theorem bgK_d {G : Nat → Int} {n : Nat} (hn : n < 6) : bgK G (n + 1) (6 * n + n) = allV (G (6 + 7 * n)) := by
  unfold bgK
  rw [if_pos (by omega), show (6 * n + n) % 6 = n by omega]
theorem bg_13 {G : Nat → Int} {w0 : va_W} {post : Option Value → va_W → Prop} (hB : HB G) (hX0 : HX 4 G w0) : ∀ (m f : Nat) (w : va_W), ((f + m : Nat) : Int) = G 3 → GOK ad tys GG w → (∀ j, j < 36 → rd w 31 j = some (.int (Int32.ofInt (bgK G f j)))) → (∀ c j, c ≠ 31 → rd w c j = rd w0 c j) → (∀ w' : va_W, GOK ad tys GG w' → (∀ j, j < 36 → rd w' 31 j = some (.int (Int32.ofInt (bgK G (G 3).toNat j)))) → (∀ c j, c ≠ 31 → rd w' c j = rd w0 c j) → post none w') → V l D tys A 87 2 0 0 post 0 0 13 [(0, .ref (ad 28)), (1, .ref (ad 4)), (2, .int (Int32.ofInt ((f : Int))))] [] w
  | 0, f, w, hm, hG, hK, ho, kk => by
    have hX : HX 4 G w := HX_keep hX0 (fun c' i h1 h2 => ho _ _ (by omega))
    have b3 := hB.b3
    refine V_iload (v := Int32.ofInt ((f : Int))) mi_87_13 (by simp [stL, lv_args, Value.category]) ?_
    refine V_aload (v := ad 4) mi_87_14 (by simp [stL, lv_args, Value.category]) ?_
    refine V_gO mi_87_15 g4o hG (show rd _ 4 4 = some (.int (Int32.ofInt (G 3))) from hx0 hX (i := 4) (by omega)) ?_
    refine V_cge mi_87_18 ⟨by omega, by omega⟩ ⟨by omega, by omega⟩ (fun q => ?_) (fun q => ?_)
    · have e : f = (G 3).toNat := by omega
      rw [e] at hK
      exact V_retV mi_87_45 (kk w hG hK ho)
    · exact absurd q (by omega)
  | m + 1, f, w, hm, hG, hK, ho, kk => by
    have hX : HX 4 G w := HX_keep hX0 (fun c' i h1 h2 => ho _ _ (by omega))
    have b3 := hB.b3
    refine V_iload (v := Int32.ofInt ((f : Int))) mi_87_13 (by simp [stL, lv_args, Value.category]) ?_
    refine V_aload (v := ad 4) mi_87_14 (by simp [stL, lv_args, Value.category]) ?_
    refine V_gO mi_87_15 g4o hG (show rd _ 4 4 = some (.int (Int32.ofInt (G 3))) from hx0 hX (i := 4) (by omega)) ?_
    refine V_cge mi_87_18 ⟨by omega, by omega⟩ ⟨by omega, by omega⟩ (fun q => ?_) (fun q => ?_)
    · exact absurd q (by omega)
    · refine V_aload (v := ad 28) mi_87_21 (by simp [stL, lv_args, Value.category]) ?_
      refine V_gR mi_87_22 g28r2 (by omega) hG ?_
      refine V_iload (v := Int32.ofInt ((f : Int))) mi_87_25 (by simp [stL, lv_args, Value.category]) ?_
      refine V_ipush mi_87_26 ?_
      refine V_ibin mi_87_28 (by omega) ?_
      rw [ib2]
      refine V_iload (v := Int32.ofInt ((f : Int))) mi_87_29 (by simp [stL, lv_args, Value.category]) ?_
      refine V_ibin mi_87_30 (by omega) ?_
      rw [ib0]
      rw [show (f : Int) * (6) + (f : Int) = ((6 * f + f : Nat) : Int) by omega]
      refine V_aload (v := ad 4) mi_87_31 (by simp [stL, lv_args, Value.category]) ?_
      refine V_iload (v := Int32.ofInt ((f : Int))) mi_87_32 (by simp [stL, lv_args, Value.category]) ?_
      refine V_cO (As := [.int (Int32.ofInt ((f : Int)))]) (st := [.int (Int32.ofInt (((6 * f + f : Nat) : Int))), .ref (ad 31)]) mi_87_33 (by omega) (by decide +kernel) (by decide +kernel) (by omega) g4o hG (alf_ct (f := f) hG hX hB (by omega)) (by omega) (show 1 = mN 108 by decide +kernel) (by simp [Value.category]) ?_
      rintro r w1 ⟨e1, rfl⟩
      rw [e1]
      refine V_stat (As := [.ref (ad 31), .int (Int32.ofInt (((6 * f + f : Nat) : Int))), .int (Int32.ofInt (allV (G (6 + 7 * f))))]) (st := []) mi_87_36 (by omega) (putk_ct (j := 6 * f + f) a31 hG (by omega) (by omega)) (by omega) (show 3 = mN 148 by decide +kernel) (by simp [Value.category]) ⟨Nat.le_refl _, Nat.le_refl _⟩ ?_
      rintro r w2 ⟨rfl, G2, U2⟩
      refine V_iinc (v := Int32.ofInt ((f : Int))) mi_87_39 (by simp [stL, lv_args, Value.category]) ?_
      rw [ia2]
      refine V_goto mi_87_42 ?_
      refine V_sub (lv' := [(0, .ref (ad 28)), (1, .ref (ad 4)), (2, .int (Int32.ofInt (((f + 1 : Nat) : Int))))]) (fun q hq => ?_) ?_
      · simp only [List.mem_cons, List.not_mem_nil, or_false] at hq
        rcases hq with rfl | rfl | rfl <;> simp [stL, lv_args, Value.category]
      · refine bg_13 hB hX0 m (f + 1) w2 (by omega) G2 (fun j hj => ?_) (fun c j hc => (upd_ne U2 (by omega)).trans (ho c j hc)) kk
        by_cases e : j = 6 * f + f
        · rw [e, bgK_d (by omega)]
          exact upd_eq U2
        · rw [bgK_s (by omega) e]
          exact (upd_ne U2 (by omega)).trans (hK j hj)
theorem bgn_ct {G : Nat → Int} (hG : GOK ad tys GG ws) (hX : HX 4 G ws) (hB : HB G) : CT l D tys A 87 2 0 0 [.ref (ad 28), .ref (ad 4)] ws (fun r w => r = none ∧ GOK ad tys GG w ∧ (∀ j, j < 36 → (j / 6 : Nat) < G 3 → rd w 31 j = some (.int (Int32.ofInt (iniK G j)))) ∧ ∀ c j, c ≠ 31 → rd w c j = rd ws c j) := by
  refine CT_of_V (by omega) (show (2 : Nat) ≤ mML 87 by decide +kernel) ?_
  have b3 := hB.b3
  refine V_aload (v := ad 4) mi_87_0 (by simp [stL, lv_args, Value.category]) ?_
  refine V_gR mi_87_1 g4r12 (by omega) hG ?_
  refine V_aload (v := ad 28) mi_87_4 (by simp [stL, lv_args, Value.category]) ?_
  refine V_gR mi_87_5 g28r2 (by omega) hG ?_
  refine V_stat (As := [.ref (ad 11), .ref (ad 31)]) (st := []) mi_87_8 (by omega) (copy_ct a11 a31 hG (by omega) (by omega) ⟨by omega, by omega⟩ ⟨by omega, by omega⟩) (by omega) (show 2 = mN 150 by decide +kernel) (by simp [Value.category]) ⟨Nat.le_refl _, Nat.le_refl _⟩ ?_
  rintro r w1 ⟨rfl, G1, o1, k1⟩
  refine V_ipush mi_87_11 ?_
  refine V_istore mi_87_12 ?_
  refine V_sub (lv' := [(0, .ref (ad 28)), (1, .ref (ad 4)), (2, .int (Int32.ofInt (((0 : Nat) : Int))))]) (fun q hq => ?_) ?_
  · simp only [List.mem_cons, List.not_mem_nil, or_false] at hq
    rcases hq with rfl | rfl | rfl <;> simp [stL, lv_args, Value.category]
  refine bg_13 (w0 := w1) hB (HX_keep hX (fun c' i h1 h2 => o1 _ _ (by omega))) (G 3).toNat 0 w1 (by omega) G1 (fun j hj => ?_) (fun _ _ _ => rfl) (fun w2 G2 k2 o2 => ?_)
  · rw [k1 j hj]
    unfold bgK
    rw [if_neg (fun q => by omega)]
    have q := HX_HY hX 7 (by omega) j hj
    exact q
  · exact ⟨rfl, G2, fun j hj h6 => by rw [k2 j hj, bgK_i (by omega)], fun c j hc => (o2 c j hc).trans (o1 c j hc)⟩
theorem bts_ct {f o : Nat} {v : Int32} (hG : GOK ad tys GG ws) (hf : f < 6) (ho : o < 6) (h : rd ws 31 (6 * f + o) = some (.int v)) : CT l D tys A 88 1 0 0 [.ref (ad 28), .int (Int32.ofInt ((f : Int))), .int (Int32.ofInt ((o : Int)))] ws (fun r w => w = ws ∧ r = some (.int v)) := by
  refine CT_of_V (by omega) (show (3 : Nat) ≤ mML 88 by decide +kernel) ?_
  refine V_aload (v := ad 28) mi_88_0 (by simp [stL, lv_args, Value.category]) ?_
  refine V_gR mi_88_1 g28r2 (by omega) hG ?_
  refine V_iload (v := Int32.ofInt ((f : Int))) mi_88_4 (by simp [stL, lv_args, Value.category]) ?_
  refine V_ipush mi_88_5 ?_
  refine V_ibin mi_88_7 (by omega) ?_
  rw [ib2]
  refine V_iload (v := Int32.ofInt ((o : Int))) mi_88_8 (by simp [stL, lv_args, Value.category]) ?_
  refine V_ibin mi_88_9 (by omega) ?_
  rw [ib0]
  rw [show (f : Int) * (6) + (o : Int) = ((6 * f + o : Nat) : Int) by omega]
  refine V_stat (As := [.ref (ad 31), .int (Int32.ofInt (((6 * f + o : Nat) : Int)))]) (st := []) mi_88_10 (by omega) (atk_ct (j := 6 * f + o) a31 hG (by omega) (by omega) h) (by omega) (show 2 = mN 147 by decide +kernel) (by simp [Value.category]) ⟨Nat.le_refl _, Nat.le_refl _⟩ ?_
  rintro r w1 ⟨rfl, rfl⟩
  exact V_retI mi_88_13 (fun h => absurd h (by decide +kernel)) ⟨rfl, rfl⟩
theorem prs_ct {s : Nat} {v : Int32} (hG : GOK ad tys GG ws) (hs : s < 12) (h : rd ws 30 s = some (.int v)) : CT l D tys A 89 1 0 0 [.ref (ad 28), .int (Int32.ofInt ((s : Int)))] ws (fun r w => w = ws ∧ r = some (.int v)) := by
  refine CT_of_V (by omega) (show (2 : Nat) ≤ mML 89 by decide +kernel) ?_
  refine V_aload (v := ad 28) mi_89_0 (by simp [stL, lv_args, Value.category]) ?_
  refine V_gR mi_89_1 g28r1 (by omega) hG ?_
  refine V_iload (v := Int32.ofInt ((s : Int))) mi_89_4 (by simp [stL, lv_args, Value.category]) ?_
  refine V_stat (As := [.ref (ad 30), .int (Int32.ofInt ((s : Int)))]) (st := []) mi_89_5 (by omega) (atk_ct (j := s) a30 hG (by omega) hs h) (by omega) (show 2 = mN 147 by decide +kernel) (by simp [Value.category]) ⟨Nat.le_refl _, Nat.le_refl _⟩ ?_
  rintro r w1 ⟨rfl, rfl⟩
  exact V_retI mi_89_8 (fun h => absurd h (by decide +kernel)) ⟨rfl, rfl⟩
theorem ino_ct {s : Nat} {v : Int32} (hG : GOK ad tys GG ws) (hs : s < 12) (h : rd ws 29 s = some (.int v)) : CT l D tys A 90 1 0 0 [.ref (ad 28), .int (Int32.ofInt ((s : Int)))] ws (fun r w => w = ws ∧ r = some (.int v)) := by
  refine CT_of_V (by omega) (show (2 : Nat) ≤ mML 90 by decide +kernel) ?_
  refine V_aload (v := ad 28) mi_90_0 (by simp [stL, lv_args, Value.category]) ?_
  refine V_gR mi_90_1 g28r0 (by omega) hG ?_
  refine V_iload (v := Int32.ofInt ((s : Int))) mi_90_4 (by simp [stL, lv_args, Value.category]) ?_
  refine V_stat (As := [.ref (ad 29), .int (Int32.ofInt ((s : Int)))]) (st := []) mi_90_5 (by omega) (atk_ct (j := s) a29 hG (by omega) hs h) (by omega) (show 2 = mN 147 by decide +kernel) (by simp [Value.category]) ⟨Nat.le_refl _, Nat.le_refl _⟩ ?_
  rintro r w1 ⟨rfl, rfl⟩
  exact V_retI mi_90_8 (fun h => absurd h (by decide +kernel)) ⟨rfl, rfl⟩
/-- what the class's course knows: of those who are there -/
noncomputable def XKN (G : Nat → Int) (K : Nat → Int) (w : va_W) : Prop := ∀ j, j < 36 → (j / 6 : Nat) < G 3 → rd w 31 j = some (.int (Int32.ofInt (K j)))
theorem csy_ct {G : Nat → Int} (hG : GOK ad tys GG ws) (hX : HX 4 G ws) (hB : HB G) (wf : WF G) {K : Nat → Int} (kk : kOK K) (hK : XKN G K ws) {s : Nat} (hs : (s : Int) < G 4) : CT l D tys A 91 2 0 0 [.ref (ad 28), .ref (ad 4), .int (Int32.ofInt ((s : Int)))] ws (fun r w => w = ws ∧ r = some (.int (bI (canB G K s)))) := by
  refine CT_of_V (by omega) (show (3 : Nat) ≤ mML 91 by decide +kernel) ?_
  have b4 := hB.b4
  obtain ⟨⟨w6, o6, i6, n24⟩, g0, g1, g2, g3⟩ := say_b hB (s := s) (by omega)
  obtain ⟨wf1, wf2⟩ := wf s hs
  have bk := kk (6 * sWho G s + sWhs G s) (by omega)
  obtain ⟨t1, t2, t3⟩ := tb_k (a := K (6 * sWho G s + sWhs G s)) (i := (sWhi G s : Int)) bk.1 bk.2 (by omega) (by omega)
  refine V_aload (v := ad 28) mi_91_0 (by simp [stL, lv_args, Value.category]) ?_
  refine V_aload (v := ad 4) mi_91_1 (by simp [stL, lv_args, Value.category]) ?_
  refine V_gR mi_91_2 g4r13 (by omega) hG ?_
  refine V_iload (v := Int32.ofInt ((s : Int))) mi_91_5 (by simp [stL, lv_args, Value.category]) ?_
  refine V_stat (As := [.ref (ad 12), .int (Int32.ofInt ((s : Int)))]) (st := [.ref (ad 28)]) mi_91_6 (by omega) (atk_ct a12 hG (by omega) (by omega) (say_rd hX (k := s) (r := 0) (by omega) (by omega))) (by omega) (show 2 = mN 147 by decide +kernel) (by simp [Value.category]) ⟨Nat.le_refl _, Nat.le_refl _⟩ ?_
  rintro r w1 ⟨e1, rfl⟩
  rw [e1, show G (246 + 4 * s + 0) = G (246 + 4 * s) from rfl, g0]
  refine V_aload (v := ad 4) mi_91_9 (by simp [stL, lv_args, Value.category]) ?_
  refine V_gR mi_91_10 g4r14 (by omega) hG ?_
  refine V_iload (v := Int32.ofInt ((s : Int))) mi_91_13 (by simp [stL, lv_args, Value.category]) ?_
  refine V_stat (As := [.ref (ad 13), .int (Int32.ofInt ((s : Int)))]) (st := [.int (Int32.ofInt ((sWho G s : Int))), .ref (ad 28)]) mi_91_14 (by omega) (atk_ct a13 hG (by omega) (by omega) (say_rd hX (k := s) (r := 1) (by omega) (by omega))) (by omega) (show 2 = mN 147 by decide +kernel) (by simp [Value.category]) ⟨Nat.le_refl _, Nat.le_refl _⟩ ?_
  rintro r w1 ⟨e1, rfl⟩
  rw [e1, g1]
  refine V_cO (As := [.int (Int32.ofInt ((sWho G s : Int))), .int (Int32.ofInt ((sWhs G s : Int)))]) (st := []) mi_91_17 (by omega) (by decide +kernel) (by decide +kernel) (by omega) g28o hG (bts_ct (f := sWho G s) (o := sWhs G s) hG w6 o6 (hK _ (by omega) (by omega))) (by omega) (show 2 = mN 88 by decide +kernel) (by simp [Value.category]) ?_
  rintro r w1 ⟨e1, rfl⟩
  rw [e1]
  refine V_istore mi_91_20 ?_
  refine V_iload (v := Int32.ofInt (K (6 * sWho G s + sWhs G s))) mi_91_21 (by simp [stL, lv_args, Value.category]) ?_
  refine V_aload (v := ad 4) mi_91_22 (by simp [stL, lv_args, Value.category]) ?_
  refine V_gR mi_91_23 g4r15 (by omega) hG ?_
  refine V_iload (v := Int32.ofInt ((s : Int))) mi_91_26 (by simp [stL, lv_args, Value.category]) ?_
  refine V_stat (As := [.ref (ad 14), .int (Int32.ofInt ((s : Int)))]) (st := [.int (Int32.ofInt (K (6 * sWho G s + sWhs G s)))]) mi_91_27 (by omega) (atk_ct a14 hG (by omega) (by omega) (say_rd hX (k := s) (r := 2) (by omega) (by omega))) (by omega) (show 2 = mN 147 by decide +kernel) (by simp [Value.category]) ⟨Nat.le_refl _, Nat.le_refl _⟩ ?_
  rintro r w1 ⟨e1, rfl⟩
  rw [e1, g2]
  refine V_ibin mi_91_30 (by omega) ?_
  refine V_ipush mi_91_31 ?_
  refine V_ibin mi_91_32 (by omega) ?_
  rw [t1]
  refine V_beq mi_91_33  (fun q => ?_) (fun q => ?_)
  · refine V_ipush mi_91_40 ?_
    exact V_retI mi_91_41 (fun _ => by decide) ⟨rfl, by rw [show canB G K s = false from q]; rfl⟩
  · refine V_ipush mi_91_36 ?_
    refine V_goto mi_91_37 ?_
    exact V_retI mi_91_41 (fun _ => by decide) ⟨rfl, by rw [show canB G K s = true from q]; rfl⟩
theorem tb_bit : (List.range 64).all (fun a => (List.range 6).all (fun i => (List.range 6).all (fun j => tb (bitO (a : Nat) (i : Nat)) (j : Nat) == (decide (j = i) || tb (a : Nat) (j : Nat))))) = true := by decide +kernel
theorem tb_bo {a : Int} {i j : Nat} (a0 : 0 ≤ a) (a1 : a ≤ 63) (hi : i < 6) (hj : j < 6) : tb (bitO a (i : Int)) (j : Int) = (decide (j = i) || tb a (j : Int)) := by
  have h := List.all_eq_true.mp (List.all_eq_true.mp (List.all_eq_true.mp tb_bit a.toNat (List.mem_range.mpr (by omega))) i (List.mem_range.mpr hi)) j (List.mem_range.mpr hj)
  rw [Int.toNat_of_nonneg a0] at h
  exact eq_of_beq h
theorem tb_z : (List.range 6).all (fun j => tb 0 (j : Nat) == false) = true := by decide +kernel
theorem tb_orI {P : Nat → Bool} {j : Nat} (hj : j < 6) : ∀ n : Nat, n ≤ 6 → tb (orI P n) (j : Int) = (decide (j < n) && P j)
  | 0, _ => eq_of_beq (List.all_eq_true.mp tb_z j (List.mem_range.mpr hj))
  | n + 1, hn => by
    have b := orI_bd (P := P) (f := n) (by omega)
    have ih := tb_orI (P := P) hj n (by omega)
    cases e : P n
    · rw [orI_s0 e, ih]
      by_cases q : j = n
      · rw [q, e, Bool.and_false, Bool.and_false]
      · rw [show decide (j < n + 1) = decide (j < n) from decide_eq_decide.mpr (by omega)]
    · rw [orI_s1 e, tb_bo b.1 b.2 (by omega) hj, ih]
      by_cases q : j = n
      · rw [q, e, decide_eq_true rfl, Bool.true_or, show decide (n < n + 1) = true from decide_eq_true (by omega)]
        rfl
      · rw [decide_eq_false q, Bool.false_or, show decide (j < n + 1) = decide (j < n) from decide_eq_decide.mpr (by omega)]
theorem spr_28 {G K : Nat → Int} {w0 : va_W} {s : Nat} {post : Option Value → va_W → Prop} (hB : HB G) (hs : s < 12) (hX0 : HX 4 G w0) (hk : kOK K) : ∀ (m f : Nat) (w : va_W), ((f + m : Nat) : Int) = G 3 → GOK ad tys GG w → XKN G (spQ G s f K) w → (∀ c j, c ≠ 31 → rd w c j = rd w0 c j) → (∀ w' : va_W, GOK ad tys GG w' → XKN G (spQ G s (G 3).toNat K) w' → (∀ c j, c ≠ 31 → rd w' c j = rd w0 c j) → post (some (.int (Int32.ofInt (orI (lrnP G K s) (G 3).toNat)))) w') → V l D tys A 92 2 0 0 post 0 0 28 [(0, .ref (ad 28)), (1, .ref (ad 4)), (2, .int (Int32.ofInt ((s : Int)))), (3, .int (Int32.ofInt (orI (preP G s) (G 3).toNat))), (4, .int (Int32.ofInt ((sWhs G s : Int)))), (5, .int (ibF 8 (Int32.ofInt 1) (Int32.ofInt (sWhi G s : Int)))), (6, .int (Int32.ofInt (orI (lrnP G K s) f))), (7, .int (Int32.ofInt ((f : Int))))] [] w
  | 0, f, w, hm, hG, hK, ho, kk => by
    have hX : HX 4 G w := HX_keep hX0 (fun c' i h1 h2 => ho _ _ (by omega))
    have b3 := hB.b3
    have b4 := hB.b4
    obtain ⟨⟨w6, o6, i6, n24⟩, -⟩ := say_b hB (s := s) (by omega)
    refine V_iload (v := Int32.ofInt ((f : Int))) mi_92_28 (by simp [stL, lv_args, Value.category]) ?_
    refine V_aload (v := ad 4) mi_92_30 (by simp [stL, lv_args, Value.category]) ?_
    refine V_gO mi_92_31 g4o hG (show rd _ 4 4 = some (.int (Int32.ofInt (G 3))) from hx0 hX (i := 4) (by omega)) ?_
    refine V_cge mi_92_34 ⟨by omega, by omega⟩ ⟨by omega, by omega⟩ (fun q => ?_) (fun q => ?_)
    · have e : f = (G 3).toNat := by omega
      rw [e] at hK
      rw [e]
      refine V_iload (v := Int32.ofInt (orI (lrnP G K s) (G 3).toNat)) mi_92_101 (by simp [stL, lv_args, Value.category]) ?_
      exact V_retI mi_92_103 (fun h => absurd h (by decide +kernel)) (kk w hG hK ho)
    · exact absurd q (by omega)
  | m + 1, f, w, hm, hG, hK, ho, kk => by
    have hX : HX 4 G w := HX_keep hX0 (fun c' i h1 h2 => ho _ _ (by omega))
    have b3 := hB.b3
    have b4 := hB.b4
    obtain ⟨⟨w6, o6, i6, n24⟩, -⟩ := say_b hB (s := s) (by omega)
    refine V_iload (v := Int32.ofInt ((f : Int))) mi_92_28 (by simp [stL, lv_args, Value.category]) ?_
    refine V_aload (v := ad 4) mi_92_30 (by simp [stL, lv_args, Value.category]) ?_
    refine V_gO mi_92_31 g4o hG (show rd _ 4 4 = some (.int (Int32.ofInt (G 3))) from hx0 hX (i := 4) (by omega)) ?_
    refine V_cge mi_92_34 ⟨by omega, by omega⟩ ⟨by omega, by omega⟩ (fun q => ?_) (fun q => ?_)
    · exact absurd q (by omega)
    · have ob := orI_bd (P := preP G s) (f := (G 3).toNat) (by omega)
      have p1 := (tb_k (a := orI (preP G s) (G 3).toNat) (i := (f : Int)) ob.1 ob.2 (by omega) (by omega)).1
      rw [tb_orI (by omega) _ (by omega), decide_eq_true (show f < (G 3).toNat by omega), Bool.true_and] at p1
      have bk := hk (6 * f + sWhs G s) (by omega)
      obtain ⟨t1, t2, t3⟩ := tb_k (a := K (6 * f + sWhs G s)) (i := (sWhi G s : Int)) bk.1 bk.2 (by omega) (by omega)
      have hKn : rd w 31 (6 * f + sWhs G s) = some (.int (Int32.ofInt (K (6 * f + sWhs G s)))) := by rw [hK _ (by omega) (by omega), spK_new o6]
      refine V_iload (v := Int32.ofInt (orI (preP G s) (G 3).toNat)) mi_92_37 (by simp [stL, lv_args, Value.category]) ?_
      refine V_iload (v := Int32.ofInt ((f : Int))) mi_92_38 (by simp [stL, lv_args, Value.category]) ?_
      refine V_ibin mi_92_40 (by omega) ?_
      refine V_ipush mi_92_41 ?_
      refine V_ibin mi_92_42 (by omega) ?_
      rw [p1]
      refine V_beq mi_92_43  (fun q2 => ?_) (fun q2 => ?_)
      · have lf : lrnP G K s f = false := by unfold lrnP; rw [q2, Bool.false_and]
        rw [← orI_s0 (P := lrnP G K s) lf]
        refine V_iinc (v := Int32.ofInt ((f : Int))) mi_92_95 (by simp [stL, lv_args, Value.category]) ?_
        rw [ia2]
        refine V_goto mi_92_98 ?_
        refine V_sub (lv' := [(0, .ref (ad 28)), (1, .ref (ad 4)), (2, .int (Int32.ofInt ((s : Int)))), (3, .int (Int32.ofInt (orI (preP G s) (G 3).toNat))), (4, .int (Int32.ofInt ((sWhs G s : Int)))), (5, .int (ibF 8 (Int32.ofInt 1) (Int32.ofInt (sWhi G s : Int)))), (6, .int (Int32.ofInt (orI (lrnP G K s) (f + 1)))), (7, .int (Int32.ofInt (((f + 1 : Nat) : Int))))]) (fun q hq => ?_) ?_
        · simp only [List.mem_cons, List.not_mem_nil, or_false] at hq
          rcases hq with rfl | rfl | rfl | rfl | rfl | rfl | rfl | rfl <;> simp [stL, lv_args, Value.category]
        exact spr_28 hB hs hX0 hk m (f + 1) w (by omega) hG (by rw [spK_skip q2]; exact hK) ho kk
      · refine V_aload (v := ad 28) mi_92_46 (by simp [stL, lv_args, Value.category]) ?_
        refine V_iload (v := Int32.ofInt ((f : Int))) mi_92_47 (by simp [stL, lv_args, Value.category]) ?_
        refine V_iload (v := Int32.ofInt ((sWhs G s : Int))) mi_92_49 (by simp [stL, lv_args, Value.category]) ?_
        refine V_cO (As := [.int (Int32.ofInt ((f : Int))), .int (Int32.ofInt ((sWhs G s : Int)))]) (st := []) mi_92_51 (by omega) (by decide +kernel) (by decide +kernel) (by omega) g28o hG (bts_ct (f := f) (o := sWhs G s) hG (by omega) o6 hKn) (by omega) (show 2 = mN 88 by decide +kernel) (by simp [Value.category]) ?_
        rintro r w1 ⟨e1, rfl⟩
        rw [e1]
        refine V_iload (v := ibF 8 (Int32.ofInt 1) (Int32.ofInt (sWhi G s : Int))) mi_92_54 (by simp [stL, lv_args, Value.category]) ?_
        refine V_ibin mi_92_56 (by omega) ?_
        refine V_rne mi_92_57 (fun q3 => ?_) (fun q3 => ?_)
        · have tt : tb (K (6 * f + sWhs G s)) (sWhi G s : Int) = true := by
            cases h : tb (K (6 * f + sWhs G s)) (sWhi G s : Int)
            · exact absurd (t3.mpr h) q3
            · rfl
          have lf : lrnP G K s f = false := by unfold lrnP; rw [q2, tt]; rfl
          rw [← orI_s0 (P := lrnP G K s) lf]
          refine V_iinc (v := Int32.ofInt ((f : Int))) mi_92_95 (by simp [stL, lv_args, Value.category]) ?_
          rw [ia2]
          refine V_goto mi_92_98 ?_
          refine V_sub (lv' := [(0, .ref (ad 28)), (1, .ref (ad 4)), (2, .int (Int32.ofInt ((s : Int)))), (3, .int (Int32.ofInt (orI (preP G s) (G 3).toNat))), (4, .int (Int32.ofInt ((sWhs G s : Int)))), (5, .int (ibF 8 (Int32.ofInt 1) (Int32.ofInt (sWhi G s : Int)))), (6, .int (Int32.ofInt (orI (lrnP G K s) (f + 1)))), (7, .int (Int32.ofInt (((f + 1 : Nat) : Int))))]) (fun q hq => ?_) ?_
          · simp only [List.mem_cons, List.not_mem_nil, or_false] at hq
            rcases hq with rfl | rfl | rfl | rfl | rfl | rfl | rfl | rfl <;> simp [stL, lv_args, Value.category]
          refine spr_28 hB hs hX0 hk m (f + 1) w (by omega) hG (fun j hj hp => ?_) ho kk
          rw [spK_step q2 o6]
          show _ = some (Value.int (Int32.ofInt (if j = 6 * f + sWhs G s then _ else _)))
          by_cases e : j = 6 * f + sWhs G s
          · rw [if_pos e, e, t2 tt]
            exact hKn
          · rw [if_neg e]
            exact hK j hj hp
        · have lf : lrnP G K s f = true := by unfold lrnP; rw [q2, t3.mp q3]; rfl
          refine V_aload (v := ad 28) mi_92_60 (by simp [stL, lv_args, Value.category]) ?_
          refine V_gR mi_92_61 g28r2 (by omega) hG ?_
          refine V_iload (v := Int32.ofInt ((f : Int))) mi_92_64 (by simp [stL, lv_args, Value.category]) ?_
          refine V_ipush mi_92_66 ?_
          refine V_ibin mi_92_68 (by omega) ?_
          rw [ib2]
          refine V_iload (v := Int32.ofInt ((sWhs G s : Int))) mi_92_69 (by simp [stL, lv_args, Value.category]) ?_
          refine V_ibin mi_92_71 (by omega) ?_
          rw [ib0]
          rw [show (f : Int) * (6) + (sWhs G s : Int) = ((6 * f + sWhs G s : Nat) : Int) by omega]
          refine V_aload (v := ad 28) mi_92_72 (by simp [stL, lv_args, Value.category]) ?_
          refine V_iload (v := Int32.ofInt ((f : Int))) mi_92_73 (by simp [stL, lv_args, Value.category]) ?_
          refine V_iload (v := Int32.ofInt ((sWhs G s : Int))) mi_92_75 (by simp [stL, lv_args, Value.category]) ?_
          refine V_cO (As := [.int (Int32.ofInt ((f : Int))), .int (Int32.ofInt ((sWhs G s : Int)))]) (st := [.int (Int32.ofInt (((6 * f + sWhs G s : Nat) : Int))), .ref (ad 31)]) mi_92_77 (by omega) (by decide +kernel) (by decide +kernel) (by omega) g28o hG (bts_ct (f := f) (o := sWhs G s) hG (by omega) o6 hKn) (by omega) (show 2 = mN 88 by decide +kernel) (by simp [Value.category]) ?_
          rintro r w2 ⟨e2, rfl⟩
          rw [e2]
          refine V_iload (v := ibF 8 (Int32.ofInt 1) (Int32.ofInt (sWhi G s : Int))) mi_92_80 (by simp [stL, lv_args, Value.category]) ?_
          refine V_ibin mi_92_82 (by omega) ?_
          rw [bitO_i]
          refine V_stat (As := [.ref (ad 31), .int (Int32.ofInt (((6 * f + sWhs G s : Nat) : Int))), .int (Int32.ofInt (bitO (K (6 * f + sWhs G s)) (sWhi G s : Int)))]) (st := []) mi_92_83 (by omega) (putk_ct (j := 6 * f + sWhs G s) a31 hG (by omega) (by omega)) (by omega) (show 3 = mN 148 by decide +kernel) (by simp [Value.category]) ⟨Nat.le_refl _, Nat.le_refl _⟩ ?_
          rintro r w3 ⟨rfl, G3, U3⟩
          refine V_iload (v := Int32.ofInt (orI (lrnP G K s) f)) mi_92_86 (by simp [stL, lv_args, Value.category]) ?_
          refine V_ipush mi_92_88 ?_
          refine V_iload (v := Int32.ofInt ((f : Int))) mi_92_89 (by simp [stL, lv_args, Value.category]) ?_
          refine V_ibin mi_92_91 (by omega) ?_
          refine V_ibin mi_92_92 (by omega) ?_
          rw [bitO_i, ← orI_s1 (P := lrnP G K s) lf]
          refine V_istore mi_92_93 ?_
          refine V_iinc (v := Int32.ofInt ((f : Int))) mi_92_95 (by simp [stL, lv_args, Value.category]) ?_
          rw [ia2]
          refine V_goto mi_92_98 ?_
          refine V_sub (lv' := [(0, .ref (ad 28)), (1, .ref (ad 4)), (2, .int (Int32.ofInt ((s : Int)))), (3, .int (Int32.ofInt (orI (preP G s) (G 3).toNat))), (4, .int (Int32.ofInt ((sWhs G s : Int)))), (5, .int (ibF 8 (Int32.ofInt 1) (Int32.ofInt (sWhi G s : Int)))), (6, .int (Int32.ofInt (orI (lrnP G K s) (f + 1)))), (7, .int (Int32.ofInt (((f + 1 : Nat) : Int))))]) (fun q hq => ?_) ?_
          · simp only [List.mem_cons, List.not_mem_nil, or_false] at hq
            rcases hq with rfl | rfl | rfl | rfl | rfl | rfl | rfl | rfl <;> simp [stL, lv_args, Value.category]
          · refine spr_28 hB hs hX0 hk m (f + 1) w3 (by omega) G3 (fun j hj hp => ?_) (fun c j hc => (upd_ne U3 (by omega)).trans (ho c j hc)) kk
            rw [spK_step q2 o6]
            show _ = some (Value.int (Int32.ofInt (if j = 6 * f + sWhs G s then _ else _)))
            by_cases e : j = 6 * f + sWhs G s
            · rw [if_pos e, e]
              exact upd_eq U3
            · rw [if_neg e]
              exact (upd_ne U3 (by omega)).trans (hK j hj hp)
theorem sprd_ct {G : Nat → Int} (hG : GOK ad tys GG ws) (hX : HX 4 G ws) (hB : HB G) {K : Nat → Int} (hk : kOK K) (hK : XKN G K ws) {s : Nat} (hs : s < 12) : CT l D tys A 92 2 0 0 [.ref (ad 28), .ref (ad 4), .int (Int32.ofInt ((s : Int))), .int (Int32.ofInt (orI (preP G s) (G 3).toNat))] ws (fun r w => r = some (.int (Int32.ofInt (orI (lrnP G K s) (G 3).toNat))) ∧ GOK ad tys GG w ∧ XKN G (spQ G s (G 3).toNat K) w ∧ ∀ c j, c ≠ 31 → rd w c j = rd ws c j) := by
  refine CT_of_V (by omega) (show (4 : Nat) ≤ mML 92 by decide +kernel) ?_
  have b4 := hB.b4
  have b3 := hB.b3
  obtain ⟨⟨w6, o6, i6, n24⟩, g0, g1, g2, g3⟩ := say_b hB (s := s) (by omega)
  refine V_aload (v := ad 4) mi_92_0 (by simp [stL, lv_args, Value.category]) ?_
  refine V_gR mi_92_1 g4r14 (by omega) hG ?_
  refine V_iload (v := Int32.ofInt ((s : Int))) mi_92_4 (by simp [stL, lv_args, Value.category]) ?_
  refine V_stat (As := [.ref (ad 13), .int (Int32.ofInt ((s : Int)))]) (st := []) mi_92_5 (by omega) (atk_ct a13 hG (by omega) (by omega) (say_rd hX (k := s) (r := 1) (by omega) (by omega))) (by omega) (show 2 = mN 147 by decide +kernel) (by simp [Value.category]) ⟨Nat.le_refl _, Nat.le_refl _⟩ ?_
  rintro r w1 ⟨e1, rfl⟩
  rw [e1, g1]
  refine V_istore mi_92_8 ?_
  refine V_ipush mi_92_10 ?_
  refine V_aload (v := ad 4) mi_92_11 (by simp [stL, lv_args, Value.category]) ?_
  refine V_gR mi_92_12 g4r15 (by omega) hG ?_
  refine V_iload (v := Int32.ofInt ((s : Int))) mi_92_15 (by simp [stL, lv_args, Value.category]) ?_
  refine V_stat (As := [.ref (ad 14), .int (Int32.ofInt ((s : Int)))]) (st := [.int (Int32.ofInt (1))]) mi_92_16 (by omega) (atk_ct a14 hG (by omega) (by omega) (say_rd hX (k := s) (r := 2) (by omega) (by omega))) (by omega) (show 2 = mN 147 by decide +kernel) (by simp [Value.category]) ⟨Nat.le_refl _, Nat.le_refl _⟩ ?_
  rintro r w1 ⟨e1, rfl⟩
  rw [e1, g2]
  refine V_ibin mi_92_19 (by omega) ?_
  refine V_istore mi_92_20 ?_
  refine V_ipush mi_92_22 ?_
  refine V_istore mi_92_23 ?_
  refine V_ipush mi_92_25 ?_
  refine V_istore mi_92_26 ?_
  refine V_sub (lv' := [(0, .ref (ad 28)), (1, .ref (ad 4)), (2, .int (Int32.ofInt ((s : Int)))), (3, .int (Int32.ofInt (orI (preP G s) (G 3).toNat))), (4, .int (Int32.ofInt ((sWhs G s : Int)))), (5, .int (ibF 8 (Int32.ofInt 1) (Int32.ofInt (sWhi G s : Int)))), (6, .int (Int32.ofInt (0))), (7, .int (Int32.ofInt (((0 : Nat) : Int))))]) (fun q hq => ?_) ?_
  · simp only [List.mem_cons, List.not_mem_nil, or_false] at hq
    rcases hq with rfl | rfl | rfl | rfl | rfl | rfl | rfl | rfl <;> simp [stL, lv_args, Value.category]
  exact spr_28 (w0 := ws) hB hs hX hk (G 3).toNat 0 ws (by omega) hG (by rw [spK_0]; exact hK) (fun _ _ _ => rfl) (fun w2 G2 k2 o2 => ⟨rfl, G2, k2, o2⟩)
end XSG
