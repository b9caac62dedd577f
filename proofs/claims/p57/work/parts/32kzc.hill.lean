section XXD
variable {l : Launch} {D : va_G} {tys : List (ClassId × FieldType)} {A : Nat → Prop} {ad : Nat → Nat} {ws : va_W}
theorem f22m : gF 22 (-2147483648) 2147483647 := ⟨_, rfl, by decide +kernel⟩
theorem f23m : gF 23 (-2147483648) 2147483647 := ⟨_, rfl, by decide +kernel⟩
/-- what the reference hears by: one who misses some -/
noncomputable def MoM (f : Nat) (hz : Int32) (_ : Int) (w : va_W) : Prop := rd w 90 21 = some (.int (Int32.ofInt 0)) ∧ rd w 90 24 = some (.int (Int32.ofInt 0)) ∧ rd w 90 22 = some (.int (Int32.ofInt (f : Int))) ∧ rd w 90 23 = some (.int hz)
theorem huF_i {s : Nat} (hs : s < 12) : ibF 5 (ibF 9 (Int32.ofInt 0) (Int32.ofInt (s : Int))) (Int32.ofInt 1) = Int32.ofInt (if huF s = true then 1 else 0) := by
  rw [hsh0 hs]
  rfl
theorem hem_ct {f g s : Nat} {hz : Int32} {x : Int} (hf : f < 6) (hg : g < 6) (hG : GOK ad tys GG ws) (h24 : rd ws 90 24 = some (.int (Int32.ofInt 0))) (h22 : rd ws 90 22 = some (.int (Int32.ofInt (f : Int)))) (h23 : rd ws 90 23 = some (.int hz)) : CT l D tys A 235 1 0 0 [.ref (ad 90), .int (Int32.ofInt ((g : Int))), .int (Int32.ofInt ((s : Int)))] ws (fun r w => w = ws ∧ r = some (.int (bI (heM f hz s x g)))) := by
  refine CT_of_V (by omega) (show (3 : Nat) ≤ mML 235 by decide +kernel) ?_
  refine V_aload (v := ad 90) mi_235_0 (by simp [stL, stL2, lv_args, Value.category]) ?_
  refine V_getI mi_235_1 hG (h24) ?_
  refine V_zeq mi_235_4 ⟨by omega, by omega⟩ (fun q => ?_) (fun q => ?_)
  · refine V_iload (v := Int32.ofInt ((g : Int))) mi_235_29 (by simp [stL, stL2, lv_args, Value.category]) ?_
    refine V_aload (v := ad 90) mi_235_30 (by simp [stL, stL2, lv_args, Value.category]) ?_
    refine V_getI mi_235_31 hG (h22) ?_
    refine V_cne mi_235_34 ⟨by omega, by omega⟩ ⟨by omega, by omega⟩ (fun q2 => ?_) (fun q2 => ?_)
    · refine V_ipush mi_235_48 ?_
      refine V_goto mi_235_49 ?_
      exact V_retI mi_235_53 (fun _ => by decide) ⟨rfl, by unfold heM; rw [show Nat.beq g f = false from Bool.eq_false_iff.mpr (fun e => q2 (by rw [Nat.eq_of_beq_eq_true e]))]; rfl⟩
    · have gf : g = f := by omega
      refine V_aload (v := ad 90) mi_235_37 (by simp [stL, stL2, lv_args, Value.category]) ?_
      refine V_getI mi_235_38 hG (h23) ?_
      refine V_iload (v := Int32.ofInt ((s : Int))) mi_235_41 (by simp [stL, stL2, lv_args, Value.category]) ?_
      refine V_stat (As := [.int (hz), .int (Int32.ofInt ((s : Int)))]) (st := []) mi_235_42 (by omega) (bit_ct _ _ _) (by omega) (show 2 = mN 195 by decide +kernel) (by simp [Value.category]) ⟨Nat.le_refl _, Nat.le_refl _⟩ ?_
      rintro r w1 ⟨e1, rfl⟩
      rw [e1, huB_i]
      refine V_zne mi_235_45 ⟨by split <;> omega, by split <;> omega⟩ (fun q3 => ?_) (fun q3 => ?_)
      · have hn : huB hz s = true := by
          cases c : huB hz s with
          | true => rfl
          | false => exact absurd (by rw [c, if_neg Bool.false_ne_true]) q3
        refine V_ipush mi_235_52 ?_
        exact V_retI mi_235_53 (fun _ => by decide) ⟨rfl, by unfold heM; rw [gf, Nat.beq_refl, hn]; rfl⟩
      · have hn : huB hz s = false := by
          cases c : huB hz s with
          | false => rfl
          | true => exact absurd (by rw [c, if_pos rfl] at q3; exact q3) (by omega)
        refine V_ipush mi_235_48 ?_
        refine V_goto mi_235_49 ?_
        exact V_retI mi_235_53 (fun _ => by decide) ⟨rfl, by unfold heM; rw [hn, Bool.and_false]; rfl⟩
  · exact absurd rfl q
theorem heaM {G : Nat → Int} {f : Nat} {hz : Int32} (hB : HB G) (hf : f < 6) : HEA l D tys A ad G (Int32.ofInt 0) huF (heM f hz) dxI (MoM f hz) :=
  ⟨fun x w w2 h o => ⟨(o _ _ (by omega) (by omega)).trans h.1, (o _ _ (by omega) (by omega)).trans h.2.1, (o _ _ (by omega) (by omega)).trans h.2.2.1, (o _ _ (by omega) (by omega)).trans h.2.2.2⟩, fun x w h => h.1, fun s hs => huF_i hs, fun s x g w hs hg hG hW hM hp => ⟨1, by omega, CT_post (hem_ct (f := f) (g := g) (s := s) (hz := hz) (x := x) hf (by have := hB.b3; omega) hG hM.2.1 hM.2.2.1 hM.2.2.2) (fun r w2 h => by
    obtain ⟨e, h⟩ := h
    subst e
    exact ⟨h, hG, hM, fun _ _ _ => rfl⟩)⟩, fun _ _ _ _ => rfl, fun _ _ => rfl⟩
theorem gom_ct2 {G : Nat → Int} {f : Nat} {hz : Int32} (hB : HB G) (hf : f < 6) (hG : GOK ad tys GG ws) (hW : W91 G ws) (h24 : rd ws 90 24 = some (.int (Int32.ofInt 0))) (h22 : rd ws 90 22 = some (.int (Int32.ofInt (f : Int)))) (h23 : rd ws 90 23 = some (.int hz)) : CT l D tys A 238 8 0 0 [.ref (ad 90)] ws (fun r w => r = none ∧ GOK ad tys GG w ∧ (∀ j, j < 36 → rd w 98 (36 * (G 2).toNat + j) = some (.int (Int32.ofInt ((msS G f hz (G 2).toNat).1.K j)))) ∧ ∀ c j, ¬ (98 ≤ c ∧ c ≤ 101) → ¬ (c = 90 ∧ (j = 18 ∨ j = 21 ∨ j = 25)) → rd w c j = rd ws c j) := by
  refine CT_of_V (by omega) (show (1 : Nat) ≤ mML 238 by decide +kernel) ?_
  have b2 := hB.b2
  refine V_aload (v := ad 90) mi_238_0 (by simp [stL, stL2, lv_args, Value.category]) ?_
  refine V_ipush mi_238_1 ?_
  refine V_putI mi_238_2 hG f21m (by omega) rfl (by decide +kernel) (by rw [Int32.toInt_ofInt_of_le (by omega) (by omega)]; omega) (by rw [Int32.toInt_ofInt_of_le (by omega) (by omega)]; omega) (fun w1 G1 U1 => ?_)
  refine V_aload (v := ad 90) mi_238_5 (by simp [stL, stL2, lv_args, Value.category]) ?_
  refine V_callM (As := []) (st := []) mi_238_6 (by omega) (by decide +kernel) (by decide +kernel) G1 (gonw_ct (heaM (f := f) (hz := hz) hB hf) (x0 := 0) hB G1 (fun j hj => (upd_ne U1 (by omega)).trans (hW j hj)) ⟨upd_eq U1, (upd_ne U1 (by omega)).trans h24, (upd_ne U1 (by omega)).trans h22, (upd_ne U1 (by omega)).trans h23⟩) (by omega) (show 0 = mN 237 by decide +kernel) (by simp [Value.category]) ?_
  rintro r w2 ⟨rfl, T2, k2, o2⟩
  exact V_retV mi_238_9 ⟨rfl, T2.g, fun j hj => k2 (G 2).toNat (by omega) j hj, fun c j h1 h2 => (o2 c j h1 (by omega)).trans (upd_ne U1 (by omega))⟩
theorem wgm_30 {G : Nat → Int} (hG : GOK ad tys GG ws) (hW : W91 G ws) (hB : HB G) {f o t i : Nat} {y : Int} (hf : f < 6) (ht : t < 4096) (hi : i < 4096) {post : Option Value → va_W → Prop} : ∀ (k s : Nat), s + k = 12 → V l D tys A 329 9 0 0 post 0 0 98 [(0, .ref (ad 90)), (1, .int (Int32.ofInt ((f : Int)))), (2, .int (Int32.ofInt ((o : Int)))), (3, .int (Int32.ofInt ((t : Int)))), (4, .long (Int64.ofInt (y))), (6, .int (Int32.ofInt ((i : Int)))), (7, .long (Int64.ofInt (wgN t i (G (54 + f)) 12)))] [] ws → V l D tys A 329 9 0 0 post 0 0 30 [(0, .ref (ad 90)), (1, .int (Int32.ofInt ((f : Int)))), (2, .int (Int32.ofInt ((o : Int)))), (3, .int (Int32.ofInt ((t : Int)))), (4, .long (Int64.ofInt (y))), (6, .int (Int32.ofInt ((i : Int)))), (7, .long (Int64.ofInt (wgN t i (G (54 + f)) s))), (9, .int (Int32.ofInt ((s : Int))))] [] ws
  | 0, s, hs, kk => by
    refine V_iload (v := Int32.ofInt ((s : Int))) mi_329_30 (by simp [stL, stL2, lv_args, Value.category]) ?_
    refine V_ipush mi_329_32 ?_
    refine V_cge mi_329_34 ⟨by omega, by omega⟩ ⟨by omega, by omega⟩ (fun q => ?_) (fun q => ?_)
    · rw [show s = 12 by omega]
      refine V_sub (lv' := [(0, .ref (ad 90)), (1, .int (Int32.ofInt ((f : Int)))), (2, .int (Int32.ofInt ((o : Int)))), (3, .int (Int32.ofInt ((t : Int)))), (4, .long (Int64.ofInt (y))), (6, .int (Int32.ofInt ((i : Int)))), (7, .long (Int64.ofInt (wgN t i (G (54 + f)) 12)))]) (fun q hq => ?_) ?_
      · simp only [List.mem_cons, List.not_mem_nil, or_false] at hq
        rcases hq with rfl | rfl | rfl | rfl | rfl | rfl | rfl <;> simp [stL, stL2, lv_args, Value.category]
      exact kk
    · exact absurd q (by omega)
  | k + 1, s, hs, kk => by
    obtain ⟨s91, e91, -⟩ := g91s
    have bd := hB.bd f hf
    refine V_iload (v := Int32.ofInt ((s : Int))) mi_329_30 (by simp [stL, stL2, lv_args, Value.category]) ?_
    refine V_ipush mi_329_32 ?_
    refine V_cge mi_329_34 ⟨by omega, by omega⟩ ⟨by omega, by omega⟩ (fun q => ?_) (fun q => ?_)
    · exact absurd q (by omega)
    · have m1 := Nat.mod_lt (t / 2 ^ s) (show 0 < 2 by omega)
      have m2 := Nat.mod_lt (i / 2 ^ s) (show 0 < 2 by omega)
      refine V_lload (v := Int64.ofInt (wgN t i (G (54 + f)) s)) mi_329_37 (by simp [stL, stL2, lv_args, Value.category]) ?_
      refine V_iload (v := Int32.ofInt ((t : Int))) mi_329_39 (by simp [stL, stL2, lv_args, Value.category]) ?_
      refine V_iload (v := Int32.ofInt ((s : Int))) mi_329_40 (by simp [stL, stL2, lv_args, Value.category]) ?_
      refine V_stat (As := [.int (Int32.ofInt ((t : Int))), .int (Int32.ofInt ((s : Int)))]) (st := [.long (Int64.ofInt (wgN t i (G (54 + f)) s))]) mi_329_42 (by omega) (bit_ct _ _ _) (by omega) (show 2 = mN 195 by decide +kernel) (by simp [Value.category]) ⟨Nat.le_refl _, Nat.le_refl _⟩ ?_
      rintro r w1 ⟨e1, rfl⟩
      rw [e1, bit13 ht (by omega)]
      refine V_zne mi_329_45 ⟨by omega, by omega⟩ (fun q2 => ?_) (fun q2 => ?_)
      · refine V_iload (v := Int32.ofInt ((i : Int))) mi_329_52 (by simp [stL, stL2, lv_args, Value.category]) ?_
        refine V_iload (v := Int32.ofInt ((s : Int))) mi_329_54 (by simp [stL, stL2, lv_args, Value.category]) ?_
        refine V_stat (As := [.int (Int32.ofInt ((i : Int))), .int (Int32.ofInt ((s : Int)))]) (st := [.long (Int64.ofInt (wgN t i (G (54 + f)) s))]) mi_329_56 (by omega) (bit_ct _ _ _) (by omega) (show 2 = mN 195 by decide +kernel) (by simp [Value.category]) ⟨Nat.le_refl _, Nat.le_refl _⟩ ?_
        rintro r w2 ⟨e2, rfl⟩
        rw [e2, bit13 hi (by omega)]
        refine V_ipush mi_329_59 ?_
        refine V_cne mi_329_60 ⟨by omega, by omega⟩ ⟨by omega, by omega⟩ (fun q3 => ?_) (fun q3 => ?_)
        · refine V_ipush mi_329_76 ?_
          refine V_aload (v := ad 90) mi_329_78 (by simp [stL, stL2, lv_args, Value.category]) ?_
          refine V_getI mi_329_79 hG (rref gr1m (by omega) hG) ?_
          refine V_ipush mi_329_82 ?_
          refine V_iload (v := Int32.ofInt ((f : Int))) mi_329_84 (by simp [stL, stL2, lv_args, Value.category]) ?_
          refine V_ibin mi_329_85 (by omega) ?_
          rw [ib0]
          refine V_aldX (j := 54 + f) mi_329_86 (by rw [show (54) + ((f : Int)) = ((54 + f : Nat) : Int) by omega]) hG e91 (by omega) (by omega) (hW _ (by omega)) ?_
          refine V_ibin mi_329_87 (by omega) ?_
          rw [ib1]
          refine V_i2l mi_329_88 ?_
          rw [i2lx ⟨by omega, by omega⟩]
          refine V_lbin mi_329_89 (by omega) ?_
          rw [lmI, ← wgN_2 (show t / 2 ^ s % 2 = 1 by omega) (show i / 2 ^ s % 2 = 0 by omega)]
          refine V_lstore mi_329_90 ?_
          refine V_iinc (v := Int32.ofInt ((s : Int))) mi_329_92 (by simp [stL, stL2, lv_args, Value.category]) ?_
          rw [ia2]
          refine V_goto mi_329_95 ?_
          refine V_sub (lv' := [(0, .ref (ad 90)), (1, .int (Int32.ofInt ((f : Int)))), (2, .int (Int32.ofInt ((o : Int)))), (3, .int (Int32.ofInt ((t : Int)))), (4, .long (Int64.ofInt (y))), (6, .int (Int32.ofInt ((i : Int)))), (7, .long (Int64.ofInt (wgN t i (G (54 + f)) (s + 1)))), (9, .int (Int32.ofInt (((s + 1 : Nat) : Int))))]) (fun q hq => ?_) ?_
          · simp only [List.mem_cons, List.not_mem_nil, or_false] at hq
            rcases hq with rfl | rfl | rfl | rfl | rfl | rfl | rfl | rfl <;> simp [stL, stL2, lv_args, Value.category]
          exact wgm_30 hG hW hB hf ht hi k (s + 1) (by omega) kk
        · refine V_aload (v := ad 90) mi_329_63 (by simp [stL, stL2, lv_args, Value.category]) ?_
          refine V_getI mi_329_64 hG (rref gr1m (by omega) hG) ?_
          refine V_ipush mi_329_67 ?_
          refine V_iload (v := Int32.ofInt ((f : Int))) mi_329_69 (by simp [stL, stL2, lv_args, Value.category]) ?_
          refine V_ibin mi_329_70 (by omega) ?_
          rw [ib0]
          refine V_aldX (j := 54 + f) mi_329_71 (by rw [show (54) + ((f : Int)) = ((54 + f : Nat) : Int) by omega]) hG e91 (by omega) (by omega) (hW _ (by omega)) ?_
          refine V_i2l mi_329_72 ?_
          rw [i2lx ⟨by omega, by omega⟩]
          refine V_goto mi_329_73 ?_
          refine V_lbin mi_329_89 (by omega) ?_
          rw [lmI, ← wgN_1 (show t / 2 ^ s % 2 = 1 by omega) (show i / 2 ^ s % 2 = 1 by omega)]
          refine V_lstore mi_329_90 ?_
          refine V_iinc (v := Int32.ofInt ((s : Int))) mi_329_92 (by simp [stL, stL2, lv_args, Value.category]) ?_
          rw [ia2]
          refine V_goto mi_329_95 ?_
          refine V_sub (lv' := [(0, .ref (ad 90)), (1, .int (Int32.ofInt ((f : Int)))), (2, .int (Int32.ofInt ((o : Int)))), (3, .int (Int32.ofInt ((t : Int)))), (4, .long (Int64.ofInt (y))), (6, .int (Int32.ofInt ((i : Int)))), (7, .long (Int64.ofInt (wgN t i (G (54 + f)) (s + 1)))), (9, .int (Int32.ofInt (((s + 1 : Nat) : Int))))]) (fun q hq => ?_) ?_
          · simp only [List.mem_cons, List.not_mem_nil, or_false] at hq
            rcases hq with rfl | rfl | rfl | rfl | rfl | rfl | rfl | rfl <;> simp [stL, stL2, lv_args, Value.category]
          exact wgm_30 hG hW hB hf ht hi k (s + 1) (by omega) kk
      · refine V_lpush mi_329_48 ?_
        refine V_goto mi_329_49 ?_
        refine V_lbin mi_329_89 (by omega) ?_
        rw [lmI, Int.mul_one, ← wgN_0 (x := i) (d := G (54 + f)) (show t / 2 ^ s % 2 = 0 by omega)]
        refine V_lstore mi_329_90 ?_
        refine V_iinc (v := Int32.ofInt ((s : Int))) mi_329_92 (by simp [stL, stL2, lv_args, Value.category]) ?_
        rw [ia2]
        refine V_goto mi_329_95 ?_
        refine V_sub (lv' := [(0, .ref (ad 90)), (1, .int (Int32.ofInt ((f : Int)))), (2, .int (Int32.ofInt ((o : Int)))), (3, .int (Int32.ofInt ((t : Int)))), (4, .long (Int64.ofInt (y))), (6, .int (Int32.ofInt ((i : Int)))), (7, .long (Int64.ofInt (wgN t i (G (54 + f)) (s + 1)))), (9, .int (Int32.ofInt (((s + 1 : Nat) : Int))))]) (fun q hq => ?_) ?_
        · simp only [List.mem_cons, List.not_mem_nil, or_false] at hq
          rcases hq with rfl | rfl | rfl | rfl | rfl | rfl | rfl | rfl <;> simp [stL, stL2, lv_args, Value.category]
        exact wgm_30 hG hW hB hf ht hi k (s + 1) (by omega) kk
theorem chm_6 {G : Nat → Int} {w0 : va_W} (hW0 : W91 G w0) (hB : HB G) {f o t : Nat} (hf : f < 6) (ho : o < 6) (ht : t < 4096) (h8 : bnS t 13 ≤ 8) (h24' : rd w0 90 24 = some (.int (Int32.ofInt 0))) (h22' : rd w0 90 22 = some (.int (Int32.ofInt (-1)))) {post : Option Value → va_W → Prop} : ∀ (k i : Nat) (ws : va_W), i + k = t + 1 → GOK ad tys GG ws → MTW w0 ws → (∀ w : va_W, GOK ad tys GG w → MTW w0 w → post (some (.long (Int64.ofInt (smS t (gwN G f o t) (t + 1))))) w) → V l D tys A 329 9 0 0 post 0 0 6 [(0, .ref (ad 90)), (1, .int (Int32.ofInt ((f : Int)))), (2, .int (Int32.ofInt ((o : Int)))), (3, .int (Int32.ofInt ((t : Int)))), (4, .long (Int64.ofInt (smS t (gwN G f o t) i))), (6, .int (Int32.ofInt ((i : Int))))] [] ws
  | 0, i, ws, hi, hG, hO, kk => by
    refine V_iload (v := Int32.ofInt ((i : Int))) mi_329_6 (by simp [stL, stL2, lv_args, Value.category]) ?_
    refine V_iload (v := Int32.ofInt ((t : Int))) mi_329_8 (by simp [stL, stL2, lv_args, Value.category]) ?_
    refine V_cgt mi_329_9 ⟨by omega, by omega⟩ ⟨by omega, by omega⟩ (fun q => ?_) (fun q => ?_)
    · refine V_lload (v := Int64.ofInt (smS t (gwN G f o t) i)) mi_329_154 (by simp [stL, stL2, lv_args, Value.category]) ?_
      exact V_retL mi_329_156 (by rw [show i = t + 1 by omega]; exact kk ws hG hO)
    · exact absurd q (by omega)
  | k + 1, i, ws, hi, hG, hO, kk => by
    have hW : W91 G ws := MTW_W hO hW0
    have b2 := hB.b2
    have bd := hB.bd f hf
    have h24 : rd ws 90 24 = some (.int (Int32.ofInt 0)) := (hO _ _ (by omega) (by omega)).trans h24'
    have h22 : rd ws 90 22 = some (.int (Int32.ofInt (-1))) := (hO _ _ (by omega) (by omega)).trans h22'
    have w8 : 100 ^ bnS t 13 ≤ 100 ^ 8 := Nat.pow_le_pow_right (by omega) h8
    have wb := wgN_b (t := t) (x := i) bd.1 bd.2 12
    have b12 : bnS t 12 ≤ bnS t 13 := Nat.le_add_right _ _
    have w12 : 100 ^ bnS t 12 ≤ 100 ^ bnS t 13 := Nat.pow_le_pow_right (by omega) b12
    refine V_iload (v := Int32.ofInt ((i : Int))) mi_329_6 (by simp [stL, stL2, lv_args, Value.category]) ?_
    refine V_iload (v := Int32.ofInt ((t : Int))) mi_329_8 (by simp [stL, stL2, lv_args, Value.category]) ?_
    refine V_cgt mi_329_9 ⟨by omega, by omega⟩ ⟨by omega, by omega⟩ (fun q => ?_) (fun q => ?_)
    · exact absurd q (by omega)
    · refine V_iload (v := Int32.ofInt ((i : Int))) mi_329_12 (by simp [stL, stL2, lv_args, Value.category]) ?_
      refine V_iload (v := Int32.ofInt ((t : Int))) mi_329_14 (by simp [stL, stL2, lv_args, Value.category]) ?_
      refine V_ipush mi_329_15 ?_
      refine V_ibin mi_329_16 (by omega) ?_
      refine V_ibin mi_329_17 (by omega) ?_
      have la : i &&& (4095 - t) ≤ 4095 - t := Nat.and_le_right
      rw [ask12 (by omega) ht]
      refine V_zeq mi_329_18 ⟨by omega, by omega⟩ (fun q2 => ?_) (fun q2 => ?_)
      · have hx : i &&& t = i := (ask12_0 (by omega) ht).mp (by omega)
        refine V_lpush mi_329_24 ?_
        refine V_lstore mi_329_25 ?_
        refine V_ipush mi_329_27 ?_
        refine V_istore mi_329_28 ?_
        rw [show Int64.ofInt 1 = Int64.ofInt (wgN t i (G (54 + f)) 0) from rfl]
        refine V_sub (lv' := [(0, .ref (ad 90)), (1, .int (Int32.ofInt ((f : Int)))), (2, .int (Int32.ofInt ((o : Int)))), (3, .int (Int32.ofInt ((t : Int)))), (4, .long (Int64.ofInt (smS t (gwN G f o t) i))), (6, .int (Int32.ofInt ((i : Int)))), (7, .long (Int64.ofInt (wgN t i (G (54 + f)) 0))), (9, .int (Int32.ofInt (((0 : Nat) : Int))))]) (fun q hq => ?_) ?_
        · simp only [List.mem_cons, List.not_mem_nil, or_false] at hq
          rcases hq with rfl | rfl | rfl | rfl | rfl | rfl | rfl | rfl <;> simp [stL, stL2, lv_args, Value.category]
        refine wgm_30 hG hW hB hf ht (by omega) 12 0 (by omega) ?_
        refine V_lload (v := Int64.ofInt (wgN t i (G (54 + f)) 12)) mi_329_98 (by simp [stL, stL2, lv_args, Value.category]) ?_
        refine V_lpush mi_329_100 ?_
        refine V_lcmp mi_329_101 ?_
        have cl := cdL_iff (x := 1) (a := wgN t i (G (54 + f)) 12) (b := 0) (by omega) (by omega) (by omega) (by omega)
        refine V_if mi_329_102 (fun q4 => ?_) (fun q4 => ?_)
        · refine V_aload (v := ad 90) mi_329_108 (by simp [stL, stL2, lv_args, Value.category]) ?_
          refine V_iload (v := Int32.ofInt ((f : Int))) mi_329_109 (by simp [stL, stL2, lv_args, Value.category]) ?_
          refine V_putI mi_329_110 hG f22m (by omega) rfl (by decide +kernel) (by rw [Int32.toInt_ofInt_of_le (by omega) (by omega)]; omega) (by rw [Int32.toInt_ofInt_of_le (by omega) (by omega)]; omega) (fun w1 G1 U1 => ?_)
          refine V_aload (v := ad 90) mi_329_113 (by simp [stL, stL2, lv_args, Value.category]) ?_
          refine V_iload (v := Int32.ofInt ((i : Int))) mi_329_114 (by simp [stL, stL2, lv_args, Value.category]) ?_
          refine V_putI mi_329_116 G1 f23m (by omega) rfl (by decide +kernel) (by rw [Int32.toInt_ofInt_of_le (by omega) (by omega)]; omega) (by rw [Int32.toInt_ofInt_of_le (by omega) (by omega)]; omega) (fun w2 G2 U2 => ?_)
          refine V_aload (v := ad 90) mi_329_119 (by simp [stL, stL2, lv_args, Value.category]) ?_
          refine V_callM (As := []) (st := []) mi_329_120 (by omega) (by decide +kernel) (by decide +kernel) G2 (gom_ct2 (f := f) (hz := Int32.ofInt (i : Int)) hB hf G2 (fun j hj => (upd_ne U2 (by omega)).trans ((upd_ne U1 (by omega)).trans (hW j hj))) ((upd_ne U2 (by omega)).trans ((upd_ne U1 (by omega)).trans h24)) ((upd_ne U2 (by omega)).trans (upd_eq U1)) (upd_eq U2)) (by omega) (show 0 = mN 238 by decide +kernel) (by simp [Value.category]) ?_
          rintro r w3 ⟨rfl, G3, k3, o3⟩
          refine V_aload (v := ad 90) mi_329_123 (by simp [stL, stL2, lv_args, Value.category]) ?_
          refine V_ipush mi_329_124 ?_
          refine V_putI mi_329_125 G3 f22m (by omega) rfl (by decide +kernel) (by rw [Int32.toInt_ofInt_of_le (by omega) (by omega)]; omega) (by rw [Int32.toInt_ofInt_of_le (by omega) (by omega)]; omega) (fun w4 G4 U4 => ?_)
          have O4 : MTW w0 w4 := fun c j h1 h2 => by
            by_cases e : c = 90 ∧ j = 22
            · rw [e.1, e.2, h22']
              exact upd_eq U4
            · exact (upd_ne U4 e).trans ((o3 c j h1 (by omega)).trans ((upd_ne U2 (by omega)).trans ((upd_ne U1 e).trans (hO c j h1 h2))))
          have hW4 : W91 G w4 := MTW_W O4 hW0
          have ko := tellW_ok (G := G) (hu := huF) (he := heM f (Int32.ofInt (i : Int))) (dx := dxI) (x0 := 0) hB (G 2).toNat (6 * f + o) (by omega)
          have ko : 0 ≤ (msS G f (Int32.ofInt (i : Int)) (G 2).toNat).1.K (6 * f + o) ∧ (msS G f (Int32.ofInt (i : Int)) (G 2).toNat).1.K (6 * f + o) ≤ 63 := ko
          refine V_lload (v := Int64.ofInt (smS t (gwN G f o t) i)) mi_329_128 (by simp [stL, stL2, lv_args, Value.category]) ?_
          refine V_aload (v := ad 90) mi_329_130 (by simp [stL, stL2, lv_args, Value.category]) ?_
          refine V_iload (v := Int32.ofInt ((f : Int))) mi_329_131 (by simp [stL, stL2, lv_args, Value.category]) ?_
          refine V_iload (v := Int32.ofInt ((o : Int))) mi_329_132 (by simp [stL, stL2, lv_args, Value.category]) ?_
          refine V_callM (As := [.int (Int32.ofInt ((f : Int))), .int (Int32.ofInt ((o : Int)))]) (st := [.long (Int64.ofInt (smS t (gwN G f o t) i))]) mi_329_133 (by omega) (by decide +kernel) (by decide +kernel) G4 (wez_ct (f := f) (o := o) (z := (msS G f (Int32.ofInt (i : Int)) (G 2).toNat).1.K (6 * f + o)) hB G4 hW4 ⟨by omega, by omega⟩ hf ho ((upd_ne U4 (by omega)).trans (k3 _ (by omega)))) (by omega) (show 2 = mN 242 by decide +kernel) (by simp [Value.category]) ?_
          rintro r w5 ⟨e5, rfl⟩
          rw [e5]
          change V _ _ _ _ _ _ _ _ _ _ _ _ _ (.int (bI (msB G f (Int32.ofInt (i : Int)) o)) :: _) _
          refine V_beq mi_329_136  (fun q5 => ?_) (fun q5 => ?_)
          · refine V_lpush mi_329_144 ?_
            refine V_lbin mi_329_145 (by omega) ?_
            rw [ladI, show smS t (gwN G f o t) i + 0 = smS t (gwN G f o t) (i + 1) by rw [smS_y hx, gwN_n q5]]
            refine V_lstore mi_329_146 ?_
            refine V_iinc (v := Int32.ofInt ((i : Int))) mi_329_148 (by simp [stL, stL2, lv_args, Value.category]) ?_
            rw [ia2]
            refine V_goto mi_329_151 ?_
            refine V_sub (lv' := [(0, .ref (ad 90)), (1, .int (Int32.ofInt ((f : Int)))), (2, .int (Int32.ofInt ((o : Int)))), (3, .int (Int32.ofInt ((t : Int)))), (4, .long (Int64.ofInt (smS t (gwN G f o t) (i + 1)))), (6, .int (Int32.ofInt (((i + 1 : Nat) : Int))))]) (fun q hq => ?_) ?_
            · simp only [List.mem_cons, List.not_mem_nil, or_false] at hq
              rcases hq with rfl | rfl | rfl | rfl | rfl | rfl <;> simp [stL, stL2, lv_args, Value.category]
            exact chm_6 hW0 hB hf ho ht h8 h24' h22' k (i + 1) w4 (by omega) G4 O4 kk
          · refine V_lload (v := Int64.ofInt (wgN t i (G (54 + f)) 12)) mi_329_139 (by simp [stL, stL2, lv_args, Value.category]) ?_
            refine V_goto mi_329_141 ?_
            refine V_lbin mi_329_145 (by omega) ?_
            rw [ladI, show smS t (gwN G f o t) i + wgN t i (G (54 + f)) 12 = smS t (gwN G f o t) (i + 1) by rw [smS_y hx, gwN_y q5]]
            refine V_lstore mi_329_146 ?_
            refine V_iinc (v := Int32.ofInt ((i : Int))) mi_329_148 (by simp [stL, stL2, lv_args, Value.category]) ?_
            rw [ia2]
            refine V_goto mi_329_151 ?_
            refine V_sub (lv' := [(0, .ref (ad 90)), (1, .int (Int32.ofInt ((f : Int)))), (2, .int (Int32.ofInt ((o : Int)))), (3, .int (Int32.ofInt ((t : Int)))), (4, .long (Int64.ofInt (smS t (gwN G f o t) (i + 1)))), (6, .int (Int32.ofInt (((i + 1 : Nat) : Int))))]) (fun q hq => ?_) ?_
            · simp only [List.mem_cons, List.not_mem_nil, or_false] at hq
              rcases hq with rfl | rfl | rfl | rfl | rfl | rfl <;> simp [stL, stL2, lv_args, Value.category]
            exact chm_6 hW0 hB hf ho ht h8 h24' h22' k (i + 1) w4 (by omega) G4 O4 kk
        · have wz : wgN t i (G (54 + f)) 12 = 0 := Classical.byContradiction (fun z => q4 (cl.mpr (fun z2 => z (by have z2 : wgN t i (G (54 + f)) 12 - 0 = 0 := z2; omega))))
          refine V_goto mi_329_105 ?_
          rw [show smS t (gwN G f o t) i = smS t (gwN G f o t) (i + 1) by rw [smS_y hx, gwN_0 wz]; exact (Int.add_zero _).symm]
          refine V_iinc (v := Int32.ofInt ((i : Int))) mi_329_148 (by simp [stL, stL2, lv_args, Value.category]) ?_
          rw [ia2]
          refine V_goto mi_329_151 ?_
          refine V_sub (lv' := [(0, .ref (ad 90)), (1, .int (Int32.ofInt ((f : Int)))), (2, .int (Int32.ofInt ((o : Int)))), (3, .int (Int32.ofInt ((t : Int)))), (4, .long (Int64.ofInt (smS t (gwN G f o t) (i + 1)))), (6, .int (Int32.ofInt (((i + 1 : Nat) : Int))))]) (fun q hq => ?_) ?_
          · simp only [List.mem_cons, List.not_mem_nil, or_false] at hq
            rcases hq with rfl | rfl | rfl | rfl | rfl | rfl <;> simp [stL, stL2, lv_args, Value.category]
          exact chm_6 hW0 hB hf ho ht h8 h24' h22' k (i + 1) ws (by omega) hG hO kk
      · have hx : ¬ i &&& t = i := fun z => q2 (by rw [(ask12_0 (by omega) ht).mpr z]; all_goals rfl)
        refine V_goto mi_329_21 ?_
        rw [show smS t (gwN G f o t) i = smS t (gwN G f o t) (i + 1) by rw [smS_n hx]]
        refine V_iinc (v := Int32.ofInt ((i : Int))) mi_329_148 (by simp [stL, stL2, lv_args, Value.category]) ?_
        rw [ia2]
        refine V_goto mi_329_151 ?_
        refine V_sub (lv' := [(0, .ref (ad 90)), (1, .int (Int32.ofInt ((f : Int)))), (2, .int (Int32.ofInt ((o : Int)))), (3, .int (Int32.ofInt ((t : Int)))), (4, .long (Int64.ofInt (smS t (gwN G f o t) (i + 1)))), (6, .int (Int32.ofInt (((i + 1 : Nat) : Int))))]) (fun q hq => ?_) ?_
        · simp only [List.mem_cons, List.not_mem_nil, or_false] at hq
          rcases hq with rfl | rfl | rfl | rfl | rfl | rfl <;> simp [stL, stL2, lv_args, Value.category]
        exact chm_6 hW0 hB hf ho ht h8 h24' h22' k (i + 1) ws (by omega) hG hO kk
theorem cho_ct {G : Nat → Int} (hG : GOK ad tys GG ws) (hW : W91 G ws) (hB : HB G) (h24 : rd ws 90 24 = some (.int (Int32.ofInt 0))) (h22 : rd ws 90 22 = some (.int (Int32.ofInt (-1)))) {f o t : Nat} (hf : f < 6) (ho : o < 6) (ht : t < 4096) (h8 : bnS t 13 ≤ 8) : CT l D tys A 329 9 0 0 [.ref (ad 90), .int (Int32.ofInt ((f : Int))), .int (Int32.ofInt ((o : Int))), .int (Int32.ofInt ((t : Int)))] ws (fun r w => (GOK ad tys GG w ∧ MTW ws w) ∧ r = some (.long (Int64.ofInt (smS t (gwN G f o t) (t + 1))))) := by
  refine CT_of_V (by omega) (show (4 : Nat) ≤ mML 329 by decide +kernel) ?_
  refine V_lpush mi_329_0 ?_
  refine V_lstore mi_329_1 ?_
  refine V_ipush mi_329_3 ?_
  refine V_istore mi_329_4 ?_
  rw [show Int64.ofInt 0 = Int64.ofInt (smS t (gwN G f o t) 0) from rfl]
  refine V_sub (lv' := [(0, .ref (ad 90)), (1, .int (Int32.ofInt ((f : Int)))), (2, .int (Int32.ofInt ((o : Int)))), (3, .int (Int32.ofInt ((t : Int)))), (4, .long (Int64.ofInt (smS t (gwN G f o t) 0))), (6, .int (Int32.ofInt (((0 : Nat) : Int))))]) (fun q hq => ?_) ?_
  · simp only [List.mem_cons, List.not_mem_nil, or_false] at hq
    rcases hq with rfl | rfl | rfl | rfl | rfl | rfl <;> simp [stL, stL2, lv_args, Value.category]
  exact chm_6 hW hB hf ho ht h8 h24 h22 (t + 1) 0 ws (by omega) hG (fun _ _ _ _ => rfl) (fun w g o => ⟨⟨g, o⟩, rfl⟩)
theorem nwm_4 {G : Nat → Int} (hG : GOK ad tys GG ws) (hW : W91 G ws) (hB : HB G) (hH : ∀ i, i < 12 → rd ws 100 i = some (.int (Int32.ofInt ((tellT G (G 2).toNat).hb i)))) {f : Nat} (hf : (f : Int) < G 3) {post : Option Value → va_W → Prop} : ∀ (k s : Nat), ((s + k : Nat) : Int) = G 4 → post (some (.int (Int32.ofInt (nwN (ntP G f) (G 4).toNat : Int)))) ws → V l D tys A 327 2 0 0 post 0 0 4 [(0, .ref (ad 90)), (1, .int (Int32.ofInt ((f : Int)))), (2, .int (Int32.ofInt ((nwN (ntP G f) s : Int)))), (3, .int (Int32.ofInt ((s : Int))))] [] ws
  | 0, s, hs, kk => by
    obtain ⟨s91, e91, -⟩ := g91s
    obtain ⟨sC, eC, fC⟩ := a100
    have b4 := hB.b4
    have b3 := hB.b3
    refine V_iload (v := Int32.ofInt ((s : Int))) mi_327_4 (by simp [stL, stL2, lv_args, Value.category]) ?_
    refine V_aload (v := ad 90) mi_327_5 (by simp [stL, stL2, lv_args, Value.category]) ?_
    refine V_getI mi_327_6 hG (rref gr1m (by omega) hG) ?_
    refine V_ipush mi_327_9 ?_
    refine V_aldX (j := 4) mi_327_10 rfl hG e91 (by omega) (by omega) (hW _ (by omega)) ?_
    refine V_cge mi_327_11 ⟨by omega, by omega⟩ ⟨by omega, by omega⟩ (fun q => ?_) (fun q => ?_)
    · refine V_iload (v := Int32.ofInt ((nwN (ntP G f) s : Int))) mi_327_93 (by simp [stL, stL2, lv_args, Value.category]) ?_
      exact V_retI mi_327_94 (fun h => absurd h (by decide +kernel)) (by rw [show s = (G 4).toNat by omega]; exact kk)
    · exact absurd q (by omega)
  | k + 1, s, hs, kk => by
    obtain ⟨s91, e91, -⟩ := g91s
    obtain ⟨sC, eC, fC⟩ := a100
    have b4 := hB.b4
    have b3 := hB.b3
    refine V_iload (v := Int32.ofInt ((s : Int))) mi_327_4 (by simp [stL, stL2, lv_args, Value.category]) ?_
    refine V_aload (v := ad 90) mi_327_5 (by simp [stL, stL2, lv_args, Value.category]) ?_
    refine V_getI mi_327_6 hG (rref gr1m (by omega) hG) ?_
    refine V_ipush mi_327_9 ?_
    refine V_aldX (j := 4) mi_327_10 rfl hG e91 (by omega) (by omega) (hW _ (by omega)) ?_
    refine V_cge mi_327_11 ⟨by omega, by omega⟩ ⟨by omega, by omega⟩ (fun q => ?_) (fun q => ?_)
    · exact absurd q (by omega)
    · obtain ⟨⟨w6, o6, i6, n24⟩, g0, g1, g2, g3⟩ := say_b hB (s := s) (by omega)
      have nl := nwN_lt (P := (ntP G f)) s
      have pw := pw12 (s := s) (by omega)
      refine V_aload (v := ad 90) mi_327_14 (by simp [stL, stL2, lv_args, Value.category]) ?_
      refine V_iload (v := Int32.ofInt ((s : Int))) mi_327_15 (by simp [stL, stL2, lv_args, Value.category]) ?_
      refine V_ipush mi_327_16 ?_
      refine V_callM (As := [.int (Int32.ofInt ((s : Int))), .int (Int32.ofInt (1))]) (st := []) mi_327_17 (by omega) (by decide +kernel) (by decide +kernel) hG (mos_ct (k := s) (a := 1) hG hW hB (by omega) (by omega)) (by omega) (show 2 = mN 208 by decide +kernel) (by simp [Value.category]) ?_
      rintro r w0 ⟨e0, rfl⟩
      rw [e0, g1]
      refine V_istore mi_327_20 ?_
      refine V_iload (v := Int32.ofInt ((nwN (ntP G f) s : Int))) mi_327_22 (by simp [stL, stL2, lv_args, Value.category]) ?_
      refine V_aload (v := ad 90) mi_327_23 (by simp [stL, stL2, lv_args, Value.category]) ?_
      refine V_getI mi_327_24 hG (rref gr19 (by omega) hG) ?_
      refine V_iload (v := Int32.ofInt ((s : Int))) mi_327_27 (by simp [stL, stL2, lv_args, Value.category]) ?_
      refine V_aldX (j := s) mi_327_28 rfl hG eC (by omega) (by omega) (hH s (by omega)) ?_
      refine V_iload (v := Int32.ofInt ((f : Int))) mi_327_29 (by simp [stL, stL2, lv_args, Value.category]) ?_
      refine V_stat (As := [.int (Int32.ofInt ((tellT G (G 2).toNat).hb s)), .int (Int32.ofInt ((f : Int)))]) (st := [.int (Int32.ofInt ((nwN (ntP G f) s : Int)))]) mi_327_30 (by omega) (bit_ct _ _ _) (by omega) (show 2 = mN 195 by decide +kernel) (by simp [Value.category]) ⟨Nat.le_refl _, Nat.le_refl _⟩ ?_
      rintro r w1 ⟨e1, rfl⟩
      rw [e1, huB_i]
      refine V_ipush mi_327_33 ?_
      refine V_cne mi_327_34 ⟨by split <;> omega, by split <;> omega⟩ ⟨by omega, by omega⟩ (fun q2 => ?_) (fun q2 => ?_)
      · have hq : huB (Int32.ofInt ((tellT G (G 2).toNat).hb s)) f = false := by
          cases c : huB (Int32.ofInt ((tellT G (G 2).toNat).hb s)) f with
          | false => rfl
          | true => exact absurd (by rw [c, if_pos rfl]) q2
        refine V_ipush mi_327_84 ?_
        refine V_ibin mi_327_85 (by omega) ?_
        rw [or0N, ← nwN_n (P := (ntP G f)) (n := s) (by unfold ntP; rw [hq, Bool.false_and])]
        refine V_istore mi_327_86 ?_
        refine V_iinc (v := Int32.ofInt ((s : Int))) mi_327_87 (by simp [stL, stL2, lv_args, Value.category]) ?_
        rw [ia2]
        refine V_goto mi_327_90 ?_
        refine V_sub (lv' := [(0, .ref (ad 90)), (1, .int (Int32.ofInt ((f : Int)))), (2, .int (Int32.ofInt ((nwN (ntP G f) (s + 1) : Int)))), (3, .int (Int32.ofInt (((s + 1 : Nat) : Int))))]) (fun q hq => ?_) ?_
        · simp only [List.mem_cons, List.not_mem_nil, or_false] at hq
          rcases hq with rfl | rfl | rfl | rfl <;> simp [stL, stL2, lv_args, Value.category]
        exact nwm_4 hG hW hB hH hf k (s + 1) (by omega) kk
      · have hq : huB (Int32.ofInt ((tellT G (G 2).toNat).hb s)) f = true := by
          cases c : huB (Int32.ofInt ((tellT G (G 2).toNat).hb s)) f with
          | true => rfl
          | false => exact absurd (by rw [c, if_neg Bool.false_ne_true] at q2; exact q2) (by omega)
        refine V_iload (v := Int32.ofInt ((sWhs G s : Int))) mi_327_37 (by simp [stL, stL2, lv_args, Value.category]) ?_
        refine V_iload (v := Int32.ofInt ((f : Int))) mi_327_39 (by simp [stL, stL2, lv_args, Value.category]) ?_
        refine V_cne mi_327_40 ⟨by omega, by omega⟩ ⟨by omega, by omega⟩ (fun q6 => ?_) (fun q6 => ?_)
        · have ek := ini_at (G := G) (m := f) (n := sWhs G s) o6
          rw [if_neg (show ¬ f = sWhs G s by omega)] at ek
          refine V_aload (v := ad 90) mi_327_51 (by simp [stL, stL2, lv_args, Value.category]) ?_
          refine V_getI mi_327_52 hG (rref gr1m (by omega) hG) ?_
          refine V_ipush mi_327_55 ?_
          refine V_ipush mi_327_57 ?_
          refine V_iload (v := Int32.ofInt ((f : Int))) mi_327_59 (by simp [stL, stL2, lv_args, Value.category]) ?_
          refine V_ibin mi_327_60 (by omega) ?_
          rw [ib2]
          refine V_ibin mi_327_61 (by omega) ?_
          rw [ib0]
          refine V_iload (v := Int32.ofInt ((sWhs G s : Int))) mi_327_62 (by simp [stL, stL2, lv_args, Value.category]) ?_
          refine V_ibin mi_327_64 (by omega) ?_
          rw [ib0]
          refine V_aldX (j := 66 + (6 * f + sWhs G s)) mi_327_65 (by rw [show ((66) + ((6) * ((f : Int)))) + ((sWhs G s : Int)) = ((66 + (6 * f + sWhs G s) : Nat) : Int) by omega]) hG e91 (by omega) (by omega) (hW _ (by omega)) ?_
          rw [← ek]
          refine V_aload (v := ad 90) mi_327_66 (by simp [stL, stL2, lv_args, Value.category]) ?_
          refine V_iload (v := Int32.ofInt ((s : Int))) mi_327_67 (by simp [stL, stL2, lv_args, Value.category]) ?_
          refine V_ipush mi_327_68 ?_
          refine V_callM (As := [.int (Int32.ofInt ((s : Int))), .int (Int32.ofInt (2))]) (st := [.int (Int32.ofInt (iniK G (6 * f + sWhs G s))), .int (Int32.ofInt ((nwN (ntP G f) s : Int)))]) mi_327_69 (by omega) (by decide +kernel) (by decide +kernel) hG (mos_ct (k := s) (a := 2) hG hW hB (by omega) (by omega)) (by omega) (show 2 = mN 208 by decide +kernel) (by simp [Value.category]) ?_
          rintro r w4 ⟨e4, rfl⟩
          rw [e4, g2]
          refine V_stat (As := [.int (Int32.ofInt (iniK G (6 * f + sWhs G s))), .int (Int32.ofInt ((sWhi G s : Int)))]) (st := [.int (Int32.ofInt ((nwN (ntP G f) s : Int)))]) mi_327_72 (by omega) (bit_ct _ _ _) (by omega) (show 2 = mN 195 by decide +kernel) (by simp [Value.category]) ⟨Nat.le_refl _, Nat.le_refl _⟩ ?_
          rintro r w5 ⟨e5, rfl⟩
          rw [e5, huB_i]
          refine V_zne mi_327_75 ⟨by split <;> omega, by split <;> omega⟩ (fun q5 => ?_) (fun q5 => ?_)
          · have hk : huB (Int32.ofInt (iniK G (6 * f + sWhs G s))) (sWhi G s) = true := by
              cases c : huB (Int32.ofInt (iniK G (6 * f + sWhs G s))) (sWhi G s) with
              | true => rfl
              | false => exact absurd (by rw [c, if_neg Bool.false_ne_true]) q5
            refine V_ipush mi_327_84 ?_
            refine V_ibin mi_327_85 (by omega) ?_
            rw [or0N, ← nwN_n (P := (ntP G f)) (n := s) (by unfold ntP; rw [hk, Bool.not_true, Bool.and_false])]
            refine V_istore mi_327_86 ?_
            refine V_iinc (v := Int32.ofInt ((s : Int))) mi_327_87 (by simp [stL, stL2, lv_args, Value.category]) ?_
            rw [ia2]
            refine V_goto mi_327_90 ?_
            refine V_sub (lv' := [(0, .ref (ad 90)), (1, .int (Int32.ofInt ((f : Int)))), (2, .int (Int32.ofInt ((nwN (ntP G f) (s + 1) : Int)))), (3, .int (Int32.ofInt (((s + 1 : Nat) : Int))))]) (fun q hq => ?_) ?_
            · simp only [List.mem_cons, List.not_mem_nil, or_false] at hq
              rcases hq with rfl | rfl | rfl | rfl <;> simp [stL, stL2, lv_args, Value.category]
            exact nwm_4 hG hW hB hH hf k (s + 1) (by omega) kk
          · have hk : huB (Int32.ofInt (iniK G (6 * f + sWhs G s))) (sWhi G s) = false := by
              cases c : huB (Int32.ofInt (iniK G (6 * f + sWhs G s))) (sWhi G s) with
              | false => rfl
              | true => exact absurd (by rw [c, if_pos rfl] at q5; exact q5) (by omega)
            refine V_ipush mi_327_78 ?_
            refine V_iload (v := Int32.ofInt ((s : Int))) mi_327_79 (by simp [stL, stL2, lv_args, Value.category]) ?_
            refine V_ibin mi_327_80 (by omega) ?_
            refine V_goto mi_327_81 ?_
            refine V_ibin mi_327_85 (by omega) ?_
            rw [sh12 (by omega), orT (by omega) nl, ← nwN_y (P := (ntP G f)) (n := s) (by unfold ntP; rw [hq, hk]; rfl)]
            refine V_istore mi_327_86 ?_
            refine V_iinc (v := Int32.ofInt ((s : Int))) mi_327_87 (by simp [stL, stL2, lv_args, Value.category]) ?_
            rw [ia2]
            refine V_goto mi_327_90 ?_
            refine V_sub (lv' := [(0, .ref (ad 90)), (1, .int (Int32.ofInt ((f : Int)))), (2, .int (Int32.ofInt ((nwN (ntP G f) (s + 1) : Int)))), (3, .int (Int32.ofInt (((s + 1 : Nat) : Int))))]) (fun q hq => ?_) ?_
            · simp only [List.mem_cons, List.not_mem_nil, or_false] at hq
              rcases hq with rfl | rfl | rfl | rfl <;> simp [stL, stL2, lv_args, Value.category]
            exact nwm_4 hG hW hB hH hf k (s + 1) (by omega) kk
        · have fe : f = sWhs G s := by omega
          have ek := ini_at (G := G) (m := f) (n := sWhs G s) o6
          rw [if_pos fe] at ek
          refine V_aload (v := ad 90) mi_327_43 (by simp [stL, stL2, lv_args, Value.category]) ?_
          refine V_iload (v := Int32.ofInt ((f : Int))) mi_327_44 (by simp [stL, stL2, lv_args, Value.category]) ?_
          refine V_callM (As := [.int (Int32.ofInt ((f : Int)))]) (st := [.int (Int32.ofInt ((nwN (ntP G f) s : Int)))]) mi_327_45 (by omega) (by decide +kernel) (by decide +kernel) hG (who_ct (o := f) (by omega) hG hW hB) (by omega) (show 1 = mN 206 by decide +kernel) (by simp [Value.category]) ?_
          rintro r w3 ⟨e3, rfl⟩
          rw [e3, show allV (G (6 + 7 * f)) = iniK G (6 * f + sWhs G s) from (by rw [ek, ← fe])]
          refine V_goto mi_327_48 ?_
          refine V_aload (v := ad 90) mi_327_66 (by simp [stL, stL2, lv_args, Value.category]) ?_
          refine V_iload (v := Int32.ofInt ((s : Int))) mi_327_67 (by simp [stL, stL2, lv_args, Value.category]) ?_
          refine V_ipush mi_327_68 ?_
          refine V_callM (As := [.int (Int32.ofInt ((s : Int))), .int (Int32.ofInt (2))]) (st := [.int (Int32.ofInt (iniK G (6 * f + sWhs G s))), .int (Int32.ofInt ((nwN (ntP G f) s : Int)))]) mi_327_69 (by omega) (by decide +kernel) (by decide +kernel) hG (mos_ct (k := s) (a := 2) hG hW hB (by omega) (by omega)) (by omega) (show 2 = mN 208 by decide +kernel) (by simp [Value.category]) ?_
          rintro r w4 ⟨e4, rfl⟩
          rw [e4, g2]
          refine V_stat (As := [.int (Int32.ofInt (iniK G (6 * f + sWhs G s))), .int (Int32.ofInt ((sWhi G s : Int)))]) (st := [.int (Int32.ofInt ((nwN (ntP G f) s : Int)))]) mi_327_72 (by omega) (bit_ct _ _ _) (by omega) (show 2 = mN 195 by decide +kernel) (by simp [Value.category]) ⟨Nat.le_refl _, Nat.le_refl _⟩ ?_
          rintro r w5 ⟨e5, rfl⟩
          rw [e5, huB_i]
          refine V_zne mi_327_75 ⟨by split <;> omega, by split <;> omega⟩ (fun q5 => ?_) (fun q5 => ?_)
          · have hk : huB (Int32.ofInt (iniK G (6 * f + sWhs G s))) (sWhi G s) = true := by
              cases c : huB (Int32.ofInt (iniK G (6 * f + sWhs G s))) (sWhi G s) with
              | true => rfl
              | false => exact absurd (by rw [c, if_neg Bool.false_ne_true]) q5
            refine V_ipush mi_327_84 ?_
            refine V_ibin mi_327_85 (by omega) ?_
            rw [or0N, ← nwN_n (P := (ntP G f)) (n := s) (by unfold ntP; rw [hk, Bool.not_true, Bool.and_false])]
            refine V_istore mi_327_86 ?_
            refine V_iinc (v := Int32.ofInt ((s : Int))) mi_327_87 (by simp [stL, stL2, lv_args, Value.category]) ?_
            rw [ia2]
            refine V_goto mi_327_90 ?_
            refine V_sub (lv' := [(0, .ref (ad 90)), (1, .int (Int32.ofInt ((f : Int)))), (2, .int (Int32.ofInt ((nwN (ntP G f) (s + 1) : Int)))), (3, .int (Int32.ofInt (((s + 1 : Nat) : Int))))]) (fun q hq => ?_) ?_
            · simp only [List.mem_cons, List.not_mem_nil, or_false] at hq
              rcases hq with rfl | rfl | rfl | rfl <;> simp [stL, stL2, lv_args, Value.category]
            exact nwm_4 hG hW hB hH hf k (s + 1) (by omega) kk
          · have hk : huB (Int32.ofInt (iniK G (6 * f + sWhs G s))) (sWhi G s) = false := by
              cases c : huB (Int32.ofInt (iniK G (6 * f + sWhs G s))) (sWhi G s) with
              | false => rfl
              | true => exact absurd (by rw [c, if_pos rfl] at q5; exact q5) (by omega)
            refine V_ipush mi_327_78 ?_
            refine V_iload (v := Int32.ofInt ((s : Int))) mi_327_79 (by simp [stL, stL2, lv_args, Value.category]) ?_
            refine V_ibin mi_327_80 (by omega) ?_
            refine V_goto mi_327_81 ?_
            refine V_ibin mi_327_85 (by omega) ?_
            rw [sh12 (by omega), orT (by omega) nl, ← nwN_y (P := (ntP G f)) (n := s) (by unfold ntP; rw [hq, hk]; rfl)]
            refine V_istore mi_327_86 ?_
            refine V_iinc (v := Int32.ofInt ((s : Int))) mi_327_87 (by simp [stL, stL2, lv_args, Value.category]) ?_
            rw [ia2]
            refine V_goto mi_327_90 ?_
            refine V_sub (lv' := [(0, .ref (ad 90)), (1, .int (Int32.ofInt ((f : Int)))), (2, .int (Int32.ofInt ((nwN (ntP G f) (s + 1) : Int)))), (3, .int (Int32.ofInt (((s + 1 : Nat) : Int))))]) (fun q hq => ?_) ?_
            · simp only [List.mem_cons, List.not_mem_nil, or_false] at hq
              rcases hq with rfl | rfl | rfl | rfl <;> simp [stL, stL2, lv_args, Value.category]
            exact nwm_4 hG hW hB hH hf k (s + 1) (by omega) kk
theorem nwm_ct {G : Nat → Int} (hG : GOK ad tys GG ws) (hW : W91 G ws) (hB : HB G) (hH : ∀ i, i < 12 → rd ws 100 i = some (.int (Int32.ofInt ((tellT G (G 2).toNat).hb i)))) {f : Nat} (hf : (f : Int) < G 3) : CT l D tys A 327 2 0 0 [.ref (ad 90), .int (Int32.ofInt ((f : Int)))] ws (fun r w => w = ws ∧ r = some (.int (Int32.ofInt (nwN (ntP G f) (G 4).toNat : Int)))) := by
  refine CT_of_V (by omega) (show (2 : Nat) ≤ mML 327 by decide +kernel) ?_
  have b4 := hB.b4
  refine V_ipush mi_327_0 ?_
  refine V_istore mi_327_1 ?_
  refine V_ipush mi_327_2 ?_
  refine V_istore mi_327_3 ?_
  refine V_sub (lv' := [(0, .ref (ad 90)), (1, .int (Int32.ofInt ((f : Int)))), (2, .int (Int32.ofInt ((nwN (ntP G f) 0 : Int)))), (3, .int (Int32.ofInt (((0 : Nat) : Int))))]) (fun q hq => ?_) ?_
  · simp only [List.mem_cons, List.not_mem_nil, or_false] at hq
    rcases hq with rfl | rfl | rfl | rfl <;> simp [stL, stL2, lv_args, Value.category, nwN]
  exact nwm_4 hG hW hB hH hf (G 4).toNat 0 (by omega) ⟨rfl, rfl⟩
theorem dvm_6 {a0 b0 : Nat} {post : Option Value → va_W → Prop} : ∀ (k a b : Nat), b ≤ k → a ≤ 9223372036854775807 → b ≤ 9223372036854775807 → post (some (.long (Int64.ofInt (Nat.gcd a b : Int)))) ws → V l D tys A 328 0 0 0 post 0 0 6 [(0, .long (Int64.ofInt ((a0 : Int)))), (2, .long (Int64.ofInt ((b0 : Int)))), (4, .long (Int64.ofInt ((a : Int)))), (6, .long (Int64.ofInt ((b : Int))))] [] ws
  | 0, a, b, hk, ha, hb, kk => by
    refine V_lload (v := Int64.ofInt ((b : Int))) mi_328_6 (by simp [stL, stL2, lv_args, Value.category]) ?_
    refine V_lpush mi_328_8 ?_
    refine V_lcmp mi_328_9 ?_
    have cl := cdL_iff (x := 0) (a := (b : Int)) (b := 0) (by omega) (by omega) (by omega) (by omega)
    refine V_if mi_328_10 (fun q2 => ?_) (fun q2 => ?_)
    · have bz : b = 0 := by
        have : (b : Int) - 0 = 0 := cl.mp q2
        omega
      rw [bz, Nat.gcd_zero_right] at kk
      refine V_lload (v := Int64.ofInt ((a : Int))) mi_328_31 (by simp [stL, stL2, lv_args, Value.category]) ?_
      exact V_retL mi_328_33 kk
    · exact absurd (cl.mpr (show (b : Int) - 0 = 0 by omega)) q2
  | k + 1, a, b, hk, ha, hb, kk => by
    refine V_lload (v := Int64.ofInt ((b : Int))) mi_328_6 (by simp [stL, stL2, lv_args, Value.category]) ?_
    refine V_lpush mi_328_8 ?_
    refine V_lcmp mi_328_9 ?_
    have cl := cdL_iff (x := 0) (a := (b : Int)) (b := 0) (by omega) (by omega) (by omega) (by omega)
    refine V_if mi_328_10 (fun q2 => ?_) (fun q2 => ?_)
    · have bz : b = 0 := by
        have : (b : Int) - 0 = 0 := cl.mp q2
        omega
      rw [bz, Nat.gcd_zero_right] at kk
      refine V_lload (v := Int64.ofInt ((a : Int))) mi_328_31 (by simp [stL, stL2, lv_args, Value.category]) ?_
      exact V_retL mi_328_33 kk
    · have bz : ¬ b = 0 := fun e => q2 (cl.mpr (show (b : Int) - 0 = 0 by omega))
      have ml := Nat.mod_lt a (show 0 < b by omega)
      refine V_lload (v := Int64.ofInt ((a : Int))) mi_328_13 (by simp [stL, stL2, lv_args, Value.category]) ?_
      refine V_lload (v := Int64.ofInt ((b : Int))) mi_328_15 (by simp [stL, stL2, lv_args, Value.category]) ?_
      refine V_lbin mi_328_17 (fun _ => nz64 (by omega) (by omega)) ?_
      rw [lrI (by omega) (by omega) (by omega)]
      refine V_lstore mi_328_18 ?_
      refine V_lload (v := Int64.ofInt ((b : Int))) mi_328_20 (by simp [stL, stL2, lv_args, Value.category]) ?_
      refine V_lstore mi_328_22 ?_
      refine V_lload (v := Int64.ofInt (((a % b : Nat) : Int))) mi_328_24 (by simp [stL, stL2, lv_args, Value.category]) ?_
      refine V_lstore mi_328_26 ?_
      refine V_goto mi_328_28 ?_
      refine V_sub (lv' := [(0, .long (Int64.ofInt ((a0 : Int)))), (2, .long (Int64.ofInt ((b0 : Int)))), (4, .long (Int64.ofInt ((b : Int)))), (6, .long (Int64.ofInt (((a % b : Nat) : Int))))]) (fun q hq => ?_) ?_
      · simp only [List.mem_cons, List.not_mem_nil, or_false] at hq
        rcases hq with rfl | rfl | rfl | rfl <;> simp [stL, stL2, lv_args, Value.category]
      rw [gcd_st] at kk
      exact dvm_6 k b (a % b) (by omega) (by omega) (by omega) kk
theorem dvm_ct {a b : Nat} (ha : a ≤ 9223372036854775807) (hb : b ≤ 9223372036854775807) : CT l D tys A 328 0 0 0 [.long (Int64.ofInt ((a : Int))), .long (Int64.ofInt ((b : Int)))] ws (fun r w => w = ws ∧ r = some (.long (Int64.ofInt (Nat.gcd a b : Int)))) := by
  refine CT_of_V (by omega) (show (4 : Nat) ≤ mML 328 by decide +kernel) ?_
  refine V_lload (v := Int64.ofInt ((a : Int))) mi_328_0 (by simp [stL, stL2, lv_args, Value.category]) ?_
  refine V_lstore mi_328_1 ?_
  refine V_lload (v := Int64.ofInt ((b : Int))) mi_328_3 (by simp [stL, stL2, lv_args, Value.category]) ?_
  refine V_lstore mi_328_4 ?_
  refine V_sub (lv' := [(0, .long (Int64.ofInt ((a : Int)))), (2, .long (Int64.ofInt ((b : Int)))), (4, .long (Int64.ofInt ((a : Int)))), (6, .long (Int64.ofInt ((b : Int))))]) (fun q hq => ?_) ?_
  · simp only [List.mem_cons, List.not_mem_nil, or_false] at hq
    rcases hq with rfl | rfl | rfl | rfl <;> simp [stL, stL2, lv_args, Value.category]
  exact dvm_6 b a b (Nat.le_refl _) ha hb ⟨rfl, rfl⟩
theorem chp_58 {f o : Nat} {z : Int} {t n : Nat} (hn : n ≤ 100) {post : Option Value → va_W → Prop} : ∀ (k e : Nat), e + k = n → V l D tys A 330 10 0 0 post 0 0 77 [(0, .ref (ad 90)), (1, .int (Int32.ofInt ((f : Int)))), (2, .int (Int32.ofInt ((o : Int)))), (3, .int (Int32.ofInt (z))), (4, .int (Int32.ofInt ((t : Int)))), (5, .long (Int64.ofInt (((100 ^ n : Nat) : Int))))] [] ws → V l D tys A 330 10 0 0 post 0 0 58 [(0, .ref (ad 90)), (1, .int (Int32.ofInt ((f : Int)))), (2, .int (Int32.ofInt ((o : Int)))), (3, .int (Int32.ofInt (z))), (4, .int (Int32.ofInt ((t : Int)))), (5, .long (Int64.ofInt (((100 ^ e : Nat) : Int)))), (7, .int (Int32.ofInt ((k : Int))))] [] ws
  | 0, e, he, kk => by
    refine V_iload (v := Int32.ofInt (((0 : Nat) : Int))) mi_330_58 (by simp [stL, stL2, lv_args, Value.category]) ?_
    refine V_zle mi_330_60 ⟨by omega, by omega⟩ (fun q => ?_) (fun q => ?_)
    · rw [show e = n by omega]
      refine V_sub (lv' := [(0, .ref (ad 90)), (1, .int (Int32.ofInt ((f : Int)))), (2, .int (Int32.ofInt ((o : Int)))), (3, .int (Int32.ofInt (z))), (4, .int (Int32.ofInt ((t : Int)))), (5, .long (Int64.ofInt (((100 ^ n : Nat) : Int))))]) (fun q hq => ?_) ?_
      · simp only [List.mem_cons, List.not_mem_nil, or_false] at hq
        rcases hq with rfl | rfl | rfl | rfl | rfl | rfl <;> simp [stL, stL2, lv_args, Value.category]
      exact kk
    · exact absurd q (by omega)
  | k + 1, e, he, kk => by
    refine V_iload (v := Int32.ofInt (((k + 1 : Nat) : Int))) mi_330_58 (by simp [stL, stL2, lv_args, Value.category]) ?_
    refine V_zle mi_330_60 ⟨by omega, by omega⟩ (fun q => ?_) (fun q => ?_)
    · exact absurd q (by omega)
    · refine V_lload (v := Int64.ofInt (((100 ^ e : Nat) : Int))) mi_330_63 (by simp [stL, stL2, lv_args, Value.category]) ?_
      refine V_lpush mi_330_65 ?_
      refine V_lbin mi_330_68 (by omega) ?_
      rw [lmI, show ((100 ^ e : Nat) : Int) * 100 = ((100 ^ (e + 1) : Nat) : Int) by rw [Nat.pow_succ]; rfl]
      refine V_lstore mi_330_69 ?_
      refine V_iinc (v := Int32.ofInt (((k + 1 : Nat) : Int))) mi_330_71 (by simp [stL, stL2, lv_args, Value.category]) ?_
      rw [ia2]
      rw [show ((k + 1 : Nat) : Int) + (-1) = (k : Int) by omega]
      refine V_goto mi_330_74 ?_
      refine V_sub (lv' := [(0, .ref (ad 90)), (1, .int (Int32.ofInt ((f : Int)))), (2, .int (Int32.ofInt ((o : Int)))), (3, .int (Int32.ofInt (z))), (4, .int (Int32.ofInt ((t : Int)))), (5, .long (Int64.ofInt (((100 ^ (e + 1) : Nat) : Int)))), (7, .int (Int32.ofInt ((k : Int))))]) (fun q hq => ?_) ?_
      · simp only [List.mem_cons, List.not_mem_nil, or_false] at hq
        rcases hq with rfl | rfl | rfl | rfl | rfl | rfl | rfl <;> simp [stL, stL2, lv_args, Value.category]
      exact chp_58 hn k (e + 1) (by omega) kk
theorem chaM_ct {G : Nat → Int} (hG : GOK ad tys GG ws) (hW : W91 G ws) (hB : HB G) (h24 : rd ws 90 24 = some (.int (Int32.ofInt 0))) (h22 : rd ws 90 22 = some (.int (Int32.ofInt (-1)))) (wf : WF G) {f o z : Int} (fI : I32 f) (oI : I32 o) (zI : I32 z) : CT l D tys A 330 10 0 0 [.ref (ad 90), .int (Int32.ofInt (f)), .int (Int32.ofInt (o)), .int (Int32.ofInt (z))] ws (fun r w => (GOK ad tys GG w ∧ MTW ws w) ∧ r = some (.long (if ((0 ≤ f ∧ f < G 3) ∧ (0 ≤ o ∧ o < G 3) ∧ f ≠ o) ∧ 0 ≤ z ∧ z ≤ 1 then chL G f.toNat o.toNat z (nwN (ntP G f.toNat) (G 4).toNat) else Int64.ofInt (-2)))) := by
  refine CT_of_V (by omega) (show (4 : Nat) ≤ mML 330 by decide +kernel) ?_
  have b3 := hB.b3
  have b4 := hB.b4
  have z1 := zI.1
  have z2 := zI.2
  refine V_aload (v := ad 90) mi_330_0 (by simp [stL, stL2, lv_args, Value.category]) ?_
  refine V_iload (v := Int32.ofInt (f)) mi_330_1 (by simp [stL, stL2, lv_args, Value.category]) ?_
  refine V_iload (v := Int32.ofInt (o)) mi_330_2 (by simp [stL, stL2, lv_args, Value.category]) ?_
  refine V_callM (As := [.int (Int32.ofInt (f)), .int (Int32.ofInt (o))]) (st := []) mi_330_3 (by omega) (by decide +kernel) (by decide +kernel) hG (m2_ct hG hW hB fI oI) (by omega) (show 2 = mN 200 by decide +kernel) (by simp [Value.category]) ?_
  rintro r w1 ⟨ew1, rfl⟩
  rw [ew1]
  refine V_beq mi_330_6  (fun c1 => ?_) (fun c1 => ?_)
  · refine V_lpush mi_330_19 ?_
    exact V_retL mi_330_22 ⟨⟨hG, fun _ _ _ _ => rfl⟩, by rw [if_neg (fun k => of_decide_eq_false c1 k.1)]⟩
  · refine V_iload (v := Int32.ofInt (z)) mi_330_9 (by simp [stL, stL2, lv_args, Value.category]) ?_
    refine V_i2l mi_330_10 ?_
    rw [i2lx ⟨by omega, by omega⟩]
    refine V_lpush mi_330_11 ?_
    refine V_lpush mi_330_12 ?_
    refine V_stat (As := [.long (Int64.ofInt (z)), .long (Int64.ofInt (0)), .long (Int64.ofInt (1))]) (st := []) mi_330_13 (by omega) (inM2 (m := z) (lo := 0) (hi := 1) (by omega) (by omega) (by omega) (by omega) (by omega) (by omega)) (by omega) (show 3 = mN 193 by decide +kernel) (by simp [Value.category]) ⟨Nat.le_refl _, Nat.le_refl _⟩ ?_
    rintro r w2 ⟨ew2, rfl⟩
    rw [ew2]
    refine V_bne mi_330_16  (fun c2 => ?_) (fun c2 => ?_)
    · have k1 := of_decide_eq_true c1
      have k2 := of_decide_eq_true c2
      obtain ⟨m, rfl⟩ := Int.eq_ofNat_of_zero_le k1.1.1
      obtain ⟨n, rfl⟩ := Int.eq_ofNat_of_zero_le k1.2.1.1
      have hm : (m : Int) < G 3 := k1.1.2
      have hn : (n : Int) < G 3 := k1.2.1.2
      refine V_aload (v := ad 90) mi_330_23 (by simp [stL, stL2, lv_args, Value.category]) ?_
      refine V_callM (As := []) (st := []) mi_330_24 (by omega) (by decide +kernel) (by decide +kernel) hG (gt_ct hB wf hG hW h24 h22) (by omega) (show 0 = mN 238 by decide +kernel) (by simp [Value.category]) ?_
      rintro r w3 ⟨rfl, T⟩
      have O3 : MTW ws w3 := fun c j h1 h2 => T.2.2.2 c j h1 (by omega)
      have hW3 : W91 G w3 := MTW_W O3 hW
      have k24 := (O3 90 24 (by omega) (by omega)).trans h24
      have k22 := (O3 90 22 (by omega) (by omega)).trans h22
      refine V_aload (v := ad 90) mi_330_27 (by simp [stL, stL2, lv_args, Value.category]) ?_
      refine V_iload (v := Int32.ofInt ((m : Int))) mi_330_28 (by simp [stL, stL2, lv_args, Value.category]) ?_
      refine V_callM (As := [.int (Int32.ofInt ((m : Int)))]) (st := []) mi_330_29 (by omega) (by decide +kernel) (by decide +kernel) T.1 (nwm_ct (f := m) T.1 hW3 hB T.2.2.1.2.1 hm) (by omega) (show 1 = mN 327 by decide +kernel) (by simp [Value.category]) ?_
      rintro r w4 ⟨e4, rfl⟩
      rw [e4]
      have t4 : nwN (ntP G m) (G 4).toNat < 4096 := nw_4 (by omega)
      rw [if_pos ⟨k1, k2⟩, Int.toNat_natCast, Int.toNat_natCast]
      generalize nwN (ntP G m) (G 4).toNat = t at t4 ⊢
      refine V_istore mi_330_32 ?_
      refine V_iload (v := Int32.ofInt ((t : Int))) mi_330_34 (by simp [stL, stL2, lv_args, Value.category]) ?_
      refine V_stat (As := [.int (Int32.ofInt ((t : Int)))]) (st := []) mi_330_36 (by omega) (bnm_ct (p := t) t4) (by omega) (show 1 = mN 194 by decide +kernel) (by simp [Value.category]) ⟨Nat.le_refl _, Nat.le_refl _⟩ ?_
      rintro r w5 ⟨e5, rfl⟩
      rw [e5]
      have b13 := bnS_le t 13
      refine V_ipush mi_330_39 ?_
      refine V_cle mi_330_41 ⟨by omega, by omega⟩ ⟨by omega, by omega⟩ (fun q4 => ?_) (fun q4 => ?_)
      · have h8 : bnS t 13 ≤ 8 := by omega
        obtain ⟨eA, bA⟩ := ab_b (o := n) hB (by omega : m < 6) t4 h8
        have pl : 100 ^ bnS t 13 ≤ 100 ^ 8 := Nat.pow_le_pow_right (by omega) h8
        have p8 : (100 : Nat) ^ 8 = 10000000000000000 := by decide
        have pp : 0 < 100 ^ bnS t 13 := Nat.pow_pos (by omega)
        have gp : 0 < Nat.gcd (abN G m n t) (100 ^ bnS t 13) := Nat.gcd_pos_of_pos_right _ pp
        have gl : Nat.gcd (abN G m n t) (100 ^ bnS t 13) ≤ 100 ^ bnS t 13 := Nat.gcd_le_right _ pp
        refine V_lpush mi_330_48 ?_
        refine V_lstore mi_330_49 ?_
        refine V_iload (v := Int32.ofInt ((t : Int))) mi_330_51 (by simp [stL, stL2, lv_args, Value.category]) ?_
        refine V_stat (As := [.int (Int32.ofInt ((t : Int)))]) (st := []) mi_330_53 (by omega) (bnm_ct (p := t) t4) (by omega) (show 1 = mN 194 by decide +kernel) (by simp [Value.category]) ⟨Nat.le_refl _, Nat.le_refl _⟩ ?_
        rintro r w6 ⟨e6, rfl⟩
        rw [e6]
        refine V_istore mi_330_56 ?_
        rw [show Int64.ofInt 1 = Int64.ofInt ((100 ^ 0 : Nat) : Int) from rfl]
        refine V_sub (lv' := [(0, .ref (ad 90)), (1, .int (Int32.ofInt ((m : Int)))), (2, .int (Int32.ofInt ((n : Int)))), (3, .int (Int32.ofInt (z))), (4, .int (Int32.ofInt ((t : Int)))), (5, .long (Int64.ofInt (((100 ^ 0 : Nat) : Int)))), (7, .int (Int32.ofInt (((bnS t 13 : Nat) : Int))))]) (fun q hq => ?_) ?_
        · simp only [List.mem_cons, List.not_mem_nil, or_false] at hq
          rcases hq with rfl | rfl | rfl | rfl | rfl | rfl | rfl <;> simp [stL, stL2, lv_args, Value.category]
        refine chp_58 (n := bnS t 13) (by omega) (bnS t 13) 0 (by omega) ?_
        refine V_aload (v := ad 90) mi_330_77 (by simp [stL, stL2, lv_args, Value.category]) ?_
        refine V_iload (v := Int32.ofInt ((m : Int))) mi_330_78 (by simp [stL, stL2, lv_args, Value.category]) ?_
        refine V_iload (v := Int32.ofInt ((n : Int))) mi_330_79 (by simp [stL, stL2, lv_args, Value.category]) ?_
        refine V_iload (v := Int32.ofInt ((t : Int))) mi_330_80 (by simp [stL, stL2, lv_args, Value.category]) ?_
        refine V_callM (As := [.int (Int32.ofInt ((m : Int))), .int (Int32.ofInt ((n : Int))), .int (Int32.ofInt ((t : Int)))]) (st := []) mi_330_82 (by omega) (by decide +kernel) (by decide +kernel) T.1 (cho_ct (f := m) (o := n) (t := t) T.1 hW3 hB k24 k22 (by omega) (by omega) t4 h8) (by omega) (show 3 = mN 329 by decide +kernel) (by simp [Value.category]) ?_
        rintro r w7 ⟨⟨G7, O7⟩, e7⟩
        rw [e7, eA]
        change V _ _ _ _ _ _ _ _ _ _ _ _ _ [.long (Int64.ofInt (abN G m n t : Int))] _
        have O8 : MTW ws w7 := fun c j h1 h2 => (O7 c j h1 h2).trans (O3 c j h1 h2)
        refine V_lstore mi_330_85 ?_
        refine V_iload (v := Int32.ofInt (z)) mi_330_87 (by simp [stL, stL2, lv_args, Value.category]) ?_
        refine V_zne mi_330_88 ⟨by omega, by omega⟩ (fun q6 => ?_) (fun q6 => ?_)
        · refine V_lload (v := Int64.ofInt (((100 ^ bnS t 13 : Nat) : Int))) mi_330_96 (by simp [stL, stL2, lv_args, Value.category]) ?_
          refine V_lload (v := Int64.ofInt ((abN G m n t : Int))) mi_330_98 (by simp [stL, stL2, lv_args, Value.category]) ?_
          refine V_lload (v := Int64.ofInt (((100 ^ bnS t 13 : Nat) : Int))) mi_330_100 (by simp [stL, stL2, lv_args, Value.category]) ?_
          refine V_stat (As := [.long (Int64.ofInt ((abN G m n t : Int))), .long (Int64.ofInt (((100 ^ bnS t 13 : Nat) : Int)))]) (st := [.long (Int64.ofInt (((100 ^ bnS t 13 : Nat) : Int)))]) mi_330_102 (by omega) (dvm_ct (a := abN G m n t) (b := 100 ^ bnS t 13) (by omega) (by omega)) (by omega) (show 2 = mN 328 by decide +kernel) (by simp [Value.category]) ⟨Nat.le_refl _, Nat.le_refl _⟩ ?_
          rintro r w9 ⟨e9, rfl⟩
          rw [e9]
          refine V_lbin mi_330_105 (fun _ => nz64 (by omega) (by omega)) ?_
          exact V_retL mi_330_106 ⟨⟨G7, O8⟩, by unfold chL; rw [if_neg (by omega), if_neg q6]⟩
        · refine V_lload (v := Int64.ofInt ((abN G m n t : Int))) mi_330_91 (by simp [stL, stL2, lv_args, Value.category]) ?_
          refine V_goto mi_330_93 ?_
          refine V_lload (v := Int64.ofInt ((abN G m n t : Int))) mi_330_98 (by simp [stL, stL2, lv_args, Value.category]) ?_
          refine V_lload (v := Int64.ofInt (((100 ^ bnS t 13 : Nat) : Int))) mi_330_100 (by simp [stL, stL2, lv_args, Value.category]) ?_
          refine V_stat (As := [.long (Int64.ofInt ((abN G m n t : Int))), .long (Int64.ofInt (((100 ^ bnS t 13 : Nat) : Int)))]) (st := [.long (Int64.ofInt ((abN G m n t : Int)))]) mi_330_102 (by omega) (dvm_ct (a := abN G m n t) (b := 100 ^ bnS t 13) (by omega) (by omega)) (by omega) (show 2 = mN 328 by decide +kernel) (by simp [Value.category]) ⟨Nat.le_refl _, Nat.le_refl _⟩ ?_
          rintro r w9 ⟨e9, rfl⟩
          rw [e9]
          refine V_lbin mi_330_105 (fun _ => nz64 (by omega) (by omega)) ?_
          exact V_retL mi_330_106 ⟨⟨G7, O8⟩, by unfold chL; rw [if_neg (by omega), if_pos q6]⟩
      · refine V_lpush mi_330_44 ?_
        exact V_retL mi_330_47 ⟨⟨T.1, O3⟩, by unfold chL; rw [if_pos (by omega)]⟩
    · refine V_lpush mi_330_19 ?_
      exact V_retL mi_330_22 ⟨⟨hG, fun _ _ _ _ => rfl⟩, by rw [if_neg (fun k => of_decide_eq_false c2 k.2)]⟩
noncomputable def PAIRQ (l : Launch) (D : va_G) (tys : List (ClassId × FieldType)) (A : Nat → Prop) (ad : Nat → Nat) (kx km : Nat) (xs ms : List Value) (ws : va_W) : Prop := ∃ v : Int64, ∃ MID : va_W → Prop, (∃ d', d' < 11 ∧ CT l D tys A kx d' 0 0 xs ws (fun r w => r = some (.long v) ∧ GOK ad tys GG w ∧ MID w)) ∧ ∀ w : va_W, GOK ad tys GG w → MID w → ∃ d', d' < 11 ∧ CT l D tys A km d' 0 0 ms w (fun r w2 => r = some (.long v) ∧ GOK ad tys GG w2 ∧ RELW w2)
theorem pairT_chance (hAD : ∀ i : Nat, ad (1000 + i) = D.2 1000 i) (hG : GOK ad tys GG ws) (hR : RELW ws) (a1 a2 a3 : Int32) : PAIRQ l D tys A ad 62 330 [.ref (ad 0), .int a1, .int a2, .int a3] [.ref (ad 90), .int a1, .int a2, .int a3] ws := by
  obtain ⟨G0, o0, x0, y0⟩ := hR.1.2.1
  obtain ⟨G, o, x, y, hb, wf, hS⟩ := aux_sto hR.2 x0 y0 o0 (hb_of hG y0 o0)
  have c1 := chaX_ct (l := l) (D := D) (A := A) hG x hS hb wf (i32b a1) (i32b a2) (i32b a3)
  have c2 := fun (w : va_W) (hw : GOK ad tys GG w) (K : XSC ws w) => chaM_ct (l := l) (D := D) (A := A) hw (XSC_W K y) hb ((K _ _ (by omega)).trans hR.2.2.2.2.2) ((K _ _ (by omega)).trans hR.2.2.2.2.1) wf (i32b a1) (i32b a2) (i32b a3)
  simp only [oi] at c1 c2
  refine ⟨_, fun w => XSC ws w, ⟨6, by omega, CT_post c1 (fun r w h => ⟨h.2, h.1.1, h.1.2⟩)⟩, fun w hw K => ⟨10, by omega, CT_post (c2 w hw K) (fun r w2 h => ?_)⟩⟩
  obtain ⟨⟨g, o⟩, e⟩ := h
  have oo : ∀ c j, ¬ (c = 31 ∨ c = 37 ∨ c = 38 ∨ c = 48 ∨ c = 49 ∨ c = 51 ∨ c = 52) → ¬ (98 ≤ c ∧ c ≤ 101) → ¬ (c = 90 ∧ (j = 18 ∨ j = 21 ∨ j = 23 ∨ j = 25)) → rd w2 c j = rd ws c j := fun c j h3 h4 h5 => (o c j h4 h5).trans (K c j h3)
  exact ⟨e, g, relh_keep hR.1 (fun c hc j => oo c j (by omega) (by omega) (by omega)) (fun j hj => oo 90 j (by omega) (by omega) (fun q => by
      obtain ⟨-, q⟩ := q
      rcases q with rfl | rfl | rfl | rfl
      · exact absurd hj (by unfold spK; decide)
      · exact absurd hj (by unfold spK; decide)
      · exact absurd hj (by unfold spK; decide)
      · exact absurd hj (by unfold spK; decide))), aux_keep hR.2 (fun c j hc => oo c j (by omega) (by omega) (by omega))⟩
end XXD
section LAWQ
variable {p : Program} {l : Launch} {e : Env} {R : Room} {s : State} {m : MethodId} {args : Array Value} {below : List Frame} {meth : Method} {c : Code} {Q : State → Prop} {D : va_G} {tys : List (ClassId × FieldType)} {A : Nat → Prop}
variable {cells slots pc : Nat} {lv : List (Nat × Value)} {st : List Value} {ws : va_W}
theorem L_leqT {z : Int64} {off : Int} {t : Nat} (F : LFix D tys A p R s m args c) (hd1 : decode code pc = .ok (.lcmp, 1)) (hd : decode code (pc + 1) = .ok (.ifCond .eq off, 3)) (ho : ((pc + 1 : Nat) : Int) + off = (t : Int)) (kk : LV p l e R s m args below meth c Q D A cells slots t lv st ws) : LV p l e R s m args below meth c Q D A cells slots pc lv (.long z :: .long z :: st) ws := by
  intro H locs ls hl hH
  have hz : lg_cmp z z = 0 := by simp [lg_cmp]
  refine W.lcmp F.1 F.2.1 hd1 ?_
  rw [hz]
  exact lv_if_eq F.1 F.2.1 hd ho (fun _ => kk H locs ls hl hH) (fun h => absurd rfl h)
end LAWQ
