section XSC
variable {l : Launch} {D : va_G} {tys : List (ClassId × FieldType)} {A : Nat → Prop} {ad : Nat → Nat} {ws : va_W}
theorem go_7 {w0 : va_W} {post : Option Value → va_W → Prop} : ∀ (m i : Nat) (w : va_W), i + m = 12 → GOK ad tys GG w → (∀ j, j < i → rd w 100 j = some (.int (Int32.ofInt 0))) → (∀ j, j < i → rd w 101 j = some (.int (Int32.ofInt 0))) → (∀ c j, c ≠ 100 → c ≠ 101 → rd w c j = rd w0 c j) → (∀ w' : va_W, GOK ad tys GG w' → (∀ j, j < 12 → rd w' 100 j = some (.int (Int32.ofInt 0))) → (∀ j, j < 12 → rd w' 101 j = some (.int (Int32.ofInt 0))) → (∀ c j, c ≠ 100 → c ≠ 101 → rd w' c j = rd w0 c j) → V l D tys A 237 7 0 0 post 0 0 33 [(0, .ref (ad 90))] [] w') → V l D tys A 237 7 0 0 post 0 0 7 [(0, .ref (ad 90)), (1, .int (Int32.ofInt ((i : Int))))] [] w
  | 0, i, w, hm, hG, hh, hl, ho, kk => by
    refine V_iload (v := Int32.ofInt ((i : Int))) mi_237_7 (by simp [stL, lv_args, Value.category]) ?_
    refine V_ipush mi_237_8 ?_
    refine V_cge mi_237_10 ⟨by omega, by omega⟩ ⟨by omega, by omega⟩ (fun q => ?_) (fun q => ?_)
    · have e : i = 12 := by omega
      subst e
      refine V_sub (lv' := [(0, .ref (ad 90))]) (fun q hq => ?_) (kk w hG hh hl ho)
      simp only [List.mem_cons, List.not_mem_nil, or_false] at hq
      subst hq
      simp [stL, lv_args, Value.category]
    · exact absurd q (by omega)
  | m + 1, i, w, hm, hG, hh, hl, ho, kk => by
    obtain ⟨s100, e100, f100⟩ := a100
    obtain ⟨s101, e101, f101⟩ := a101
    refine V_iload (v := Int32.ofInt ((i : Int))) mi_237_7 (by simp [stL, lv_args, Value.category]) ?_
    refine V_ipush mi_237_8 ?_
    refine V_cge mi_237_10 ⟨by omega, by omega⟩ ⟨by omega, by omega⟩ (fun q => ?_) (fun q => ?_)
    · exact absurd q (by omega)
    · refine V_aload (v := ad 90) mi_237_13 (by simp [stL, lv_args, Value.category]) ?_
      refine V_getI mi_237_14 hG (rref gr19 (by omega) hG) ?_
      refine V_iload (v := Int32.ofInt ((i : Int))) mi_237_17 (by simp [stL, lv_args, Value.category]) ?_
      refine V_ipush mi_237_18 ?_
      refine V_astX (j := i) mi_237_19 rfl hG e100 (by omega) (by omega) (f100 i (by omega)) (by rw [Int32.toInt_ofInt_of_le (by omega) (by omega)]; omega) (by rw [Int32.toInt_ofInt_of_le (by omega) (by omega)]; omega) (fun w2 Gw2 Uw2 => ?_)
      refine V_aload (v := ad 90) mi_237_20 (by simp [stL, lv_args, Value.category]) ?_
      refine V_getI mi_237_21 Gw2 (rref gr20 (by omega) Gw2) ?_
      refine V_iload (v := Int32.ofInt ((i : Int))) mi_237_24 (by simp [stL, lv_args, Value.category]) ?_
      refine V_ipush mi_237_25 ?_
      refine V_astX (j := i) mi_237_26 rfl Gw2 e101 (by omega) (by omega) (f101 i (by omega)) (by rw [Int32.toInt_ofInt_of_le (by omega) (by omega)]; omega) (by rw [Int32.toInt_ofInt_of_le (by omega) (by omega)]; omega) (fun w3 Gw3 Uw3 => ?_)
      refine V_iinc (v := Int32.ofInt ((i : Int))) mi_237_27 (by simp [stL, lv_args, Value.category]) ?_
      rw [ia2]
      refine V_goto mi_237_30 ?_
      refine V_sub (lv' := [(0, .ref (ad 90)), (1, .int (Int32.ofInt (((i + 1 : Nat) : Int))))]) (fun q hq => ?_) ?_
      · simp only [List.mem_cons, List.not_mem_nil, or_false] at hq
        rcases hq with rfl | rfl <;> simp [stL, lv_args, Value.category]
      · refine go_7 m (i + 1) w3 (by omega) Gw3 (fun j hj => ?_) (fun j hj => ?_) (fun c j h1 h2 => (upd_ne Uw3 (by omega)).trans ((upd_ne Uw2 (by omega)).trans (ho c j h1 h2))) kk
        · by_cases e : j = i
          · subst e
            exact (upd_ne Uw3 (by omega)).trans (upd_eq Uw2)
          · exact (upd_ne Uw3 (by omega)).trans ((upd_ne Uw2 (by omega)).trans (hh j (by omega)))
        · by_cases e : j = i
          · subst e
            exact upd_eq Uw3
          · exact (upd_ne Uw3 (by omega)).trans ((upd_ne Uw2 (by omega)).trans (hl j (by omega)))
theorem who_ct {G : Nat → Int} {o : Nat} (ho : o < 6) (hG : GOK ad tys GG ws) (hW : W91 G ws) (hB : HB G) : CT l D tys A 206 1 0 0 [.ref (ad 90), .int (Int32.ofInt ((o : Int)))] ws (fun r w => w = ws ∧ r = some (.int (Int32.ofInt (allV (G (6 + 7 * o)))))) := by
  refine CT_of_V (by omega) (show (2 : Nat) ≤ mML 206 by decide +kernel) ?_
  have bl := hB.bl o ho
  obtain ⟨v1, v2, v3⟩ := allV_k bl.1 bl.2
  refine V_ipush mi_206_0 ?_
  refine V_aload (v := ad 90) mi_206_1 (by simp [stL, lv_args, Value.category]) ?_
  refine V_iload (v := Int32.ofInt ((o : Int))) mi_206_2 (by simp [stL, lv_args, Value.category]) ?_
  refine V_callM (As := [.int (Int32.ofInt ((o : Int)))]) (st := [.int (Int32.ofInt (1))]) mi_206_3 (by omega) (by decide +kernel) (by decide +kernel) hG (mle_ct (f := o) hG hW hB ho) (by omega) (show 1 = mN 204 by decide +kernel) (by simp [Value.category]) ?_
  rintro r w1 ⟨rfl, rfl⟩
  refine V_ibin mi_206_6 (by omega) ?_
  refine V_ipush mi_206_7 ?_
  refine V_ibin mi_206_8 (by omega) ?_
  rw [v1]
  exact V_retI mi_206_9 (fun h => absurd h (by decide +kernel)) ⟨rfl, rfl⟩
theorem go_43 {G : Nat → Int} {w0 : va_W} {post : Option Value → va_W → Prop} {f : Nat} (hB : HB G) (hW0 : W91 G w0) (hf : f < 6) : ∀ (m o : Nat) (w : va_W), o + m = 6 → GOK ad tys GG w → (∀ j, j < 6 * f + o → rd w 99 j = some (.int (Int32.ofInt (iniK G j)))) → (∀ c j, c ≠ 99 → rd w c j = rd w0 c j) → (∀ w' : va_W, GOK ad tys GG w' → (∀ j, j < 6 * f + 6 → rd w' 99 j = some (.int (Int32.ofInt (iniK G j)))) → (∀ c j, c ≠ 99 → rd w' c j = rd w0 c j) → V l D tys A 237 7 0 0 post 0 0 93 [(0, .ref (ad 90)), (1, .int (Int32.ofInt ((f : Int))))] [] w') → V l D tys A 237 7 0 0 post 0 0 43 [(0, .ref (ad 90)), (1, .int (Int32.ofInt ((f : Int)))), (2, .int (Int32.ofInt ((o : Int))))] [] w
  | 0, o, w, hm, hG, hk, ho, kk => by
    refine V_iload (v := Int32.ofInt ((o : Int))) mi_237_43 (by simp [stL, lv_args, Value.category]) ?_
    refine V_ipush mi_237_44 ?_
    refine V_cge mi_237_46 ⟨by omega, by omega⟩ ⟨by omega, by omega⟩ (fun q => ?_) (fun q => ?_)
    · have e : o = 6 := by omega
      subst e
      refine V_sub (lv' := [(0, .ref (ad 90)), (1, .int (Int32.ofInt ((f : Int))))]) (fun q hq => ?_) (kk w hG hk ho)
      simp only [List.mem_cons, List.not_mem_nil, or_false] at hq
      rcases hq with rfl | rfl <;> simp [stL, lv_args, Value.category]
    · exact absurd q (by omega)
  | m + 1, o, w, hm, hG, hk, ho, kk => by
    obtain ⟨s99, e99, f99⟩ := a99
    obtain ⟨s91, e91, -⟩ := g91s
    have hW : W91 G w := fun j hj => (ho 91 j (by omega)).trans (hW0 j hj)
    refine V_iload (v := Int32.ofInt ((o : Int))) mi_237_43 (by simp [stL, lv_args, Value.category]) ?_
    refine V_ipush mi_237_44 ?_
    refine V_cge mi_237_46 ⟨by omega, by omega⟩ ⟨by omega, by omega⟩ (fun q => ?_) (fun q => ?_)
    · exact absurd q (by omega)
    · refine V_aload (v := ad 90) mi_237_49 (by simp [stL, lv_args, Value.category]) ?_
      refine V_getI mi_237_50 hG (rref gr17 (by omega) hG) ?_
      refine V_ipush mi_237_53 ?_
      refine V_iload (v := Int32.ofInt ((f : Int))) mi_237_55 (by simp [stL, lv_args, Value.category]) ?_
      refine V_ibin mi_237_56 (by omega) ?_
      rw [ib2]
      refine V_iload (v := Int32.ofInt ((o : Int))) mi_237_57 (by simp [stL, lv_args, Value.category]) ?_
      refine V_ibin mi_237_58 (by omega) ?_
      rw [ib0]
      refine V_iload (v := Int32.ofInt ((f : Int))) mi_237_59 (by simp [stL, lv_args, Value.category]) ?_
      refine V_iload (v := Int32.ofInt ((o : Int))) mi_237_60 (by simp [stL, lv_args, Value.category]) ?_
      refine V_cne mi_237_61 ⟨by omega, by omega⟩ ⟨by omega, by omega⟩ (fun q2 => ?_) (fun q2 => ?_)
      · have ini : iniK G (6 * f + o) = G (66 + (6 * f + o)) := by
          unfold iniK
          rw [if_neg (by omega)]
        have bt := hB.bt (6 * f + o) (by omega)
        refine V_aload (v := ad 90) mi_237_72 (by simp [stL, lv_args, Value.category]) ?_
        refine V_getI mi_237_73 hG (rref gr1m (by omega) hG) ?_
        refine V_ipush mi_237_76 ?_
        refine V_ipush mi_237_78 ?_
        refine V_iload (v := Int32.ofInt ((f : Int))) mi_237_80 (by simp [stL, lv_args, Value.category]) ?_
        refine V_ibin mi_237_81 (by omega) ?_
        rw [ib2]
        refine V_ibin mi_237_82 (by omega) ?_
        rw [ib0]
        refine V_iload (v := Int32.ofInt ((o : Int))) mi_237_83 (by simp [stL, lv_args, Value.category]) ?_
        refine V_ibin mi_237_84 (by omega) ?_
        rw [ib0]
        refine V_aldX (j := 66 + (6 * f + o)) mi_237_85 (by rw [show ((66) + ((6) * ((f : Int)))) + ((o : Int)) = ((66 + (6 * f + o) : Nat) : Int) by omega]) hG e91 (by omega) (by omega) (hW _ (by omega)) ?_
        refine V_astX (j := 6 * f + o) mi_237_86 (by rw [show 6 * (f : Int) + (o : Int) = ((6 * f + o : Nat) : Int) by omega]) hG e99 (by omega) (by omega) (f99 _ (by omega)) (by rw [Int32.toInt_ofInt_of_le (by omega) (by omega)]; omega) (by rw [Int32.toInt_ofInt_of_le (by omega) (by omega)]; omega) (fun w2 Gw2 Uw2 => ?_)
        refine V_iinc (v := Int32.ofInt ((o : Int))) mi_237_87 (by simp [stL, lv_args, Value.category]) ?_
        rw [ia2]
        refine V_goto mi_237_90 ?_
        refine V_sub (lv' := [(0, .ref (ad 90)), (1, .int (Int32.ofInt ((f : Int)))), (2, .int (Int32.ofInt (((o + 1 : Nat) : Int))))]) (fun q hq => ?_) ?_
        · simp only [List.mem_cons, List.not_mem_nil, or_false] at hq
          rcases hq with rfl | rfl | rfl <;> simp [stL, lv_args, Value.category]
        · refine go_43 hB hW0 hf m (o + 1) w2 (by omega) Gw2 (fun j hj => ?_) (fun c j h1 => (upd_ne Uw2 (by omega)).trans (ho c j h1)) kk
          by_cases e : j = 6 * f + o
          · rw [e, ini]
            exact upd_eq Uw2
          · exact (upd_ne Uw2 (by omega)).trans (hk j (by omega))
      · have ini : iniK G (6 * f + o) = allV (G (6 + 7 * o)) := by
          unfold iniK
          rw [if_pos (by omega), show (6 * f + o) % 6 = o by omega]
        have bl := hB.bl o (by omega)
        obtain ⟨v1, v2, v3⟩ := allV_k bl.1 bl.2
        refine V_aload (v := ad 90) mi_237_64 (by simp [stL, lv_args, Value.category]) ?_
        refine V_iload (v := Int32.ofInt ((o : Int))) mi_237_65 (by simp [stL, lv_args, Value.category]) ?_
        refine V_callM (As := [.int (Int32.ofInt ((o : Int)))]) (st := [.int (Int32.ofInt (((6) * ((f : Int))) + ((o : Int)))), .ref (ad 99)]) mi_237_66 (by omega) (by decide +kernel) (by decide +kernel) hG (who_ct (o := o) (by omega) hG hW hB) (by omega) (show 1 = mN 206 by decide +kernel) (by simp [Value.category]) ?_
        rintro r w3 ⟨e3, rfl⟩
        rw [e3]
        refine V_goto mi_237_69 ?_
        refine V_astX (j := 6 * f + o) mi_237_86 (by rw [show 6 * (f : Int) + (o : Int) = ((6 * f + o : Nat) : Int) by omega]) hG e99 (by omega) (by omega) (f99 _ (by omega)) (by rw [Int32.toInt_ofInt_of_le (by omega) (by omega)]; omega) (by rw [Int32.toInt_ofInt_of_le (by omega) (by omega)]; omega) (fun w2 Gw2 Uw2 => ?_)
        refine V_iinc (v := Int32.ofInt ((o : Int))) mi_237_87 (by simp [stL, lv_args, Value.category]) ?_
        rw [ia2]
        refine V_goto mi_237_90 ?_
        refine V_sub (lv' := [(0, .ref (ad 90)), (1, .int (Int32.ofInt ((f : Int)))), (2, .int (Int32.ofInt (((o + 1 : Nat) : Int))))]) (fun q hq => ?_) ?_
        · simp only [List.mem_cons, List.not_mem_nil, or_false] at hq
          rcases hq with rfl | rfl | rfl <;> simp [stL, lv_args, Value.category]
        · refine go_43 hB hW0 hf m (o + 1) w2 (by omega) Gw2 (fun j hj => ?_) (fun c j h1 => (upd_ne Uw2 (by omega)).trans (ho c j h1)) kk
          by_cases e : j = 6 * f + o
          · rw [e, ini]
            exact upd_eq Uw2
          · exact (upd_ne Uw2 (by omega)).trans (hk j (by omega))
theorem go_35 {G : Nat → Int} {w0 : va_W} {post : Option Value → va_W → Prop} (hB : HB G) (hW0 : W91 G w0) : ∀ (m f : Nat) (w : va_W), f + m = 6 → GOK ad tys GG w → (∀ j, j < 6 * f → rd w 99 j = some (.int (Int32.ofInt (iniK G j)))) → (∀ c j, c ≠ 99 → rd w c j = rd w0 c j) → (∀ w' : va_W, GOK ad tys GG w' → (∀ j, j < 36 → rd w' 99 j = some (.int (Int32.ofInt (iniK G j)))) → (∀ c j, c ≠ 99 → rd w' c j = rd w0 c j) → V l D tys A 237 7 0 0 post 0 0 99 [(0, .ref (ad 90))] [] w') → V l D tys A 237 7 0 0 post 0 0 35 [(0, .ref (ad 90)), (1, .int (Int32.ofInt ((f : Int))))] [] w
  | 0, f, w, hm, hG, hk, ho, kk => by
    refine V_iload (v := Int32.ofInt ((f : Int))) mi_237_35 (by simp [stL, lv_args, Value.category]) ?_
    refine V_ipush mi_237_36 ?_
    refine V_cge mi_237_38 ⟨by omega, by omega⟩ ⟨by omega, by omega⟩ (fun q => ?_) (fun q => ?_)
    · have e : f = 6 := by omega
      subst e
      refine V_sub (lv' := [(0, .ref (ad 90))]) (fun q hq => ?_) (kk w hG (fun j hj => hk j (by omega)) ho)
      simp only [List.mem_cons, List.not_mem_nil, or_false] at hq
      subst hq
      simp [stL, lv_args, Value.category]
    · exact absurd q (by omega)
  | m + 1, f, w, hm, hG, hk, ho, kk => by
    refine V_iload (v := Int32.ofInt ((f : Int))) mi_237_35 (by simp [stL, lv_args, Value.category]) ?_
    refine V_ipush mi_237_36 ?_
    refine V_cge mi_237_38 ⟨by omega, by omega⟩ ⟨by omega, by omega⟩ (fun q => ?_) (fun q => ?_)
    · exact absurd q (by omega)
    · refine V_ipush mi_237_41 ?_
      refine V_istore mi_237_42 ?_
      refine V_sub (lv' := [(0, .ref (ad 90)), (1, .int (Int32.ofInt ((f : Int)))), (2, .int (Int32.ofInt (((0 : Nat) : Int))))]) (fun q hq => ?_) ?_
      · simp only [List.mem_cons, List.not_mem_nil, or_false] at hq
        rcases hq with rfl | rfl | rfl <;> simp [stL, lv_args, Value.category]
      refine go_43 hB hW0 (by omega) 6 0 w (by omega) hG (fun j hj => hk j (by omega)) ho (fun w2 G2 k2 o2 => ?_)
      refine V_iinc (v := Int32.ofInt ((f : Int))) mi_237_93 (by simp [stL, lv_args, Value.category]) ?_
      rw [ia2]
      refine V_goto mi_237_96 ?_
      refine V_sub (lv' := [(0, .ref (ad 90)), (1, .int (Int32.ofInt (((f + 1 : Nat) : Int))))]) (fun q hq => ?_) ?_
      · simp only [List.mem_cons, List.not_mem_nil, or_false] at hq
        rcases hq with rfl | rfl <;> simp [stL, lv_args, Value.category]
      exact go_35 hB hW0 m (f + 1) w2 (by omega) G2 (fun j hj => k2 j (by omega)) o2 kk
end XSC
section XSD
variable {l : Launch} {D : va_G} {tys : List (ClassId × FieldType)} {A : Nat → Prop} {ad : Nat → Nat} {ws : va_W}
theorem ini_ok {G : Nat → Int} (hB : HB G) : kOK (iniK G) := fun j hj => by
  unfold iniK
  split
  · have bl := hB.bl (j % 6) (by omega)
    exact (allV_k bl.1 bl.2).2
  · exact hB.bt j hj
theorem f21m : gF 21 (-2147483648) 2147483647 := ⟨_, rfl, by decide +kernel⟩
end XSD
