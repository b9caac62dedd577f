section XSC
variable {l : Launch} {D : va_G} {tys : List (ClassId × FieldType)} {A : Nat → Prop} {ad : Nat → Nat} {ws : va_W}
theorem go_7 {w0 : va_W} {post : Option Value → va_W → Prop} : ∀ (m i : Nat) (w : va_W), i + m = 12 → GOK ad tys GG w → (∀ j, j < i → rd w 100 j = some (.int (Int32.ofInt 0))) → (∀ j, j < i → rd w 101 j = some (.int (Int32.ofInt 0))) → (∀ c j, c ≠ 100 → c ≠ 101 → rd w c j = rd w0 c j) → (∀ w' : va_W, GOK ad tys GG w' → (∀ j, j < 12 → rd w' 100 j = some (.int (Int32.ofInt 0))) → (∀ j, j < 12 → rd w' 101 j = some (.int (Int32.ofInt 0))) → (∀ c j, c ≠ 100 → c ≠ 101 → rd w' c j = rd w0 c j) → V l D tys A 237 7 0 0 post 0 0 33 [(0, .ref (ad 90))] [] w') → V l D tys A 237 7 0 0 post 0 0 7 [(0, .ref (ad 90)), (1, .int (Int32.ofInt ((i : Int))))] [] w
  | 0, i, w, hm, hG, hh, hl, ho, kk => by
    refine V_iload (v := Int32.ofInt ((i : Int))) mi_237_7 (by simp [stL, lv_args, Value.category]) ?_
    refine V_ipush mi_237_8 ?_
    refine V_cge mi_237_10 ⟨by omega, by omega⟩ ⟨by omega, by omega⟩ (fun q => ?_) (fun q => ?_)
    · have e : i = 12 := by omega
      subst e
      refine V_sub (lv' := [(0, .ref (ad 90))]) (fun q hq => ?_) (kk w hG hh hl ho)
      simp only [List.mem_cons, List.not_mem_nil, or_false] at hq
      subst hq
      simp [stL, lv_args, Value.category]
    · exact absurd q (by omega)
  | m + 1, i, w, hm, hG, hh, hl, ho, kk => by
    obtain ⟨s100, e100, f100⟩ := a100
    obtain ⟨s101, e101, f101⟩ := a101
    refine V_iload (v := Int32.ofInt ((i : Int))) mi_237_7 (by simp [stL, lv_args, Value.category]) ?_
    refine V_ipush mi_237_8 ?_
    refine V_cge mi_237_10 ⟨by omega, by omega⟩ ⟨by omega, by omega⟩ (fun q => ?_) (fun q => ?_)
    · exact absurd q (by omega)
    · refine V_aload (v := ad 90) mi_237_13 (by simp [stL, lv_args, Value.category]) ?_
      refine V_getI mi_237_14 hG (rref gr19 (by omega) hG) ?_
      refine V_iload (v := Int32.ofInt ((i : Int))) mi_237_17 (by simp [stL, lv_args, Value.category]) ?_
      refine V_ipush mi_237_18 ?_
      refine V_astX (j := i) mi_237_19 rfl hG e100 (by omega) (by omega) (f100 i (by omega)) (by rw [Int32.toInt_ofInt_of_le (by omega) (by omega)]; omega) (by rw [Int32.toInt_ofInt_of_le (by omega) (by omega)]; omega) (fun w2 Gw2 Uw2 => ?_)
      refine V_aload (v := ad 90) mi_237_20 (by simp [stL, lv_args, Value.category]) ?_
      refine V_getI mi_237_21 Gw2 (rref gr20 (by omega) Gw2) ?_
      refine V_iload (v := Int32.ofInt ((i : Int))) mi_237_24 (by simp [stL, lv_args, Value.category]) ?_
      refine V_ipush mi_237_25 ?_
      refine V_astX (j := i) mi_237_26 rfl Gw2 e101 (by omega) (by omega) (f101 i (by omega)) (by rw [Int32.toInt_ofInt_of_le (by omega) (by omega)]; omega) (by rw [Int32.toInt_ofInt_of_le (by omega) (by omega)]; omega) (fun w3 Gw3 Uw3 => ?_)
      refine V_iinc (v := Int32.ofInt ((i : Int))) mi_237_27 (by simp [stL, lv_args, Value.category]) ?_
      rw [ia2]
      refine V_goto mi_237_30 ?_
      refine V_sub (lv' := [(0, .ref (ad 90)), (1, .int (Int32.ofInt (((i + 1 : Nat) : Int))))]) (fun q hq => ?_) ?_
      · simp only [List.mem_cons, List.not_mem_nil, or_false] at hq
        rcases hq with rfl | rfl <;> simp [stL, lv_args, Value.category]
      · refine go_7 m (i + 1) w3 (by omega) Gw3 (fun j hj => ?_) (fun j hj => ?_) (fun c j h1 h2 => (upd_ne Uw3 (by omega)).trans ((upd_ne Uw2 (by omega)).trans (ho c j h1 h2))) kk
        · by_cases e : j = i
          · subst e
            exact (upd_ne Uw3 (by omega)).trans (upd_eq Uw2)
          · exact (upd_ne Uw3 (by omega)).trans ((upd_ne Uw2 (by omega)).trans (hh j (by omega)))
        · by_cases e : j = i
          · subst e
            exact upd_eq Uw3
          · exact (upd_ne Uw3 (by omega)).trans ((upd_ne Uw2 (by omega)).trans (hl j (by omega)))
theorem who_ct {G : Nat → Int} {o : Nat} (ho : o < 6) (hG : GOK ad tys GG ws) (hW : W91 G ws) (hB : HB G) : CT l D tys A 206 1 0 0 [.ref (ad 90), .int (Int32.ofInt ((o : Int)))] ws (fun r w => w = ws ∧ r = some (.int (Int32.ofInt (allV (G (6 + 7 * o)))))) := by
  refine CT_of_V (by omega) (show (2 : Nat) ≤ mML 206 by decide +kernel) ?_
  have bl := hB.bl o ho
  obtain ⟨v1, v2, v3⟩ := allV_k bl.1 bl.2
  refine V_ipush mi_206_0 ?_
  refine V_aload (v := ad 90) mi_206_1 (by simp [stL, lv_args, Value.category]) ?_
  refine V_iload (v := Int32.ofInt ((o : Int))) mi_206_2 (by simp [stL, lv_args, Value.category]) ?_
  refine V_callM (As := [.int (Int32.ofInt ((o : Int)))]) (st := [.int (Int32.ofInt (1))]) mi_206_3 (by omega) (by decide +kernel) (by decide +kernel) hG (mle_ct (f := o) hG hW hB ho) (by omega) (show 1 = mN 204 by decide +kernel) (by simp [Value.category]) ?_
  rintro r w1 ⟨rfl, rfl⟩
  refine V_ibin mi_206_6 (by omega) ?_
  refine V_ipush mi_206_7 ?_
  refine V_ibin mi_206_8 (by omega) ?_
  rw [v1]
  exact V_retI mi_206_9 (fun h => absurd h (by decide +kernel)) ⟨rfl, rfl⟩
theorem go_43 {G : Nat → Int} {w0 : va_W} {post : Option Value → va_W → Prop} {f : Nat} (hB : HB G) (hW0 : W91 G w0) (hf : f < 6) : ∀ (m o : Nat) (w : va_W), o + m = 6 → GOK ad tys GG w → (∀ j, j < 6 * f + o → rd w 99 j = some (.int (Int32.ofInt (iniK G j)))) → (∀ c j, c ≠ 99 → rd w c j = rd w0 c j) → (∀ w' : va_W, GOK ad tys GG w' → (∀ j, j < 6 * f + 6 → rd w' 99 j = some (.int (Int32.ofInt (iniK G j)))) → (∀ c j, c ≠ 99 → rd w' c j = rd w0 c j) → V l D tys A 237 7 0 0 post 0 0 93 [(0, .ref (ad 90)), (1, .int (Int32.ofInt ((f : Int))))] [] w') → V l D tys A 237 7 0 0 post 0 0 43 [(0, .ref (ad 90)), (1, .int (Int32.ofInt ((f : Int)))), (2, .int (Int32.ofInt ((o : Int))))] [] w
  | 0, o, w, hm, hG, hk, ho, kk => by
    refine V_iload (v := Int32.ofInt ((o : Int))) mi_237_43 (by simp [stL, lv_args, Value.category]) ?_
    refine V_ipush mi_237_44 ?_
    refine V_cge mi_237_46 ⟨by omega, by omega⟩ ⟨by omega, by omega⟩ (fun q => ?_) (fun q => ?_)
    · have e : o = 6 := by omega
      subst e
      refine V_sub (lv' := [(0, .ref (ad 90)), (1, .int (Int32.ofInt ((f : Int))))]) (fun q hq => ?_) (kk w hG hk ho)
      simp only [List.mem_cons, List.not_mem_nil, or_false] at hq
      rcases hq with rfl | rfl <;> simp [stL, lv_args, Value.category]
    · exact absurd q (by omega)
  | m + 1, o, w, hm, hG, hk, ho, kk => by
    obtain ⟨s99, e99, f99⟩ := a99
    obtain ⟨s91, e91, -⟩ := g91s
    have hW : W91 G w := fun j hj => (ho 91 j (by omega)).trans (hW0 j hj)
    refine V_iload (v := Int32.ofInt ((o : Int))) mi_237_43 (by simp [stL, lv_args, Value.category]) ?_
    refine V_ipush mi_237_44 ?_
    refine V_cge mi_237_46 ⟨by omega, by omega⟩ ⟨by omega, by omega⟩ (fun q => ?_) (fun q => ?_)
    · exact absurd q (by omega)
    · refine V_aload (v := ad 90) mi_237_49 (by simp [stL, lv_args, Value.category]) ?_
      refine V_getI mi_237_50 hG (rref gr17 (by omega) hG) ?_
      refine V_ipush mi_237_53 ?_
      refine V_iload (v := Int32.ofInt ((f : Int))) mi_237_55 (by simp [stL, lv_args, Value.category]) ?_
      refine V_ibin mi_237_56 (by omega) ?_
      rw [ib2]
      refine V_iload (v := Int32.ofInt ((o : Int))) mi_237_57 (by simp [stL, lv_args, Value.category]) ?_
      refine V_ibin mi_237_58 (by omega) ?_
      rw [ib0]
      refine V_iload (v := Int32.ofInt ((f : Int))) mi_237_59 (by simp [stL, lv_args, Value.category]) ?_
      refine V_iload (v := Int32.ofInt ((o : Int))) mi_237_60 (by simp [stL, lv_args, Value.category]) ?_
      refine V_cne mi_237_61 ⟨by omega, by omega⟩ ⟨by omega, by omega⟩ (fun q2 => ?_) (fun q2 => ?_)
      · have ini : iniK G (6 * f + o) = G (66 + (6 * f + o)) := by
          unfold iniK
          rw [if_neg (by omega)]
        have bt := hB.bt (6 * f + o) (by omega)
        refine V_aload (v := ad 90) mi_237_72 (by simp [stL, lv_args, Value.category]) ?_
        refine V_getI mi_237_73 hG (rref gr1m (by omega) hG) ?_
        refine V_ipush mi_237_76 ?_
        refine V_ipush mi_237_78 ?_
        refine V_iload (v := Int32.ofInt ((f : Int))) mi_237_80 (by simp [stL, lv_args, Value.category]) ?_
        refine V_ibin mi_237_81 (by omega) ?_
        rw [ib2]
        refine V_ibin mi_237_82 (by omega) ?_
        rw [ib0]
        refine V_iload (v := Int32.ofInt ((o : Int))) mi_237_83 (by simp [stL, lv_args, Value.category]) ?_
        refine V_ibin mi_237_84 (by omega) ?_
        rw [ib0]
        refine V_aldX (j := 66 + (6 * f + o)) mi_237_85 (by rw [show ((66) + ((6) * ((f : Int)))) + ((o : Int)) = ((66 + (6 * f + o) : Nat) : Int) by omega]) hG e91 (by omega) (by omega) (hW _ (by omega)) ?_
        refine V_astX (j := 6 * f + o) mi_237_86 (by rw [show 6 * (f : Int) + (o : Int) = ((6 * f + o : Nat) : Int) by omega]) hG e99 (by omega) (by omega) (f99 _ (by omega)) (by rw [Int32.toInt_ofInt_of_le (by omega) (by omega)]; omega) (by rw [Int32.toInt_ofInt_of_le (by omega) (by omega)]; omega) (fun w2 Gw2 Uw2 => ?_)
        refine V_iinc (v := Int32.ofInt ((o : Int))) mi_237_87 (by simp [stL, lv_args, Value.category]) ?_
        rw [ia2]
        refine V_goto mi_237_90 ?_
        refine V_sub (lv' := [(0, .ref (ad 90)), (1, .int (Int32.ofInt ((f : Int)))), (2, .int (Int32.ofInt (((o + 1 : Nat) : Int))))]) (fun q hq => ?_) ?_
        · simp only [List.mem_cons, List.not_mem_nil, or_false] at hq
          rcases hq with rfl | rfl | rfl <;> simp [stL, lv_args, Value.category]
        · refine go_43 hB hW0 hf m (o + 1) w2 (by omega) Gw2 (fun j hj => ?_) (fun c j h1 => (upd_ne Uw2 (by omega)).trans (ho c j h1)) kk
          by_cases e : j = 6 * f + o
          · rw [e, ini]
            exact upd_eq Uw2
          · exact (upd_ne Uw2 (by omega)).trans (hk j (by omega))
      · have ini : iniK G (6 * f + o) = allV (G (6 + 7 * o)) := by
          unfold iniK
          rw [if_pos (by omega), show (6 * f + o) % 6 = o by omega]
        have bl := hB.bl o (by omega)
        obtain ⟨v1, v2, v3⟩ := allV_k bl.1 bl.2
        refine V_aload (v := ad 90) mi_237_64 (by simp [stL, lv_args, Value.category]) ?_
        refine V_iload (v := Int32.ofInt ((o : Int))) mi_237_65 (by simp [stL, lv_args, Value.category]) ?_
        refine V_callM (As := [.int (Int32.ofInt ((o : Int)))]) (st := [.int (Int32.ofInt (((6) * ((f : Int))) + ((o : Int)))), .ref (ad 99)]) mi_237_66 (by omega) (by decide +kernel) (by decide +kernel) hG (who_ct (o := o) (by omega) hG hW hB) (by omega) (show 1 = mN 206 by decide +kernel) (by simp [Value.category]) ?_
        rintro r w3 ⟨e3, rfl⟩
        rw [e3]
        refine V_goto mi_237_69 ?_
        refine V_astX (j := 6 * f + o) mi_237_86 (by rw [show 6 * (f : Int) + (o : Int) = ((6 * f + o : Nat) : Int) by omega]) hG e99 (by omega) (by omega) (f99 _ (by omega)) (by rw [Int32.toInt_ofInt_of_le (by omega) (by omega)]; omega) (by rw [Int32.toInt_ofInt_of_le (by omega) (by omega)]; omega) (fun w2 Gw2 Uw2 => ?_)
        refine V_iinc (v := Int32.ofInt ((o : Int))) mi_237_87 (by simp [stL, lv_args, Value.category]) ?_
        rw [ia2]
        refine V_goto mi_237_90 ?_
        refine V_sub (lv' := [(0, .ref (ad 90)), (1, .int (Int32.ofInt ((f : Int)))), (2, .int (Int32.ofInt (((o + 1 : Nat) : Int))))]) (fun q hq => ?_) ?_
        · simp only [List.mem_cons, List.not_mem_nil, or_false] at hq
          rcases hq with rfl | rfl | rfl <;> simp [stL, lv_args, Value.category]
        · refine go_43 hB hW0 hf m (o + 1) w2 (by omega) Gw2 (fun j hj => ?_) (fun c j h1 => (upd_ne Uw2 (by omega)).trans (ho c j h1)) kk
          by_cases e : j = 6 * f + o
          · rw [e, ini]
            exact upd_eq Uw2
          · exact (upd_ne Uw2 (by omega)).trans (hk j (by omega))
theorem go_35 {G : Nat → Int} {w0 : va_W} {post : Option Value → va_W → Prop} (hB : HB G) (hW0 : W91 G w0) : ∀ (m f : Nat) (w : va_W), f + m = 6 → GOK ad tys GG w → (∀ j, j < 6 * f → rd w 99 j = some (.int (Int32.ofInt (iniK G j)))) → (∀ c j, c ≠ 99 → rd w c j = rd w0 c j) → (∀ w' : va_W, GOK ad tys GG w' → (∀ j, j < 36 → rd w' 99 j = some (.int (Int32.ofInt (iniK G j)))) → (∀ c j, c ≠ 99 → rd w' c j = rd w0 c j) → V l D tys A 237 7 0 0 post 0 0 99 [(0, .ref (ad 90))] [] w') → V l D tys A 237 7 0 0 post 0 0 35 [(0, .ref (ad 90)), (1, .int (Int32.ofInt ((f : Int))))] [] w
  | 0, f, w, hm, hG, hk, ho, kk => by
    refine V_iload (v := Int32.ofInt ((f : Int))) mi_237_35 (by simp [stL, lv_args, Value.category]) ?_
    refine V_ipush mi_237_36 ?_
    refine V_cge mi_237_38 ⟨by omega, by omega⟩ ⟨by omega, by omega⟩ (fun q => ?_) (fun q => ?_)
    · have e : f = 6 := by omega
      subst e
      refine V_sub (lv' := [(0, .ref (ad 90))]) (fun q hq => ?_) (kk w hG (fun j hj => hk j (by omega)) ho)
      simp only [List.mem_cons, List.not_mem_nil, or_false] at hq
      subst hq
      simp [stL, lv_args, Value.category]
    · exact absurd q (by omega)
  | m + 1, f, w, hm, hG, hk, ho, kk => by
    refine V_iload (v := Int32.ofInt ((f : Int))) mi_237_35 (by simp [stL, lv_args, Value.category]) ?_
    refine V_ipush mi_237_36 ?_
    refine V_cge mi_237_38 ⟨by omega, by omega⟩ ⟨by omega, by omega⟩ (fun q => ?_) (fun q => ?_)
    · exact absurd q (by omega)
    · refine V_ipush mi_237_41 ?_
      refine V_istore mi_237_42 ?_
      refine V_sub (lv' := [(0, .ref (ad 90)), (1, .int (Int32.ofInt ((f : Int)))), (2, .int (Int32.ofInt (((0 : Nat) : Int))))]) (fun q hq => ?_) ?_
      · simp only [List.mem_cons, List.not_mem_nil, or_false] at hq
        rcases hq with rfl | rfl | rfl <;> simp [stL, lv_args, Value.category]
      refine go_43 hB hW0 (by omega) 6 0 w (by omega) hG (fun j hj => hk j (by omega)) ho (fun w2 G2 k2 o2 => ?_)
      refine V_iinc (v := Int32.ofInt ((f : Int))) mi_237_93 (by simp [stL, lv_args, Value.category]) ?_
      rw [ia2]
      refine V_goto mi_237_96 ?_
      refine V_sub (lv' := [(0, .ref (ad 90)), (1, .int (Int32.ofInt (((f + 1 : Nat) : Int))))]) (fun q hq => ?_) ?_
      · simp only [List.mem_cons, List.not_mem_nil, or_false] at hq
        rcases hq with rfl | rfl <;> simp [stL, lv_args, Value.category]
      exact go_35 hB hW0 m (f + 1) w2 (by omega) G2 (fun j hj => k2 j (by omega)) o2 kk
end XSC
section XSD
variable {l : Launch} {D : va_G} {tys : List (ClassId × FieldType)} {A : Nat → Prop} {ad : Nat → Nat} {ws : va_W}
/-- what is known ahead of each of the first n hours, as the reference keeps it -/
noncomputable def KNM (G : Nat → Int) (n : Nat) (w : va_W) : Prop := ∀ h, h < n → ∀ j, j < 36 → rd w 98 (36 * h + j) = some (.int (Int32.ofInt ((tellT G h).K j)))
/-- nobody has heard yet what is to come -/
noncomputable def unp (G : Nat → Int) (T : TT) (h s0 : Nat) : Prop := ∀ s, s < 12 → (h < sWhn G s ∨ (sWhn G s = h ∧ s0 ≤ s)) → T.hb s = 0 ∧ T.lb s = 0
theorem unp_one {G : Nat → Int} {T : TT} {h s : Nat} (u : unp G T h s) (e : sWhn G s = h) : unp G (oneT G s T) h (s + 1) := fun i hi hq => by
  have q := u i hi (by omega)
  have ne : i ≠ s := fun q => by rw [q] at hq; omega
  unfold oneT
  split
  · exact ⟨(updI_ne ne).trans q.1, (updI_ne ne).trans q.2⟩
  · exact q
theorem unp_skip {G : Nat → Int} {T : TT} {h s : Nat} (u : unp G T h s) : unp G T h (s + 1) := fun i hi hq => u i hi (by omega)
theorem unp_next {G : Nat → Int} {T : TT} {h s : Nat} (u : unp G T h s) : unp G T (h + 1) 0 := fun i hi hq => u i hi (by omega)
theorem TM_re {G : Nat → Int} {T : TT} {w0 w : va_W} (h : TM ad tys G T w0 w) : TM ad tys G T w w := ⟨h.g, h.k, h.s, h.h, h.lr, fun _ _ _ _ => rfl, h.b⟩
theorem go_113 {G : Nat → Int} {T : TT} {w0 : va_W} {post : Option Value → va_W → Prop} {h : Nat} (h24 : h ≤ 24) : ∀ (m k : Nat) (w : va_W), k + m = 36 → TM ad tys G T w w → (∀ c j, c ≠ 98 → rd w c j = rd w0 c j) → (∀ j, j < 36 * h → rd w 98 j = rd w0 98 j) → (∀ j, j < k → rd w 98 (36 * h + j) = some (.int (Int32.ofInt (T.K j)))) → (∀ w' : va_W, TM ad tys G T w' w' → (∀ c j, c ≠ 98 → rd w' c j = rd w0 c j) → (∀ j, j < 36 * h → rd w' 98 j = rd w0 98 j) → (∀ j, j < 36 → rd w' 98 (36 * h + j) = some (.int (Int32.ofInt (T.K j)))) → V l D tys A 237 7 0 0 post 0 0 145 [(0, .ref (ad 90)), (1, .int (Int32.ofInt ((h : Int))))] [] w') → V l D tys A 237 7 0 0 post 0 0 113 [(0, .ref (ad 90)), (1, .int (Int32.ofInt ((h : Int)))), (2, .int (Int32.ofInt ((k : Int))))] [] w
  | 0, k, w, hm, hT, ho, hp, hd, kk => by
    obtain ⟨s99, e99, f99⟩ := a99
    obtain ⟨s98, e98, f98⟩ := a98
    refine V_iload (v := Int32.ofInt ((k : Int))) mi_237_113 (by simp [stL, lv_args, Value.category]) ?_
    refine V_aload (v := ad 90) mi_237_114 (by simp [stL, lv_args, Value.category]) ?_
    refine V_getI mi_237_115 hT.g (rref gr17 (by omega) hT.g) ?_
    refine V_lenA mi_237_118 hT.g e99 ?_
    refine V_cge mi_237_119 ⟨by omega, by omega⟩ ⟨by omega, by omega⟩ (fun q => ?_) (fun q => ?_)
    · have e : k = 36 := by omega
      subst e
      refine V_sub (lv' := [(0, .ref (ad 90)), (1, .int (Int32.ofInt ((h : Int))))]) (fun q hq => ?_) (kk w hT ho hp hd)
      simp only [List.mem_cons, List.not_mem_nil, or_false] at hq
      rcases hq with rfl | rfl <;> simp [stL, lv_args, Value.category]
    · exact absurd q (by omega)
  | m + 1, k, w, hm, hT, ho, hp, hd, kk => by
    obtain ⟨s99, e99, f99⟩ := a99
    obtain ⟨s98, e98, f98⟩ := a98
    refine V_iload (v := Int32.ofInt ((k : Int))) mi_237_113 (by simp [stL, lv_args, Value.category]) ?_
    refine V_aload (v := ad 90) mi_237_114 (by simp [stL, lv_args, Value.category]) ?_
    refine V_getI mi_237_115 hT.g (rref gr17 (by omega) hT.g) ?_
    refine V_lenA mi_237_118 hT.g e99 ?_
    refine V_cge mi_237_119 ⟨by omega, by omega⟩ ⟨by omega, by omega⟩ (fun q => ?_) (fun q => ?_)
    · exact absurd q (by omega)
    · have bk := hT.b k (by omega)
      refine V_aload (v := ad 90) mi_237_122 (by simp [stL, lv_args, Value.category]) ?_
      refine V_getI mi_237_123 hT.g (rref gr16 (by omega) hT.g) ?_
      refine V_ipush mi_237_126 ?_
      refine V_iload (v := Int32.ofInt ((h : Int))) mi_237_128 (by simp [stL, lv_args, Value.category]) ?_
      refine V_ibin mi_237_129 (by omega) ?_
      rw [ib2]
      refine V_iload (v := Int32.ofInt ((k : Int))) mi_237_130 (by simp [stL, lv_args, Value.category]) ?_
      refine V_ibin mi_237_131 (by omega) ?_
      rw [ib0]
      refine V_aload (v := ad 90) mi_237_132 (by simp [stL, lv_args, Value.category]) ?_
      refine V_getI mi_237_133 hT.g (rref gr17 (by omega) hT.g) ?_
      refine V_iload (v := Int32.ofInt ((k : Int))) mi_237_136 (by simp [stL, lv_args, Value.category]) ?_
      refine V_aldX (j := k) mi_237_137 rfl hT.g e99 (by omega) (by omega) (hT.k _ (by omega)) ?_
      refine V_astX (j := 36 * h + k) mi_237_138 (by rw [show 36 * (h : Int) + (k : Int) = ((36 * h + k : Nat) : Int) by omega]) hT.g e98 (by omega) (by omega) (f98 _ (by omega)) (by rw [Int32.toInt_ofInt_of_le (by omega) (by omega)]; omega) (by rw [Int32.toInt_ofInt_of_le (by omega) (by omega)]; omega) (fun w2 Gw2 Uw2 => ?_)
      refine V_iinc (v := Int32.ofInt ((k : Int))) mi_237_139 (by simp [stL, lv_args, Value.category]) ?_
      rw [ia2]
      refine V_goto mi_237_142 ?_
      refine V_sub (lv' := [(0, .ref (ad 90)), (1, .int (Int32.ofInt ((h : Int)))), (2, .int (Int32.ofInt (((k + 1 : Nat) : Int))))]) (fun q hq => ?_) ?_
      · simp only [List.mem_cons, List.not_mem_nil, or_false] at hq
        rcases hq with rfl | rfl | rfl <;> simp [stL, lv_args, Value.category]
      · refine go_113 h24 m (k + 1) w2 (by omega) ⟨Gw2, fun j hj => (upd_ne Uw2 (by omega)).trans (hT.k j hj), (upd_ne Uw2 (by omega)).trans hT.s, fun j hj => (upd_ne Uw2 (by omega)).trans (hT.h j hj), fun j hj => (upd_ne Uw2 (by omega)).trans (hT.lr j hj), fun _ _ _ _ => rfl, hT.b⟩ (fun c j hc => (upd_ne Uw2 (by omega)).trans (ho c j hc)) (fun j hj => (upd_ne Uw2 (by omega)).trans (hp j hj)) (fun j hj => ?_) kk
        by_cases e : j = k
        · subst e
          exact upd_eq Uw2
        · exact (upd_ne Uw2 (by omega)).trans (hd j (by omega))
theorem go_147 {G : Nat → Int} {w0 : va_W} {post : Option Value → va_W → Prop} {h : Nat} (hh : h ≤ 24) (hB : HB G) (hW0 : W91 G w0) (h24 : rd w0 90 24 = some (.int (Int32.ofInt 0))) (h22 : rd w0 90 22 = some (.int (Int32.ofInt (-1)))) (h21 : rd w0 90 21 = some (.int (Int32.ofInt 0))) : ∀ (m s : Nat) (T : TT) (w : va_W), ((s + m : Nat) : Int) = G 4 → TM ad tys G T w0 w → unp G T h s → (∀ w' : va_W, TM ad tys G (sayT G h m s T) w0 w' → unp G (sayT G h m s T) h (s + m) → V l D tys A 237 7 0 0 post 0 0 178 [(0, .ref (ad 90)), (1, .int (Int32.ofInt ((h : Int))))] [] w') → V l D tys A 237 7 0 0 post 0 0 147 [(0, .ref (ad 90)), (1, .int (Int32.ofInt ((h : Int)))), (2, .int (Int32.ofInt ((s : Int))))] [] w
  | 0, s, T, w, hm, hT, u, kk => by
    obtain ⟨s91, e91, -⟩ := g91s
    have b4 := hB.b4
    have hW : W91 G w := fun j hj => (hT.o 91 j (by omega) (by omega)).trans (hW0 j hj)
    refine V_iload (v := Int32.ofInt ((s : Int))) mi_237_147 (by simp [stL, lv_args, Value.category]) ?_
    refine V_aload (v := ad 90) mi_237_148 (by simp [stL, lv_args, Value.category]) ?_
    refine V_getI mi_237_149 hT.g (rref gr1m (by omega) hT.g) ?_
    refine V_ipush mi_237_152 ?_
    refine V_aldX (j := 4) mi_237_153 rfl hT.g e91 (by omega) (by omega) (hW _ (by omega)) ?_
    refine V_cge mi_237_154 ⟨by omega, by omega⟩ ⟨by omega, by omega⟩ (fun q => ?_) (fun q => ?_)
    · refine V_sub (lv' := [(0, .ref (ad 90)), (1, .int (Int32.ofInt ((h : Int))))]) (fun q hq => ?_) (kk w hT u)
      simp only [List.mem_cons, List.not_mem_nil, or_false] at hq
      rcases hq with rfl | rfl <;> simp [stL, lv_args, Value.category]
    · exact absurd q (by omega)
  | m + 1, s, T, w, hm, hT, u, kk => by
    rw [show s + (m + 1) = s + 1 + m by omega] at kk
    obtain ⟨s91, e91, -⟩ := g91s
    have b4 := hB.b4
    have hW : W91 G w := fun j hj => (hT.o 91 j (by omega) (by omega)).trans (hW0 j hj)
    refine V_iload (v := Int32.ofInt ((s : Int))) mi_237_147 (by simp [stL, lv_args, Value.category]) ?_
    refine V_aload (v := ad 90) mi_237_148 (by simp [stL, lv_args, Value.category]) ?_
    refine V_getI mi_237_149 hT.g (rref gr1m (by omega) hT.g) ?_
    refine V_ipush mi_237_152 ?_
    refine V_aldX (j := 4) mi_237_153 rfl hT.g e91 (by omega) (by omega) (hW _ (by omega)) ?_
    refine V_cge mi_237_154 ⟨by omega, by omega⟩ ⟨by omega, by omega⟩ (fun q => ?_) (fun q => ?_)
    · exact absurd q (by omega)
    · obtain ⟨⟨w6, o6, i6, n24⟩, g0, g1, g2, g3⟩ := say_b hB (s := s) (by omega)
      refine V_aload (v := ad 90) mi_237_157 (by simp [stL, lv_args, Value.category]) ?_
      refine V_iload (v := Int32.ofInt ((s : Int))) mi_237_158 (by simp [stL, lv_args, Value.category]) ?_
      refine V_ipush mi_237_159 ?_
      refine V_callM (As := [.int (Int32.ofInt ((s : Int))), .int (Int32.ofInt (3))]) (st := []) mi_237_160 (by omega) (by decide +kernel) (by decide +kernel) hT.g (mos_ct (k := s) (a := 3) hT.g hW hB (by omega) (by omega)) (by omega) (show 2 = mN 208 by decide +kernel) (by simp [Value.category]) ?_
      rintro r w1 ⟨e1, rfl⟩
      rw [e1, g3]
      refine V_iload (v := Int32.ofInt ((h : Int))) mi_237_163 (by simp [stL, lv_args, Value.category]) ?_
      refine V_cne mi_237_164 ⟨by omega, by omega⟩ ⟨by omega, by omega⟩ (fun q2 => ?_) (fun q2 => ?_)
      · refine V_iinc (v := Int32.ofInt ((s : Int))) mi_237_172 (by simp [stL, lv_args, Value.category]) ?_
        rw [ia2]
        refine V_goto mi_237_175 ?_
        refine V_sub (lv' := [(0, .ref (ad 90)), (1, .int (Int32.ofInt ((h : Int)))), (2, .int (Int32.ofInt (((s + 1 : Nat) : Int))))]) (fun q hq => ?_) ?_
        · simp only [List.mem_cons, List.not_mem_nil, or_false] at hq
          rcases hq with rfl | rfl | rfl <;> simp [stL, lv_args, Value.category]
        · have es : sayT G h (m + 1) s T = sayT G h m (s + 1) (T) := by
            show sayT G h m (s + 1) (if sWhn G s = h then oneT G s T else T) = _
            rw [if_neg (by omega)]
          rw [es] at kk
          exact go_147 hh hB hW0 h24 h22 h21 m (s + 1) (T) w (by omega) hT (unp_skip u) kk
      · have z := u s (by omega) (by omega)
        refine V_aload (v := ad 90) mi_237_167 (by simp [stL, lv_args, Value.category]) ?_
        refine V_iload (v := Int32.ofInt ((s : Int))) mi_237_168 (by simp [stL, lv_args, Value.category]) ?_
        refine V_callM (As := [.int (Int32.ofInt ((s : Int)))]) (st := []) mi_237_169 (by omega) (by decide +kernel) (by decide +kernel) hT.g (say_ct hB (by omega) hW0 h24 h22 h21 hT z.1 z.2) (by omega) (show 1 = mN 236 by decide +kernel) (by simp [Value.category]) ?_
        rintro r w2 ⟨rfl, h2⟩
        refine V_iinc (v := Int32.ofInt ((s : Int))) mi_237_172 (by simp [stL, lv_args, Value.category]) ?_
        rw [ia2]
        refine V_goto mi_237_175 ?_
        refine V_sub (lv' := [(0, .ref (ad 90)), (1, .int (Int32.ofInt ((h : Int)))), (2, .int (Int32.ofInt (((s + 1 : Nat) : Int))))]) (fun q hq => ?_) ?_
        · simp only [List.mem_cons, List.not_mem_nil, or_false] at hq
          rcases hq with rfl | rfl | rfl <;> simp [stL, lv_args, Value.category]
        · have es : sayT G h (m + 1) s T = sayT G h m (s + 1) (oneT G s T) := by
            show sayT G h m (s + 1) (if sWhn G s = h then oneT G s T else T) = _
            rw [if_pos (by omega)]
          rw [es] at kk
          exact go_147 hh hB hW0 h24 h22 h21 m (s + 1) (oneT G s T) w2 (by omega) h2 (unp_one u (by omega)) kk
theorem go_101 {G : Nat → Int} {w0 : va_W} {post : Option Value → va_W → Prop} (hB : HB G) (hW0 : W91 G w0) (h24 : rd w0 90 24 = some (.int (Int32.ofInt 0))) (h22 : rd w0 90 22 = some (.int (Int32.ofInt (-1)))) (h21 : rd w0 90 21 = some (.int (Int32.ofInt 0))) : ∀ (m h : Nat) (w : va_W), ((h + m : Nat) : Int) = G 2 + 1 → TM ad tys G (tellT G h) w w → unp G (tellT G h) h 0 → KNM G h w → (∀ c j, ¬ (98 ≤ c ∧ c ≤ 101) → ¬ (c = 90 ∧ j = 18) → rd w c j = rd w0 c j) → (∀ w' : va_W, TM ad tys G (tellT G ((G 2).toNat + 1)) w' w' → KNM G ((G 2).toNat + 1) w' → (∀ c j, ¬ (98 ≤ c ∧ c ≤ 101) → ¬ (c = 90 ∧ j = 18) → rd w' c j = rd w0 c j) → post none w') → V l D tys A 237 7 0 0 post 0 0 101 [(0, .ref (ad 90)), (1, .int (Int32.ofInt ((h : Int))))] [] w
  | 0, h, w, hm, hT, u, hk, ho, kk => by
    obtain ⟨s91, e91, -⟩ := g91s
    have b2 := hB.b2
    have b4 := hB.b4
    have hW : W91 G w := fun j hj => (ho 91 j (by omega) (by omega)).trans (hW0 j hj)
    refine V_iload (v := Int32.ofInt ((h : Int))) mi_237_101 (by simp [stL, lv_args, Value.category]) ?_
    refine V_aload (v := ad 90) mi_237_102 (by simp [stL, lv_args, Value.category]) ?_
    refine V_getI mi_237_103 hT.g (rref gr1m (by omega) hT.g) ?_
    refine V_ipush mi_237_106 ?_
    refine V_aldX (j := 2) mi_237_107 rfl hT.g e91 (by omega) (by omega) (hW _ (by omega)) ?_
    refine V_cgt mi_237_108 ⟨by omega, by omega⟩ ⟨by omega, by omega⟩ (fun q => ?_) (fun q => ?_)
    · have e : h = (G 2).toNat + 1 := by omega
      rw [e] at hT hk
      exact V_retV mi_237_184 (kk w hT hk ho)
    · exact absurd q (by omega)
  | m + 1, h, w, hm, hT, u, hk, ho, kk => by
    obtain ⟨s91, e91, -⟩ := g91s
    have b2 := hB.b2
    have b4 := hB.b4
    have hW : W91 G w := fun j hj => (ho 91 j (by omega) (by omega)).trans (hW0 j hj)
    refine V_iload (v := Int32.ofInt ((h : Int))) mi_237_101 (by simp [stL, lv_args, Value.category]) ?_
    refine V_aload (v := ad 90) mi_237_102 (by simp [stL, lv_args, Value.category]) ?_
    refine V_getI mi_237_103 hT.g (rref gr1m (by omega) hT.g) ?_
    refine V_ipush mi_237_106 ?_
    refine V_aldX (j := 2) mi_237_107 rfl hT.g e91 (by omega) (by omega) (hW _ (by omega)) ?_
    refine V_cgt mi_237_108 ⟨by omega, by omega⟩ ⟨by omega, by omega⟩ (fun q => ?_) (fun q => ?_)
    · exact absurd q (by omega)
    · refine V_ipush mi_237_111 ?_
      refine V_istore mi_237_112 ?_
      refine V_sub (lv' := [(0, .ref (ad 90)), (1, .int (Int32.ofInt ((h : Int)))), (2, .int (Int32.ofInt (((0 : Nat) : Int))))]) (fun q hq => ?_) ?_
      · simp only [List.mem_cons, List.not_mem_nil, or_false] at hq
        rcases hq with rfl | rfl | rfl <;> simp [stL, lv_args, Value.category]
      refine go_113 (w0 := w) (by omega) 36 0 w (by omega) (TM_re hT) (fun _ _ _ => rfl) (fun _ _ => rfl) (fun j hj => absurd hj (by omega)) (fun w2 T2 o2 p2 d2 => ?_)
      refine V_ipush mi_237_145 ?_
      refine V_istore mi_237_146 ?_
      refine V_sub (lv' := [(0, .ref (ad 90)), (1, .int (Int32.ofInt ((h : Int)))), (2, .int (Int32.ofInt (((0 : Nat) : Int))))]) (fun q hq => ?_) ?_
      · simp only [List.mem_cons, List.not_mem_nil, or_false] at hq
        rcases hq with rfl | rfl | rfl <;> simp [stL, lv_args, Value.category]
      have oo : ∀ c j, ¬ (98 ≤ c ∧ c ≤ 101) → ¬ (c = 90 ∧ j = 18) → rd w2 c j = rd w0 c j := fun c j h1 h2 => (o2 c j (by omega)).trans (ho c j h1 h2)
      refine go_147 (w0 := w2) (by omega) hB (fun j hj => (oo 91 j (by omega) (by omega)).trans (hW0 j hj)) ((oo _ _ (by omega) (by omega)).trans h24) ((oo _ _ (by omega) (by omega)).trans h22) ((oo _ _ (by omega) (by omega)).trans h21) (G 4).toNat 0 (tellT G h) w2 (by rw [Nat.zero_add, Int.toNat_of_nonneg b4.1]) T2 u (fun w3 T3 u3 => ?_)
      refine V_iinc (v := Int32.ofInt ((h : Int))) mi_237_178 (by simp [stL, lv_args, Value.category]) ?_
      rw [ia2]
      refine V_goto mi_237_181 ?_
      refine V_sub (lv' := [(0, .ref (ad 90)), (1, .int (Int32.ofInt (((h + 1 : Nat) : Int))))]) (fun q hq => ?_) ?_
      · simp only [List.mem_cons, List.not_mem_nil, or_false] at hq
        rcases hq with rfl | rfl <;> simp [stL, lv_args, Value.category]
      · refine go_101 hB hW0 h24 h22 h21 m (h + 1) w3 (by omega) (show TM ad tys G (tellT G (h + 1)) w3 w3 from TM_re T3) (unp_next u3) (fun g hg j hj => ?_) (fun c j h1 h2 => (T3.o c j (by omega) h2).trans (oo c j h1 h2)) kk
        rw [T3.o _ _ (by omega) (by omega)]
        by_cases e : g = h
        · subst e
          exact d2 j hj
        · rw [p2 _ (by omega)]
          exact hk g (by omega) j hj
theorem ini_ok {G : Nat → Int} (hB : HB G) : kOK (iniK G) := fun j hj => by
  unfold iniK
  split
  · have bl := hB.bl (j % 6) (by omega)
    exact (allV_k bl.1 bl.2).2
  · exact hB.bt j hj
theorem gon_ct {G : Nat → Int} (hB : HB G) (hG : GOK ad tys GG ws) (hW : W91 G ws) (h24 : rd ws 90 24 = some (.int (Int32.ofInt 0))) (h22 : rd ws 90 22 = some (.int (Int32.ofInt (-1)))) (h21 : rd ws 90 21 = some (.int (Int32.ofInt 0))) : CT l D tys A 237 7 0 0 [.ref (ad 90)] ws (fun r w => r = none ∧ TM ad tys G (tellT G ((G 2).toNat + 1)) w w ∧ KNM G ((G 2).toNat + 1) w ∧ ∀ c j, ¬ (98 ≤ c ∧ c ≤ 101) → ¬ (c = 90 ∧ j = 18) → rd w c j = rd ws c j) := by
  refine CT_of_V (by omega) (show (1 : Nat) ≤ mML 237 by decide +kernel) ?_
  refine V_aload (v := ad 90) mi_237_0 (by simp [stL, lv_args, Value.category]) ?_
  refine V_ipush mi_237_1 ?_
  refine V_putI mi_237_2 hG f18m (by omega) rfl (by decide +kernel) (i32b _).1 (i32b _).2 (fun w1 G1 U1 => ?_)
  refine V_ipush mi_237_5 ?_
  refine V_istore mi_237_6 ?_
  refine V_sub (lv' := [(0, .ref (ad 90)), (1, .int (Int32.ofInt (((0 : Nat) : Int))))]) (fun q hq => ?_) ?_
  · simp only [List.mem_cons, List.not_mem_nil, or_false] at hq
    rcases hq with rfl | rfl <;> simp [stL, lv_args, Value.category]
  refine go_7 (w0 := w1) 12 0 w1 (by omega) G1 (fun j hj => absurd hj (by omega)) (fun j hj => absurd hj (by omega)) (fun _ _ _ _ => rfl) (fun w2 G2 h2 l2 o2 => ?_)
  refine V_ipush mi_237_33 ?_
  refine V_istore mi_237_34 ?_
  refine V_sub (lv' := [(0, .ref (ad 90)), (1, .int (Int32.ofInt (((0 : Nat) : Int))))]) (fun q hq => ?_) ?_
  · simp only [List.mem_cons, List.not_mem_nil, or_false] at hq
    rcases hq with rfl | rfl <;> simp [stL, lv_args, Value.category]
  have hW2 : W91 G w2 := fun j hj => (o2 _ _ (by omega) (by omega)).trans ((upd_ne U1 (by omega)).trans (hW j hj))
  refine go_35 (w0 := w2) hB hW2 6 0 w2 (by omega) G2 (fun j hj => absurd hj (by omega)) (fun _ _ _ => rfl) (fun w3 G3 k3 o3 => ?_)
  refine V_ipush mi_237_99 ?_
  refine V_istore mi_237_100 ?_
  refine V_sub (lv' := [(0, .ref (ad 90)), (1, .int (Int32.ofInt (((0 : Nat) : Int))))]) (fun q hq => ?_) ?_
  · simp only [List.mem_cons, List.not_mem_nil, or_false] at hq
    rcases hq with rfl | rfl <;> simp [stL, lv_args, Value.category]
  have b2 := hB.b2
  have oo : ∀ c j, ¬ (98 ≤ c ∧ c ≤ 101) → ¬ (c = 90 ∧ j = 18) → rd w3 c j = rd ws c j := fun c j h1 h3 => (o3 c j (by omega)).trans ((o2 c j (by omega) (by omega)).trans (upd_ne U1 (by omega)))
  exact go_101 (w0 := ws) hB hW h24 h22 h21 ((G 2).toNat + 1) 0 w3 (by omega) ⟨G3, k3, (o3 _ _ (by omega)).trans ((o2 _ _ (by omega) (by omega)).trans (upd_eq U1)), fun j hj => (o3 _ _ (by omega)).trans (h2 j hj), fun j hj => (o3 _ _ (by omega)).trans (l2 j hj), fun _ _ _ _ => rfl, ini_ok hB⟩ (fun _ _ _ => ⟨rfl, rfl⟩) (fun g hg => absurd hg (by omega)) oo (fun w4 T4 k4 o4 => ⟨rfl, T4, k4, o4⟩)
theorem f21m : gF 21 (-2147483648) 2147483647 := ⟨_, rfl, by decide +kernel⟩
/-- as told: what is known, said, heard, learnt -/
theorem gat_ct {G : Nat → Int} (hB : HB G) (hG : GOK ad tys GG ws) (hW : W91 G ws) (h24 : rd ws 90 24 = some (.int (Int32.ofInt 0))) (h22 : rd ws 90 22 = some (.int (Int32.ofInt (-1)))) : CT l D tys A 238 8 0 0 [.ref (ad 90)] ws (fun r w => r = none ∧ TM ad tys G (tellT G ((G 2).toNat + 1)) w w ∧ KNM G ((G 2).toNat + 1) w ∧ ∀ c j, ¬ (98 ≤ c ∧ c ≤ 101) → ¬ (c = 90 ∧ j = 18) → ¬ (c = 90 ∧ j = 21) → rd w c j = rd ws c j) := by
  refine CT_of_V (by omega) (show (1 : Nat) ≤ mML 238 by decide +kernel) ?_
  refine V_aload (v := ad 90) mi_238_0 (by simp [stL, lv_args, Value.category]) ?_
  refine V_ipush mi_238_1 ?_
  refine V_putI mi_238_2 hG f21m (by omega) rfl (by decide +kernel) (i32b _).1 (i32b _).2 (fun w1 G1 U1 => ?_)
  refine V_aload (v := ad 90) mi_238_5 (by simp [stL, lv_args, Value.category]) ?_
  refine V_callM (As := []) (st := []) mi_238_6 (by omega) (by decide +kernel) (by decide +kernel) G1 (gon_ct hB G1 (fun j hj => (upd_ne U1 (by omega)).trans (hW j hj)) ((upd_ne U1 (by omega)).trans h24) ((upd_ne U1 (by omega)).trans h22) (upd_eq U1)) (by omega) (show 0 = mN 237 by decide +kernel) (by simp [Value.category]) ?_
  rintro r w2 ⟨rfl, T2, k2, o2⟩
  exact V_retV mi_238_9 ⟨rfl, T2, k2, fun c j h1 h2 h3 => (o2 c j h1 h2).trans (upd_ne U1 (by omega))⟩
end XSD
