section XVC
variable {l : Launch} {D : va_G} {tys : List (ClassId × FieldType)} {A : Nat → Prop} {ad : Nat → Nat} {ws : va_W}
theorem bI_k (b : Bool) : bI b &&& 1 = bI b := by cases b <;> decide
theorem isl_ct {v : Int} (vI : I32 v) : CT l D tys A 336 1 0 0 [.int (Int32.ofInt (v))] ws (fun r w => w = ws ∧ r = some (.int (bI (decide (0 ≤ v ∧ v < 4))))) := by
  refine CT_of_V (by omega) (show (1 : Nat) ≤ mML 336 by decide +kernel) ?_
  refine V_iload (v := Int32.ofInt (v)) mi_336_0 (by simp [stL, stL2, lv_args, Value.category]) ?_
  refine V_i2l mi_336_1 ?_
  rw [i2lx ⟨by omega, by omega⟩]
  refine V_lpush mi_336_2 ?_
  refine V_lpush mi_336_3 ?_
  refine V_stat (As := [.long (Int64.ofInt (v)), .long (Int64.ofInt (0)), .long (Int64.ofInt (3))]) (st := []) mi_336_6 (by omega) (inM2 (m := v) (lo := 0) (hi := 3) vI.1 vI.2 (by omega) (by omega) (by omega) (by omega)) (by omega) (show 3 = mN 193 by decide +kernel) (by simp [Value.category]) ⟨Nat.le_refl _, Nat.le_refl _⟩ ?_
  rintro r w1 ⟨rfl, rfl⟩
  exact V_retI mi_336_9 (fun _ => bI_k _) ⟨rfl, by rw [decide_eq_decide.mpr (show 0 ≤ v ∧ v ≤ 3 ↔ 0 ≤ v ∧ v < 4 by omega)]⟩
theorem rwM_52 {w0 : va_W} {j : Nat} {wd n : Int} (hj : j < 4) {post : Option Value → va_W → Prop} : ∀ (m i : Nat) (ws : va_W), i + m = 60 → GOK ad tys GG ws → (∀ x : Nat, x < i → rd ws 109 (60 * j + x) = some (.long (Int64.ofInt 0))) → (∀ c p, ¬ (c = 109 ∧ 60 * j ≤ p ∧ p < 60 * j + 60) → rd ws c p = rd w0 c p) → (∀ w : va_W, GOK ad tys GG w → (∀ x : Nat, x < 60 → rd w 109 (60 * j + x) = some (.long (Int64.ofInt 0))) → (∀ c p, ¬ (c = 109 ∧ 60 * j ≤ p ∧ p < 60 * j + 60) → rd w c p = rd w0 c p) → post (some (.int (Int32.ofInt 0))) w) → V l D tys A 338 2 0 0 post 0 0 52 [(0, .ref (ad 90)), (1, .int (Int32.ofInt ((j : Int)))), (2, .int (Int32.ofInt (wd))), (3, .int (Int32.ofInt (n))), (4, .int (Int32.ofInt ((i : Int))))] [] ws
  | 0, i, ws, hm, hG, hn, ho, kk => by
    refine V_iload (v := Int32.ofInt ((i : Int))) mi_338_52 (by simp [stL, stL2, lv_args, Value.category]) ?_
    refine V_ipush mi_338_54 ?_
    refine V_cge mi_338_56 ⟨by omega, by omega⟩ ⟨by omega, by omega⟩ (fun q => ?_) (fun q => ?_)
    · refine V_ipush mi_338_78 ?_
      exact V_retI mi_338_79 (fun _ => by decide) (kk ws hG (fun x hx => hn x (by omega)) ho)
    · exact absurd q (by omega)
  | m + 1, i, ws, hm, hG, hn, ho, kk => by
    refine V_iload (v := Int32.ofInt ((i : Int))) mi_338_52 (by simp [stL, stL2, lv_args, Value.category]) ?_
    refine V_ipush mi_338_54 ?_
    refine V_cge mi_338_56 ⟨by omega, by omega⟩ ⟨by omega, by omega⟩ (fun q => ?_) (fun q => ?_)
    · exact absurd q (by omega)
    · obtain ⟨s109, e109, f109⟩ := gl109
      refine V_aload (v := ad 90) mi_338_59 (by simp [stL, stL2, lv_args, Value.category]) ?_
      refine V_getI mi_338_60 hG (rref gr34 (by omega) hG) ?_
      refine V_ipush mi_338_63 ?_
      refine V_iload (v := Int32.ofInt ((j : Int))) mi_338_65 (by simp [stL, stL2, lv_args, Value.category]) ?_
      refine V_ibin mi_338_66 (by omega) ?_
      rw [ib2]
      refine V_iload (v := Int32.ofInt ((i : Int))) mi_338_67 (by simp [stL, stL2, lv_args, Value.category]) ?_
      refine V_ibin mi_338_69 (by omega) ?_
      rw [ib0]
      refine V_lpush mi_338_70 ?_
      refine V_lastI (j := 60 * j + i) mi_338_71 (by rw [show ((60) * ((j : Int))) + ((i : Int)) = ((60 * j + i : Nat) : Int) by omega]) hG e109 (by omega) (by omega) (f109 _ (by omega)) (fun w1 Gw1 Uw1 => ?_)
      refine V_iinc (v := Int32.ofInt ((i : Int))) mi_338_72 (by simp [stL, stL2, lv_args, Value.category]) ?_
      rw [ia2]
      refine V_goto mi_338_75 ?_
      refine V_sub (lv' := [(0, .ref (ad 90)), (1, .int (Int32.ofInt ((j : Int)))), (2, .int (Int32.ofInt (wd))), (3, .int (Int32.ofInt (n))), (4, .int (Int32.ofInt (((i + 1 : Nat) : Int))))]) (fun q hq => ?_) ?_
      · simp only [List.mem_cons, List.not_mem_nil, or_false] at hq
        rcases hq with rfl | rfl | rfl | rfl | rfl <;> simp [stL, stL2, lv_args, Value.category]
      refine rwM_52 hj m (i + 1) w1 (by omega) Gw1 (fun x hx => ?_) (fun c p h => (upd_ne Uw1 (by omega)).trans (ho c p h)) kk
      by_cases e : x = i
      · rw [e]
        exact upd_eq Uw1
      · exact (upd_ne Uw1 (by omega)).trans (hn x (by omega))
theorem rowM_ct {sz wds : Nat → Int} {nm : Nat → Int64} {s wd n : Int} (sI : I32 s) (wI : I32 wd) (nI : I32 n) (hG : GOK ad tys GG ws) (hS : SLM sz wds nm ws) (hB : SLB sz wds nm) : CT l D tys A 338 2 0 0 [.ref (ad 90), .int (Int32.ofInt (s)), .int (Int32.ofInt (wd)), .int (Int32.ofInt (n))] ws (fun r w => r = some (.int (Int32.ofInt (if ((0 ≤ s ∧ s < 4) ∧ (0 ≤ wd ∧ wd < 4) ∧ n ≤ 60) then (if n < 0 then -3 else 0) else -2))) ∧ GOK ad tys GG w ∧ ((((0 ≤ s ∧ s < 4) ∧ (0 ≤ wd ∧ wd < 4) ∧ n ≤ 60) ∧ 0 ≤ n → SLM (updI sz s.toNat n) (updI wds s.toNat wd) (rowN nm s.toNat) w) ∧ (¬ (((0 ≤ s ∧ s < 4) ∧ (0 ≤ wd ∧ wd < 4) ∧ n ≤ 60) ∧ 0 ≤ n) → w = ws)) ∧ (∀ c p, ¬ (107 ≤ c ∧ c ≤ 109) → rd w c p = rd ws c p)) := by
  refine CT_of_V (by omega) (show (4 : Nat) ≤ mML 338 by decide +kernel) ?_
  obtain ⟨s107, e107, f107⟩ := a107
  obtain ⟨s108, e108, f108⟩ := a108
  refine V_iload (v := Int32.ofInt (s)) mi_338_0 (by simp [stL, stL2, lv_args, Value.category]) ?_
  refine V_stat (As := [.int (Int32.ofInt (s))]) (st := []) mi_338_1 (by omega) (isl_ct sI) (by omega) (show 1 = mN 336 by decide +kernel) (by simp [Value.category]) ⟨Nat.le_refl _, Nat.le_refl _⟩ ?_
  rintro r w1 ⟨rfl, rfl⟩
  refine V_beq mi_338_4  (fun c1 => ?_) (fun c1 => ?_)
  · refine V_ipush mi_338_25 ?_
    exact V_retI mi_338_27 (fun h => absurd h (by decide +kernel)) ⟨by rw [if_neg (fun k => of_decide_eq_false c1 k.1)], hG, ⟨fun k => absurd k (fun k => (fun k => of_decide_eq_false c1 k.1) k.1), fun _ => rfl⟩, fun _ _ _ => rfl⟩
  · refine V_iload (v := Int32.ofInt (wd)) mi_338_7 (by simp [stL, stL2, lv_args, Value.category]) ?_
    refine V_i2l mi_338_8 ?_
    rw [i2lx ⟨by omega, by omega⟩]
    refine V_lpush mi_338_9 ?_
    refine V_lpush mi_338_10 ?_
    refine V_stat (As := [.long (Int64.ofInt (wd)), .long (Int64.ofInt (0)), .long (Int64.ofInt (3))]) (st := []) mi_338_13 (by omega) (inM2 (m := wd) (lo := 0) (hi := 3) wI.1 wI.2 (by omega) (by omega) (by omega) (by omega)) (by omega) (show 3 = mN 193 by decide +kernel) (by simp [Value.category]) ⟨Nat.le_refl _, Nat.le_refl _⟩ ?_
    rintro r w2 ⟨rfl, rfl⟩
    refine V_beq mi_338_16  (fun c2 => ?_) (fun c2 => ?_)
    · refine V_ipush mi_338_25 ?_
      exact V_retI mi_338_27 (fun h => absurd h (by decide +kernel)) ⟨by rw [if_neg (fun k => of_decide_eq_false c2 (by have := k.2.1; omega))], hG, ⟨fun k => absurd k (fun k => (fun k => of_decide_eq_false c2 (by have := k.2.1; omega)) k.1), fun _ => rfl⟩, fun _ _ _ => rfl⟩
    · refine V_iload (v := Int32.ofInt (n)) mi_338_19 (by simp [stL, stL2, lv_args, Value.category]) ?_
      refine V_ipush mi_338_20 ?_
      refine V_cle mi_338_22 nI ⟨by omega, by omega⟩ (fun q3 => ?_) (fun q3 => ?_)
      · refine V_iload (v := Int32.ofInt (n)) mi_338_28 (by simp [stL, stL2, lv_args, Value.category]) ?_
        refine V_zge mi_338_29 nI (fun q4 => ?_) (fun q4 => ?_)
        · have k1 := of_decide_eq_true c1
          have k2 := of_decide_eq_true c2
          obtain ⟨j, rfl⟩ := Int.eq_ofNat_of_zero_le k1.1
          refine V_aload (v := ad 90) mi_338_35 (by simp [stL, stL2, lv_args, Value.category]) ?_
          refine V_getI mi_338_36 hG (rref gr32 (by omega) hG) ?_
          refine V_iload (v := Int32.ofInt ((j : Int))) mi_338_39 (by simp [stL, stL2, lv_args, Value.category]) ?_
          refine V_iload (v := Int32.ofInt (n)) mi_338_40 (by simp [stL, stL2, lv_args, Value.category]) ?_
          refine V_astX (j := j) mi_338_41 rfl hG e107 (by omega) (by omega) (f107 _ (by omega)) (by rw [Int32.toInt_ofInt_of_le (by omega) (by omega)]; omega) (by rw [Int32.toInt_ofInt_of_le (by omega) (by omega)]; omega) (fun w3 Gw3 Uw3 => ?_)
          refine V_aload (v := ad 90) mi_338_42 (by simp [stL, stL2, lv_args, Value.category]) ?_
          refine V_getI mi_338_43 Gw3 (rref gr33 (by omega) Gw3) ?_
          refine V_iload (v := Int32.ofInt ((j : Int))) mi_338_46 (by simp [stL, stL2, lv_args, Value.category]) ?_
          refine V_iload (v := Int32.ofInt (wd)) mi_338_47 (by simp [stL, stL2, lv_args, Value.category]) ?_
          refine V_astX (j := j) mi_338_48 rfl Gw3 e108 (by omega) (by omega) (f108 _ (by omega)) (by rw [Int32.toInt_ofInt_of_le (by omega) (by omega)]; omega) (by rw [Int32.toInt_ofInt_of_le (by omega) (by omega)]; omega) (fun w4 Gw4 Uw4 => ?_)
          refine V_ipush mi_338_49 ?_
          refine V_istore mi_338_50 ?_
          refine V_sub (lv' := [(0, .ref (ad 90)), (1, .int (Int32.ofInt ((j : Int)))), (2, .int (Int32.ofInt (wd))), (3, .int (Int32.ofInt (n))), (4, .int (Int32.ofInt (((0 : Nat) : Int))))]) (fun q hq => ?_) ?_
          · simp only [List.mem_cons, List.not_mem_nil, or_false] at hq
            rcases hq with rfl | rfl | rfl | rfl | rfl <;> simp [stL, stL2, lv_args, Value.category]
          refine rwM_52 (w0 := w4) (by omega) 60 0 w4 (by omega) Gw4 (fun x hx => absurd hx (by omega)) (fun _ _ _ => rfl) (fun w g hn ho => ⟨by rw [if_pos ⟨k1, ⟨by omega, by omega⟩, by omega⟩, if_neg (by omega)], g, ⟨fun _ => ?_, fun k => absurd ⟨⟨k1, ⟨by omega, by omega⟩, by omega⟩, by omega⟩ k⟩, fun c p h => (ho c p (by omega)).trans ((upd_ne Uw4 (by omega)).trans (upd_ne Uw3 (by omega)))⟩)
          rw [Int.toNat_natCast]
          intro k hk
          by_cases e : k = j
          · subst e
            rw [show updI sz k n k = n from if_pos rfl, show updI wds k wd k = wd from if_pos rfl]
            exact ⟨(ho _ _ (by omega)).trans ((upd_ne Uw4 (by omega)).trans (upd_eq Uw3)), (ho _ _ (by omega)).trans (upd_eq Uw4), fun i hi => by rw [rowN_in (by omega)]; exact hn i (by omega)⟩
          · rw [updI_ne e, updI_ne e]
            have g0 := hS k hk
            have gb := hB k hk
            exact ⟨(ho _ _ (by omega)).trans ((upd_ne Uw4 (by omega)).trans ((upd_ne Uw3 (by omega)).trans g0.1)), (ho _ _ (by omega)).trans ((upd_ne Uw4 (by omega)).trans ((upd_ne Uw3 (by omega)).trans g0.2.1)), fun i hi => by rw [rowN_out e (by omega)]; exact (ho _ _ (by omega)).trans ((upd_ne Uw4 (by omega)).trans ((upd_ne Uw3 (by omega)).trans (g0.2.2 i hi)))⟩
        · refine V_ipush mi_338_32 ?_
          exact V_retI mi_338_34 (fun h => absurd h (by decide +kernel)) ⟨by rw [if_pos ⟨of_decide_eq_true c1, by have := of_decide_eq_true c2; omega, by omega⟩, if_pos q4], hG, ⟨fun k => absurd k.2 (by omega), fun _ => rfl⟩, fun _ _ _ => rfl⟩
      · refine V_ipush mi_338_25 ?_
        exact V_retI mi_338_27 (fun h => absurd h (by decide +kernel)) ⟨by rw [if_neg (fun k => by have := k.2.2; omega)], hG, ⟨fun k => absurd k (fun k => (fun k => by have := k.2.2; omega) k.1), fun _ => rfl⟩, fun _ _ _ => rfl⟩
theorem wrX_ct {sz wds : Nat → Int} {nm : Nat → Int64} {s i : Int} {v : Int64} (sI : I32 s) (iI : I32 i) (hG : GOK ad tys GG ws) (hS : SLX sz wds nm ws) (hB : SLB sz wds nm) : CT l D tys A 71 4 0 0 [.ref (ad 0), .int (Int32.ofInt (s)), .int (Int32.ofInt (i)), .long (v)] ws (fun r w => r = some (.int (Int32.ofInt (if 0 ≤ s ∧ s < 4 then (if sz s.toNat < 0 then -6 else if 0 ≤ i ∧ i < sz s.toNat then 0 else -7) else -2))) ∧ GOK ad tys GG w ∧ (((0 ≤ s ∧ s < 4) ∧ 0 ≤ i ∧ i < sz s.toNat → SLX sz wds (updL nm (60 * s.toNat + i.toNat) (cutX v (wds s.toNat))) w) ∧ (¬ ((0 ≤ s ∧ s < 4) ∧ 0 ≤ i ∧ i < sz s.toNat) → w = ws)) ∧ (∀ c p, ¬ (40 ≤ c ∧ c ≤ 42) → rd w c p = rd ws c p)) := by
  refine CT_of_V (by omega) (show (5 : Nat) ≤ mML 71 by decide +kernel) ?_
  refine V_aload (v := ad 0) mi_71_0 (by simp [stL, stL2, lv_args, Value.category]) ?_
  refine V_gR mi_71_1 g0r7 (by omega) hG ?_
  refine V_iload (v := Int32.ofInt (s)) mi_71_4 (by simp [stL, stL2, lv_args, Value.category]) ?_
  refine V_cO (As := [.int (Int32.ofInt (s))]) (st := []) mi_71_5 (by omega) (by decide +kernel) (by decide +kernel) (by omega) g39o hG (hsX_ct sI) (by omega) (show 1 = mN 160 by decide +kernel) (by simp [Value.category]) ?_
  rintro r w1 ⟨rfl, rfl⟩
  refine V_bne mi_71_8  (fun c1 => ?_) (fun c1 => ?_)
  · have k1 := of_decide_eq_true c1
    obtain ⟨j, rfl⟩ := Int.eq_ofNat_of_zero_le k1.1
    have kj : j < 4 := by omega
    have g := hS j kj
    have b := hB j kj
    rw [Int.toNat_natCast]
    refine V_aload (v := ad 0) mi_71_14 (by simp [stL, stL2, lv_args, Value.category]) ?_
    refine V_gR mi_71_15 g0r7 (by omega) hG ?_
    refine V_iload (v := Int32.ofInt ((j : Int))) mi_71_18 (by simp [stL, stL2, lv_args, Value.category]) ?_
    refine V_cO (As := [.int (Int32.ofInt ((j : Int)))]) (st := []) mi_71_19 (by omega) (by decide +kernel) (by decide +kernel) (by omega) g39o hG (baX_ct hG kj ⟨by omega, by omega⟩ g.1) (by omega) (show 1 = mN 161 by decide +kernel) (by simp [Value.category]) ?_
    rintro r w2 ⟨rfl, rfl⟩
    refine V_beq mi_71_22  (fun c2 => ?_) (fun c2 => ?_)
    · have k2 := of_decide_eq_false c2
      refine V_iload (v := Int32.ofInt (i)) mi_71_28 (by simp [stL, stL2, lv_args, Value.category]) ?_
      refine V_zlt mi_71_29 iI (fun q3 => ?_) (fun q3 => ?_)
      · refine V_ipush mi_71_44 ?_
        exact V_retI mi_71_46 (fun h => absurd h (by decide +kernel)) ⟨by rw [if_pos k1, if_neg k2, if_neg (by omega)], hG, ⟨fun k => absurd k.2 (by omega), fun _ => rfl⟩, fun _ _ _ => rfl⟩
      · refine V_iload (v := Int32.ofInt (i)) mi_71_32 (by simp [stL, stL2, lv_args, Value.category]) ?_
        refine V_aload (v := ad 0) mi_71_33 (by simp [stL, stL2, lv_args, Value.category]) ?_
        refine V_gR mi_71_34 g0r7 (by omega) hG ?_
        refine V_iload (v := Int32.ofInt ((j : Int))) mi_71_37 (by simp [stL, stL2, lv_args, Value.category]) ?_
        refine V_cO (As := [.int (Int32.ofInt ((j : Int)))]) (st := [.int (Int32.ofInt (i))]) mi_71_38 (by omega) (by decide +kernel) (by decide +kernel) (by omega) g39o hG (szX_ct hG kj g.1) (by omega) (show 1 = mN 162 by decide +kernel) (by simp [Value.category]) ?_
        rintro r w3 ⟨e3, rfl⟩
        rw [e3]
        refine V_clt mi_71_41 iI ⟨by omega, by omega⟩ (fun q4 => ?_) (fun q4 => ?_)
        · obtain ⟨p, rfl⟩ := Int.eq_ofNat_of_zero_le q3
          have kp : (p : Int) < sz j := by omega
          refine V_aload (v := ad 0) mi_71_47 (by simp [stL, stL2, lv_args, Value.category]) ?_
          refine V_gR mi_71_48 g0r7 (by omega) hG ?_
          refine V_iload (v := Int32.ofInt ((j : Int))) mi_71_51 (by simp [stL, stL2, lv_args, Value.category]) ?_
          refine V_iload (v := Int32.ofInt ((p : Int))) mi_71_52 (by simp [stL, stL2, lv_args, Value.category]) ?_
          refine V_lload (v := v) mi_71_53 (by simp [stL, stL2, lv_args, Value.category]) ?_
          refine V_cO (As := [.int (Int32.ofInt ((j : Int))), .int (Int32.ofInt ((p : Int))), .long (v)]) (st := []) mi_71_54 (by omega) (by decide +kernel) (by decide +kernel) (by omega) g39o hG (setX_ct (z := sz j) (wd := wds j) hG kj g.1 b.1.2 kp g.2.1 b.2.1) (by omega) (show 3 = mN 166 by decide +kernel) (by simp [Value.category]) ?_
          rintro r w4 ⟨rfl, G4, U4⟩
          refine V_ipush mi_71_57 ?_
          refine V_retI mi_71_58 (fun h => absurd h (by decide +kernel)) ⟨by rw [if_pos k1, if_neg k2, if_pos ⟨by omega, kp⟩], G4, ⟨fun _ k hk => ?_, fun k => absurd ⟨k1, by omega, kp⟩ k⟩, fun c p h => upd_ne U4 (by omega)⟩
          rw [Int.toNat_natCast]
          have g0 := hS k hk
          have gb := hB k hk
          refine ⟨(upd_ne U4 (by omega)).trans g0.1, (upd_ne U4 (by omega)).trans g0.2.1, fun x hx => ?_⟩
          by_cases e : 60 * k + x = 60 * j + p
          · rw [e, updL_eq]
            exact upd_eq U4
          · rw [updL_ne e]
            exact (upd_ne U4 (by omega)).trans (g0.2.2 x hx)
        · refine V_ipush mi_71_44 ?_
          exact V_retI mi_71_46 (fun h => absurd h (by decide +kernel)) ⟨by rw [if_pos k1, if_neg k2, if_neg (by omega)], hG, ⟨fun k => absurd k.2 (by omega), fun _ => rfl⟩, fun _ _ _ => rfl⟩
    · refine V_ipush mi_71_25 ?_
      exact V_retI mi_71_27 (fun h => absurd h (by decide +kernel)) ⟨by rw [if_pos k1, if_pos (of_decide_eq_true c2)], hG, ⟨fun k => absurd k.2 (by have := of_decide_eq_true c2; omega), fun _ => rfl⟩, fun _ _ _ => rfl⟩
  · refine V_ipush mi_71_11 ?_
    exact V_retI mi_71_13 (fun h => absurd h (by decide +kernel)) ⟨by rw [if_neg (of_decide_eq_false c1)], hG, ⟨fun k => absurd k (fun k => of_decide_eq_false c1 k.1), fun _ => rfl⟩, fun _ _ _ => rfl⟩
theorem wrM_ct {sz wds : Nat → Int} {nm : Nat → Int64} {s i : Int} {v : Int64} (sI : I32 s) (iI : I32 i) (hG : GOK ad tys GG ws) (hS : SLM sz wds nm ws) (hB : SLB sz wds nm) : CT l D tys A 339 2 0 0 [.ref (ad 90), .int (Int32.ofInt (s)), .int (Int32.ofInt (i)), .long (v)] ws (fun r w => r = some (.int (Int32.ofInt (if 0 ≤ s ∧ s < 4 then (if sz s.toNat < 0 then -6 else if 0 ≤ i ∧ i < sz s.toNat then 0 else -7) else -2))) ∧ GOK ad tys GG w ∧ (((0 ≤ s ∧ s < 4) ∧ 0 ≤ i ∧ i < sz s.toNat → SLM sz wds (updL nm (60 * s.toNat + i.toNat) (cutX v (wds s.toNat))) w) ∧ (¬ ((0 ≤ s ∧ s < 4) ∧ 0 ≤ i ∧ i < sz s.toNat) → w = ws)) ∧ (∀ c p, ¬ (107 ≤ c ∧ c ≤ 109) → rd w c p = rd ws c p)) := by
  refine CT_of_V (by omega) (show (5 : Nat) ≤ mML 339 by decide +kernel) ?_
  obtain ⟨s107, e107, f107⟩ := a107
  obtain ⟨s108, e108, f108⟩ := a108
  obtain ⟨s109, e109, f109⟩ := gl109
  refine V_iload (v := Int32.ofInt (s)) mi_339_0 (by simp [stL, stL2, lv_args, Value.category]) ?_
  refine V_stat (As := [.int (Int32.ofInt (s))]) (st := []) mi_339_1 (by omega) (isl_ct sI) (by omega) (show 1 = mN 336 by decide +kernel) (by simp [Value.category]) ⟨Nat.le_refl _, Nat.le_refl _⟩ ?_
  rintro r w1 ⟨rfl, rfl⟩
  refine V_bne mi_339_4  (fun c1 => ?_) (fun c1 => ?_)
  · have k1 := of_decide_eq_true c1
    obtain ⟨j, rfl⟩ := Int.eq_ofNat_of_zero_le k1.1
    have kj : j < 4 := by omega
    have g := hS j kj
    have b := hB j kj
    rw [Int.toNat_natCast]
    refine V_aload (v := ad 90) mi_339_10 (by simp [stL, stL2, lv_args, Value.category]) ?_
    refine V_getI mi_339_11 hG (rref gr32 (by omega) hG) ?_
    refine V_iload (v := Int32.ofInt ((j : Int))) mi_339_14 (by simp [stL, stL2, lv_args, Value.category]) ?_
    refine V_aldX (j := j) mi_339_15 rfl hG e107 (by omega) (by omega) (g.1) ?_
    refine V_ipush mi_339_16 ?_
    refine V_cne mi_339_17 ⟨by omega, by omega⟩ ⟨by omega, by omega⟩ (fun q4 => ?_) (fun q4 => ?_)
    · have k2 : ¬ sz j < 0 := by omega
      refine V_iload (v := Int32.ofInt (i)) mi_339_23 (by simp [stL, stL2, lv_args, Value.category]) ?_
      refine V_i2l mi_339_24 ?_
      rw [i2lx ⟨by omega, by omega⟩]
      refine V_lpush mi_339_25 ?_
      refine V_aload (v := ad 90) mi_339_26 (by simp [stL, stL2, lv_args, Value.category]) ?_
      refine V_getI mi_339_27 hG (rref gr32 (by omega) hG) ?_
      refine V_iload (v := Int32.ofInt ((j : Int))) mi_339_30 (by simp [stL, stL2, lv_args, Value.category]) ?_
      refine V_aldX (j := j) mi_339_31 rfl hG e107 (by omega) (by omega) (g.1) ?_
      refine V_ipush mi_339_32 ?_
      refine V_ibin mi_339_33 (by omega) ?_
      rw [ib1]
      refine V_i2l mi_339_34 ?_
      rw [i2lx ⟨by omega, by omega⟩]
      refine V_stat (As := [.long (Int64.ofInt (i)), .long (Int64.ofInt (0)), .long (Int64.ofInt ((sz j) - (1)))]) (st := []) mi_339_35 (by omega) (inM2 (m := i) (lo := 0) (hi := sz j - 1) iI.1 iI.2 (by omega) (by omega) (by omega) (by omega)) (by omega) (show 3 = mN 193 by decide +kernel) (by simp [Value.category]) ⟨Nat.le_refl _, Nat.le_refl _⟩ ?_
      rintro r w3 ⟨rfl, rfl⟩
      refine V_bne mi_339_38  (fun c3 => ?_) (fun c3 => ?_)
      · have k3 := of_decide_eq_true c3
        obtain ⟨p, rfl⟩ := Int.eq_ofNat_of_zero_le k3.1
        have kp : (p : Int) < sz j := by omega
        refine V_aload (v := ad 90) mi_339_44 (by simp [stL, stL2, lv_args, Value.category]) ?_
        refine V_getI mi_339_45 hG (rref gr34 (by omega) hG) ?_
        refine V_ipush mi_339_48 ?_
        refine V_iload (v := Int32.ofInt ((j : Int))) mi_339_50 (by simp [stL, stL2, lv_args, Value.category]) ?_
        refine V_ibin mi_339_51 (by omega) ?_
        rw [ib2]
        refine V_iload (v := Int32.ofInt ((p : Int))) mi_339_52 (by simp [stL, stL2, lv_args, Value.category]) ?_
        refine V_ibin mi_339_53 (by omega) ?_
        rw [ib0]
        refine V_lload (v := v) mi_339_54 (by simp [stL, stL2, lv_args, Value.category]) ?_
        refine V_aload (v := ad 90) mi_339_55 (by simp [stL, stL2, lv_args, Value.category]) ?_
        refine V_getI mi_339_56 hG (rref gr33 (by omega) hG) ?_
        refine V_iload (v := Int32.ofInt ((j : Int))) mi_339_59 (by simp [stL, stL2, lv_args, Value.category]) ?_
        refine V_aldX (j := j) mi_339_60 rfl hG e108 (by omega) (by omega) (g.2.1) ?_
        refine V_stat (As := [.long (v), .int (Int32.ofInt (wds j))]) (st := [.int (Int32.ofInt (((60) * ((j : Int))) + ((p : Int)))), .ref (ad 109)]) mi_339_61 (by omega) (cutM_ct b.2.1) (by omega) (show 2 = mN 337 by decide +kernel) (by simp [Value.category]) ⟨Nat.le_refl _, Nat.le_refl _⟩ ?_
        rintro r w5 ⟨e5, rfl⟩
        rw [e5]
        refine V_lastI (j := 60 * j + p) mi_339_64 (by rw [show ((60) * ((j : Int))) + ((p : Int)) = ((60 * j + p : Nat) : Int) by omega]) hG e109 (by omega) (by omega) (f109 _ (by omega)) (fun w4 Gw4 Uw4 => ?_)
        refine V_ipush mi_339_65 ?_
        refine V_retI mi_339_66 (fun h => absurd h (by decide +kernel)) ⟨by rw [if_pos k1, if_neg k2, if_pos ⟨by omega, kp⟩], Gw4, ⟨fun _ k hk => ?_, fun k => absurd ⟨k1, by omega, kp⟩ k⟩, fun c p h => upd_ne Uw4 (by omega)⟩
        rw [Int.toNat_natCast]
        have g0 := hS k hk
        have gb := hB k hk
        refine ⟨(upd_ne Uw4 (by omega)).trans g0.1, (upd_ne Uw4 (by omega)).trans g0.2.1, fun x hx => ?_⟩
        by_cases e : 60 * k + x = 60 * j + p
        · rw [e, updL_eq]
          exact upd_eq Uw4
        · rw [updL_ne e]
          exact (upd_ne Uw4 (by omega)).trans (g0.2.2 x hx)
      · have k3 := of_decide_eq_false c3
        refine V_ipush mi_339_41 ?_
        exact V_retI mi_339_43 (fun h => absurd h (by decide +kernel)) ⟨by rw [if_pos k1, if_neg k2, if_neg (by omega)], hG, ⟨fun k => absurd k.2 (by omega), fun _ => rfl⟩, fun _ _ _ => rfl⟩
    · refine V_ipush mi_339_20 ?_
      exact V_retI mi_339_22 (fun h => absurd h (by decide +kernel)) ⟨by rw [if_pos k1, if_pos (show sz j < 0 by omega)], hG, ⟨fun k => absurd k.2 (by omega), fun _ => rfl⟩, fun _ _ _ => rfl⟩
  · refine V_ipush mi_339_7 ?_
    exact V_retI mi_339_9 (fun h => absurd h (by decide +kernel)) ⟨by rw [if_neg (of_decide_eq_false c1)], hG, ⟨fun k => absurd k (fun k => of_decide_eq_false c1 k.1), fun _ => rfl⟩, fun _ _ _ => rfl⟩
end XVC
