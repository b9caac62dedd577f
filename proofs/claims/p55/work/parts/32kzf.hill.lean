section XWE
variable {l : Launch} {D : va_G} {tys : List (ClassId × FieldType)} {A : Nat → Prop} {ad : Nat → Nat} {ws : va_W}
theorem gr29 : ∃ g, GG[90]? = some ((0, 11, 36), g) ∧ segAt g 29 = some (2, ((105 : Nat) : Int), ((105 : Nat) : Int)) := ⟨_, rfl, by decide +kernel⟩
theorem f30m : gF 30 0 6 := ⟨_, rfl, by decide +kernel⟩
theorem a105 : gA 105 6 (-2147483648) 2147483647 := gA_of rfl
theorem dvN {a b : Nat} (ha : a ≤ 2147483647) (hb : 0 < b) (b9 : b ≤ 2147483647) : ibF 3 (Int32.ofInt (a : Int)) (Int32.ofInt (b : Int)) = Int32.ofInt ((a / b : Nat) : Int) := by
  show Int32.ofInt (a : Int) / Int32.ofInt (b : Int) = _
  rw [div32 (by omega) (by omega) (by omega) (by omega)]
  rfl
theorem mdN {a b : Nat} (ha : a ≤ 2147483647) (hb : 0 < b) (b9 : b ≤ 2147483647) : ibF 4 (Int32.ofInt (a : Int)) (Int32.ofInt (b : Int)) = Int32.ofInt ((a % b : Nat) : Int) := by
  show Int32.ofInt (a : Int) - Int32.ofInt (a : Int) / Int32.ofInt (b : Int) * Int32.ofInt (b : Int) = _
  rw [div32 (by omega) (by omega) (by omega) (by omega), ← Int32.ofInt_mul, ← Int32.ofInt_sub]
  have k : a / b * b + a % b = a := by
    rw [Nat.mul_comm]
    exact Nat.div_add_mod a b
  have k2 : (a : Int).tdiv (b : Int) * (b : Int) = ((a / b * b : Nat) : Int) := rfl
  rw [k2, show (a : Int) - ((a / b * b : Nat) : Int) = ((a % b : Nat) : Int) by omega]
theorem nzN {b : Nat} (hb : 0 < b) (b9 : b ≤ 2147483647) : ¬ Int32.ofInt (b : Int) = 0 := fun z => by
  have := ofI (a := (b : Int)) (b := 0) ⟨by omega, by omega⟩ ⟨by omega, by omega⟩ z
  omega
noncomputable def O5M (w0 w : va_W) : Prop := ∀ c p, c ≠ 105 → ¬ (c = 90 ∧ p = 30) → rd w c p = rd w0 c p
/-- the code is spelt -/
noncomputable def SPC (S n c : Nat) (w : va_W) : Prop := rd w 90 30 = some (.int (Int32.ofInt (n : Int))) ∧ ∀ i, i < n → rd w 105 i = some (.int (Int32.ofInt ((dgC S n c i : Nat) : Int)))
theorem pow_6 {S n : Nat} (S9 : S ≤ 9) (n6 : n ≤ 6) : S ^ n ≤ 531441 := by
  have l1 : S ^ n ≤ 9 ^ n := Nat.pow_le_pow_left S9 n
  have l2 : 9 ^ n ≤ 9 ^ 6 := Nat.pow_le_pow_right (by omega) n6
  have l3 : (9 : Nat) ^ 6 = 531441 := by decide
  omega
theorem cv_y {G : Nat → Int} {S N c f : Nat} (hc : c < S ^ N) (hs : ∀ i, i < szN G N f → syN G f i < S) (h : ∀ i, i < szN G N f → dgC S N c i = syN G f i) : cvB S N (szN G N) (syN G) c f = true := decide_eq_true ((dgC_k hc (szN G N f) szN_le hs).mp h)
theorem cv_n {G : Nat → Int} {S N c f i : Nat} (hc : c < S ^ N) (hs : ∀ i, i < szN G N f → syN G f i < S) (hi : i < szN G N f) (h : dgC S N c i ≠ syN G f i) : cvB S N (szN G N) (syN G) c f = false := decide_eq_false (fun z => h ((dgC_k hc (szN G N f) szN_le hs).mpr z i hi))
theorem nmm_4 {G : Nat → Int} {S : Nat} (hG : GOK ad tys GG ws) (hW : W91 G ws) (hB : HB G) (eS : G 0 = (S : Int)) {n : Nat} (n6 : n ≤ 6) {post : Option Value → va_W → Prop} : ∀ (k i : Nat), i + k = n → post (some (.int (Int32.ofInt ((S ^ n : Nat) : Int)))) ws → V l D tys A 309 0 0 0 post 0 0 4 [(0, .ref (ad 90)), (1, .int (Int32.ofInt ((n : Int)))), (2, .int (Int32.ofInt (((S ^ i : Nat) : Int)))), (3, .int (Int32.ofInt ((i : Int))))] [] ws
  | 0, i, hi, kk => by
    refine V_iload (v := Int32.ofInt ((i : Int))) mi_309_4 (by simp [stL, stL2, lv_args, Value.category]) ?_
    refine V_iload (v := Int32.ofInt ((n : Int))) mi_309_5 (by simp [stL, stL2, lv_args, Value.category]) ?_
    refine V_cge mi_309_6 ⟨by omega, by omega⟩ ⟨by omega, by omega⟩ (fun q => ?_) (fun q => ?_)
    · refine V_iload (v := Int32.ofInt (((S ^ i : Nat) : Int))) mi_309_24 (by simp [stL, stL2, lv_args, Value.category]) ?_
      exact V_retI mi_309_25 (fun h => absurd h (by decide +kernel)) (by rw [show i = n by omega]; exact kk)
    · exact absurd q (by omega)
  | k + 1, i, hi, kk => by
    obtain ⟨s91, e91, -⟩ := g91s
    refine V_iload (v := Int32.ofInt ((i : Int))) mi_309_4 (by simp [stL, stL2, lv_args, Value.category]) ?_
    refine V_iload (v := Int32.ofInt ((n : Int))) mi_309_5 (by simp [stL, stL2, lv_args, Value.category]) ?_
    refine V_cge mi_309_6 ⟨by omega, by omega⟩ ⟨by omega, by omega⟩ (fun q => ?_) (fun q => ?_)
    · exact absurd q (by omega)
    · refine V_iload (v := Int32.ofInt (((S ^ i : Nat) : Int))) mi_309_9 (by simp [stL, stL2, lv_args, Value.category]) ?_
      refine V_aload (v := ad 90) mi_309_10 (by simp [stL, stL2, lv_args, Value.category]) ?_
      refine V_getI mi_309_11 hG (rref gr1m (by omega) hG) ?_
      refine V_ipush mi_309_14 ?_
      refine V_aldX (j := 0) mi_309_15 rfl hG e91 (by omega) (by omega) (hW _ (by omega)) ?_
      rw [eS]
      refine V_ibin mi_309_16 (by omega) ?_
      rw [ib2]
      rw [show ((S ^ i : Nat) : Int) * (S : Int) = ((S ^ (i + 1) : Nat) : Int) by rw [Nat.pow_succ]; rfl]
      refine V_istore mi_309_17 ?_
      refine V_iinc (v := Int32.ofInt ((i : Int))) mi_309_18 (by simp [stL, stL2, lv_args, Value.category]) ?_
      rw [ia2]
      refine V_goto mi_309_21 ?_
      refine V_sub (lv' := [(0, .ref (ad 90)), (1, .int (Int32.ofInt ((n : Int)))), (2, .int (Int32.ofInt (((S ^ (i + 1) : Nat) : Int)))), (3, .int (Int32.ofInt (((i + 1 : Nat) : Int))))]) (fun q hq => ?_) ?_
      · simp only [List.mem_cons, List.not_mem_nil, or_false] at hq
        rcases hq with rfl | rfl | rfl | rfl <;> simp [stL, stL2, lv_args, Value.category]
      exact nmm_4 hG hW hB eS n6 k (i + 1) (by omega) kk
theorem nmm_ct {G : Nat → Int} {S : Nat} (hG : GOK ad tys GG ws) (hW : W91 G ws) (hB : HB G) (eS : G 0 = (S : Int)) {n : Nat} (n6 : n ≤ 6) : CT l D tys A 309 0 0 0 [.ref (ad 90), .int (Int32.ofInt ((n : Int)))] ws (fun r w => w = ws ∧ r = some (.int (Int32.ofInt ((S ^ n : Nat) : Int)))) := by
  refine CT_of_V (by omega) (show (2 : Nat) ≤ mML 309 by decide +kernel) ?_
  refine V_ipush mi_309_0 ?_
  refine V_istore mi_309_1 ?_
  refine V_ipush mi_309_2 ?_
  refine V_istore mi_309_3 ?_
  refine V_sub (lv' := [(0, .ref (ad 90)), (1, .int (Int32.ofInt ((n : Int)))), (2, .int (Int32.ofInt (((S ^ 0 : Nat) : Int)))), (3, .int (Int32.ofInt (((0 : Nat) : Int))))]) (fun q hq => ?_) ?_
  · simp only [List.mem_cons, List.not_mem_nil, or_false] at hq
    rcases hq with rfl | rfl | rfl | rfl <;> simp [stL, stL2, lv_args, Value.category]
  exact nmm_4 hG hW hB eS n6 n 0 (by omega) ⟨rfl, rfl⟩
theorem spc_12 {G : Nat → Int} {S n c : Nat} {w0 : va_W} (hW0 : W91 G w0) (hB : HB G) (eS : G 0 = (S : Int)) (hS : 0 < S) (S9 : S ≤ 9) (n6 : n ≤ 6) (hc : c < 1000000) {post : Option Value → va_W → Prop} : ∀ (r : Nat) (ws : va_W), r ≤ n → GOK ad tys GG ws → O5M w0 ws → rd ws 90 30 = some (.int (Int32.ofInt (n : Int))) → (∀ i, r ≤ i → i < n → rd ws 105 i = some (.int (Int32.ofInt ((dgC S n c i : Nat) : Int)))) → (∀ w : va_W, GOK ad tys GG w → O5M w0 w → SPC S n c w → post none w) → V l D tys A 310 0 0 0 post 0 0 12 [(0, .ref (ad 90)), (1, .int (Int32.ofInt ((c : Int)))), (2, .int (Int32.ofInt ((n : Int)))), (3, .int (Int32.ofInt (((c / S ^ (n - r) : Nat) : Int)))), (4, .int (Int32.ofInt ((r : Int) - 1)))] [] ws
  | 0, ws, hr, hG, hO, hn, hd, kk => by
    refine V_iload (v := Int32.ofInt (((0 : Nat) : Int) - 1)) mi_310_12 (by simp [stL, stL2, lv_args, Value.category]) ?_
    refine V_zlt mi_310_14 ⟨by omega, by omega⟩ (fun q => ?_) (fun q => ?_)
    · exact V_retV mi_310_47 (kk ws hG hO ⟨hn, fun i hi => hd i (by omega) hi⟩)
    · exact absurd q (by omega)
  | r + 1, ws, hr, hG, hO, hn, hd, kk => by
    obtain ⟨s91, e91, -⟩ := g91s
    obtain ⟨s105, e105, f105⟩ := a105
    have hW : W91 G ws := fun j hj => (hO 91 j (by omega) (by omega)).trans (hW0 j hj)
    have le : c / S ^ (n - (r + 1)) ≤ c := Nat.div_le_self _ _
    rw [show ((r + 1 : Nat) : Int) - 1 = (r : Int) by omega]
    refine V_iload (v := Int32.ofInt ((r : Int))) mi_310_12 (by simp [stL, stL2, lv_args, Value.category]) ?_
    refine V_zlt mi_310_14 ⟨by omega, by omega⟩ (fun q => ?_) (fun q => ?_)
    · exact absurd q (by omega)
    · refine V_aload (v := ad 90) mi_310_17 (by simp [stL, stL2, lv_args, Value.category]) ?_
      refine V_getI mi_310_18 hG (rref gr29 (by omega) hG) ?_
      refine V_iload (v := Int32.ofInt ((r : Int))) mi_310_21 (by simp [stL, stL2, lv_args, Value.category]) ?_
      refine V_iload (v := Int32.ofInt (((c / S ^ (n - (r + 1)) : Nat) : Int))) mi_310_23 (by simp [stL, stL2, lv_args, Value.category]) ?_
      refine V_aload (v := ad 90) mi_310_24 (by simp [stL, stL2, lv_args, Value.category]) ?_
      refine V_getI mi_310_25 hG (rref gr1m (by omega) hG) ?_
      refine V_ipush mi_310_28 ?_
      refine V_aldX (j := 0) mi_310_29 rfl hG e91 (by omega) (by omega) (hW _ (by omega)) ?_
      rw [eS]
      refine V_ibin mi_310_30 (fun _ => nzN hS (by omega)) ?_
      rw [mdN (by omega) hS (by omega), show c / S ^ (n - (r + 1)) % S = dgC S n c r by unfold dgC; rw [show n - 1 - r = n - (r + 1) by omega]]
      have dl := dgC_lt (S := S) (n := n) (c := c) (i := r) hS
      refine V_astX (j := r) mi_310_31 rfl hG e105 (by omega) (by omega) (f105 _ (by omega)) (i32b _).1 (i32b _).2 (fun w1 G1 U1 => ?_)
      have O1 : O5M w0 w1 := fun c j h1 h2 => (upd_ne U1 (by omega)).trans (hO c j h1 h2)
      have hW1 : W91 G w1 := fun j hj => (O1 91 j (by omega) (by omega)).trans (hW0 j hj)
      refine V_iload (v := Int32.ofInt (((c / S ^ (n - (r + 1)) : Nat) : Int))) mi_310_32 (by simp [stL, stL2, lv_args, Value.category]) ?_
      refine V_aload (v := ad 90) mi_310_33 (by simp [stL, stL2, lv_args, Value.category]) ?_
      refine V_getI mi_310_34 G1 (rref gr1m (by omega) G1) ?_
      refine V_ipush mi_310_37 ?_
      refine V_aldX (j := 0) mi_310_38 rfl G1 e91 (by omega) (by omega) (hW1 _ (by omega)) ?_
      rw [eS]
      refine V_ibin mi_310_39 (fun _ => nzN hS (by omega)) ?_
      rw [dvN (by omega) hS (by omega), show c / S ^ (n - (r + 1)) / S = c / S ^ (n - r) by rw [Nat.div_div_eq_div_mul, ← Nat.pow_succ, show (n - (r + 1)).succ = n - r by omega]]
      refine V_istore mi_310_40 ?_
      refine V_iinc (v := Int32.ofInt ((r : Int))) mi_310_41 (by simp [stL, stL2, lv_args, Value.category]) ?_
      rw [ia2]
      rw [show (r : Int) + (-1) = (r : Int) - 1 by omega]
      refine V_goto mi_310_44 ?_
      refine V_sub (lv' := [(0, .ref (ad 90)), (1, .int (Int32.ofInt ((c : Int)))), (2, .int (Int32.ofInt ((n : Int)))), (3, .int (Int32.ofInt (((c / S ^ (n - r) : Nat) : Int)))), (4, .int (Int32.ofInt ((r : Int) - 1)))]) (fun q hq => ?_) ?_
      · simp only [List.mem_cons, List.not_mem_nil, or_false] at hq
        rcases hq with rfl | rfl | rfl | rfl | rfl <;> simp [stL, stL2, lv_args, Value.category]
      refine spc_12 hW0 hB eS hS S9 n6 hc r w1 (by omega) G1 O1 ((upd_ne U1 (by omega)).trans hn) (fun i h1 h2 => ?_) kk
      by_cases e : i = r
      · rw [e]
        exact upd_eq U1
      · exact (upd_ne U1 (by omega)).trans (hd i (by omega) h2)
theorem spc_ct {G : Nat → Int} {S n c : Nat} (hG : GOK ad tys GG ws) (hW : W91 G ws) (hB : HB G) (eS : G 0 = (S : Int)) (hS : 0 < S) (S9 : S ≤ 9) (n6 : n ≤ 6) (hc : c < 1000000) : CT l D tys A 310 0 0 0 [.ref (ad 90), .int (Int32.ofInt ((c : Int))), .int (Int32.ofInt ((n : Int)))] ws (fun r w => r = none ∧ GOK ad tys GG w ∧ O5M ws w ∧ SPC S n c w) := by
  refine CT_of_V (by omega) (show (3 : Nat) ≤ mML 310 by decide +kernel) ?_
  refine V_aload (v := ad 90) mi_310_0 (by simp [stL, stL2, lv_args, Value.category]) ?_
  refine V_iload (v := Int32.ofInt ((n : Int))) mi_310_1 (by simp [stL, stL2, lv_args, Value.category]) ?_
  refine V_putI mi_310_2 hG f30m (by omega) rfl (by decide +kernel) (by rw [Int32.toInt_ofInt_of_le (by omega) (by omega)]; omega) (by rw [Int32.toInt_ofInt_of_le (by omega) (by omega)]; omega) (fun w1 G1 U1 => ?_)
  refine V_iload (v := Int32.ofInt ((c : Int))) mi_310_5 (by simp [stL, stL2, lv_args, Value.category]) ?_
  refine V_istore mi_310_6 ?_
  refine V_iload (v := Int32.ofInt ((n : Int))) mi_310_7 (by simp [stL, stL2, lv_args, Value.category]) ?_
  refine V_ipush mi_310_8 ?_
  refine V_ibin mi_310_9 (by omega) ?_
  rw [ib1]
  refine V_istore mi_310_10 ?_
  refine V_sub (lv' := [(0, .ref (ad 90)), (1, .int (Int32.ofInt ((c : Int)))), (2, .int (Int32.ofInt ((n : Int)))), (3, .int (Int32.ofInt (((c / S ^ (n - n) : Nat) : Int)))), (4, .int (Int32.ofInt ((n : Int) - 1)))]) (fun q hq => ?_) ?_
  · simp only [List.mem_cons, List.not_mem_nil, or_false] at hq
    rcases hq with rfl | rfl | rfl | rfl | rfl <;> simp [stL, stL2, lv_args, Value.category]
  exact spc_12 (w0 := ws) hW hB eS hS S9 n6 hc n w1 (Nat.le_refl _) G1 (fun c j h1 h2 => upd_ne U1 (by omega)) (upd_eq U1) (fun i h1 h2 => absurd h1 (by omega)) (fun w g o s => ⟨rfl, g, o, s⟩)
theorem ifo_2 {G : Nat → Int} {S n c f : Nat} (hG : GOK ad tys GG ws) (hW : W91 G ws) (hB : HB G) (hS : 0 < S) (S9 : S ≤ 9) (hf : f < 6) (n6 : n ≤ 6) (hc : c < S ^ n) (hp : SPC S n c ws) (hs : ∀ i, i < szN G n f → syN G f i < S) {post : Option Value → va_W → Prop} : ∀ (k i : Nat), i + k = szN G n f → (∀ x, x < i → dgC S n c x = syN G f x) → post (some (.int (bI (!(cvB S n (szN G n) (syN G) c f))))) ws → V l D tys A 323 1 0 0 post 0 0 2 [(0, .ref (ad 90)), (1, .int (Int32.ofInt ((f : Int)))), (2, .int (Int32.ofInt ((i : Int))))] [] ws
  | 0, i, hi, ht, kk => by
    have bf := hB.bl f hf
    have ze : szN G n f = min n (G (6 + 7 * f)).toNat := rfl
    refine V_iload (v := Int32.ofInt ((i : Int))) mi_323_2 (by simp [stL, stL2, lv_args, Value.category]) ?_
    refine V_aload (v := ad 90) mi_323_3 (by simp [stL, stL2, lv_args, Value.category]) ?_
    refine V_iload (v := Int32.ofInt ((f : Int))) mi_323_4 (by simp [stL, stL2, lv_args, Value.category]) ?_
    refine V_callM (As := [.int (Int32.ofInt ((f : Int)))]) (st := [.int (Int32.ofInt ((i : Int)))]) mi_323_5 (by omega) (by decide +kernel) (by decide +kernel) hG (mle_ct (f := f) hG hW hB hf) (by omega) (show 1 = mN 204 by decide +kernel) (by simp [Value.category]) ?_
    rintro r w0 ⟨e0, rfl⟩
    rw [e0]
    refine V_cge mi_323_8 ⟨by omega, by omega⟩ ⟨by omega, by omega⟩ (fun q => ?_) (fun q => ?_)
    · refine V_ipush mi_323_42 ?_
      exact V_retI mi_323_43 (fun _ => by decide) (by rw [cv_y hc hs (fun x hx => ht x (by omega))] at kk; exact kk)
    · refine V_iload (v := Int32.ofInt ((i : Int))) mi_323_11 (by simp [stL, stL2, lv_args, Value.category]) ?_
      refine V_aload (v := ad 90) mi_323_12 (by simp [stL, stL2, lv_args, Value.category]) ?_
      refine V_getI mi_323_13 hG (hp.1) ?_
      refine V_cge mi_323_16 ⟨by omega, by omega⟩ ⟨by omega, by omega⟩ (fun q2 => ?_) (fun q2 => ?_)
      · refine V_ipush mi_323_42 ?_
        exact V_retI mi_323_43 (fun _ => by decide) (by rw [cv_y hc hs (fun x hx => ht x (by omega))] at kk; exact kk)
      · exact absurd q2 (by omega)
  | k + 1, i, hi, ht, kk => by
    obtain ⟨s105, e105, f105⟩ := a105
    have bf := hB.bl f hf
    refine V_iload (v := Int32.ofInt ((i : Int))) mi_323_2 (by simp [stL, stL2, lv_args, Value.category]) ?_
    refine V_aload (v := ad 90) mi_323_3 (by simp [stL, stL2, lv_args, Value.category]) ?_
    refine V_iload (v := Int32.ofInt ((f : Int))) mi_323_4 (by simp [stL, stL2, lv_args, Value.category]) ?_
    refine V_callM (As := [.int (Int32.ofInt ((f : Int)))]) (st := [.int (Int32.ofInt ((i : Int)))]) mi_323_5 (by omega) (by decide +kernel) (by decide +kernel) hG (mle_ct (f := f) hG hW hB hf) (by omega) (show 1 = mN 204 by decide +kernel) (by simp [Value.category]) ?_
    rintro r w0 ⟨e0, rfl⟩
    rw [e0]
    have zl := szN_l (G := G) (N := n) (f := f) bf.1
    have zn := szN_le (G := G) (N := n) (f := f)
    refine V_cge mi_323_8 ⟨by omega, by omega⟩ ⟨by omega, by omega⟩ (fun q => ?_) (fun q => ?_)
    · exact absurd q (by omega)
    · refine V_iload (v := Int32.ofInt ((i : Int))) mi_323_11 (by simp [stL, stL2, lv_args, Value.category]) ?_
      refine V_aload (v := ad 90) mi_323_12 (by simp [stL, stL2, lv_args, Value.category]) ?_
      refine V_getI mi_323_13 hG (hp.1) ?_
      refine V_cge mi_323_16 ⟨by omega, by omega⟩ ⟨by omega, by omega⟩ (fun q2 => ?_) (fun q2 => ?_)
      · exact absurd q2 (by omega)
      · have bn := hB.bn f hf i (by omega)
        have sy := sy_e (G := G) (f := f) (i := i) bn.1
        have dl := dgC_lt (S := S) (n := n) (c := c) (i := i) hS
        refine V_aload (v := ad 90) mi_323_19 (by simp [stL, stL2, lv_args, Value.category]) ?_
        refine V_getI mi_323_20 hG (rref gr29 (by omega) hG) ?_
        refine V_iload (v := Int32.ofInt ((i : Int))) mi_323_23 (by simp [stL, stL2, lv_args, Value.category]) ?_
        refine V_aldX (j := i) mi_323_24 rfl hG e105 (by omega) (by omega) (hp.2 i (by omega)) ?_
        refine V_aload (v := ad 90) mi_323_25 (by simp [stL, stL2, lv_args, Value.category]) ?_
        refine V_iload (v := Int32.ofInt ((f : Int))) mi_323_26 (by simp [stL, stL2, lv_args, Value.category]) ?_
        refine V_iload (v := Int32.ofInt ((i : Int))) mi_323_27 (by simp [stL, stL2, lv_args, Value.category]) ?_
        refine V_callM (As := [.int (Int32.ofInt ((f : Int))), .int (Int32.ofInt ((i : Int)))]) (st := [.int (Int32.ofInt (((dgC S n c i : Nat) : Int)))]) mi_323_28 (by omega) (by decide +kernel) (by decide +kernel) hG (msl_ct (o := f) (i := i) hG hW hB hf (by omega)) (by omega) (show 2 = mN 205 by decide +kernel) (by simp [Value.category]) ?_
        rintro r w1 ⟨e1, rfl⟩
        rw [e1, sy]
        refine V_ceq mi_323_31 ⟨by omega, by omega⟩ ⟨by omega, by omega⟩ (fun q3 => ?_) (fun q3 => ?_)
        · refine V_iinc (v := Int32.ofInt ((i : Int))) mi_323_36 (by simp [stL, stL2, lv_args, Value.category]) ?_
          rw [ia2]
          refine V_goto mi_323_39 ?_
          refine V_sub (lv' := [(0, .ref (ad 90)), (1, .int (Int32.ofInt ((f : Int)))), (2, .int (Int32.ofInt (((i + 1 : Nat) : Int))))]) (fun q hq => ?_) ?_
          · simp only [List.mem_cons, List.not_mem_nil, or_false] at hq
            rcases hq with rfl | rfl | rfl <;> simp [stL, stL2, lv_args, Value.category]
          exact ifo_2 hG hW hB hS S9 hf n6 hc hp hs k (i + 1) (by omega) (fun x hx => by
            by_cases e : x = i
            · rw [e]
              omega
            · exact ht x (by omega)) kk
        · refine V_ipush mi_323_34 ?_
          exact V_retI mi_323_35 (fun _ => by decide) (by rw [cv_n hc hs (i := i) (by omega) (by omega)] at kk; exact kk)
theorem ifo_ct {G : Nat → Int} {S n c f : Nat} (hG : GOK ad tys GG ws) (hW : W91 G ws) (hB : HB G) (hS : 0 < S) (S9 : S ≤ 9) (hf : f < 6) (n6 : n ≤ 6) (hc : c < S ^ n) (hp : SPC S n c ws) (hs : ∀ i, i < szN G n f → syN G f i < S) : CT l D tys A 323 1 0 0 [.ref (ad 90), .int (Int32.ofInt ((f : Int)))] ws (fun r w => w = ws ∧ r = some (.int (bI (!(cvB S n (szN G n) (syN G) c f))))) := by
  refine CT_of_V (by omega) (show (2 : Nat) ≤ mML 323 by decide +kernel) ?_
  refine V_ipush mi_323_0 ?_
  refine V_istore mi_323_1 ?_
  refine V_sub (lv' := [(0, .ref (ad 90)), (1, .int (Int32.ofInt ((f : Int)))), (2, .int (Int32.ofInt (((0 : Nat) : Int))))]) (fun q hq => ?_) ?_
  · simp only [List.mem_cons, List.not_mem_nil, or_false] at hq
    rcases hq with rfl | rfl | rfl <;> simp [stL, stL2, lv_args, Value.category]
  exact ifo_2 hG hW hB hS S9 hf n6 hc hp hs (szN G n f) 0 (by omega) (fun x hx => absurd hx (by omega)) ⟨rfl, rfl⟩
theorem ifr_2 {G : Nat → Int} {S m n c : Nat} (hG : GOK ad tys GG ws) (hW : W91 G ws) (hB : HB G) (em : G 3 = (m : Int)) (hS : 0 < S) (S9 : S ≤ 9) (n6 : n ≤ 6) (hc : c < S ^ n) (hp : SPC S n c ws) (hs : ∀ f, f < m → ∀ i, i < szN G n f → syN G f i < S) {post : Option Value → va_W → Prop} : ∀ (k f : Nat), f + k = m → (∀ x, x < f → cvB S n (szN G n) (syN G) c x = false) → post (some (.int (bI (frI G S m n c)))) ws → V l D tys A 324 2 0 0 post 0 0 2 [(0, .ref (ad 90)), (1, .int (Int32.ofInt ((f : Int))))] [] ws
  | 0, f, hf, ht, kk => by
    obtain ⟨s91, e91, -⟩ := g91s
    have b3 := hB.b3
    refine V_iload (v := Int32.ofInt ((f : Int))) mi_324_2 (by simp [stL, stL2, lv_args, Value.category]) ?_
    refine V_aload (v := ad 90) mi_324_3 (by simp [stL, stL2, lv_args, Value.category]) ?_
    refine V_getI mi_324_4 hG (rref gr1m (by omega) hG) ?_
    refine V_ipush mi_324_7 ?_
    refine V_aldX (j := 3) mi_324_8 rfl hG e91 (by omega) (by omega) (hW _ (by omega)) ?_
    rw [em]
    refine V_cge mi_324_9 ⟨by omega, by omega⟩ ⟨by omega, by omega⟩ (fun q => ?_) (fun q => ?_)
    · refine V_ipush mi_324_28 ?_
      exact V_retI mi_324_29 (fun _ => by decide) (by unfold frI at kk; rw [exiU_f (fun x hx => ht x (by omega))] at kk; exact kk)
    · exact absurd q (by omega)
  | k + 1, f, hf, ht, kk => by
    obtain ⟨s91, e91, -⟩ := g91s
    have b3 := hB.b3
    refine V_iload (v := Int32.ofInt ((f : Int))) mi_324_2 (by simp [stL, stL2, lv_args, Value.category]) ?_
    refine V_aload (v := ad 90) mi_324_3 (by simp [stL, stL2, lv_args, Value.category]) ?_
    refine V_getI mi_324_4 hG (rref gr1m (by omega) hG) ?_
    refine V_ipush mi_324_7 ?_
    refine V_aldX (j := 3) mi_324_8 rfl hG e91 (by omega) (by omega) (hW _ (by omega)) ?_
    rw [em]
    refine V_cge mi_324_9 ⟨by omega, by omega⟩ ⟨by omega, by omega⟩ (fun q => ?_) (fun q => ?_)
    · exact absurd q (by omega)
    · refine V_aload (v := ad 90) mi_324_12 (by simp [stL, stL2, lv_args, Value.category]) ?_
      refine V_iload (v := Int32.ofInt ((f : Int))) mi_324_13 (by simp [stL, stL2, lv_args, Value.category]) ?_
      refine V_callM (As := [.int (Int32.ofInt ((f : Int)))]) (st := []) mi_324_14 (by omega) (by decide +kernel) (by decide +kernel) hG (ifo_ct (f := f) (n := n) (c := c) (S := S) hG hW hB hS S9 (by omega) n6 hc hp (hs f (by omega))) (by omega) (show 1 = mN 323 by decide +kernel) (by simp [Value.category]) ?_
      rintro r w1 ⟨e1, rfl⟩
      rw [e1]
      refine V_bne mi_324_17  (fun c1 => ?_) (fun c1 => ?_)
      · refine V_iinc (v := Int32.ofInt ((f : Int))) mi_324_22 (by simp [stL, stL2, lv_args, Value.category]) ?_
        rw [ia2]
        refine V_goto mi_324_25 ?_
        refine V_sub (lv' := [(0, .ref (ad 90)), (1, .int (Int32.ofInt (((f + 1 : Nat) : Int))))]) (fun q hq => ?_) ?_
        · simp only [List.mem_cons, List.not_mem_nil, or_false] at hq
          rcases hq with rfl | rfl <;> simp [stL, stL2, lv_args, Value.category]
        exact ifr_2 hG hW hB em hS S9 n6 hc hp hs k (f + 1) (by omega) (fun x hx => by
          by_cases e : x = f
          · rw [e]
            cases z : cvB S n (szN G n) (syN G) c f with
            | false => rfl
            | true => rw [z] at c1; exact absurd c1 (by decide)
          · exact ht x (by omega)) kk
      · refine V_ipush mi_324_20 ?_
        exact V_retI mi_324_21 (fun _ => by decide) (by
          have z : cvB S n (szN G n) (syN G) c f = true := by
            cases z : cvB S n (szN G n) (syN G) c f with
            | false => rw [z] at c1; exact absurd c1 (by decide)
            | true => rfl
          unfold frI at kk
          rw [exiU_t (i := f) (by omega) z] at kk
          exact kk)
theorem ifr_ct {G : Nat → Int} {S m n c : Nat} (hG : GOK ad tys GG ws) (hW : W91 G ws) (hB : HB G) (em : G 3 = (m : Int)) (hS : 0 < S) (S9 : S ≤ 9) (n6 : n ≤ 6) (hc : c < S ^ n) (hp : SPC S n c ws) (hs : ∀ f, f < m → ∀ i, i < szN G n f → syN G f i < S) : CT l D tys A 324 2 0 0 [.ref (ad 90)] ws (fun r w => w = ws ∧ r = some (.int (bI (frI G S m n c)))) := by
  refine CT_of_V (by omega) (show (1 : Nat) ≤ mML 324 by decide +kernel) ?_
  refine V_ipush mi_324_0 ?_
  refine V_istore mi_324_1 ?_
  refine V_sub (lv' := [(0, .ref (ad 90)), (1, .int (Int32.ofInt (((0 : Nat) : Int))))]) (fun q hq => ?_) ?_
  · simp only [List.mem_cons, List.not_mem_nil, or_false] at hq
    rcases hq with rfl | rfl <;> simp [stL, stL2, lv_args, Value.category]
  exact ifr_2 hG hW hB em hS S9 n6 hc hp hs m 0 (by omega) (fun x hx => absurd hx (by omega)) ⟨rfl, rfl⟩
theorem chm_25 {G : Nat → Int} {S m n : Nat} {w0 : va_W} (hW0 : W91 G w0) (hB : HB G) (eS : G 0 = (S : Int)) (em : G 3 = (m : Int)) (n1 : 1 ≤ n) (n6 : n ≤ 6) (hs : ∀ f, f < m → ∀ i, i < szN G n f → syN G f i < S) {z : Int} (zI : I32 z) (zl : -1 ≤ z) {post : Option Value → va_W → Prop} : ∀ (k c : Nat) (ws : va_W), c + k = S ^ n → GOK ad tys GG ws → O5M w0 ws → (∀ (d : Nat) (w : va_W), fcK (frI G S m n) k c = some d → GOK ad tys GG w → O5M w0 w → post (some (.int (Int32.ofInt (chV S z (some (n, d)))))) w) → (fcK (frI G S m n) k c = none → ∀ w : va_W, GOK ad tys GG w → O5M w0 w → V l D tys A 326 3 0 0 post 0 0 17 [(0, .ref (ad 90)), (1, .int (Int32.ofInt (z))), (2, .int (Int32.ofInt (((n + 1 : Nat) : Int))))] [] w) → V l D tys A 326 3 0 0 post 0 0 25 [(0, .ref (ad 90)), (1, .int (Int32.ofInt (z))), (2, .int (Int32.ofInt ((n : Int)))), (3, .int (Int32.ofInt ((c : Int))))] [] ws
  | 0, c, ws, hc0, hG, hO, kk, kn => by
    have hW : W91 G ws := fun j hj => (hO 91 j (by omega) (by omega)).trans (hW0 j hj)
    have b0 := hB.b0
    have pw := pow_6 (S := S) (n := n) (by omega) n6
    have z1 := zI.1
    have z2 := zI.2
    refine V_iload (v := Int32.ofInt ((c : Int))) mi_326_25 (by simp [stL, stL2, lv_args, Value.category]) ?_
    refine V_aload (v := ad 90) mi_326_26 (by simp [stL, stL2, lv_args, Value.category]) ?_
    refine V_iload (v := Int32.ofInt ((n : Int))) mi_326_27 (by simp [stL, stL2, lv_args, Value.category]) ?_
    refine V_callM (As := [.int (Int32.ofInt ((n : Int)))]) (st := [.int (Int32.ofInt ((c : Int)))]) mi_326_28 (by omega) (by decide +kernel) (by decide +kernel) hG (nmm_ct (S := S) (n := n) hG hW hB eS n6) (by omega) (show 1 = mN 309 by decide +kernel) (by simp [Value.category]) ?_
    rintro r w1 ⟨e1, rfl⟩
    rw [e1]
    refine V_cge mi_326_31 ⟨by omega, by omega⟩ ⟨by omega, by omega⟩ (fun q => ?_) (fun q => ?_)
    · refine V_iinc (v := Int32.ofInt ((n : Int))) mi_326_78 (by simp [stL, stL2, lv_args, Value.category]) ?_
      rw [ia2]
      refine V_goto mi_326_81 ?_
      refine V_sub (lv' := [(0, .ref (ad 90)), (1, .int (Int32.ofInt (z))), (2, .int (Int32.ofInt (((n + 1 : Nat) : Int))))]) (fun q hq => ?_) ?_
      · simp only [List.mem_cons, List.not_mem_nil, or_false] at hq
        rcases hq with rfl | rfl | rfl <;> simp [stL, stL2, lv_args, Value.category]
      exact kn rfl ws hG hO
    · exact absurd q (by omega)
  | k + 1, c, ws, hc0, hG, hO, kk, kn => by
    have hW : W91 G ws := fun j hj => (hO 91 j (by omega) (by omega)).trans (hW0 j hj)
    have b0 := hB.b0
    have pw := pow_6 (S := S) (n := n) (by omega) n6
    have z1 := zI.1
    have z2 := zI.2
    refine V_iload (v := Int32.ofInt ((c : Int))) mi_326_25 (by simp [stL, stL2, lv_args, Value.category]) ?_
    refine V_aload (v := ad 90) mi_326_26 (by simp [stL, stL2, lv_args, Value.category]) ?_
    refine V_iload (v := Int32.ofInt ((n : Int))) mi_326_27 (by simp [stL, stL2, lv_args, Value.category]) ?_
    refine V_callM (As := [.int (Int32.ofInt ((n : Int)))]) (st := [.int (Int32.ofInt ((c : Int)))]) mi_326_28 (by omega) (by decide +kernel) (by decide +kernel) hG (nmm_ct (S := S) (n := n) hG hW hB eS n6) (by omega) (show 1 = mN 309 by decide +kernel) (by simp [Value.category]) ?_
    rintro r w1 ⟨e1, rfl⟩
    rw [e1]
    refine V_cge mi_326_31 ⟨by omega, by omega⟩ ⟨by omega, by omega⟩ (fun q => ?_) (fun q => ?_)
    · exact absurd q (by omega)
    · have hS : 0 < S := by
        rcases Nat.eq_zero_or_pos S with e | e
        · rw [e, Nat.zero_pow (n := n) (by omega)] at q
          omega
        · exact e
      have hc : c < S ^ n := by omega
      refine V_aload (v := ad 90) mi_326_34 (by simp [stL, stL2, lv_args, Value.category]) ?_
      refine V_iload (v := Int32.ofInt ((c : Int))) mi_326_35 (by simp [stL, stL2, lv_args, Value.category]) ?_
      refine V_iload (v := Int32.ofInt ((n : Int))) mi_326_36 (by simp [stL, stL2, lv_args, Value.category]) ?_
      refine V_callM (As := [.int (Int32.ofInt ((c : Int))), .int (Int32.ofInt ((n : Int)))]) (st := []) mi_326_37 (by omega) (by decide +kernel) (by decide +kernel) hG (spc_ct (S := S) (n := n) (c := c) hG hW hB eS hS (by omega) n6 (by omega)) (by omega) (show 2 = mN 310 by decide +kernel) (by simp [Value.category]) ?_
      rintro r w2 ⟨rfl, G2, o2, P2⟩
      have O2 : O5M w0 w2 := fun c j h1 h2 => (o2 c j h1 h2).trans (hO c j h1 h2)
      have hW2 : W91 G w2 := fun j hj => (O2 91 j (by omega) (by omega)).trans (hW0 j hj)
      refine V_aload (v := ad 90) mi_326_40 (by simp [stL, stL2, lv_args, Value.category]) ?_
      refine V_callM (As := []) (st := []) mi_326_41 (by omega) (by decide +kernel) (by decide +kernel) G2 (ifr_ct (S := S) (n := n) (c := c) G2 hW2 hB em hS (by omega) n6 hc P2 hs) (by omega) (show 0 = mN 324 by decide +kernel) (by simp [Value.category]) ?_
      rintro r w3 ⟨e3, rfl⟩
      rw [e3]
      refine V_beq mi_326_44  (fun c2 => ?_) (fun c2 => ?_)
      · refine V_iinc (v := Int32.ofInt ((c : Int))) mi_326_72 (by simp [stL, stL2, lv_args, Value.category]) ?_
        rw [ia2]
        refine V_goto mi_326_75 ?_
        refine V_sub (lv' := [(0, .ref (ad 90)), (1, .int (Int32.ofInt (z))), (2, .int (Int32.ofInt ((n : Int)))), (3, .int (Int32.ofInt (((c + 1 : Nat) : Int))))]) (fun q hq => ?_) ?_
        · simp only [List.mem_cons, List.not_mem_nil, or_false] at hq
          rcases hq with rfl | rfl | rfl | rfl <;> simp [stL, stL2, lv_args, Value.category]
        have e : fcK (frI G S m n) (k + 1) c = fcK (frI G S m n) k (c + 1) := if_neg (by rw [c2]; exact Bool.false_ne_true)
        rw [e] at kk kn
        exact chm_25 hW0 hB eS em n1 n6 hs zI zl k (c + 1) w2 (by omega) G2 O2 kk kn
      · have e : fcK (frI G S m n) (k + 1) c = some c := if_pos c2
        have kk : post (some (.int (Int32.ofInt (if z = -1 then (n : Int) else if z < (n : Int) then ((dgC S n c z.toNat : Nat) : Int) else -1)))) w2 := kk c w2 e G2 O2
        refine V_iload (v := Int32.ofInt (z)) mi_326_47 (by simp [stL, stL2, lv_args, Value.category]) ?_
        refine V_ipush mi_326_48 ?_
        refine V_cne mi_326_49 ⟨by omega, by omega⟩ ⟨by omega, by omega⟩ (fun q6 => ?_) (fun q6 => ?_)
        · refine V_iload (v := Int32.ofInt (z)) mi_326_56 (by simp [stL, stL2, lv_args, Value.category]) ?_
          refine V_iload (v := Int32.ofInt ((n : Int))) mi_326_57 (by simp [stL, stL2, lv_args, Value.category]) ?_
          refine V_cge mi_326_58 ⟨by omega, by omega⟩ ⟨by omega, by omega⟩ (fun q7 => ?_) (fun q7 => ?_)
          · refine V_ipush mi_326_70 ?_
            exact V_retI mi_326_71 (fun h => absurd h (by decide +kernel)) (by rw [if_neg (show ¬ z = -1 by omega), if_neg (show ¬ z < (n : Int) by omega)] at kk; exact kk)
          · obtain ⟨s105, e105, f105⟩ := a105
            have zz : z = ((z.toNat : Nat) : Int) := by omega
            refine V_aload (v := ad 90) mi_326_61 (by simp [stL, stL2, lv_args, Value.category]) ?_
            refine V_getI mi_326_62 G2 (rref gr29 (by omega) G2) ?_
            refine V_iload (v := Int32.ofInt (z)) mi_326_65 (by simp [stL, stL2, lv_args, Value.category]) ?_
            refine V_aldX (j := z.toNat) mi_326_66 (by rw [← zz]) G2 e105 (by omega) (by omega) (P2.2 z.toNat (by omega)) ?_
            refine V_goto mi_326_67 ?_
            exact V_retI mi_326_71 (fun h => absurd h (by decide +kernel)) (by rw [if_neg (show ¬ z = -1 by omega), if_pos (show z < (n : Int) by omega)] at kk; exact kk)
        · refine V_iload (v := Int32.ofInt ((n : Int))) mi_326_52 (by simp [stL, stL2, lv_args, Value.category]) ?_
          refine V_goto mi_326_53 ?_
          exact V_retI mi_326_71 (fun h => absurd h (by decide +kernel)) (by rw [if_pos (show z = -1 by omega)] at kk; exact kk)
theorem chs_17 {G : Nat → Int} {S m : Nat} {w0 : va_W} (hW0 : W91 G w0) (hB : HB G) (eS : G 0 = (S : Int)) (em : G 3 = (m : Int)) (hs : ∀ N, ∀ f, f < m → ∀ i, i < szN G N f → i < 6 → syN G f i < S) {z : Int} (zI : I32 z) (zl : -1 ≤ z) {post : Option Value → va_W → Prop} : ∀ (k n : Nat) (ws : va_W), n + k = 7 → 1 ≤ n → GOK ad tys GG ws → O5M w0 ws → (∀ w : va_W, GOK ad tys GG w → O5M w0 w → post (some (.int (Int32.ofInt (chV S z (chO G S m k n))))) w) → V l D tys A 326 3 0 0 post 0 0 17 [(0, .ref (ad 90)), (1, .int (Int32.ofInt (z))), (2, .int (Int32.ofInt ((n : Int))))] [] ws
  | 0, n, ws, hn, n1, hG, hO, kk => by
    refine V_iload (v := Int32.ofInt ((n : Int))) mi_326_17 (by simp [stL, stL2, lv_args, Value.category]) ?_
    refine V_ipush mi_326_18 ?_
    refine V_cgt mi_326_20 ⟨by omega, by omega⟩ ⟨by omega, by omega⟩ (fun q => ?_) (fun q => ?_)
    · refine V_ipush mi_326_84 ?_
      exact V_retI mi_326_85 (fun h => absurd h (by decide +kernel)) (kk ws hG hO)
    · exact absurd q (by omega)
  | k + 1, n, ws, hn, n1, hG, hO, kk => by
    refine V_iload (v := Int32.ofInt ((n : Int))) mi_326_17 (by simp [stL, stL2, lv_args, Value.category]) ?_
    refine V_ipush mi_326_18 ?_
    refine V_cgt mi_326_20 ⟨by omega, by omega⟩ ⟨by omega, by omega⟩ (fun q => ?_) (fun q => ?_)
    · exact absurd q (by omega)
    · refine V_ipush mi_326_23 ?_
      refine V_istore mi_326_24 ?_
      refine V_sub (lv' := [(0, .ref (ad 90)), (1, .int (Int32.ofInt (z))), (2, .int (Int32.ofInt ((n : Int)))), (3, .int (Int32.ofInt (((0 : Nat) : Int))))]) (fun q hq => ?_) ?_
      · simp only [List.mem_cons, List.not_mem_nil, or_false] at hq
        rcases hq with rfl | rfl | rfl | rfl <;> simp [stL, stL2, lv_args, Value.category]
      have hn : ∀ f, f < m → ∀ i, i < szN G n f → syN G f i < S := (fun f hf i hi => hs n f hf i hi (by have := szN_le (G := G) (N := n) (f := f); omega))
      refine chm_25 hW0 hB eS em n1 (by omega) hn zI zl (S ^ n) 0 ws (by omega) hG hO (fun d w e g o => ?_) (fun e w g o => ?_)
      · rw [← chO_y (k := k) e]
        exact kk w g o
      · rw [chO_n (k := k) e] at kk
        exact chs_17 hW0 hB eS em hs zI zl k (n + 1) w (by omega) (by omega) g o kk
theorem chiM_ct {G : Nat → Int} {S m : Nat} (hG : GOK ad tys GG ws) (hW : W91 G ws) (hB : HB G) (eS : G 0 = (S : Int)) (em : G 3 = (m : Int)) (hs : ∀ N, ∀ f, f < m → ∀ i, i < szN G N f → i < 6 → syN G f i < S) {n : Int} (nI : I32 n) : CT l D tys A 326 3 0 0 [.ref (ad 90), .int (Int32.ofInt (n))] ws (fun r w => (GOK ad tys GG w ∧ O5M ws w) ∧ r = some (.int (if 0 < G 5 ∧ -1 ≤ n then Int32.ofInt (chV S n (chO G S m 6 1)) else Int32.ofInt (-2)))) := by
  refine CT_of_V (by omega) (show (2 : Nat) ≤ mML 326 by decide +kernel) ?_
  have n1 := nI.1
  have n2 := nI.2
  refine V_aload (v := ad 90) mi_326_0 (by simp [stL, stL2, lv_args, Value.category]) ?_
  refine V_callM (As := []) (st := []) mi_326_1 (by omega) (by decide +kernel) (by decide +kernel) hG (mth_ct hG hW hB) (by omega) (show 0 = mN 198 by decide +kernel) (by simp [Value.category]) ?_
  rintro r w1 ⟨rfl, rfl⟩
  refine V_beq mi_326_4  (fun c1 => ?_) (fun c1 => ?_)
  · refine V_ipush mi_326_12 ?_
    exact V_retI mi_326_14 (fun h => absurd h (by decide +kernel)) ⟨⟨hG, fun _ _ _ _ => rfl⟩, by rw [if_neg (fun k => of_decide_eq_false c1 k.1)]⟩
  · refine V_iload (v := Int32.ofInt (n)) mi_326_7 (by simp [stL, stL2, lv_args, Value.category]) ?_
    refine V_ipush mi_326_8 ?_
    refine V_cge mi_326_9 ⟨by omega, by omega⟩ ⟨by omega, by omega⟩ (fun q3 => ?_) (fun q3 => ?_)
    · have k1 := of_decide_eq_true c1
      refine V_ipush mi_326_15 ?_
      refine V_istore mi_326_16 ?_
      refine V_sub (lv' := [(0, .ref (ad 90)), (1, .int (Int32.ofInt (n))), (2, .int (Int32.ofInt (((1 : Nat) : Int))))]) (fun q hq => ?_) ?_
      · simp only [List.mem_cons, List.not_mem_nil, or_false] at hq
        rcases hq with rfl | rfl | rfl <;> simp [stL, stL2, lv_args, Value.category]
      exact chs_17 hW hB eS em hs nI (by omega) 6 1 _ (by omega) (by omega) hG (fun _ _ _ _ => rfl) (fun w g o => ⟨⟨g, o⟩, by rw [if_pos ⟨k1, by omega⟩]⟩)
    · refine V_ipush mi_326_12 ?_
      exact V_retI mi_326_14 (fun h => absurd h (by decide +kernel)) ⟨⟨hG, fun _ _ _ _ => rfl⟩, by rw [if_neg (fun k => by have := k.2; omega)]⟩
theorem pairN_sc {kx km d1 d2 : Nat} {xs ms : List Value} {v : Int32} (hR : RELN ws) (h1 : d1 < 11) (h2 : d2 < 11) (c1 : CT l D tys A kx d1 0 0 xs ws (fun r w => (GOK ad tys GG w ∧ O51 ws w) ∧ r = some (.int v))) (c2 : ∀ w : va_W, GOK ad tys GG w → O51 ws w → CT l D tys A km d2 0 0 ms w (fun r w2 => (GOK ad tys GG w2 ∧ O5M w w2) ∧ r = some (.int v))) : PAIRN l D tys A ad kx km xs ms ws := by
  refine ⟨v, fun w => O51 ws w, ⟨d1, h1, CT_post c1 (fun r w h => ⟨h.2, h.1.1, h.1.2⟩)⟩, fun w hw K => ⟨d2, h2, CT_post (c2 w hw K) (fun r w2 h => ?_)⟩⟩
  obtain ⟨⟨g, o⟩, e⟩ := h
  have oo : ∀ c j, c ≠ 51 → c ≠ 105 → ¬ (c = 90 ∧ j = 30) → rd w2 c j = rd ws c j := fun c j h3 h4 h5 => (o c j h4 h5).trans (K c j h3)
  exact ⟨e, g, relh_keep hR.1 (fun c hc j => oo c j (by omega) (by omega) (by omega)) (fun j hj => oo 90 j (by omega) (by omega) (fun q => by
      obtain ⟨-, q⟩ := q
      subst q
      exact absurd hj (by unfold spK; decide))), aun_keep hR.2 (fun c j hc => oo c j (by omega) (by omega) (by omega))⟩
theorem wp_s {G : Nat → Int} {S m : Nat} (hB : HB G) (wp : WP G) (eS : G 0 = (S : Int)) (em : G 3 = (m : Int)) : ∀ N, ∀ f, f < m → ∀ i, i < szN G N f → i < 6 → syN G f i < S := fun N f hf i hi h6 => by
  have b3 := hB.b3
  have bl := hB.bl f (by omega)
  have bn := hB.bn f (by omega) i h6
  have zl := szN_l (G := G) (N := N) (f := f) bl.1
  have := wp f (by omega) (by omega) i h6 (by omega)
  unfold syN
  omega
theorem pairN_child (hAD : ∀ i : Nat, ad (1000 + i) = D.2 1000 i) (hG : GOK ad tys GG ws) (hR : RELN ws) (a1 : Int32) : PAIRN l D tys A ad 61 326 [.ref (ad 0), .int a1] [.ref (ad 90), .int a1] ws := by
  obtain ⟨G0, o0, x0, y0⟩ := hR.1.2.1
  obtain ⟨G, o, x, y, hb, wn, hS⟩ := aun_sto hR.2 x0 y0 o0 (hb_of hG y0 o0)
  have b0 := hb.b0
  have b3 := hb.b3
  obtain ⟨S, eS⟩ := Int.eq_ofNat_of_zero_le b0.1
  obtain ⟨m, em⟩ := Int.eq_ofNat_of_zero_le b3.1
  have hs := wp_s hb wn.2 eS em
  have hz : ∀ N, N ≤ 6 → ∀ f, f < m → ∀ i, i < szN G N f → syN G f i < S := fun N N6 f hf i hi => hs N f hf i hi (by have := szN_le (G := G) (N := N) (f := f); omega)
  obtain ⟨L1, L2⟩ := lsZ_ch (G := G) (S := S) (m := m) (by omega) hs 6 1 (by omega) (by omega)
  have c1 := chiX_ct (l := l) (D := D) (A := A) hG x hb eS em (fun n n1 n6 => ff0_b (by omega) (by omega) n1 n6 (hz n n6)) ⟨L1, fun p hp => by
    obtain ⟨⟨N1, N6⟩, pc, pf, pl⟩ := L2 p hp
    refine ⟨⟨N1, N6⟩, fun i hi => ?_⟩
    have s0 : 0 < S := by
      rcases Nat.eq_zero_or_pos S with e | e
      · rw [e, Nat.zero_pow (n := p.1) (by omega)] at pc
        exact absurd pc (Nat.not_lt_zero _)
      · exact e
    have fl := find_le s0 (by omega) (hz p.1 N6) pc pf pl hi
    refine ⟨dgC_lt s0, fl.1, fun d hd => ⟨ffX_b s0 (by omega) (by omega) N6 hi (fun j hj => ?_) (hz p.1 N6), fl.2 d⟩⟩
    have a := dgC_lt (S := S) (n := p.1) (c := p.2) (i := j) s0
    have b := dgC_lt (S := S) (n := p.1) (c := p.2) (i := i) s0
    unfold mixP
    split
    · exact a
    · omega⟩ (i32b a1)
  have c2 := fun (w : va_W) (hw : GOK ad tys GG w) (K : O51 ws w) => chiM_ct (l := l) (D := D) (A := A) hw (fun j hj => (K 91 j (by omega)).trans (y j hj)) hb eS em hs (i32b a1)
  simp only [oi] at c1 c2
  exact pairN_sc hR (by omega) (by omega) c1 c2
end XWE
