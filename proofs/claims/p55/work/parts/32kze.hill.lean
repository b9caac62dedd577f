section XWD
variable {l : Launch} {D : va_G} {tys : List (ClassId × FieldType)} {A : Nat → Prop} {ad : Nat → Nat} {ws : va_W}
theorem g0r10 : gOr 0 10 13 10 50 := ⟨_, rfl, by decide +kernel⟩
theorem g50o : gO 50 4 2 := ⟨_, rfl⟩
theorem g50r0 : gOr 50 4 2 0 51 := ⟨_, rfl, by decide +kernel⟩
theorem a51 : gA 51 6 (-2147483648) 2147483647 := gA_of rfl
theorem sz_e {G : Nat → Int} {N f : Nat} (h : 0 ≤ G (6 + 7 * f)) : min (N : Int) (G (6 + 7 * f)) = ((szN G N f : Nat) : Int) := by
  unfold szN
  omega
theorem sy_e {G : Nat → Int} {f i : Nat} (h : 0 ≤ G (7 + 7 * f + i)) : G (7 + 7 * f + i) = ((syN G f i : Nat) : Int) := by
  unfold syN
  omega
theorem szN_l {G : Nat → Int} {N f : Nat} (h : 0 ≤ G (6 + 7 * f)) : ((szN G N f : Nat) : Int) ≤ G (6 + 7 * f) := by
  unfold szN
  omega
theorem lmN (S i : Nat) : lbF 2 (Int64.ofInt ((S ^ i : Nat) : Int)) (Int64.ofInt (S : Int)) = Int64.ofInt ((S ^ (i + 1) : Nat) : Int) := by
  show Int64.ofInt _ * Int64.ofInt _ = _
  rw [← Int64.ofInt_mul, Nat.pow_succ]
  rfl
theorem lsN (a b : Int) : lbF 1 (Int64.ofInt a) (Int64.ofInt b) = Int64.ofInt (a - b) := by
  show Int64.ofInt _ - Int64.ofInt _ = _
  rw [← Int64.ofInt_sub]
noncomputable def tkP (sz : Nat → Nat) (s : Nat → Nat → Nat) (f g : Nat) : Bool := decide (g ≠ f) && decide (sz g < sz f ∨ (sz g = sz f ∧ g < f)) && allU (fun i => decide (s f i = s g i)) (sz g)
theorem tkB_P {m : Nat} {sz : Nat → Nat} {s : Nat → Nat → Nat} {f : Nat} : tkB m sz s f = exiU (tkP sz s f) m := rfl
theorem tkP_1 {sz : Nat → Nat} {s : Nat → Nat → Nat} {f g : Nat} (h : ¬ g ≠ f) : tkP sz s f g = false := by
  unfold tkP
  rw [decide_eq_false h]
  rfl
theorem tkP_2 {sz : Nat → Nat} {s : Nat → Nat → Nat} {f g : Nat} (h : ¬ (sz g < sz f ∨ (sz g = sz f ∧ g < f))) : tkP sz s f g = false := by
  unfold tkP
  rw [decide_eq_false h, Bool.and_false]
  rfl
theorem tkP_3 {sz : Nat → Nat} {s : Nat → Nat → Nat} {f g : Nat} (h : allU (fun i => decide (s f i = s g i)) (sz g) = false) : tkP sz s f g = false := by
  unfold tkP
  rw [h, Bool.and_false]
theorem tkP_y {sz : Nat → Nat} {s : Nat → Nat → Nat} {f g : Nat} (h1 : g ≠ f) (h2 : sz g < sz f ∨ (sz g = sz f ∧ g < f)) (h3 : allU (fun i => decide (s f i = s g i)) (sz g) = true) : tkP sz s f g = true := by
  unfold tkP
  rw [decide_eq_true h1, decide_eq_true h2, h3]
  rfl
theorem hd_n1 {G : Nat → Int} {N k f : Nat} {p : Nat → Nat} (h : skB G N k p f = false) : hdB G N k p f = false := by
  unfold hdB
  rw [h, Bool.false_and]
theorem hd_n2 {G : Nat → Int} {N k f : Nat} {p : Nat → Nat} (h : ¬ szN G N f ≤ k) : hdB G N k p f = false := by
  unfold hdB
  rw [decide_eq_false h, Bool.and_false]
theorem hd_y {G : Nat → Int} {N k f : Nat} {p : Nat → Nat} (h1 : skB G N k p f = true) (h2 : szN G N f ≤ k) : hdB G N k p f = true := by
  unfold hdB
  rw [h1, decide_eq_true h2]
  rfl
theorem lf_n1 {G : Nat → Int} {S m N k f : Nat} {p : Nat → Nat} (h : skB G N k p f = false) : lfB G S m N k p f = 0 := by
  unfold lfB
  rw [h, Bool.false_and, if_neg Bool.false_ne_true]
theorem lf_n2 {G : Nat → Int} {S m N k f : Nat} {p : Nat → Nat} (h : tkB m (szN G N) (syN G) f = true) : lfB G S m N k p f = 0 := by
  unfold lfB
  rw [h, Bool.not_true, Bool.and_false, if_neg Bool.false_ne_true]
theorem lf_y {G : Nat → Int} {S m N k f : Nat} {p : Nat → Nat} (h1 : skB G N k p f = true) (h2 : tkB m (szN G N) (syN G) f = false) : lfB G S m N k p f = ((S ^ (N - szN G N f) : Nat) : Int) := by
  unfold lfB
  rw [h1, h2, Bool.not_false, Bool.and_true, if_pos rfl]
theorem ffX_0 {G : Nat → Int} {S m N k f : Nat} {p : Nat → Nat} (hf : f < m) (h : hdB G N k p f = true) : ffX G S m N k p = 0 := by
  unfold ffX
  rw [if_pos (exiU_t hf h)]
theorem ffX_m {G : Nat → Int} {S m N k : Nat} {p : Nat → Nat} (h : ∀ f, f < m → hdB G N k p f = false) : ffX G S m N k p = ((S ^ (N - k) : Nat) : Int) - smN (lfB G S m N k p) m := by
  unfold ffX
  rw [if_neg (by rw [exiU_f h]; exact Bool.false_ne_true)]
noncomputable def O51 (w0 w : va_W) : Prop := ∀ c j, c ≠ 51 → rd w c j = rd w0 c j
theorem spx_3 {G : Nat → Int} {p : Nat → Nat} {f n : Nat} (hG : GOK ad tys GG ws) (hX : HX 4 G ws) (hB : HB G) (hf : f < 6) (hn : (n : Int) ≤ G (6 + 7 * f)) (hp : ∀ i, i < n → rd ws 51 i = some (.int (Int32.ofInt (p i : Int))) ∧ p i ≤ 8) {post : Option Value → va_W → Prop} : ∀ (k i : Nat), i + k = n → (∀ x, x < i → syN G f x = p x) → post (some (.int (bI (allU (fun x => decide (syN G f x = p x)) n)))) ws → V l D tys A 126 2 0 0 post 0 0 3 [(0, .ref (ad 50)), (1, .ref (ad 4)), (2, .int (Int32.ofInt ((f : Int)))), (3, .int (Int32.ofInt ((n : Int)))), (4, .int (Int32.ofInt ((i : Int))))] [] ws
  | 0, i, hi, ht, kk => by
    have bl := hB.bl f hf
    refine V_iload (v := Int32.ofInt ((i : Int))) mi_126_3 (by simp [stL, stL2, lv_args, Value.category]) ?_
    refine V_iload (v := Int32.ofInt ((n : Int))) mi_126_5 (by simp [stL, stL2, lv_args, Value.category]) ?_
    refine V_cge mi_126_6 ⟨by omega, by omega⟩ ⟨by omega, by omega⟩ (fun q => ?_) (fun q => ?_)
    · refine V_ipush mi_126_36 ?_
      exact V_retI mi_126_37 (fun _ => by decide) (by rw [(allU_i (P := fun x => decide (syN G f x = p x)) n).mpr (fun x hx => decide_eq_true (ht x (by omega)))] at kk; exact kk)
    · exact absurd q (by omega)
  | k + 1, i, hi, ht, kk => by
    have bl := hB.bl f hf
    refine V_iload (v := Int32.ofInt ((i : Int))) mi_126_3 (by simp [stL, stL2, lv_args, Value.category]) ?_
    refine V_iload (v := Int32.ofInt ((n : Int))) mi_126_5 (by simp [stL, stL2, lv_args, Value.category]) ?_
    refine V_cge mi_126_6 ⟨by omega, by omega⟩ ⟨by omega, by omega⟩ (fun q => ?_) (fun q => ?_)
    · exact absurd q (by omega)
    · have bn := hB.bn f hf i (by omega)
      have sy := sy_e (G := G) (f := f) (i := i) bn.1
      have pi := hp i (by omega)
      refine V_aload (v := ad 4) mi_126_9 (by simp [stL, stL2, lv_args, Value.category]) ?_
      refine V_iload (v := Int32.ofInt ((f : Int))) mi_126_10 (by simp [stL, stL2, lv_args, Value.category]) ?_
      refine V_iload (v := Int32.ofInt ((i : Int))) mi_126_11 (by simp [stL, stL2, lv_args, Value.category]) ?_
      refine V_cO (As := [.int (Int32.ofInt ((f : Int))), .int (Int32.ofInt ((i : Int)))]) (st := []) mi_126_13 (by omega) (by decide +kernel) (by decide +kernel) (by omega) g4o hG (hsl_ct (o := f) (i := i) hG hX hB hf (by omega)) (by omega) (show 2 = mN 107 by decide +kernel) (by simp [Value.category]) ?_
      rintro r w1 ⟨e1, rfl⟩
      rw [e1, sy]
      refine V_aload (v := ad 50) mi_126_16 (by simp [stL, stL2, lv_args, Value.category]) ?_
      refine V_gR mi_126_17 g50r0 (by omega) hG ?_
      refine V_iload (v := Int32.ofInt ((i : Int))) mi_126_20 (by simp [stL, stL2, lv_args, Value.category]) ?_
      refine V_stat (As := [.ref (ad 51), .int (Int32.ofInt ((i : Int)))]) (st := [.int (Int32.ofInt ((syN G f i : Int)))]) mi_126_22 (by omega) (atk_ct (j := i) a51 hG (by omega) (by omega) pi.1) (by omega) (show 2 = mN 147 by decide +kernel) (by simp [Value.category]) ⟨Nat.le_refl _, Nat.le_refl _⟩ ?_
      rintro r w2 ⟨e2, rfl⟩
      rw [e2]
      refine V_ceq mi_126_25 ⟨by omega, by omega⟩ ⟨by omega, by omega⟩ (fun q2 => ?_) (fun q2 => ?_)
      · refine V_iinc (v := Int32.ofInt ((i : Int))) mi_126_30 (by simp [stL, stL2, lv_args, Value.category]) ?_
        rw [ia2]
        refine V_goto mi_126_33 ?_
        refine V_sub (lv' := [(0, .ref (ad 50)), (1, .ref (ad 4)), (2, .int (Int32.ofInt ((f : Int)))), (3, .int (Int32.ofInt ((n : Int)))), (4, .int (Int32.ofInt (((i + 1 : Nat) : Int))))]) (fun q hq => ?_) ?_
        · simp only [List.mem_cons, List.not_mem_nil, or_false] at hq
          rcases hq with rfl | rfl | rfl | rfl | rfl <;> simp [stL, stL2, lv_args, Value.category]
        exact spx_3 hG hX hB hf hn hp k (i + 1) (by omega) (fun x hx => by
          by_cases e : x = i
          · rw [e]
            omega
          · exact ht x (by omega)) kk
      · refine V_ipush mi_126_28 ?_
        exact V_retI mi_126_29 (fun _ => by decide) (by rw [allU_f (P := fun x => decide (syN G f x = p x)) (i := i) (by omega) (decide_eq_false (by omega))] at kk; exact kk)
theorem skx_ct {G : Nat → Int} {p : Nat → Nat} {N k f : Nat} (hG : GOK ad tys GG ws) (hX : HX 4 G ws) (hB : HB G) (hf : f < 6) (hp : ∀ i, i < k → rd ws 51 i = some (.int (Int32.ofInt (p i : Int))) ∧ p i ≤ 8) : CT l D tys A 126 2 0 0 [.ref (ad 50), .ref (ad 4), .int (Int32.ofInt ((f : Int))), .int (Int32.ofInt (((min (szN G N f) k : Nat) : Int)))] ws (fun r w => w = ws ∧ r = some (.int (bI (skB G N k p f)))) := by
  refine CT_of_V (by omega) (show (4 : Nat) ≤ mML 126 by decide +kernel) ?_
  have bl := hB.bl f hf
  have sl := szN_l (G := G) (N := N) bl.1
  refine V_ipush mi_126_0 ?_
  refine V_istore mi_126_1 ?_
  refine V_sub (lv' := [(0, .ref (ad 50)), (1, .ref (ad 4)), (2, .int (Int32.ofInt ((f : Int)))), (3, .int (Int32.ofInt (((min (szN G N f) k : Nat) : Int)))), (4, .int (Int32.ofInt (((0 : Nat) : Int))))]) (fun q hq => ?_) ?_
  · simp only [List.mem_cons, List.not_mem_nil, or_false] at hq
    rcases hq with rfl | rfl | rfl | rfl | rfl <;> simp [stL, stL2, lv_args, Value.category]
  exact spx_3 hG hX hB hf (by omega) (fun i hi => hp i (by omega)) (min (szN G N f) k) 0 (by omega) (fun x hx => absurd hx (by omega)) ⟨rfl, rfl⟩
theorem agx_3 {G : Nat → Int} {f g n : Nat} (hG : GOK ad tys GG ws) (hX : HX 4 G ws) (hB : HB G) (hf : f < 6) (hg : g < 6) (hn : (n : Int) ≤ G (6 + 7 * f)) (hm : (n : Int) ≤ G (6 + 7 * g)) {post : Option Value → va_W → Prop} : ∀ (k i : Nat), i + k = n → (∀ x, x < i → syN G f x = syN G g x) → post (some (.int (bI (allU (fun x => decide (syN G f x = syN G g x)) n)))) ws → V l D tys A 128 2 0 0 post 0 0 3 [(0, .ref (ad 4)), (1, .int (Int32.ofInt ((f : Int)))), (2, .int (Int32.ofInt ((g : Int)))), (3, .int (Int32.ofInt ((n : Int)))), (4, .int (Int32.ofInt ((i : Int))))] [] ws
  | 0, i, hi, ht, kk => by
    have bl := hB.bl f hf
    refine V_iload (v := Int32.ofInt ((i : Int))) mi_128_3 (by simp [stL, stL2, lv_args, Value.category]) ?_
    refine V_iload (v := Int32.ofInt ((n : Int))) mi_128_5 (by simp [stL, stL2, lv_args, Value.category]) ?_
    refine V_cge mi_128_6 ⟨by omega, by omega⟩ ⟨by omega, by omega⟩ (fun q => ?_) (fun q => ?_)
    · refine V_ipush mi_128_34 ?_
      exact V_retI mi_128_35 (fun _ => by decide) (by rw [(allU_i (P := fun x => decide (syN G f x = syN G g x)) n).mpr (fun x hx => decide_eq_true (ht x (by omega)))] at kk; exact kk)
    · exact absurd q (by omega)
  | k + 1, i, hi, ht, kk => by
    have bl := hB.bl f hf
    refine V_iload (v := Int32.ofInt ((i : Int))) mi_128_3 (by simp [stL, stL2, lv_args, Value.category]) ?_
    refine V_iload (v := Int32.ofInt ((n : Int))) mi_128_5 (by simp [stL, stL2, lv_args, Value.category]) ?_
    refine V_cge mi_128_6 ⟨by omega, by omega⟩ ⟨by omega, by omega⟩ (fun q => ?_) (fun q => ?_)
    · exact absurd q (by omega)
    · have bn := hB.bn f hf i (by omega)
      have sy := sy_e (G := G) (f := f) (i := i) bn.1
      have bm := hB.bn g hg i (by omega)
      have sm := sy_e (G := G) (f := g) (i := i) bm.1
      refine V_aload (v := ad 4) mi_128_9 (by simp [stL, stL2, lv_args, Value.category]) ?_
      refine V_iload (v := Int32.ofInt ((f : Int))) mi_128_10 (by simp [stL, stL2, lv_args, Value.category]) ?_
      refine V_iload (v := Int32.ofInt ((i : Int))) mi_128_11 (by simp [stL, stL2, lv_args, Value.category]) ?_
      refine V_cO (As := [.int (Int32.ofInt ((f : Int))), .int (Int32.ofInt ((i : Int)))]) (st := []) mi_128_13 (by omega) (by decide +kernel) (by decide +kernel) (by omega) g4o hG (hsl_ct (o := f) (i := i) hG hX hB hf (by omega)) (by omega) (show 2 = mN 107 by decide +kernel) (by simp [Value.category]) ?_
      rintro r w1 ⟨e1, rfl⟩
      rw [e1, sy]
      refine V_aload (v := ad 4) mi_128_16 (by simp [stL, stL2, lv_args, Value.category]) ?_
      refine V_iload (v := Int32.ofInt ((g : Int))) mi_128_17 (by simp [stL, stL2, lv_args, Value.category]) ?_
      refine V_iload (v := Int32.ofInt ((i : Int))) mi_128_18 (by simp [stL, stL2, lv_args, Value.category]) ?_
      refine V_cO (As := [.int (Int32.ofInt ((g : Int))), .int (Int32.ofInt ((i : Int)))]) (st := [.int (Int32.ofInt ((syN G f i : Int)))]) mi_128_20 (by omega) (by decide +kernel) (by decide +kernel) (by omega) g4o hG (hsl_ct (o := g) (i := i) hG hX hB hg (by omega)) (by omega) (show 2 = mN 107 by decide +kernel) (by simp [Value.category]) ?_
      rintro r w2 ⟨e2, rfl⟩
      rw [e2, sm]
      refine V_ceq mi_128_23 ⟨by omega, by omega⟩ ⟨by omega, by omega⟩ (fun q2 => ?_) (fun q2 => ?_)
      · refine V_iinc (v := Int32.ofInt ((i : Int))) mi_128_28 (by simp [stL, stL2, lv_args, Value.category]) ?_
        rw [ia2]
        refine V_goto mi_128_31 ?_
        refine V_sub (lv' := [(0, .ref (ad 4)), (1, .int (Int32.ofInt ((f : Int)))), (2, .int (Int32.ofInt ((g : Int)))), (3, .int (Int32.ofInt ((n : Int)))), (4, .int (Int32.ofInt (((i + 1 : Nat) : Int))))]) (fun q hq => ?_) ?_
        · simp only [List.mem_cons, List.not_mem_nil, or_false] at hq
          rcases hq with rfl | rfl | rfl | rfl | rfl <;> simp [stL, stL2, lv_args, Value.category]
        exact agx_3 hG hX hB hf hg hn hm k (i + 1) (by omega) (fun x hx => by
          by_cases e : x = i
          · rw [e]
            omega
          · exact ht x (by omega)) kk
      · refine V_ipush mi_128_26 ?_
        exact V_retI mi_128_27 (fun _ => by decide) (by rw [allU_f (P := fun x => decide (syN G f x = syN G g x)) (i := i) (by omega) (decide_eq_false (by omega))] at kk; exact kk)
theorem agx_ct {G : Nat → Int} {f g n : Nat} (hG : GOK ad tys GG ws) (hX : HX 4 G ws) (hB : HB G) (hf : f < 6) (hg : g < 6) (hn : (n : Int) ≤ G (6 + 7 * f)) (hm : (n : Int) ≤ G (6 + 7 * g)) : CT l D tys A 128 2 0 0 [.ref (ad 4), .int (Int32.ofInt ((f : Int))), .int (Int32.ofInt ((g : Int))), .int (Int32.ofInt ((n : Int)))] ws (fun r w => w = ws ∧ r = some (.int (bI (allU (fun x => decide (syN G f x = syN G g x)) n)))) := by
  refine CT_of_V (by omega) (show (4 : Nat) ≤ mML 128 by decide +kernel) ?_
  refine V_ipush mi_128_0 ?_
  refine V_istore mi_128_1 ?_
  refine V_sub (lv' := [(0, .ref (ad 4)), (1, .int (Int32.ofInt ((f : Int)))), (2, .int (Int32.ofInt ((g : Int)))), (3, .int (Int32.ofInt ((n : Int)))), (4, .int (Int32.ofInt (((0 : Nat) : Int))))]) (fun q hq => ?_) ?_
  · simp only [List.mem_cons, List.not_mem_nil, or_false] at hq
    rcases hq with rfl | rfl | rfl | rfl | rfl <;> simp [stL, stL2, lv_args, Value.category]
  exact agx_3 hG hX hB hf hg hn hm n 0 (by omega) (fun x hx => absurd hx (by omega)) ⟨rfl, rfl⟩
theorem itx_13 {G : Nat → Int} {m N f : Nat} (hG : GOK ad tys GG ws) (hX : HX 4 G ws) (hB : HB G) (em : G 3 = (m : Int)) (hf : f < 6) (N6 : N ≤ 6) {post : Option Value → va_W → Prop} : ∀ (k g : Nat), g + k = m → (∀ x, x < g → tkP (szN G N) (syN G) f x = false) → post (some (.int (bI (tkB m (szN G N) (syN G) f)))) ws → V l D tys A 127 3 0 0 post 0 0 13 [(0, .ref (ad 4)), (1, .int (Int32.ofInt ((f : Int)))), (2, .int (Int32.ofInt ((N : Int)))), (3, .int (Int32.ofInt ((szN G N f : Int)))), (4, .int (Int32.ofInt ((g : Int))))] [] ws
  | 0, g, hg, ht, kk => by
    have b3 := hB.b3
    have bf := hB.bl f hf
    have zf := szN_le (G := G) (N := N) (f := f)
    refine V_iload (v := Int32.ofInt ((g : Int))) mi_127_13 (by simp [stL, stL2, lv_args, Value.category]) ?_
    refine V_aload (v := ad 4) mi_127_15 (by simp [stL, stL2, lv_args, Value.category]) ?_
    refine V_gO mi_127_16 g4o hG (show rd _ 4 4 = some (.int (Int32.ofInt (G 3))) from hx0 hX (i := 4) (by omega)) ?_
    rw [em]
    refine V_cge mi_127_19 ⟨by omega, by omega⟩ ⟨by omega, by omega⟩ (fun q => ?_) (fun q => ?_)
    · refine V_ipush mi_127_90 ?_
      exact V_retI mi_127_91 (fun _ => by decide) (by rw [tkB_P, exiU_f (fun x hx => ht x (by omega))] at kk; exact kk)
    · exact absurd q (by omega)
  | k + 1, g, hg, ht, kk => by
    have b3 := hB.b3
    have bf := hB.bl f hf
    have zf := szN_le (G := G) (N := N) (f := f)
    refine V_iload (v := Int32.ofInt ((g : Int))) mi_127_13 (by simp [stL, stL2, lv_args, Value.category]) ?_
    refine V_aload (v := ad 4) mi_127_15 (by simp [stL, stL2, lv_args, Value.category]) ?_
    refine V_gO mi_127_16 g4o hG (show rd _ 4 4 = some (.int (Int32.ofInt (G 3))) from hx0 hX (i := 4) (by omega)) ?_
    rw [em]
    refine V_cge mi_127_19 ⟨by omega, by omega⟩ ⟨by omega, by omega⟩ (fun q => ?_) (fun q => ?_)
    · exact absurd q (by omega)
    · have bg := hB.bl g (by omega)
      have zg := szN_le (G := G) (N := N) (f := g)
      have zl := szN_l (G := G) (N := N) (f := g) bg.1
      have fl := szN_l (G := G) (N := N) (f := f) bf.1
      refine V_iload (v := Int32.ofInt ((N : Int))) mi_127_22 (by simp [stL, stL2, lv_args, Value.category]) ?_
      refine V_aload (v := ad 4) mi_127_23 (by simp [stL, stL2, lv_args, Value.category]) ?_
      refine V_iload (v := Int32.ofInt ((g : Int))) mi_127_24 (by simp [stL, stL2, lv_args, Value.category]) ?_
      refine V_cO (As := [.int (Int32.ofInt ((g : Int)))]) (st := [.int (Int32.ofInt ((N : Int)))]) mi_127_26 (by omega) (by decide +kernel) (by decide +kernel) (by omega) g4o hG (hle_ct (f := g) hG hX hB (by omega)) (by omega) (show 1 = mN 106 by decide +kernel) (by simp [Value.category]) ?_
      rintro r w1 ⟨e1, rfl⟩
      rw [e1]
      refine V_stat (As := [.int (Int32.ofInt ((N : Int))), .int (Int32.ofInt (G (6 + 7 * g)))]) (st := []) mi_127_29 (by omega) (min_i (by omega) (by omega) (by omega) (by omega)) (by omega) (show 2 = mN 342 by decide +kernel) (by simp [Value.category]) ⟨Nat.le_refl _, Nat.le_refl _⟩ ?_
      rintro r w2 ⟨e2, rfl⟩
      rw [e2, sz_e bg.1]
      refine V_istore mi_127_32 ?_
      refine V_iload (v := Int32.ofInt ((szN G N g : Int))) mi_127_34 (by simp [stL, stL2, lv_args, Value.category]) ?_
      refine V_iload (v := Int32.ofInt ((szN G N f : Int))) mi_127_36 (by simp [stL, stL2, lv_args, Value.category]) ?_
      refine V_clt mi_127_37 ⟨by omega, by omega⟩ ⟨by omega, by omega⟩ (fun q2 => ?_) (fun q2 => ?_)
      · refine V_ipush mi_127_52 ?_
        refine V_goto mi_127_53 ?_
        refine V_istore mi_127_57 ?_
        refine V_iload (v := Int32.ofInt ((g : Int))) mi_127_59 (by simp [stL, stL2, lv_args, Value.category]) ?_
        refine V_iload (v := Int32.ofInt ((f : Int))) mi_127_61 (by simp [stL, stL2, lv_args, Value.category]) ?_
        refine V_ceq mi_127_62 ⟨by omega, by omega⟩ ⟨by omega, by omega⟩ (fun q8 => ?_) (fun q8 => ?_)
        · refine V_iinc (v := Int32.ofInt ((g : Int))) mi_127_84 (by simp [stL, stL2, lv_args, Value.category]) ?_
          rw [ia2]
          refine V_goto mi_127_87 ?_
          refine V_sub (lv' := [(0, .ref (ad 4)), (1, .int (Int32.ofInt ((f : Int)))), (2, .int (Int32.ofInt ((N : Int)))), (3, .int (Int32.ofInt ((szN G N f : Int)))), (4, .int (Int32.ofInt (((g + 1 : Nat) : Int))))]) (fun q hq => ?_) ?_
          · simp only [List.mem_cons, List.not_mem_nil, or_false] at hq
            rcases hq with rfl | rfl | rfl | rfl | rfl <;> simp [stL, stL2, lv_args, Value.category]
          exact itx_13 hG hX hB em hf N6 k (g + 1) (by omega) (fun x hx => by
            by_cases e : x = g
            · rw [e]
              exact tkP_1 (by omega)
            · exact ht x (by omega)) kk
        · refine V_iload (v := Int32.ofInt (1)) mi_127_65 (by simp [stL, stL2, lv_args, Value.category]) ?_
          refine V_zeq mi_127_67 ⟨by omega, by omega⟩ (fun q9 => ?_) (fun q9 => ?_)
          · exact absurd q9 (by omega)
          · refine V_aload (v := ad 4) mi_127_70 (by simp [stL, stL2, lv_args, Value.category]) ?_
            refine V_iload (v := Int32.ofInt ((f : Int))) mi_127_71 (by simp [stL, stL2, lv_args, Value.category]) ?_
            refine V_iload (v := Int32.ofInt ((g : Int))) mi_127_72 (by simp [stL, stL2, lv_args, Value.category]) ?_
            refine V_iload (v := Int32.ofInt ((szN G N g : Int))) mi_127_74 (by simp [stL, stL2, lv_args, Value.category]) ?_
            refine V_stat (As := [.ref (ad 4), .int (Int32.ofInt ((f : Int))), .int (Int32.ofInt ((g : Int))), .int (Int32.ofInt ((szN G N g : Int)))]) (st := []) mi_127_76 (by omega) (agx_ct (f := f) (g := g) (n := szN G N g) hG hX hB hf (by omega) (by omega) (by omega)) (by omega) (show 4 = mN 128 by decide +kernel) (by simp [Value.category]) ⟨Nat.le_refl _, Nat.le_refl _⟩ ?_
            rintro r w3 ⟨e3, rfl⟩
            rw [e3]
            refine V_beq mi_127_79  (fun c3 => ?_) (fun c3 => ?_)
            · refine V_iinc (v := Int32.ofInt ((g : Int))) mi_127_84 (by simp [stL, stL2, lv_args, Value.category]) ?_
              rw [ia2]
              refine V_goto mi_127_87 ?_
              refine V_sub (lv' := [(0, .ref (ad 4)), (1, .int (Int32.ofInt ((f : Int)))), (2, .int (Int32.ofInt ((N : Int)))), (3, .int (Int32.ofInt ((szN G N f : Int)))), (4, .int (Int32.ofInt (((g + 1 : Nat) : Int))))]) (fun q hq => ?_) ?_
              · simp only [List.mem_cons, List.not_mem_nil, or_false] at hq
                rcases hq with rfl | rfl | rfl | rfl | rfl <;> simp [stL, stL2, lv_args, Value.category]
              exact itx_13 hG hX hB em hf N6 k (g + 1) (by omega) (fun x hx => by
                by_cases e : x = g
                · rw [e]
                  exact tkP_3 c3
                · exact ht x (by omega)) kk
            · refine V_ipush mi_127_82 ?_
              exact V_retI mi_127_83 (fun _ => by decide) (by rw [tkB_P, exiU_t (P := tkP (szN G N) (syN G) f) (i := g) (by omega) (tkP_y (by omega) (by omega) c3)] at kk; exact kk)
      · refine V_iload (v := Int32.ofInt ((szN G N g : Int))) mi_127_40 (by simp [stL, stL2, lv_args, Value.category]) ?_
        refine V_iload (v := Int32.ofInt ((szN G N f : Int))) mi_127_42 (by simp [stL, stL2, lv_args, Value.category]) ?_
        refine V_cne mi_127_43 ⟨by omega, by omega⟩ ⟨by omega, by omega⟩ (fun q3 => ?_) (fun q3 => ?_)
        · refine V_ipush mi_127_56 ?_
          refine V_istore mi_127_57 ?_
          refine V_iload (v := Int32.ofInt ((g : Int))) mi_127_59 (by simp [stL, stL2, lv_args, Value.category]) ?_
          refine V_iload (v := Int32.ofInt ((f : Int))) mi_127_61 (by simp [stL, stL2, lv_args, Value.category]) ?_
          refine V_ceq mi_127_62 ⟨by omega, by omega⟩ ⟨by omega, by omega⟩ (fun q8 => ?_) (fun q8 => ?_)
          · refine V_iinc (v := Int32.ofInt ((g : Int))) mi_127_84 (by simp [stL, stL2, lv_args, Value.category]) ?_
            rw [ia2]
            refine V_goto mi_127_87 ?_
            refine V_sub (lv' := [(0, .ref (ad 4)), (1, .int (Int32.ofInt ((f : Int)))), (2, .int (Int32.ofInt ((N : Int)))), (3, .int (Int32.ofInt ((szN G N f : Int)))), (4, .int (Int32.ofInt (((g + 1 : Nat) : Int))))]) (fun q hq => ?_) ?_
            · simp only [List.mem_cons, List.not_mem_nil, or_false] at hq
              rcases hq with rfl | rfl | rfl | rfl | rfl <;> simp [stL, stL2, lv_args, Value.category]
            exact itx_13 hG hX hB em hf N6 k (g + 1) (by omega) (fun x hx => by
              by_cases e : x = g
              · rw [e]
                exact tkP_1 (by omega)
              · exact ht x (by omega)) kk
          · refine V_iload (v := Int32.ofInt (0)) mi_127_65 (by simp [stL, stL2, lv_args, Value.category]) ?_
            refine V_zeq mi_127_67 ⟨by omega, by omega⟩ (fun q9 => ?_) (fun q9 => ?_)
            · refine V_iinc (v := Int32.ofInt ((g : Int))) mi_127_84 (by simp [stL, stL2, lv_args, Value.category]) ?_
              rw [ia2]
              refine V_goto mi_127_87 ?_
              refine V_sub (lv' := [(0, .ref (ad 4)), (1, .int (Int32.ofInt ((f : Int)))), (2, .int (Int32.ofInt ((N : Int)))), (3, .int (Int32.ofInt ((szN G N f : Int)))), (4, .int (Int32.ofInt (((g + 1 : Nat) : Int))))]) (fun q hq => ?_) ?_
              · simp only [List.mem_cons, List.not_mem_nil, or_false] at hq
                rcases hq with rfl | rfl | rfl | rfl | rfl <;> simp [stL, stL2, lv_args, Value.category]
              exact itx_13 hG hX hB em hf N6 k (g + 1) (by omega) (fun x hx => by
                by_cases e : x = g
                · rw [e]
                  exact tkP_2 (by omega)
                · exact ht x (by omega)) kk
            · exact absurd rfl q9
        · refine V_iload (v := Int32.ofInt ((g : Int))) mi_127_46 (by simp [stL, stL2, lv_args, Value.category]) ?_
          refine V_iload (v := Int32.ofInt ((f : Int))) mi_127_48 (by simp [stL, stL2, lv_args, Value.category]) ?_
          refine V_cge mi_127_49 ⟨by omega, by omega⟩ ⟨by omega, by omega⟩ (fun q4 => ?_) (fun q4 => ?_)
          · refine V_ipush mi_127_56 ?_
            refine V_istore mi_127_57 ?_
            refine V_iload (v := Int32.ofInt ((g : Int))) mi_127_59 (by simp [stL, stL2, lv_args, Value.category]) ?_
            refine V_iload (v := Int32.ofInt ((f : Int))) mi_127_61 (by simp [stL, stL2, lv_args, Value.category]) ?_
            refine V_ceq mi_127_62 ⟨by omega, by omega⟩ ⟨by omega, by omega⟩ (fun q8 => ?_) (fun q8 => ?_)
            · refine V_iinc (v := Int32.ofInt ((g : Int))) mi_127_84 (by simp [stL, stL2, lv_args, Value.category]) ?_
              rw [ia2]
              refine V_goto mi_127_87 ?_
              refine V_sub (lv' := [(0, .ref (ad 4)), (1, .int (Int32.ofInt ((f : Int)))), (2, .int (Int32.ofInt ((N : Int)))), (3, .int (Int32.ofInt ((szN G N f : Int)))), (4, .int (Int32.ofInt (((g + 1 : Nat) : Int))))]) (fun q hq => ?_) ?_
              · simp only [List.mem_cons, List.not_mem_nil, or_false] at hq
                rcases hq with rfl | rfl | rfl | rfl | rfl <;> simp [stL, stL2, lv_args, Value.category]
              exact itx_13 hG hX hB em hf N6 k (g + 1) (by omega) (fun x hx => by
                by_cases e : x = g
                · rw [e]
                  exact tkP_1 (by omega)
                · exact ht x (by omega)) kk
            · refine V_iload (v := Int32.ofInt (0)) mi_127_65 (by simp [stL, stL2, lv_args, Value.category]) ?_
              refine V_zeq mi_127_67 ⟨by omega, by omega⟩ (fun q9 => ?_) (fun q9 => ?_)
              · refine V_iinc (v := Int32.ofInt ((g : Int))) mi_127_84 (by simp [stL, stL2, lv_args, Value.category]) ?_
                rw [ia2]
                refine V_goto mi_127_87 ?_
                refine V_sub (lv' := [(0, .ref (ad 4)), (1, .int (Int32.ofInt ((f : Int)))), (2, .int (Int32.ofInt ((N : Int)))), (3, .int (Int32.ofInt ((szN G N f : Int)))), (4, .int (Int32.ofInt (((g + 1 : Nat) : Int))))]) (fun q hq => ?_) ?_
                · simp only [List.mem_cons, List.not_mem_nil, or_false] at hq
                  rcases hq with rfl | rfl | rfl | rfl | rfl <;> simp [stL, stL2, lv_args, Value.category]
                exact itx_13 hG hX hB em hf N6 k (g + 1) (by omega) (fun x hx => by
                  by_cases e : x = g
                  · rw [e]
                    exact tkP_2 (by omega)
                  · exact ht x (by omega)) kk
              · exact absurd rfl q9
          · refine V_ipush mi_127_52 ?_
            refine V_goto mi_127_53 ?_
            refine V_istore mi_127_57 ?_
            refine V_iload (v := Int32.ofInt ((g : Int))) mi_127_59 (by simp [stL, stL2, lv_args, Value.category]) ?_
            refine V_iload (v := Int32.ofInt ((f : Int))) mi_127_61 (by simp [stL, stL2, lv_args, Value.category]) ?_
            refine V_ceq mi_127_62 ⟨by omega, by omega⟩ ⟨by omega, by omega⟩ (fun q8 => ?_) (fun q8 => ?_)
            · refine V_iinc (v := Int32.ofInt ((g : Int))) mi_127_84 (by simp [stL, stL2, lv_args, Value.category]) ?_
              rw [ia2]
              refine V_goto mi_127_87 ?_
              refine V_sub (lv' := [(0, .ref (ad 4)), (1, .int (Int32.ofInt ((f : Int)))), (2, .int (Int32.ofInt ((N : Int)))), (3, .int (Int32.ofInt ((szN G N f : Int)))), (4, .int (Int32.ofInt (((g + 1 : Nat) : Int))))]) (fun q hq => ?_) ?_
              · simp only [List.mem_cons, List.not_mem_nil, or_false] at hq
                rcases hq with rfl | rfl | rfl | rfl | rfl <;> simp [stL, stL2, lv_args, Value.category]
              exact itx_13 hG hX hB em hf N6 k (g + 1) (by omega) (fun x hx => by
                by_cases e : x = g
                · rw [e]
                  exact tkP_1 (by omega)
                · exact ht x (by omega)) kk
            · refine V_iload (v := Int32.ofInt (1)) mi_127_65 (by simp [stL, stL2, lv_args, Value.category]) ?_
              refine V_zeq mi_127_67 ⟨by omega, by omega⟩ (fun q9 => ?_) (fun q9 => ?_)
              · exact absurd q9 (by omega)
              · refine V_aload (v := ad 4) mi_127_70 (by simp [stL, stL2, lv_args, Value.category]) ?_
                refine V_iload (v := Int32.ofInt ((f : Int))) mi_127_71 (by simp [stL, stL2, lv_args, Value.category]) ?_
                refine V_iload (v := Int32.ofInt ((g : Int))) mi_127_72 (by simp [stL, stL2, lv_args, Value.category]) ?_
                refine V_iload (v := Int32.ofInt ((szN G N g : Int))) mi_127_74 (by simp [stL, stL2, lv_args, Value.category]) ?_
                refine V_stat (As := [.ref (ad 4), .int (Int32.ofInt ((f : Int))), .int (Int32.ofInt ((g : Int))), .int (Int32.ofInt ((szN G N g : Int)))]) (st := []) mi_127_76 (by omega) (agx_ct (f := f) (g := g) (n := szN G N g) hG hX hB hf (by omega) (by omega) (by omega)) (by omega) (show 4 = mN 128 by decide +kernel) (by simp [Value.category]) ⟨Nat.le_refl _, Nat.le_refl _⟩ ?_
                rintro r w3 ⟨e3, rfl⟩
                rw [e3]
                refine V_beq mi_127_79  (fun c3 => ?_) (fun c3 => ?_)
                · refine V_iinc (v := Int32.ofInt ((g : Int))) mi_127_84 (by simp [stL, stL2, lv_args, Value.category]) ?_
                  rw [ia2]
                  refine V_goto mi_127_87 ?_
                  refine V_sub (lv' := [(0, .ref (ad 4)), (1, .int (Int32.ofInt ((f : Int)))), (2, .int (Int32.ofInt ((N : Int)))), (3, .int (Int32.ofInt ((szN G N f : Int)))), (4, .int (Int32.ofInt (((g + 1 : Nat) : Int))))]) (fun q hq => ?_) ?_
                  · simp only [List.mem_cons, List.not_mem_nil, or_false] at hq
                    rcases hq with rfl | rfl | rfl | rfl | rfl <;> simp [stL, stL2, lv_args, Value.category]
                  exact itx_13 hG hX hB em hf N6 k (g + 1) (by omega) (fun x hx => by
                    by_cases e : x = g
                    · rw [e]
                      exact tkP_3 c3
                    · exact ht x (by omega)) kk
                · refine V_ipush mi_127_82 ?_
                  exact V_retI mi_127_83 (fun _ => by decide) (by rw [tkB_P, exiU_t (P := tkP (szN G N) (syN G) f) (i := g) (by omega) (tkP_y (by omega) (by omega) c3)] at kk; exact kk)
theorem itx_ct {G : Nat → Int} {m N f : Nat} (hG : GOK ad tys GG ws) (hX : HX 4 G ws) (hB : HB G) (em : G 3 = (m : Int)) (hf : f < 6) (N6 : N ≤ 6) : CT l D tys A 127 3 0 0 [.ref (ad 4), .int (Int32.ofInt ((f : Int))), .int (Int32.ofInt ((N : Int)))] ws (fun r w => w = ws ∧ r = some (.int (bI (tkB m (szN G N) (syN G) f)))) := by
  refine CT_of_V (by omega) (show (3 : Nat) ≤ mML 127 by decide +kernel) ?_
  have bf := hB.bl f hf
  refine V_iload (v := Int32.ofInt ((N : Int))) mi_127_0 (by simp [stL, stL2, lv_args, Value.category]) ?_
  refine V_aload (v := ad 4) mi_127_1 (by simp [stL, stL2, lv_args, Value.category]) ?_
  refine V_iload (v := Int32.ofInt ((f : Int))) mi_127_2 (by simp [stL, stL2, lv_args, Value.category]) ?_
  refine V_cO (As := [.int (Int32.ofInt ((f : Int)))]) (st := [.int (Int32.ofInt ((N : Int)))]) mi_127_3 (by omega) (by decide +kernel) (by decide +kernel) (by omega) g4o hG (hle_ct (f := f) hG hX hB hf) (by omega) (show 1 = mN 106 by decide +kernel) (by simp [Value.category]) ?_
  rintro r w1 ⟨e1, rfl⟩
  rw [e1]
  refine V_stat (As := [.int (Int32.ofInt ((N : Int))), .int (Int32.ofInt (G (6 + 7 * f)))]) (st := []) mi_127_6 (by omega) (min_i (by omega) (by omega) (by omega) (by omega)) (by omega) (show 2 = mN 342 by decide +kernel) (by simp [Value.category]) ⟨Nat.le_refl _, Nat.le_refl _⟩ ?_
  rintro r w2 ⟨e2, rfl⟩
  rw [e2, sz_e bf.1]
  refine V_istore mi_127_9 ?_
  refine V_ipush mi_127_10 ?_
  refine V_istore mi_127_11 ?_
  refine V_sub (lv' := [(0, .ref (ad 4)), (1, .int (Int32.ofInt ((f : Int)))), (2, .int (Int32.ofInt ((N : Int)))), (3, .int (Int32.ofInt ((szN G N f : Int)))), (4, .int (Int32.ofInt (((0 : Nat) : Int))))]) (fun q hq => ?_) ?_
  · simp only [List.mem_cons, List.not_mem_nil, or_false] at hq
    rcases hq with rfl | rfl | rfl | rfl | rfl <;> simp [stL, stL2, lv_args, Value.category]
  exact itx_13 hG hX hB em hf N6 m 0 (by omega) (fun x hx => absurd hx (by omega)) ⟨rfl, rfl⟩
theorem pwx_5 {S e : Nat} (S9 : S ≤ 100) (e9 : e ≤ 100) {post : Option Value → va_W → Prop} : ∀ (k i : Nat), i + k = e → post (some (.long (Int64.ofInt ((S ^ e : Nat) : Int)))) ws → V l D tys A 151 0 0 0 post 0 0 5 [(0, .int (Int32.ofInt ((S : Int)))), (1, .int (Int32.ofInt ((e : Int)))), (2, .long (Int64.ofInt (((S ^ i : Nat) : Int)))), (4, .int (Int32.ofInt ((i : Int))))] [] ws
  | 0, i, hi, kk => by
    refine V_iload (v := Int32.ofInt ((i : Int))) mi_151_5 (by simp [stL, stL2, lv_args, Value.category]) ?_
    refine V_iload (v := Int32.ofInt ((e : Int))) mi_151_7 (by simp [stL, stL2, lv_args, Value.category]) ?_
    refine V_cge mi_151_8 ⟨by omega, by omega⟩ ⟨by omega, by omega⟩ (fun q => ?_) (fun q => ?_)
    · refine V_lload (v := Int64.ofInt (((S ^ i : Nat) : Int))) mi_151_22 (by simp [stL, stL2, lv_args, Value.category]) ?_
      exact V_retL mi_151_23 (by rw [show i = e by omega]; exact kk)
    · exact absurd q (by omega)
  | k + 1, i, hi, kk => by
    refine V_iload (v := Int32.ofInt ((i : Int))) mi_151_5 (by simp [stL, stL2, lv_args, Value.category]) ?_
    refine V_iload (v := Int32.ofInt ((e : Int))) mi_151_7 (by simp [stL, stL2, lv_args, Value.category]) ?_
    refine V_cge mi_151_8 ⟨by omega, by omega⟩ ⟨by omega, by omega⟩ (fun q => ?_) (fun q => ?_)
    · exact absurd q (by omega)
    · refine V_lload (v := Int64.ofInt (((S ^ i : Nat) : Int))) mi_151_11 (by simp [stL, stL2, lv_args, Value.category]) ?_
      refine V_iload (v := Int32.ofInt ((S : Int))) mi_151_12 (by simp [stL, stL2, lv_args, Value.category]) ?_
      refine V_i2l mi_151_13 ?_
      rw [i2lx ⟨by omega, by omega⟩]
      refine V_lbin mi_151_14 (by omega) ?_
      rw [lmN]
      refine V_lstore mi_151_15 ?_
      refine V_iinc (v := Int32.ofInt ((i : Int))) mi_151_16 (by simp [stL, stL2, lv_args, Value.category]) ?_
      rw [ia2]
      refine V_goto mi_151_19 ?_
      refine V_sub (lv' := [(0, .int (Int32.ofInt ((S : Int)))), (1, .int (Int32.ofInt ((e : Int)))), (2, .long (Int64.ofInt (((S ^ (i + 1) : Nat) : Int)))), (4, .int (Int32.ofInt (((i + 1 : Nat) : Int))))]) (fun q hq => ?_) ?_
      · simp only [List.mem_cons, List.not_mem_nil, or_false] at hq
        rcases hq with rfl | rfl | rfl | rfl <;> simp [stL, stL2, lv_args, Value.category]
      exact pwx_5 S9 e9 k (i + 1) (by omega) kk
theorem pwx_ct {S e : Nat} (S9 : S ≤ 100) (e9 : e ≤ 100) : CT l D tys A 151 0 0 0 [.int (Int32.ofInt ((S : Int))), .int (Int32.ofInt ((e : Int)))] ws (fun r w => w = ws ∧ r = some (.long (Int64.ofInt ((S ^ e : Nat) : Int)))) := by
  refine CT_of_V (by omega) (show (2 : Nat) ≤ mML 151 by decide +kernel) ?_
  refine V_lpush mi_151_0 ?_
  refine V_lstore mi_151_1 ?_
  refine V_ipush mi_151_2 ?_
  refine V_istore mi_151_3 ?_
  refine V_sub (lv' := [(0, .int (Int32.ofInt ((S : Int)))), (1, .int (Int32.ofInt ((e : Int)))), (2, .long (Int64.ofInt (((S ^ 0 : Nat) : Int)))), (4, .int (Int32.ofInt (((0 : Nat) : Int))))]) (fun q hq => ?_) ?_
  · simp only [List.mem_cons, List.not_mem_nil, or_false] at hq
    rcases hq with rfl | rfl | rfl | rfl <;> simp [stL, stL2, lv_args, Value.category]
  exact pwx_5 S9 e9 e 0 (by omega) ⟨rfl, rfl⟩
theorem ffx_15 {G : Nat → Int} {S m N k : Nat} {p : Nat → Nat} (hG : GOK ad tys GG ws) (hX : HX 4 G ws) (hB : HB G) (eS : G 0 = (S : Int)) (em : G 3 = (m : Int)) (N6 : N ≤ 6) (hk : k ≤ N) (hp : ∀ i, i < k → rd ws 51 i = some (.int (Int32.ofInt (p i : Int))) ∧ p i ≤ 8) {post : Option Value → va_W → Prop} : ∀ (z f : Nat) (a : Int), f + z = m → (∀ x, x < f → hdB G N k p x = false) → a = ((S ^ (N - k) : Nat) : Int) - smN (lfB G S m N k p) f → post (some (.int (Int32.ofInt (ffX G S m N k p)))) ws → V l D tys A 125 4 0 0 post 0 0 15 [(0, .ref (ad 50)), (1, .ref (ad 4)), (2, .int (Int32.ofInt ((N : Int)))), (3, .int (Int32.ofInt ((k : Int)))), (4, .long (Int64.ofInt (a))), (6, .int (Int32.ofInt ((f : Int))))] [] ws
  | 0, f, a, hf, ht, ha, kk => by
    have b3 := hB.b3
    have b0 := hB.b0
    refine V_iload (v := Int32.ofInt ((f : Int))) mi_125_15 (by simp [stL, stL2, lv_args, Value.category]) ?_
    refine V_aload (v := ad 4) mi_125_17 (by simp [stL, stL2, lv_args, Value.category]) ?_
    refine V_gO mi_125_18 g4o hG (show rd _ 4 4 = some (.int (Int32.ofInt (G 3))) from hx0 hX (i := 4) (by omega)) ?_
    rw [em]
    refine V_cge mi_125_21 ⟨by omega, by omega⟩ ⟨by omega, by omega⟩ (fun q => ?_) (fun q => ?_)
    · have fm : f = m := by omega
      rw [fm] at ha
      refine V_lload (v := Int64.ofInt (a)) mi_125_92 (by simp [stL, stL2, lv_args, Value.category]) ?_
      refine V_l2i mi_125_94 ?_
      rw [Int64.toInt32_ofInt]
      exact V_retI mi_125_95 (fun h => absurd h (by decide +kernel)) (by rw [ffX_m (fun x hx => ht x (by omega)), ← ha] at kk; exact kk)
    · exact absurd q (by omega)
  | z + 1, f, a, hf, ht, ha, kk => by
    have b3 := hB.b3
    have b0 := hB.b0
    refine V_iload (v := Int32.ofInt ((f : Int))) mi_125_15 (by simp [stL, stL2, lv_args, Value.category]) ?_
    refine V_aload (v := ad 4) mi_125_17 (by simp [stL, stL2, lv_args, Value.category]) ?_
    refine V_gO mi_125_18 g4o hG (show rd _ 4 4 = some (.int (Int32.ofInt (G 3))) from hx0 hX (i := 4) (by omega)) ?_
    rw [em]
    refine V_cge mi_125_21 ⟨by omega, by omega⟩ ⟨by omega, by omega⟩ (fun q => ?_) (fun q => ?_)
    · exact absurd q (by omega)
    · have bf := hB.bl f (by omega)
      have zf := szN_le (G := G) (N := N) (f := f)
      refine V_iload (v := Int32.ofInt ((N : Int))) mi_125_24 (by simp [stL, stL2, lv_args, Value.category]) ?_
      refine V_aload (v := ad 4) mi_125_25 (by simp [stL, stL2, lv_args, Value.category]) ?_
      refine V_iload (v := Int32.ofInt ((f : Int))) mi_125_26 (by simp [stL, stL2, lv_args, Value.category]) ?_
      refine V_cO (As := [.int (Int32.ofInt ((f : Int)))]) (st := [.int (Int32.ofInt ((N : Int)))]) mi_125_28 (by omega) (by decide +kernel) (by decide +kernel) (by omega) g4o hG (hle_ct (f := f) hG hX hB (by omega)) (by omega) (show 1 = mN 106 by decide +kernel) (by simp [Value.category]) ?_
      rintro r w1 ⟨e1, rfl⟩
      rw [e1]
      refine V_stat (As := [.int (Int32.ofInt ((N : Int))), .int (Int32.ofInt (G (6 + 7 * f)))]) (st := []) mi_125_31 (by omega) (min_i (by omega) (by omega) (by omega) (by omega)) (by omega) (show 2 = mN 342 by decide +kernel) (by simp [Value.category]) ⟨Nat.le_refl _, Nat.le_refl _⟩ ?_
      rintro r w2 ⟨e2, rfl⟩
      rw [e2, sz_e bf.1]
      refine V_istore mi_125_34 ?_
      refine V_aload (v := ad 50) mi_125_36 (by simp [stL, stL2, lv_args, Value.category]) ?_
      refine V_aload (v := ad 4) mi_125_37 (by simp [stL, stL2, lv_args, Value.category]) ?_
      refine V_iload (v := Int32.ofInt ((f : Int))) mi_125_38 (by simp [stL, stL2, lv_args, Value.category]) ?_
      refine V_iload (v := Int32.ofInt ((szN G N f : Int))) mi_125_40 (by simp [stL, stL2, lv_args, Value.category]) ?_
      refine V_iload (v := Int32.ofInt ((k : Int))) mi_125_42 (by simp [stL, stL2, lv_args, Value.category]) ?_
      refine V_stat (As := [.int (Int32.ofInt ((szN G N f : Int))), .int (Int32.ofInt ((k : Int)))]) (st := [.int (Int32.ofInt ((f : Int))), .ref (ad 4), .ref (ad 50)]) mi_125_43 (by omega) (min_i (by omega) (by omega) (by omega) (by omega)) (by omega) (show 2 = mN 342 by decide +kernel) (by simp [Value.category]) ⟨Nat.le_refl _, Nat.le_refl _⟩ ?_
      rintro r w3 ⟨e3, rfl⟩
      rw [e3, show min (szN G N f : Int) (k : Int) = ((min (szN G N f) k : Nat) : Int) by omega]
      refine V_cO (As := [.ref (ad 4), .int (Int32.ofInt ((f : Int))), .int (Int32.ofInt (((min (szN G N f) k : Nat) : Int)))]) (st := []) mi_125_46 (by omega) (by decide +kernel) (by decide +kernel) (by omega) g50o hG (skx_ct (f := f) (N := N) (k := k) hG hX hB (by omega) hp) (by omega) (show 3 = mN 126 by decide +kernel) (by simp [Value.category]) ?_
      rintro r w4 ⟨e4, rfl⟩
      rw [e4]
      refine V_beq mi_125_49  (fun c1 => ?_) (fun c1 => ?_)
      · refine V_iinc (v := Int32.ofInt ((f : Int))) mi_125_86 (by simp [stL, stL2, lv_args, Value.category]) ?_
        rw [ia2]
        refine V_goto mi_125_89 ?_
        refine V_sub (lv' := [(0, .ref (ad 50)), (1, .ref (ad 4)), (2, .int (Int32.ofInt ((N : Int)))), (3, .int (Int32.ofInt ((k : Int)))), (4, .long (Int64.ofInt (a))), (6, .int (Int32.ofInt (((f + 1 : Nat) : Int))))]) (fun q hq => ?_) ?_
        · simp only [List.mem_cons, List.not_mem_nil, or_false] at hq
          rcases hq with rfl | rfl | rfl | rfl | rfl | rfl <;> simp [stL, stL2, lv_args, Value.category]
        refine ffx_15 hG hX hB eS em N6 hk hp z (f + 1) _ (by omega) (fun x hx => ?_) ?_ kk
        · by_cases e : x = f
          · rw [e]
            exact hd_n1 c1
          · exact ht x (by omega)
        · have l1 : smN (lfB G S m N k p) (f + 1) = smN (lfB G S m N k p) f + lfB G S m N k p f := rfl
          rw [lf_n1 c1] at l1
          omega
      · refine V_iload (v := Int32.ofInt ((szN G N f : Int))) mi_125_52 (by simp [stL, stL2, lv_args, Value.category]) ?_
        refine V_iload (v := Int32.ofInt ((k : Int))) mi_125_54 (by simp [stL, stL2, lv_args, Value.category]) ?_
        refine V_cgt mi_125_55 ⟨by omega, by omega⟩ ⟨by omega, by omega⟩ (fun q2 => ?_) (fun q2 => ?_)
        · refine V_aload (v := ad 4) mi_125_60 (by simp [stL, stL2, lv_args, Value.category]) ?_
          refine V_iload (v := Int32.ofInt ((f : Int))) mi_125_61 (by simp [stL, stL2, lv_args, Value.category]) ?_
          refine V_iload (v := Int32.ofInt ((N : Int))) mi_125_63 (by simp [stL, stL2, lv_args, Value.category]) ?_
          refine V_stat (As := [.ref (ad 4), .int (Int32.ofInt ((f : Int))), .int (Int32.ofInt ((N : Int)))]) (st := []) mi_125_64 (by omega) (itx_ct (f := f) hG hX hB em (by omega) N6) (by omega) (show 3 = mN 127 by decide +kernel) (by simp [Value.category]) ⟨Nat.le_refl _, Nat.le_refl _⟩ ?_
          rintro r w5 ⟨e5, rfl⟩
          rw [e5]
          refine V_bne mi_125_67  (fun c2 => ?_) (fun c2 => ?_)
          · refine V_iinc (v := Int32.ofInt ((f : Int))) mi_125_86 (by simp [stL, stL2, lv_args, Value.category]) ?_
            rw [ia2]
            refine V_goto mi_125_89 ?_
            refine V_sub (lv' := [(0, .ref (ad 50)), (1, .ref (ad 4)), (2, .int (Int32.ofInt ((N : Int)))), (3, .int (Int32.ofInt ((k : Int)))), (4, .long (Int64.ofInt (a))), (6, .int (Int32.ofInt (((f + 1 : Nat) : Int))))]) (fun q hq => ?_) ?_
            · simp only [List.mem_cons, List.not_mem_nil, or_false] at hq
              rcases hq with rfl | rfl | rfl | rfl | rfl | rfl <;> simp [stL, stL2, lv_args, Value.category]
            refine ffx_15 hG hX hB eS em N6 hk hp z (f + 1) _ (by omega) (fun x hx => ?_) ?_ kk
            · by_cases e : x = f
              · rw [e]
                exact hd_n2 (by omega)
              · exact ht x (by omega)
            · have l1 : smN (lfB G S m N k p) (f + 1) = smN (lfB G S m N k p) f + lfB G S m N k p f := rfl
              rw [lf_n2 c2] at l1
              omega
          · refine V_lload (v := Int64.ofInt (a)) mi_125_70 (by simp [stL, stL2, lv_args, Value.category]) ?_
            refine V_aload (v := ad 4) mi_125_72 (by simp [stL, stL2, lv_args, Value.category]) ?_
            refine V_gO mi_125_73 g4o hG (show rd _ 4 1 = some (.int (Int32.ofInt (G 0))) from hx0 hX (i := 1) (by omega)) ?_
            rw [eS]
            refine V_iload (v := Int32.ofInt ((N : Int))) mi_125_76 (by simp [stL, stL2, lv_args, Value.category]) ?_
            refine V_iload (v := Int32.ofInt ((szN G N f : Int))) mi_125_77 (by simp [stL, stL2, lv_args, Value.category]) ?_
            refine V_ibin mi_125_79 (by omega) ?_
            rw [ib1]
            rw [show (N : Int) - (szN G N f : Int) = ((N - szN G N f : Nat) : Int) by omega]
            refine V_stat (As := [.int (Int32.ofInt ((S : Int))), .int (Int32.ofInt (((N - szN G N f : Nat) : Int)))]) (st := [.long (Int64.ofInt (a))]) mi_125_80 (by omega) (pwx_ct (S := S) (e := N - szN G N f) (by omega) (by omega)) (by omega) (show 2 = mN 151 by decide +kernel) (by simp [Value.category]) ⟨Nat.le_refl _, Nat.le_refl _⟩ ?_
            rintro r w6 ⟨e6, rfl⟩
            rw [e6]
            refine V_lbin mi_125_83 (by omega) ?_
            rw [lsN]
            refine V_lstore mi_125_84 ?_
            refine V_iinc (v := Int32.ofInt ((f : Int))) mi_125_86 (by simp [stL, stL2, lv_args, Value.category]) ?_
            rw [ia2]
            refine V_goto mi_125_89 ?_
            refine V_sub (lv' := [(0, .ref (ad 50)), (1, .ref (ad 4)), (2, .int (Int32.ofInt ((N : Int)))), (3, .int (Int32.ofInt ((k : Int)))), (4, .long (Int64.ofInt (a - ((S ^ (N - szN G N f) : Nat) : Int)))), (6, .int (Int32.ofInt (((f + 1 : Nat) : Int))))]) (fun q hq => ?_) ?_
            · simp only [List.mem_cons, List.not_mem_nil, or_false] at hq
              rcases hq with rfl | rfl | rfl | rfl | rfl | rfl <;> simp [stL, stL2, lv_args, Value.category]
            refine ffx_15 hG hX hB eS em N6 hk hp z (f + 1) _ (by omega) (fun x hx => ?_) ?_ kk
            · by_cases e : x = f
              · rw [e]
                exact hd_n2 (by omega)
              · exact ht x (by omega)
            · have l1 : smN (lfB G S m N k p) (f + 1) = smN (lfB G S m N k p) f + lfB G S m N k p f := rfl
              rw [lf_y c1 c2] at l1
              omega
        · refine V_ipush mi_125_58 ?_
          exact V_retI mi_125_59 (fun h => absurd h (by decide +kernel)) (by rw [ffX_0 (f := f) (by omega) (hd_y c1 (by omega))] at kk; exact kk)
theorem ffx_ct {G : Nat → Int} {S m N k : Nat} {p : Nat → Nat} (hG : GOK ad tys GG ws) (hX : HX 4 G ws) (hB : HB G) (eS : G 0 = (S : Int)) (em : G 3 = (m : Int)) (N6 : N ≤ 6) (hk : k ≤ N) (hp : ∀ i, i < k → rd ws 51 i = some (.int (Int32.ofInt (p i : Int))) ∧ p i ≤ 8) : CT l D tys A 125 4 0 0 [.ref (ad 50), .ref (ad 4), .int (Int32.ofInt ((N : Int))), .int (Int32.ofInt ((k : Int)))] ws (fun r w => w = ws ∧ r = some (.int (Int32.ofInt (ffX G S m N k p)))) := by
  refine CT_of_V (by omega) (show (4 : Nat) ≤ mML 125 by decide +kernel) ?_
  have b0 := hB.b0
  refine V_aload (v := ad 4) mi_125_0 (by simp [stL, stL2, lv_args, Value.category]) ?_
  refine V_gO mi_125_1 g4o hG (show rd _ 4 1 = some (.int (Int32.ofInt (G 0))) from hx0 hX (i := 1) (by omega)) ?_
  rw [eS]
  refine V_iload (v := Int32.ofInt ((N : Int))) mi_125_4 (by simp [stL, stL2, lv_args, Value.category]) ?_
  refine V_iload (v := Int32.ofInt ((k : Int))) mi_125_5 (by simp [stL, stL2, lv_args, Value.category]) ?_
  refine V_ibin mi_125_6 (by omega) ?_
  rw [ib1]
  rw [show (N : Int) - (k : Int) = ((N - k : Nat) : Int) by omega]
  refine V_stat (As := [.int (Int32.ofInt ((S : Int))), .int (Int32.ofInt (((N - k : Nat) : Int)))]) (st := []) mi_125_7 (by omega) (pwx_ct (S := S) (e := N - k) (by omega) (by omega)) (by omega) (show 2 = mN 151 by decide +kernel) (by simp [Value.category]) ⟨Nat.le_refl _, Nat.le_refl _⟩ ?_
  rintro r w1 ⟨rfl, rfl⟩
  refine V_lstore mi_125_10 ?_
  refine V_ipush mi_125_12 ?_
  refine V_istore mi_125_13 ?_
  refine V_sub (lv' := [(0, .ref (ad 50)), (1, .ref (ad 4)), (2, .int (Int32.ofInt ((N : Int)))), (3, .int (Int32.ofInt ((k : Int)))), (4, .long (Int64.ofInt (((S ^ (N - k) : Nat) : Int)))), (6, .int (Int32.ofInt (((0 : Nat) : Int))))]) (fun q hq => ?_) ?_
  · simp only [List.mem_cons, List.not_mem_nil, or_false] at hq
    rcases hq with rfl | rfl | rfl | rfl | rfl | rfl <;> simp [stL, stL2, lv_args, Value.category]
  exact ffx_15 hG hX hB eS em N6 hk hp m 0 _ (by omega) (fun x hx => absurd hx (by omega)) (Int.sub_zero _).symm ⟨rfl, rfl⟩
theorem fwx_2 {G : Nat → Int} {S m : Nat} (hG : GOK ad tys GG ws) (hX : HX 4 G ws) (hB : HB G) (eS : G 0 = (S : Int)) (em : G 3 = (m : Int)) (hs : ∀ n, 1 ≤ n → n ≤ 6 → 0 ≤ ffX G S m n 0 (fun _ => 0) ∧ ffX G S m n 0 (fun _ => 0) ≤ 531441) {post : Option Value → va_W → Prop} : ∀ (k n : Nat), n + k = 7 → 1 ≤ n → post (some (.int (Int32.ofInt (lsZ G S m k n)))) ws → V l D tys A 129 5 0 0 post 0 0 2 [(0, .ref (ad 50)), (1, .ref (ad 4)), (2, .int (Int32.ofInt ((n : Int))))] [] ws
  | 0, n, hn, n1, kk => by
    refine V_iload (v := Int32.ofInt ((n : Int))) mi_129_2 (by simp [stL, stL2, lv_args, Value.category]) ?_
    refine V_ipush mi_129_3 ?_
    refine V_cgt mi_129_5 ⟨by omega, by omega⟩ ⟨by omega, by omega⟩ (fun q => ?_) (fun q => ?_)
    · refine V_ipush mi_129_26 ?_
      exact V_retI mi_129_27 (fun h => absurd h (by decide +kernel)) kk
    · exact absurd q (by omega)
  | k + 1, n, hn, n1, kk => by
    refine V_iload (v := Int32.ofInt ((n : Int))) mi_129_2 (by simp [stL, stL2, lv_args, Value.category]) ?_
    refine V_ipush mi_129_3 ?_
    refine V_cgt mi_129_5 ⟨by omega, by omega⟩ ⟨by omega, by omega⟩ (fun q => ?_) (fun q => ?_)
    · exact absurd q (by omega)
    · have hb := hs n (by omega) (by omega)
      refine V_aload (v := ad 50) mi_129_8 (by simp [stL, stL2, lv_args, Value.category]) ?_
      refine V_aload (v := ad 4) mi_129_9 (by simp [stL, stL2, lv_args, Value.category]) ?_
      refine V_iload (v := Int32.ofInt ((n : Int))) mi_129_10 (by simp [stL, stL2, lv_args, Value.category]) ?_
      refine V_ipush mi_129_11 ?_
      rw [show (0 : Int) = ((0 : Nat) : Int) from rfl]
      refine V_cO (As := [.ref (ad 4), .int (Int32.ofInt ((n : Int))), .int (Int32.ofInt (((0 : Nat) : Int)))]) (st := []) mi_129_12 (by omega) (by decide +kernel) (by decide +kernel) (by omega) g50o hG (ffx_ct (N := n) (k := 0) (p := fun _ => 0) hG hX hB eS em (by omega) (Nat.zero_le n) (fun i hi => absurd hi (Nat.not_lt_zero i))) (by omega) (show 3 = mN 125 by decide +kernel) (by simp [Value.category]) ?_
      rintro r w1 ⟨e1, rfl⟩
      rw [e1]
      refine V_zle mi_129_15 ⟨by omega, by omega⟩ (fun q2 => ?_) (fun q2 => ?_)
      · refine V_iinc (v := Int32.ofInt ((n : Int))) mi_129_20 (by simp [stL, stL2, lv_args, Value.category]) ?_
        rw [ia2]
        refine V_goto mi_129_23 ?_
        refine V_sub (lv' := [(0, .ref (ad 50)), (1, .ref (ad 4)), (2, .int (Int32.ofInt (((n + 1 : Nat) : Int))))]) (fun q hq => ?_) ?_
        · simp only [List.mem_cons, List.not_mem_nil, or_false] at hq
          rcases hq with rfl | rfl | rfl <;> simp [stL, stL2, lv_args, Value.category]
        rw [lsZ_n (by omega)] at kk
        exact fwx_2 hG hX hB eS em hs k (n + 1) (by omega) (by omega) kk
      · refine V_iload (v := Int32.ofInt ((n : Int))) mi_129_18 (by simp [stL, stL2, lv_args, Value.category]) ?_
        exact V_retI mi_129_19 (fun h => absurd h (by decide +kernel)) (by rw [lsZ_y q2] at kk; exact kk)
theorem fwx_ct {G : Nat → Int} {S m : Nat} (hG : GOK ad tys GG ws) (hX : HX 4 G ws) (hB : HB G) (eS : G 0 = (S : Int)) (em : G 3 = (m : Int)) (hs : ∀ n, 1 ≤ n → n ≤ 6 → 0 ≤ ffX G S m n 0 (fun _ => 0) ∧ ffX G S m n 0 (fun _ => 0) ≤ 531441) : CT l D tys A 129 5 0 0 [.ref (ad 50), .ref (ad 4)] ws (fun r w => w = ws ∧ r = some (.int (Int32.ofInt (lsZ G S m 6 1)))) := by
  refine CT_of_V (by omega) (show (2 : Nat) ≤ mML 129 by decide +kernel) ?_
  refine V_ipush mi_129_0 ?_
  refine V_istore mi_129_1 ?_
  refine V_sub (lv' := [(0, .ref (ad 50)), (1, .ref (ad 4)), (2, .int (Int32.ofInt (((1 : Nat) : Int))))]) (fun q hq => ?_) ?_
  · simp only [List.mem_cons, List.not_mem_nil, or_false] at hq
    rcases hq with rfl | rfl | rfl <;> simp [stL, stL2, lv_args, Value.category]
  exact fwx_2 hG hX hB eS em hs 6 1 (by omega) (by omega) ⟨rfl, rfl⟩
theorem flx_10 {G : Nat → Int} {S m N : Nat} {dg : Nat → Nat} {w0 : va_W} (hX0 : HX 4 G w0) (hB : HB G) (eS : G 0 = (S : Int)) (em : G 3 = (m : Int)) (N6 : N ≤ 6) (h0 : ∀ i, i < N → dg i < S ∧ 0 < ffX G S m N (i + 1) (mixP dg i (dg i)) ∧ ∀ d, d ≤ dg i → (0 ≤ ffX G S m N (i + 1) (mixP dg i d) ∧ ffX G S m N (i + 1) (mixP dg i d) ≤ 531441) ∧ (d < dg i → ¬ 0 < ffX G S m N (i + 1) (mixP dg i d))) {i : Nat} (hi : i < N) {post : Option Value → va_W → Prop} : ∀ (k d : Nat) (ws : va_W), d + k = dg i → GOK ad tys GG ws → O51 w0 ws → (∀ j, j < i → rd ws 51 j = some (.int (Int32.ofInt (dg j : Int)))) → (∀ w : va_W, GOK ad tys GG w → O51 w0 w → (∀ j, j < i + 1 → rd w 51 j = some (.int (Int32.ofInt (dg j : Int)))) → V l D tys A 130 5 0 0 post 0 0 2 [(0, .ref (ad 50)), (1, .ref (ad 4)), (2, .int (Int32.ofInt ((N : Int)))), (3, .int (Int32.ofInt (((i + 1 : Nat) : Int))))] [] w) → V l D tys A 130 5 0 0 post 0 0 10 [(0, .ref (ad 50)), (1, .ref (ad 4)), (2, .int (Int32.ofInt ((N : Int)))), (3, .int (Int32.ofInt ((i : Int)))), (4, .int (Int32.ofInt ((d : Int))))] [] ws
  | 0, d, ws, hd, hG, hO, hp, kk => by
    have b0 := hB.b0
    have di := (h0 i hi).1
    have hX : HX 4 G ws := HX_keep hX0 (fun c j h1 h2 => hO c j (by omega))
    refine V_iload (v := Int32.ofInt ((d : Int))) mi_130_10 (by simp [stL, stL2, lv_args, Value.category]) ?_
    refine V_aload (v := ad 4) mi_130_12 (by simp [stL, stL2, lv_args, Value.category]) ?_
    refine V_gO mi_130_13 g4o hG (show rd _ 4 1 = some (.int (Int32.ofInt (G 0))) from hx0 hX (i := 1) (by omega)) ?_
    rw [eS]
    refine V_cge mi_130_16 ⟨by omega, by omega⟩ ⟨by omega, by omega⟩ (fun q => ?_) (fun q => ?_)
    · exact absurd q (by omega)
    · have hb := (h0 i hi).2.2 d (by omega)
      refine V_aload (v := ad 50) mi_130_19 (by simp [stL, stL2, lv_args, Value.category]) ?_
      refine V_gR mi_130_20 g50r0 (by omega) hG ?_
      refine V_iload (v := Int32.ofInt ((i : Int))) mi_130_23 (by simp [stL, stL2, lv_args, Value.category]) ?_
      refine V_iload (v := Int32.ofInt ((d : Int))) mi_130_24 (by simp [stL, stL2, lv_args, Value.category]) ?_
      refine V_stat (As := [.ref (ad 51), .int (Int32.ofInt ((i : Int))), .int (Int32.ofInt ((d : Int)))]) (st := []) mi_130_26 (by omega) (putk_ct (j := i) a51 hG (by omega) (by omega)) (by omega) (show 3 = mN 148 by decide +kernel) (by simp [Value.category]) ⟨Nat.le_refl _, Nat.le_refl _⟩ ?_
      rintro r w1 ⟨rfl, G1, U1⟩
      have O1 : O51 w0 w1 := fun c j hc => (upd_ne U1 (by omega)).trans (hO c j hc)
      have hX1 : HX 4 G w1 := HX_keep hX0 (fun c j h1 h2 => O1 c j (by omega))
      have P1 : ∀ j, j < i + 1 → rd w1 51 j = some (.int (Int32.ofInt (mixP dg i d j : Int))) ∧ mixP dg i d j ≤ 8 := fun j hj => by
        by_cases e : j = i
        · rw [e, show mixP dg i d i = d from if_neg (by omega)]
          exact ⟨upd_eq U1, by omega⟩
        · rw [show mixP dg i d j = dg j from if_pos (by omega)]
          have dj := (h0 j (by omega)).1
          exact ⟨(upd_ne U1 (by omega)).trans (hp j (by omega)), by omega⟩
      refine V_aload (v := ad 50) mi_130_29 (by simp [stL, stL2, lv_args, Value.category]) ?_
      refine V_aload (v := ad 4) mi_130_30 (by simp [stL, stL2, lv_args, Value.category]) ?_
      refine V_iload (v := Int32.ofInt ((N : Int))) mi_130_31 (by simp [stL, stL2, lv_args, Value.category]) ?_
      refine V_iload (v := Int32.ofInt ((i : Int))) mi_130_32 (by simp [stL, stL2, lv_args, Value.category]) ?_
      refine V_ipush mi_130_33 ?_
      refine V_ibin mi_130_34 (by omega) ?_
      rw [ib0]
      rw [show (i : Int) + 1 = ((i + 1 : Nat) : Int) by omega]
      refine V_cO (As := [.ref (ad 4), .int (Int32.ofInt ((N : Int))), .int (Int32.ofInt (((i + 1 : Nat) : Int)))]) (st := []) mi_130_35 (by omega) (by decide +kernel) (by decide +kernel) (by omega) g50o G1 (ffx_ct (N := N) (k := i + 1) (p := mixP dg i d) G1 hX1 hB eS em N6 (by omega) P1) (by omega) (show 3 = mN 125 by decide +kernel) (by simp [Value.category]) ?_
      rintro r w2 ⟨e2, rfl⟩
      rw [e2]
      refine V_zle mi_130_38 ⟨by omega, by omega⟩ (fun q2 => ?_) (fun q2 => ?_)
      · exact absurd (h0 i hi).2.1 (by rw [show dg i = d by omega] at hb ⊢; omega)
      · refine V_goto mi_130_41 ?_
        refine V_iinc (v := Int32.ofInt ((i : Int))) mi_130_50 (by simp [stL, stL2, lv_args, Value.category]) ?_
        rw [ia2]
        refine V_goto mi_130_53 ?_
        refine V_sub (lv' := [(0, .ref (ad 50)), (1, .ref (ad 4)), (2, .int (Int32.ofInt ((N : Int)))), (3, .int (Int32.ofInt (((i + 1 : Nat) : Int))))]) (fun q hq => ?_) ?_
        · simp only [List.mem_cons, List.not_mem_nil, or_false] at hq
          rcases hq with rfl | rfl | rfl | rfl <;> simp [stL, stL2, lv_args, Value.category]
        refine kk _ G1 O1 (fun j hj => ?_)
        have e := (P1 j hj).1
        rw [show mixP dg i d j = dg j by unfold mixP; split; rfl; rw [show j = i by omega]; omega] at e
        exact e
  | k + 1, d, ws, hd, hG, hO, hp, kk => by
    have b0 := hB.b0
    have di := (h0 i hi).1
    have hX : HX 4 G ws := HX_keep hX0 (fun c j h1 h2 => hO c j (by omega))
    refine V_iload (v := Int32.ofInt ((d : Int))) mi_130_10 (by simp [stL, stL2, lv_args, Value.category]) ?_
    refine V_aload (v := ad 4) mi_130_12 (by simp [stL, stL2, lv_args, Value.category]) ?_
    refine V_gO mi_130_13 g4o hG (show rd _ 4 1 = some (.int (Int32.ofInt (G 0))) from hx0 hX (i := 1) (by omega)) ?_
    rw [eS]
    refine V_cge mi_130_16 ⟨by omega, by omega⟩ ⟨by omega, by omega⟩ (fun q => ?_) (fun q => ?_)
    · exact absurd q (by omega)
    · have hb := (h0 i hi).2.2 d (by omega)
      refine V_aload (v := ad 50) mi_130_19 (by simp [stL, stL2, lv_args, Value.category]) ?_
      refine V_gR mi_130_20 g50r0 (by omega) hG ?_
      refine V_iload (v := Int32.ofInt ((i : Int))) mi_130_23 (by simp [stL, stL2, lv_args, Value.category]) ?_
      refine V_iload (v := Int32.ofInt ((d : Int))) mi_130_24 (by simp [stL, stL2, lv_args, Value.category]) ?_
      refine V_stat (As := [.ref (ad 51), .int (Int32.ofInt ((i : Int))), .int (Int32.ofInt ((d : Int)))]) (st := []) mi_130_26 (by omega) (putk_ct (j := i) a51 hG (by omega) (by omega)) (by omega) (show 3 = mN 148 by decide +kernel) (by simp [Value.category]) ⟨Nat.le_refl _, Nat.le_refl _⟩ ?_
      rintro r w1 ⟨rfl, G1, U1⟩
      have O1 : O51 w0 w1 := fun c j hc => (upd_ne U1 (by omega)).trans (hO c j hc)
      have hX1 : HX 4 G w1 := HX_keep hX0 (fun c j h1 h2 => O1 c j (by omega))
      have P1 : ∀ j, j < i + 1 → rd w1 51 j = some (.int (Int32.ofInt (mixP dg i d j : Int))) ∧ mixP dg i d j ≤ 8 := fun j hj => by
        by_cases e : j = i
        · rw [e, show mixP dg i d i = d from if_neg (by omega)]
          exact ⟨upd_eq U1, by omega⟩
        · rw [show mixP dg i d j = dg j from if_pos (by omega)]
          have dj := (h0 j (by omega)).1
          exact ⟨(upd_ne U1 (by omega)).trans (hp j (by omega)), by omega⟩
      refine V_aload (v := ad 50) mi_130_29 (by simp [stL, stL2, lv_args, Value.category]) ?_
      refine V_aload (v := ad 4) mi_130_30 (by simp [stL, stL2, lv_args, Value.category]) ?_
      refine V_iload (v := Int32.ofInt ((N : Int))) mi_130_31 (by simp [stL, stL2, lv_args, Value.category]) ?_
      refine V_iload (v := Int32.ofInt ((i : Int))) mi_130_32 (by simp [stL, stL2, lv_args, Value.category]) ?_
      refine V_ipush mi_130_33 ?_
      refine V_ibin mi_130_34 (by omega) ?_
      rw [ib0]
      rw [show (i : Int) + 1 = ((i + 1 : Nat) : Int) by omega]
      refine V_cO (As := [.ref (ad 4), .int (Int32.ofInt ((N : Int))), .int (Int32.ofInt (((i + 1 : Nat) : Int)))]) (st := []) mi_130_35 (by omega) (by decide +kernel) (by decide +kernel) (by omega) g50o G1 (ffx_ct (N := N) (k := i + 1) (p := mixP dg i d) G1 hX1 hB eS em N6 (by omega) P1) (by omega) (show 3 = mN 125 by decide +kernel) (by simp [Value.category]) ?_
      rintro r w2 ⟨e2, rfl⟩
      rw [e2]
      refine V_zle mi_130_38 ⟨by omega, by omega⟩ (fun q2 => ?_) (fun q2 => ?_)
      · refine V_iinc (v := Int32.ofInt ((d : Int))) mi_130_44 (by simp [stL, stL2, lv_args, Value.category]) ?_
        rw [ia2]
        refine V_goto mi_130_47 ?_
        refine V_sub (lv' := [(0, .ref (ad 50)), (1, .ref (ad 4)), (2, .int (Int32.ofInt ((N : Int)))), (3, .int (Int32.ofInt ((i : Int)))), (4, .int (Int32.ofInt (((d + 1 : Nat) : Int))))]) (fun q hq => ?_) ?_
        · simp only [List.mem_cons, List.not_mem_nil, or_false] at hq
          rcases hq with rfl | rfl | rfl | rfl | rfl <;> simp [stL, stL2, lv_args, Value.category]
        exact flx_10 hX0 hB eS em N6 h0 hi k (d + 1) _ (by omega) G1 O1 (fun j hj => by rw [← (show mixP dg i d j = dg j from if_pos hj)]; exact (P1 j (by omega)).1) kk
      · exact absurd q2 (hb.2 (by omega))
theorem flx_2 {G : Nat → Int} {S m N : Nat} {dg : Nat → Nat} {w0 : va_W} (hX0 : HX 4 G w0) (hB : HB G) (eS : G 0 = (S : Int)) (em : G 3 = (m : Int)) (N6 : N ≤ 6) (h0 : ∀ i, i < N → dg i < S ∧ 0 < ffX G S m N (i + 1) (mixP dg i (dg i)) ∧ ∀ d, d ≤ dg i → (0 ≤ ffX G S m N (i + 1) (mixP dg i d) ∧ ffX G S m N (i + 1) (mixP dg i d) ≤ 531441) ∧ (d < dg i → ¬ 0 < ffX G S m N (i + 1) (mixP dg i d))) {post : Option Value → va_W → Prop} : ∀ (k i : Nat) (ws : va_W), i + k = N → GOK ad tys GG ws → O51 w0 ws → (∀ j, j < i → rd ws 51 j = some (.int (Int32.ofInt (dg j : Int)))) → (∀ w : va_W, GOK ad tys GG w → O51 w0 w → (∀ j, j < N → rd w 51 j = some (.int (Int32.ofInt (dg j : Int)))) → post none w) → V l D tys A 130 5 0 0 post 0 0 2 [(0, .ref (ad 50)), (1, .ref (ad 4)), (2, .int (Int32.ofInt ((N : Int)))), (3, .int (Int32.ofInt ((i : Int))))] [] ws
  | 0, i, ws, hi, hG, hO, hp, kk => by
    refine V_iload (v := Int32.ofInt ((i : Int))) mi_130_2 (by simp [stL, stL2, lv_args, Value.category]) ?_
    refine V_iload (v := Int32.ofInt ((N : Int))) mi_130_3 (by simp [stL, stL2, lv_args, Value.category]) ?_
    refine V_cge mi_130_4 ⟨by omega, by omega⟩ ⟨by omega, by omega⟩ (fun q => ?_) (fun q => ?_)
    · exact V_retV mi_130_56 (kk ws hG hO (fun j hj => hp j (by omega)))
    · exact absurd q (by omega)
  | k + 1, i, ws, hi, hG, hO, hp, kk => by
    refine V_iload (v := Int32.ofInt ((i : Int))) mi_130_2 (by simp [stL, stL2, lv_args, Value.category]) ?_
    refine V_iload (v := Int32.ofInt ((N : Int))) mi_130_3 (by simp [stL, stL2, lv_args, Value.category]) ?_
    refine V_cge mi_130_4 ⟨by omega, by omega⟩ ⟨by omega, by omega⟩ (fun q => ?_) (fun q => ?_)
    · exact absurd q (by omega)
    · refine V_ipush mi_130_7 ?_
      refine V_istore mi_130_8 ?_
      refine V_sub (lv' := [(0, .ref (ad 50)), (1, .ref (ad 4)), (2, .int (Int32.ofInt ((N : Int)))), (3, .int (Int32.ofInt ((i : Int)))), (4, .int (Int32.ofInt (((0 : Nat) : Int))))]) (fun q hq => ?_) ?_
      · simp only [List.mem_cons, List.not_mem_nil, or_false] at hq
        rcases hq with rfl | rfl | rfl | rfl | rfl <;> simp [stL, stL2, lv_args, Value.category]
      exact flx_10 hX0 hB eS em N6 h0 (by omega) (dg i) 0 ws (by omega) hG hO hp (fun w g o q => flx_2 hX0 hB eS em N6 h0 k (i + 1) w (by omega) g o q kk)
theorem flx_ct {G : Nat → Int} {S m N : Nat} {dg : Nat → Nat} (hG : GOK ad tys GG ws) (hX : HX 4 G ws) (hB : HB G) (eS : G 0 = (S : Int)) (em : G 3 = (m : Int)) (N6 : N ≤ 6) (h0 : ∀ i, i < N → dg i < S ∧ 0 < ffX G S m N (i + 1) (mixP dg i (dg i)) ∧ ∀ d, d ≤ dg i → (0 ≤ ffX G S m N (i + 1) (mixP dg i d) ∧ ffX G S m N (i + 1) (mixP dg i d) ≤ 531441) ∧ (d < dg i → ¬ 0 < ffX G S m N (i + 1) (mixP dg i d))) : CT l D tys A 130 5 0 0 [.ref (ad 50), .ref (ad 4), .int (Int32.ofInt ((N : Int)))] ws (fun r w => r = none ∧ GOK ad tys GG w ∧ O51 ws w ∧ (∀ j, j < N → rd w 51 j = some (.int (Int32.ofInt (dg j : Int))))) := by
  refine CT_of_V (by omega) (show (3 : Nat) ≤ mML 130 by decide +kernel) ?_
  refine V_ipush mi_130_0 ?_
  refine V_istore mi_130_1 ?_
  refine V_sub (lv' := [(0, .ref (ad 50)), (1, .ref (ad 4)), (2, .int (Int32.ofInt ((N : Int)))), (3, .int (Int32.ofInt (((0 : Nat) : Int))))]) (fun q hq => ?_) ?_
  · simp only [List.mem_cons, List.not_mem_nil, or_false] at hq
    rcases hq with rfl | rfl | rfl | rfl <;> simp [stL, stL2, lv_args, Value.category]
  exact flx_2 hX hB eS em N6 h0 N 0 ws (by omega) hG (fun _ _ _ => rfl) (fun j hj => absurd hj (by omega)) (fun w g o q => ⟨rfl, g, o, q⟩)
theorem chiX_ct {G : Nat → Int} {S m : Nat} (hG : GOK ad tys GG ws) (hX : HX 4 G ws) (hB : HB G) (eS : G 0 = (S : Int)) (em : G 3 = (m : Int)) (hs : ∀ n, 1 ≤ n → n ≤ 6 → 0 ≤ ffX G S m n 0 (fun _ => 0) ∧ ffX G S m n 0 (fun _ => 0) ≤ 531441) (hl : lsZ G S m 6 1 = chN (chO G S m 6 1) ∧ ∀ q, chO G S m 6 1 = some q → (1 ≤ q.1 ∧ q.1 ≤ 6) ∧ ∀ i, i < q.1 → dgC S q.1 q.2 i < S ∧ 0 < ffX G S m q.1 (i + 1) (mixP (dgC S q.1 q.2) i (dgC S q.1 q.2 i)) ∧ ∀ d, d ≤ dgC S q.1 q.2 i → (0 ≤ ffX G S m q.1 (i + 1) (mixP (dgC S q.1 q.2) i d) ∧ ffX G S m q.1 (i + 1) (mixP (dgC S q.1 q.2) i d) ≤ 531441) ∧ (d < dgC S q.1 q.2 i → ¬ 0 < ffX G S m q.1 (i + 1) (mixP (dgC S q.1 q.2) i d))) {n : Int} (nI : I32 n) : CT l D tys A 61 6 0 0 [.ref (ad 0), .int (Int32.ofInt (n))] ws (fun r w => (GOK ad tys GG w ∧ O51 ws w) ∧ r = some (.int (if 0 < G 5 ∧ -1 ≤ n then Int32.ofInt (chV S n (chO G S m 6 1)) else Int32.ofInt (-2)))) := by
  refine CT_of_V (by omega) (show (2 : Nat) ≤ mML 61 by decide +kernel) ?_
  have n1 := nI.1
  have n2 := nI.2
  obtain ⟨L1, L2⟩ := hl
  refine V_aload (v := ad 0) mi_61_0 (by simp [stL, stL2, lv_args, Value.category]) ?_
  refine V_gR mi_61_1 g0r2 (by omega) hG ?_
  refine V_cO (As := []) (st := []) mi_61_4 (by omega) (by decide +kernel) (by decide +kernel) (by omega) g4o hG (hth_ct hG hX hB) (by omega) (show 0 = mN 101 by decide +kernel) (by simp [Value.category]) ?_
  rintro r w1 ⟨rfl, rfl⟩
  refine V_beq mi_61_7  (fun c1 => ?_) (fun c1 => ?_)
  · refine V_ipush mi_61_15 ?_
    exact V_retI mi_61_17 (fun h => absurd h (by decide +kernel)) ⟨⟨hG, fun _ _ _ => rfl⟩, by rw [if_neg (fun k => of_decide_eq_false c1 k.1)]⟩
  · refine V_iload (v := Int32.ofInt (n)) mi_61_10 (by simp [stL, stL2, lv_args, Value.category]) ?_
    refine V_ipush mi_61_11 ?_
    refine V_cge mi_61_12 ⟨by omega, by omega⟩ ⟨by omega, by omega⟩ (fun q3 => ?_) (fun q3 => ?_)
    · have k1 := of_decide_eq_true c1
      refine V_aload (v := ad 0) mi_61_18 (by simp [stL, stL2, lv_args, Value.category]) ?_
      refine V_gR mi_61_19 g0r10 (by omega) hG ?_
      refine V_aload (v := ad 0) mi_61_22 (by simp [stL, stL2, lv_args, Value.category]) ?_
      refine V_gR mi_61_23 g0r2 (by omega) hG ?_
      refine V_cO (As := [.ref (ad 4)]) (st := []) mi_61_26 (by omega) (by decide +kernel) (by decide +kernel) (by omega) g50o hG (fwx_ct hG hX hB eS em hs) (by omega) (show 1 = mN 129 by decide +kernel) (by simp [Value.category]) ?_
      rintro r w2 ⟨rfl, rfl⟩
      rw [L1]
      rw [show (if 0 < G 5 ∧ -1 ≤ n then Int32.ofInt (chV S n (chO G S m 6 1)) else Int32.ofInt (-2)) = Int32.ofInt (chV S n (chO G S m 6 1)) from if_pos ⟨k1, by omega⟩]
      generalize chO G S m 6 1 = R at L2 ⊢
      cases R with
      | none =>
        change V _ _ _ _ _ _ _ _ _ _ _ _ _ [.int (Int32.ofInt (-1))] _
        refine V_istore mi_61_29 ?_
        refine V_iload (v := Int32.ofInt (n)) mi_61_30 (by simp [stL, stL2, lv_args, Value.category]) ?_
        refine V_ipush mi_61_31 ?_
        refine V_ceq mi_61_32 ⟨by omega, by omega⟩ ⟨by omega, by omega⟩ (fun q5 => ?_) (fun q5 => ?_)
        · refine V_iload (v := Int32.ofInt (n)) mi_61_40 (by simp [stL, stL2, lv_args, Value.category]) ?_
          refine V_ipush mi_61_41 ?_
          refine V_cne mi_61_42 ⟨by omega, by omega⟩ ⟨by omega, by omega⟩ (fun q7 => ?_) (fun q7 => ?_)
          · refine V_ipush mi_61_49 ?_
            exact V_retI mi_61_50 (fun h => absurd h (by decide +kernel)) ⟨⟨hG, fun _ _ _ => rfl⟩, rfl⟩
          · refine V_iload (v := Int32.ofInt ((-1))) mi_61_45 (by simp [stL, stL2, lv_args, Value.category]) ?_
            refine V_goto mi_61_46 ?_
            exact V_retI mi_61_50 (fun h => absurd h (by decide +kernel)) ⟨⟨hG, fun _ _ _ => rfl⟩, rfl⟩
        · refine V_iload (v := Int32.ofInt (n)) mi_61_35 (by simp [stL, stL2, lv_args, Value.category]) ?_
          refine V_iload (v := Int32.ofInt ((-1))) mi_61_36 (by simp [stL, stL2, lv_args, Value.category]) ?_
          refine V_clt mi_61_37 ⟨by omega, by omega⟩ ⟨by omega, by omega⟩ (fun q6 => ?_) (fun q6 => ?_)
          · exact absurd q6 (by omega)
          · refine V_iload (v := Int32.ofInt (n)) mi_61_40 (by simp [stL, stL2, lv_args, Value.category]) ?_
            refine V_ipush mi_61_41 ?_
            refine V_cne mi_61_42 ⟨by omega, by omega⟩ ⟨by omega, by omega⟩ (fun q7 => ?_) (fun q7 => ?_)
            · refine V_ipush mi_61_49 ?_
              exact V_retI mi_61_50 (fun h => absurd h (by decide +kernel)) ⟨⟨hG, fun _ _ _ => rfl⟩, rfl⟩
            · refine V_iload (v := Int32.ofInt ((-1))) mi_61_45 (by simp [stL, stL2, lv_args, Value.category]) ?_
              refine V_goto mi_61_46 ?_
              exact V_retI mi_61_50 (fun h => absurd h (by decide +kernel)) ⟨⟨hG, fun _ _ _ => rfl⟩, rfl⟩
      | some pr =>
        obtain ⟨N, c⟩ := pr
        obtain ⟨⟨N1, N6⟩, h0⟩ := L2 _ rfl
        have N1 : 1 ≤ N := N1
        have N6 : N ≤ 6 := N6
        change V _ _ _ _ _ _ _ _ _ _ _ _ _ [.int (Int32.ofInt (N : Int))] _
        refine V_istore mi_61_29 ?_
        refine V_iload (v := Int32.ofInt (n)) mi_61_30 (by simp [stL, stL2, lv_args, Value.category]) ?_
        refine V_ipush mi_61_31 ?_
        refine V_ceq mi_61_32 ⟨by omega, by omega⟩ ⟨by omega, by omega⟩ (fun q5 => ?_) (fun q5 => ?_)
        · refine V_iload (v := Int32.ofInt (n)) mi_61_40 (by simp [stL, stL2, lv_args, Value.category]) ?_
          refine V_ipush mi_61_41 ?_
          refine V_cne mi_61_42 ⟨by omega, by omega⟩ ⟨by omega, by omega⟩ (fun q7 => ?_) (fun q7 => ?_)
          · refine V_ipush mi_61_49 ?_
            exact V_retI mi_61_50 (fun h => absurd h (by decide +kernel)) ⟨⟨hG, fun _ _ _ => rfl⟩, by show _ = some (Value.int (Int32.ofInt (if n = -1 then (N : Int) else if n < (N : Int) then ((dgC S N c n.toNat : Nat) : Int) else -1))); rw [if_neg (by omega), if_neg (by omega)]⟩
          · refine V_iload (v := Int32.ofInt ((N : Int))) mi_61_45 (by simp [stL, stL2, lv_args, Value.category]) ?_
            refine V_goto mi_61_46 ?_
            exact V_retI mi_61_50 (fun h => absurd h (by decide +kernel)) ⟨⟨hG, fun _ _ _ => rfl⟩, by show _ = some (Value.int (Int32.ofInt (if n = -1 then (N : Int) else if n < (N : Int) then ((dgC S N c n.toNat : Nat) : Int) else -1))); rw [if_pos (by omega)]⟩
        · refine V_iload (v := Int32.ofInt (n)) mi_61_35 (by simp [stL, stL2, lv_args, Value.category]) ?_
          refine V_iload (v := Int32.ofInt ((N : Int))) mi_61_36 (by simp [stL, stL2, lv_args, Value.category]) ?_
          refine V_clt mi_61_37 ⟨by omega, by omega⟩ ⟨by omega, by omega⟩ (fun q6 => ?_) (fun q6 => ?_)
          · obtain ⟨q, rfl⟩ := Int.eq_ofNat_of_zero_le (show 0 ≤ n by omega)
            refine V_aload (v := ad 0) mi_61_51 (by simp [stL, stL2, lv_args, Value.category]) ?_
            refine V_gR mi_61_52 g0r10 (by omega) hG ?_
            refine V_aload (v := ad 0) mi_61_55 (by simp [stL, stL2, lv_args, Value.category]) ?_
            refine V_gR mi_61_56 g0r2 (by omega) hG ?_
            refine V_iload (v := Int32.ofInt ((N : Int))) mi_61_59 (by simp [stL, stL2, lv_args, Value.category]) ?_
            refine V_cO (As := [.ref (ad 4), .int (Int32.ofInt ((N : Int)))]) (st := []) mi_61_60 (by omega) (by decide +kernel) (by decide +kernel) (by omega) g50o hG (flx_ct (N := N) (dg := dgC S N c) hG hX hB eS em N6 h0) (by omega) (show 2 = mN 130 by decide +kernel) (by simp [Value.category]) ?_
            rintro r w3 ⟨rfl, G3, O3, P3⟩
            refine V_aload (v := ad 0) mi_61_63 (by simp [stL, stL2, lv_args, Value.category]) ?_
            refine V_gR mi_61_64 g0r10 (by omega) G3 ?_
            refine V_gR mi_61_67 g50r0 (by omega) G3 ?_
            refine V_iload (v := Int32.ofInt ((q : Int))) mi_61_70 (by simp [stL, stL2, lv_args, Value.category]) ?_
            refine V_stat (As := [.ref (ad 51), .int (Int32.ofInt ((q : Int)))]) (st := []) mi_61_71 (by omega) (atk_ct (j := q) a51 G3 (by omega) (by omega) (P3 q (by omega))) (by omega) (show 2 = mN 147 by decide +kernel) (by simp [Value.category]) ⟨Nat.le_refl _, Nat.le_refl _⟩ ?_
            rintro r w4 ⟨e4, rfl⟩
            rw [e4]
            exact V_retI mi_61_74 (fun h => absurd h (by decide +kernel)) ⟨⟨G3, O3⟩, by show _ = some (Value.int (Int32.ofInt (if (q : Int) = -1 then (N : Int) else if (q : Int) < (N : Int) then ((dgC S N c (q : Int).toNat : Nat) : Int) else -1))); rw [if_neg (by omega), if_pos (by omega), Int.toNat_natCast]⟩
          · refine V_iload (v := Int32.ofInt (n)) mi_61_40 (by simp [stL, stL2, lv_args, Value.category]) ?_
            refine V_ipush mi_61_41 ?_
            refine V_cne mi_61_42 ⟨by omega, by omega⟩ ⟨by omega, by omega⟩ (fun q7 => ?_) (fun q7 => ?_)
            · refine V_ipush mi_61_49 ?_
              exact V_retI mi_61_50 (fun h => absurd h (by decide +kernel)) ⟨⟨hG, fun _ _ _ => rfl⟩, by show _ = some (Value.int (Int32.ofInt (if n = -1 then (N : Int) else if n < (N : Int) then ((dgC S N c n.toNat : Nat) : Int) else -1))); rw [if_neg (by omega), if_neg (by omega)]⟩
            · refine V_iload (v := Int32.ofInt ((N : Int))) mi_61_45 (by simp [stL, stL2, lv_args, Value.category]) ?_
              refine V_goto mi_61_46 ?_
              exact V_retI mi_61_50 (fun h => absurd h (by decide +kernel)) ⟨⟨hG, fun _ _ _ => rfl⟩, by show _ = some (Value.int (Int32.ofInt (if n = -1 then (N : Int) else if n < (N : Int) then ((dgC S N c n.toNat : Nat) : Int) else -1))); rw [if_pos (by omega)]⟩
    · refine V_ipush mi_61_15 ?_
      exact V_retI mi_61_17 (fun h => absurd h (by decide +kernel)) ⟨⟨hG, fun _ _ _ => rfl⟩, by rw [if_neg (fun k => by have := k.2; omega)]⟩
end XWD
