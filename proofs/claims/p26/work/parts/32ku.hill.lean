section
section XSW
theorem namW_ne {B : Nat → Int} {n : Nat} {y : Int} {F i : Nat} (hF : F < 6) (hi : i < 6 ∨ 246 ≤ i) : ∀ (f k : Nat) (s : TS) (g : Nat → Int), k + f ≤ 7 → (namW B n y F f k s g).2.2 i = g i
  | 0, k, s, g, _ => rfl
  | f + 1, k, s, g, hk => by
    have u : updI g (7 + 7 * F + k) (namR y k s) i = g i := updI_ne (by omega)
    unfold namW
    split
    · split
      · exact u
      · exact (namW_ne hF hi f (k + 1) _ _ (by omega)).trans u
    · rfl
/-- what is read so far: sayings are by folk that are there, at hours that are there -/
noncomputable def WR (fr : Nat → Int) : Prop := ((0 ≤ fr 3 ∧ fr 3 ≤ 6) ∧ (0 ≤ fr 4 ∧ fr 4 ≤ 12) ∧ 0 ≤ fr 5) ∧ (fr 5 = 0 → fr 4 = 0) ∧ ∀ s : Nat, (s : Int) < fr 4 → fr (246 + 4 * s) < fr 3 ∧ fr (246 + 4 * s + 3) < fr 2
theorem WR_same {fr fr' : Nat → Int} (h : WR fr) (e : ∀ i, (1 < i ∧ i < 6) ∨ 246 ≤ i → fr' i = fr i) : WR fr' := by
  obtain ⟨a, b, c⟩ := h
  unfold WR
  rw [e 3 (by omega), e 4 (by omega), e 5 (by omega), e 2 (by omega)]
  exact ⟨a, b, fun s hs => by rw [e _ (by omega), e _ (by omega)]; exact c s hs⟩
theorem WR_upd {fr : Nat → Int} {j : Nat} {z : Int} (h : WR fr) (hj : j < 2 ∨ (6 ≤ j ∧ j < 246)) : WR (updI fr j z) := WR_same h (fun i hi => updI_ne (by omega))
theorem folk_ok {B fr : Nat → Int} {n : Nat} {s : TS} (h : (folkT B n fr s).2.1 = 0) : s.2.1 = 0 ∧ 0 ≤ folkR fr s ∧ folkR fr s < fr 3 := by
  obtain ⟨h1, h2, h3, h4, h5⟩ := num_ok h
  have e : folkR fr s = s.1.2.2.2 := h4
  exact ⟨h1, by omega, by omega⟩
theorem hour_ok {B fr : Nat → Int} {n : Nat} {s : TS} (h : (hourT B n fr s).2.1 = 0) : s.2.1 = 0 ∧ 0 ≤ hourR fr s ∧ hourR fr s < fr 2 := by
  obtain ⟨h1, h2, h3, h4, h5⟩ := num_ok h
  have e : hourR fr s = s.1.2.2.2 := h4
  exact ⟨h1, by omega, by omega⟩
theorem othe_ok {B fr : Nat → Int} {n : Nat} {f : Int} {s : TS} (h : (otheT B n fr f s).2.1 = 0) : s.2.1 = 0 ∧ 0 ≤ otheR fr f s ∧ otheR fr f s < fr 3 := by
  obtain ⟨h1, h2, h3⟩ := folk_ok h
  refine ⟨?_, h2, h3⟩
  unfold otheP at h1
  split at h1
  · exact absurd h1 (err_ok (by decide))
  · exact h1
theorem WR_says {B fr : Nat → Int} {n : Nat} {s : TS} (h : WR fr) (n5 : ¬ fr 5 = 0) (n12 : ¬ fr 4 = 12) (g : (saT fr B n s).2.1 = 0) : WR (saG fr B n s) := by
  unfold saG
  rw [if_pos g]
  obtain ⟨g1, h0, h1⟩ := hour_ok g
  obtain ⟨g2, -, -⟩ := need_ok g1
  obtain ⟨g3, -⟩ := num_ok g2
  obtain ⟨g4, o0, o1⟩ := folk_ok g3
  obtain ⟨g5, f0, f1⟩ := folk_ok g4
  obtain ⟨⟨⟨a0, a6⟩, ⟨b0, b12⟩, c5⟩, e5, w⟩ := h
  have hk : saK fr = 246 + 4 * (fr 4).toNat := rfl
  have e4 : ∀ z, updI (updI (updI (updI (updI fr (saK fr) (saF fr s)) (saK fr + 1) (saO fr B n s : Int)) (saK fr + 2) (saI fr B n s)) (saK fr + 3) (saH fr B n s)) 4 z 4 = z := fun z => if_pos rfl
  have eo : ∀ z i, i ≠ 4 → ¬ (saK fr ≤ i ∧ i ≤ saK fr + 3) → updI (updI (updI (updI (updI fr (saK fr) (saF fr s)) (saK fr + 1) (saO fr B n s : Int)) (saK fr + 2) (saI fr B n s)) (saK fr + 3) (saH fr B n s)) 4 z i = fr i := fun z i h1 h2 => by
    rw [updI_ne h1, updI_ne (by omega), updI_ne (by omega), updI_ne (by omega), updI_ne (by omega)]
  have ek : ∀ z, updI (updI (updI (updI (updI fr (saK fr) (saF fr s)) (saK fr + 1) (saO fr B n s : Int)) (saK fr + 2) (saI fr B n s)) (saK fr + 3) (saH fr B n s)) 4 z (saK fr) = saF fr s := fun z => by
    rw [updI_ne (by omega), updI_ne (by omega), updI_ne (by omega), updI_ne (by omega)]
    exact if_pos rfl
  have ek3 : ∀ z, updI (updI (updI (updI (updI fr (saK fr) (saF fr s)) (saK fr + 1) (saO fr B n s : Int)) (saK fr + 2) (saI fr B n s)) (saK fr + 3) (saH fr B n s)) 4 z (saK fr + 3) = saH fr B n s := fun z => by
    rw [updI_ne (by omega)]
    exact if_pos rfl
  unfold WR
  rw [e4, eo _ 3 (by omega) (by omega), eo _ 5 (by omega) (by omega), eo _ 2 (by omega) (by omega)]
  refine ⟨⟨⟨a0, a6⟩, ⟨by omega, by omega⟩, c5⟩, fun q => ?_, fun i hi => ?_⟩
  · exact absurd q n5
  · by_cases e : i = (fr 4).toNat
    · have e1 : 246 + 4 * i = saK fr := by rw [hk, e]
      rw [e1, ek, ek3]
      exact ⟨f1, h1⟩
    · rw [eo _ _ (by omega) (by omega), eo _ _ (by omega) (by omega)]
      exact w i (by omega)
theorem WR_lin {B fr td : Nat → Int} {n : Nat} {s : TS} (h : WR fr) (g : (linW B n fr td s).1.2.1 = 0) : WR (linW B n fr td s).2.1 := by
  unfold linW at g ⊢
  split
  · next q =>
    obtain ⟨a, e5, w⟩ := h
    have e : ∀ i, 2 < i → firF B n fr s i = fr i := fun i hi => by
      unfold firF
      rw [updI_ne (by omega), updI_ne (by omega), updI_ne (by omega)]
    show WR (firF B n fr s)
    unfold WR
    rw [e 3 (by omega), e 4 (by omega), e 5 (by omega)]
    exact ⟨a, e5, fun i hi => by rw [e5 q] at hi; omega⟩
  · next q =>
    rw [if_neg q] at g
    have h3 := h.1.1
    unfold linN at g ⊢
    split
    · next q1 =>
      rw [if_pos q1] at g
      split
      · next q2 =>
        exact h
      · next q2 =>
        rw [if_neg q2] at g
        have hF : (fr 3).toNat < 6 := by omega
        have nw : ∀ i, (i < 6 ∨ 246 ≤ i) → (namW B n (fr 0) (fr 3).toNat 7 0 (advS B n s) fr).2.2 i = fr i := fun i hi => namW_ne hF hi 7 0 _ _ (by omega)
        obtain ⟨⟨a, b, c⟩, e5, w⟩ := h
        show WR (namZ (fr 3).toNat (namW B n (fr 0) (fr 3).toNat 7 0 (advS B n s) fr))
        unfold namZ
        rw [if_pos g]
        have e3 : ∀ (x : Nat → Int) z, updI x 3 z 3 = z := fun x z => if_pos rfl
        have eo : ∀ i, i ≠ 3 → (i < 6 ∨ 246 ≤ i) → updI (updI (updI (namW B n (fr 0) (fr 3).toNat 7 0 (advS B n s) fr).2.2 (6 + 7 * (fr 3).toNat) ((namW B n (fr 0) (fr 3).toNat 7 0 (advS B n s) fr).2.1 : Int)) (48 + (fr 3).toNat) 1) 3 (((fr 3).toNat : Int) + 1) i = fr i := fun i h1 h2 => by
          rw [updI_ne h1, updI_ne (by omega), updI_ne (by omega), nw i h2]
        unfold WR
        rw [e3, eo 4 (by omega) (by omega), eo 5 (by omega) (by omega), eo 2 (by omega) (by omega)]
        exact ⟨⟨⟨by omega, by omega⟩, b, c⟩, e5, fun i hi => by
          rw [eo _ (by omega) (by omega), eo _ (by omega) (by omega)]
          have := w i hi
          omega⟩
    · next q1 =>
      rw [if_neg q1] at g
      split
      · next q2 =>
        rw [if_pos q2] at g
        obtain ⟨g1, -⟩ := num_ok g
        obtain ⟨-, f0, f1⟩ := folk_ok g1
        show WR (stF fr B n (advS B n s))
        unfold stF
        rw [if_pos g]
        exact WR_upd h (by omega)
      · next q2 =>
        rw [if_neg q2] at g
        split
        · next q3 =>
          rw [if_pos q3] at g
          obtain ⟨g1, -⟩ := num_ok g
          obtain ⟨-, f0, f1⟩ := folk_ok g1
          show WR (deF fr B n (advS B n s))
          unfold deF
          rw [if_pos g]
          exact WR_upd h (by omega)
        · next q3 =>
          rw [if_neg q3] at g
          split
          · next q4 => exact h
          · next q4 =>
            rw [if_neg q4] at g
            split
            · next q5 =>
              rw [if_pos q5] at g
              obtain ⟨g1, -⟩ := num_ok (show (numT B n 0 _ (knS fr B n (advS B n s))).2.1 = 0 from g)
              obtain ⟨g2, o0, o1⟩ := othe_ok g1
              obtain ⟨-, f0, f1⟩ := folk_ok g2
              show WR (knG fr B n (advS B n s))
              unfold knG
              rw [if_pos g]
              refine WR_upd h ?_
              have e1 : knF fr (advS B n s) = folkR fr (advS B n s) := rfl
              have e2 : knO fr B n (advS B n s) = (otheR fr (knF fr (advS B n s)) (folkT B n fr (advS B n s))).toNat := rfl
              unfold knJ
              omega
            · next q5 =>
              rw [if_neg q5] at g
              split
              · next q6 =>
                rw [if_pos q6] at g
                split
                · exact h
                · next q7 =>
                  rw [if_neg q7] at g
                  exact WR_says h q q7 g
              · next q6 =>
                rw [if_neg q6] at g
                split
                · next q7 =>
                  rw [if_pos q7] at g
                  obtain ⟨g2, o0, o1⟩ := othe_ok g
                  show WR (foF fr B n (advS B n s))
                  unfold foF
                  rw [if_pos g]
                  refine WR_upd h ?_
                  have e2 : foO fr B n (advS B n s) = (otheR fr (folkR fr (advS B n s)) (folkT B n fr (advS B n s))).toNat := rfl
                  omega
                · exact h
theorem WR_linS {B : Nat → Int} {n : Nat} {x : TS × (Nat → Int) × (Nat → Int)} (h : WR x.2.1) (g : (linS B n x).1.2.1 = 0) : WR (linS B n x).2.1 := by
  have g0 : (linW B n x.2.1 x.2.2 x.1).1.2.1 = 0 := by
    have gs : (signS (linW B n x.2.1 x.2.2 x.1).1).2.1 = 0 := by
      unfold linS at g
      by_cases e : (signS (linW B n x.2.1 x.2.2 x.1).1).2.1 = 0
      · exact e
      · rw [if_neg e] at g
        exact absurd g e
    exact (sign_ok gs).1
  have w := WR_lin (td := x.2.2) h g0
  obtain ⟨⟨a, b, c⟩, e5, ws⟩ := w
  show WR (updI (linW B n x.2.1 x.2.2 x.1).2.1 5 ((linW B n x.2.1 x.2.2 x.1).2.1 5 + 1))
  have e : ∀ i, i ≠ 5 → updI (linW B n x.2.1 x.2.2 x.1).2.1 5 ((linW B n x.2.1 x.2.2 x.1).2.1 5 + 1) i = (linW B n x.2.1 x.2.2 x.1).2.1 i := fun i hi => updI_ne hi
  have e55 : updI (linW B n x.2.1 x.2.2 x.1).2.1 5 ((linW B n x.2.1 x.2.2 x.1).2.1 5 + 1) 5 = (linW B n x.2.1 x.2.2 x.1).2.1 5 + 1 := if_pos rfl
  unfold WR
  rw [e 3 (by omega), e 4 (by omega), e 2 (by omega), e55]
  exact ⟨⟨a, b, by omega⟩, fun q => by omega, fun i hi => by rw [e _ (by omega), e _ (by omega)]; exact ws i hi⟩
theorem WR_linA {B : Nat → Int} {n : Nat} : ∀ (f : Nat) (x : TS × (Nat → Int) × (Nat → Int)), (x.1.2.1 = 0 → WR x.2.1) → (linA B n f x).1.2.1 = 0 → WR (linA B n f x).2.1
  | 0, x, h, g => h g
  | f + 1, x, h, g => by
    unfold linA at g ⊢
    split
    · next q =>
      rw [if_pos q] at g
      exact WR_linA f _ (fun g1 => WR_linS (h q.1) g1) g
    · next q =>
      rw [if_neg q] at g
      exact h g
theorem WF_hill {B : Nat → Int} {n : Nat} {v0 : Int} (g : (hillX B n v0).1.2.1 = 0) : WF (endG (hillX B n v0)) := by
  obtain ⟨-, -, w⟩ := WR_linA 1402 (hill0 B n v0) (fun _ => ⟨⟨⟨by show (0 : Int) ≤ 0; omega, by show (0 : Int) ≤ 6; omega⟩, ⟨by show (0 : Int) ≤ 0; omega, by show (0 : Int) ≤ 12; omega⟩, by show (0 : Int) ≤ 0; omega⟩, fun _ => rfl, fun s hs => by
    have hs : (s : Int) < 0 := hs
    omega⟩) g
  intro s hs
  have e : ∀ i, i < 102 ∨ 246 ≤ i → endG (hillX B n v0) i = (hillX B n v0).2.1 i := fun i hi => if_neg (by omega)
  rw [e 4 (by omega)] at hs
  rw [e 3 (by omega), e 2 (by omega), e _ (by omega), e _ (by omega)]
  exact w s hs
end XSW
section XSJ
variable {l : Launch} {D : va_G} {tys : List (ClassId × FieldType)} {A : Nat → Prop} {ad : Nat → Nat} {ws : va_W}
/-- the class's hill, as a function of the world -/
noncomputable def hlO (w : va_W) (j : Nat) : Int := match rd w (4 + hxC j) (hxI j) with
  | some (.int z) => z.toInt
  | _ => 0
theorem hxC_le (j : Nat) : hxC j ≤ 11 := by
  unfold hxC
  split
  · omega
  · split
    · split <;> omega
    · split
      · omega
      · split
        · omega
        · split
          · omega
          · split
            · omega
            · split <;> omega
theorem hlO_keep {w w' : va_W} (o : ∀ c j, 4 ≤ c → c ≤ 15 → rd w' c j = rd w c j) : hlO w' = hlO w := by
  funext j
  have := hxC_le j
  unfold hlO
  rw [o _ _ (by omega) (by omega)]
theorem hlO_eq {G : Nat → Int} {w : va_W} (hX : HX 4 G w) {j : Nat} (hj : j < 294) (h : I32 (G j)) : hlO w j = G j := by
  unfold hlO
  rw [hX j hj]
  exact Int32.toInt_ofInt_of_le h.1 (by have := h.2; omega)
theorem hlO_X {G : Nat → Int} {w : va_W} (hX : HX 4 G w) (hO : hOK G) : HX 4 (hlO w) w := fun j hj => by
  rw [hlO_eq hX hj (hO j hj)]
  exact hX j hj
/-- the story is that of the hill that stands -/
noncomputable def STX (w : va_W) : Prop := HX 4 (hlO w) w → HB (hlO w) → WF (hlO w) → STO (hlO w) w
theorem STX_keep {w w' : va_W} (h : STX w) (o : ∀ c j, (4 ≤ c ∧ c ≤ 15) ∨ (29 ≤ c ∧ c ≤ 35 ∧ c ≠ 31) → rd w' c j = rd w c j) : STX w' := by
  have e : hlO w' = hlO w := hlO_keep (fun c j h1 h2 => o c j (Or.inl ⟨h1, h2⟩))
  intro x b f
  rw [e] at x b f ⊢
  exact STO_keep (h (HX_keep x (fun c i h1 h2 => (o c i (by omega)).symm)) b f) (fun c j hc => o c j (Or.inr hc))
theorem set3_ct (hAD : ∀ i : Nat, ad (1000 + i) = D.2 1000 i) (hG : GOK ad tys GG ws) : ∃ d', d' < 7 ∧ CT l D tys A 73 d' 0 0 [.ref (ad 0)] ws (fun r w => r = none ∧ GOK ad tys GG w ∧ STX w ∧ ∀ c j, ¬ (29 ≤ c ∧ c ≤ 35) → rd w c j = rd ws c j) := by
  by_cases h : HX 4 (hlO ws) ws ∧ HB (hlO ws) ∧ WF (hlO ws)
  · refine ⟨5, by omega, CT_post (set2_ct hG h.1 h.2.1 h.2.2) (fun r w q => ?_)⟩
    obtain ⟨e, g, s, o⟩ := q
    have eq : hlO w = hlO ws := hlO_keep (fun c j h1 h2 => o c j (by omega))
    exact ⟨e, g, fun _ _ _ => by rw [eq]; exact s, o⟩
  · obtain ⟨d', dl, c⟩ := set_ct (l := l) (A := A) hAD hG
    refine ⟨d', dl, CT_post c (fun r w q => ?_)⟩
    obtain ⟨e, g, o⟩ := q
    have eq : hlO w = hlO ws := hlO_keep (fun c j h1 h2 => o c j (by omega))
    refine ⟨e, g, fun x b f => ?_, o⟩
    rw [eq] at x b f
    exact absurd ⟨HX_keep x (fun c i h1 h2 => (o c i (by omega)).symm), b, f⟩ h
noncomputable def XOT (w0 w : va_W) : Prop := XO w0 w ∧ (STX w0 → STX w)
theorem XOT_rf {w : va_W} : XOT w w := ⟨XO_rf, fun h => h⟩
theorem sayXS_ct (hAD : ∀ i : Nat, ad (1000 + i) = D.2 1000 i) {G : Nat → Int} (hG : GOK ad tys GG ws) (hX : HX 4 G ws) (hB : HB G) {f o i h : Int} (fI : I32 f) (oI : I32 o) (iI : I32 i) (hI : I32 h) : CT l D tys A 41 8 0 0 [.ref (ad 0), .int (Int32.ofInt (f)), .int (Int32.ofInt (o)), .int (Int32.ofInt (i)), .int (Int32.ofInt (h))] ws (fun r w => GOK ad tys GG w ∧ XOT ws w ∧ (¬ okSy G f o i h → r = some (.int (Int32.ofInt (-2))) ∧ HX 4 G w) ∧ (okSy G f o i h → (G 4 = 12 → r = some (.int (Int32.ofInt (-3))) ∧ HX 4 G w) ∧ (G 4 < 12 → r = some (.int (Int32.ofInt (G 4))) ∧ HX 4 (sayG G f o i h) w))) := by
  refine CT_of_V (by omega) (show (5 : Nat) ≤ mML 41 by decide +kernel) ?_
  refine V_aload (v := ad 0) mi_41_0 (by simp [stL, lv_args, Value.category]) ?_
  refine V_gR mi_41_1 g0r2 (by omega) hG ?_
  refine V_iload (v := Int32.ofInt (f)) mi_41_4 (by simp [stL, lv_args, Value.category]) ?_
  refine V_cO (As := [.int (Int32.ofInt (f))]) (st := []) mi_41_5 (by omega) (by decide +kernel) (by decide +kernel) (by omega) g4o hG (hfk_ct hG hX hB fI) (by omega) (show 1 = mN 102 by decide +kernel) (by simp [Value.category]) ?_
  rintro r w1 ⟨rfl, rfl⟩
  refine V_beq mi_41_8  (fun c1 => ?_) (fun c1 => ?_)
  · refine V_ipush mi_41_35 ?_
    exact V_retI mi_41_37 (fun h => absurd h (by decide +kernel)) ⟨hG, XOT_rf, fun _ => ⟨rfl, hX⟩, fun k => absurd k (fun k => of_decide_eq_false c1 k.1)⟩
  · refine V_aload (v := ad 0) mi_41_11 (by simp [stL, lv_args, Value.category]) ?_
    refine V_gR mi_41_12 g0r2 (by omega) hG ?_
    refine V_iload (v := Int32.ofInt (o)) mi_41_15 (by simp [stL, lv_args, Value.category]) ?_
    refine V_iload (v := Int32.ofInt (i)) mi_41_16 (by simp [stL, lv_args, Value.category]) ?_
    refine V_cO (As := [.int (Int32.ofInt (o)), .int (Int32.ofInt (i))]) (st := []) mi_41_17 (by omega) (by decide +kernel) (by decide +kernel) (by omega) g4o hG (hsy_ct hG hX hB oI iI) (by omega) (show 2 = mN 105 by decide +kernel) (by simp [Value.category]) ?_
    rintro r w2 ⟨rfl, rfl⟩
    refine V_beq mi_41_20  (fun c2 => ?_) (fun c2 => ?_)
    · refine V_ipush mi_41_35 ?_
      exact V_retI mi_41_37 (fun h => absurd h (by decide +kernel)) ⟨hG, XOT_rf, fun _ => ⟨rfl, hX⟩, fun k => absurd k (fun k => of_decide_eq_false c2 k.2.1)⟩
    · refine V_aload (v := ad 0) mi_41_23 (by simp [stL, lv_args, Value.category]) ?_
      refine V_gR mi_41_24 g0r2 (by omega) hG ?_
      refine V_iload (v := Int32.ofInt (h)) mi_41_27 (by simp [stL, lv_args, Value.category]) ?_
      refine V_cO (As := [.int (Int32.ofInt (h))]) (st := []) mi_41_29 (by omega) (by decide +kernel) (by decide +kernel) (by omega) g4o hG (hho_ct hG hX hB hI) (by omega) (show 1 = mN 103 by decide +kernel) (by simp [Value.category]) ?_
      rintro r w3 ⟨rfl, rfl⟩
      refine V_bne mi_41_32  (fun c3 => ?_) (fun c3 => ?_)
      · have ok : okSy G f o i h := ⟨of_decide_eq_true c1, of_decide_eq_true c2, of_decide_eq_true c3⟩
        have b4 := hB.b4
        refine V_aload (v := ad 0) mi_41_38 (by simp [stL, lv_args, Value.category]) ?_
        refine V_gR mi_41_39 g0r2 (by omega) hG ?_
        refine V_gO mi_41_42 g4o hG (show rd _ 4 5 = some (.int (Int32.ofInt (G 4))) from hx0 hX (i := 5) (by omega)) ?_
        refine V_ipush mi_41_45 ?_
        refine V_clt mi_41_47 ⟨by omega, by omega⟩ ⟨by omega, by omega⟩ (fun q4 => ?_) (fun q4 => ?_)
        · refine V_aload (v := ad 0) mi_41_53 (by simp [stL, lv_args, Value.category]) ?_
          refine V_gR mi_41_54 g0r2 (by omega) hG ?_
          refine V_gO mi_41_57 g4o hG (show rd _ 4 5 = some (.int (Int32.ofInt (G 4))) from hx0 hX (i := 5) (by omega)) ?_
          refine V_istore mi_41_60 ?_
          refine V_aload (v := ad 0) mi_41_62 (by simp [stL, lv_args, Value.category]) ?_
          refine V_gR mi_41_63 g0r2 (by omega) hG ?_
          refine V_iload (v := Int32.ofInt (f)) mi_41_66 (by simp [stL, lv_args, Value.category]) ?_
          refine V_iload (v := Int32.ofInt (o)) mi_41_67 (by simp [stL, lv_args, Value.category]) ?_
          refine V_iload (v := Int32.ofInt (i)) mi_41_68 (by simp [stL, lv_args, Value.category]) ?_
          refine V_iload (v := Int32.ofInt (h)) mi_41_69 (by simp [stL, lv_args, Value.category]) ?_
          refine V_cO (As := [.int (Int32.ofInt (f)), .int (Int32.ofInt (o)), .int (Int32.ofInt (i)), .int (Int32.ofInt (h))]) (st := []) mi_41_71 (by omega) (by decide +kernel) (by decide +kernel) (by omega) g4o hG (adh_ct hG hX hB (by omega)) (by omega) (show 4 = mN 112 by decide +kernel) (by simp [Value.category]) ?_
          rintro r w4 ⟨rfl, G4, hX4, O4⟩
          obtain ⟨ds, dl, sc⟩ := set3_ct (l := l) (A := A) hAD G4
          refine V_aload (v := ad 0) mi_41_74 (by simp [stL, lv_args, Value.category]) ?_
          refine V_cO (As := []) (st := []) mi_41_75 (by omega) (by decide +kernel) (by decide +kernel) (by omega) g0o G4 (sc) (by omega) (show 0 = mN 73 by decide +kernel) (by simp [Value.category]) ?_
          rintro r w5 ⟨rfl, G5, S_, O5⟩
          refine V_iload (v := Int32.ofInt (G 4)) mi_41_78 (by simp [stL, lv_args, Value.category]) ?_
          exact V_retI mi_41_80 (fun h => absurd h (by decide +kernel)) ⟨G5, ⟨fun c j hn => (O5 c j (by omega)).trans (O4 c j hn), fun _ => S_⟩, fun k => absurd ok k, fun _ => ⟨fun k => absurd k (by omega), fun _ => ⟨rfl, HX_keep hX4 (fun c i h1 h2 => O5 c i (by omega))⟩⟩⟩
        · refine V_ipush mi_41_50 ?_
          exact V_retI mi_41_52 (fun h => absurd h (by decide +kernel)) ⟨hG, XOT_rf, fun k => absurd ok k, fun _ => ⟨fun _ => ⟨rfl, hX⟩, fun k => absurd k (by omega)⟩⟩
      · refine V_ipush mi_41_35 ?_
        exact V_retI mi_41_37 (fun h => absurd h (by decide +kernel)) ⟨hG, XOT_rf, fun _ => ⟨rfl, hX⟩, fun k => absurd k (fun k => of_decide_eq_false c3 k.2.2)⟩
theorem unsXS_ct (hAD : ∀ i : Nat, ad (1000 + i) = D.2 1000 i) {G : Nat → Int} (hG : GOK ad tys GG ws) (hX : HX 4 G ws) (hB : HB G) : CT l D tys A 42 8 0 0 [.ref (ad 0)] ws (fun r w => GOK ad tys GG w ∧ XOT ws w ∧ (¬ 0 < G 5 → r = some (.int (Int32.ofInt (-2))) ∧ HX 4 G w) ∧ (0 < G 5 → (G 4 = 0 → r = some (.int (Int32.ofInt (-5))) ∧ HX 4 G w) ∧ (0 < G 4 → r = some (.int (Int32.ofInt (G 4 - 1))) ∧ HX 4 (updI G 4 (G 4 - 1)) w))) := by
  refine CT_of_V (by omega) (show (1 : Nat) ≤ mML 42 by decide +kernel) ?_
  have b4 := hB.b4
  refine V_aload (v := ad 0) mi_42_0 (by simp [stL, lv_args, Value.category]) ?_
  refine V_gR mi_42_1 g0r2 (by omega) hG ?_
  refine V_cO (As := []) (st := []) mi_42_4 (by omega) (by decide +kernel) (by decide +kernel) (by omega) g4o hG (hth_ct hG hX hB) (by omega) (show 0 = mN 101 by decide +kernel) (by simp [Value.category]) ?_
  rintro r w1 ⟨rfl, rfl⟩
  refine V_bne mi_42_7  (fun c1 => ?_) (fun c1 => ?_)
  · have ok := of_decide_eq_true c1
    refine V_aload (v := ad 0) mi_42_13 (by simp [stL, lv_args, Value.category]) ?_
    refine V_gR mi_42_14 g0r2 (by omega) hG ?_
    refine V_gO mi_42_17 g4o hG (show rd _ 4 5 = some (.int (Int32.ofInt (G 4))) from hx0 hX (i := 5) (by omega)) ?_
    refine V_zgt mi_42_20 ⟨by omega, by omega⟩ (fun q => ?_) (fun q => ?_)
    · refine V_aload (v := ad 0) mi_42_26 (by simp [stL, lv_args, Value.category]) ?_
      refine V_gR mi_42_27 g0r2 (by omega) hG ?_
      refine V_dup mi_42_30 (by simp [Value.category]) ?_
      refine V_gO mi_42_31 g4o hG (show rd _ 4 5 = some (.int (Int32.ofInt (G 4))) from hx0 hX (i := 5) (by omega)) ?_
      refine V_ipush mi_42_34 ?_
      refine V_ibin mi_42_35 (by omega) ?_
      rw [ib1]
      refine V_pO mi_42_36 g4f5 (by omega) (by decide +kernel) (by decide +kernel) hG (by rw [Int32.toInt_ofInt_of_le (by omega) (by omega)]; omega) (by rw [Int32.toInt_ofInt_of_le (by omega) (by omega)]; omega) (fun w2 G2 U2 => ?_)
      have hX2 := HX_upd (j := 4) (z := G 4 - 1) hX (by omega) U2
      obtain ⟨ds, dl, sc⟩ := set3_ct (l := l) (A := A) hAD G2
      refine V_aload (v := ad 0) mi_42_39 (by simp [stL, lv_args, Value.category]) ?_
      refine V_cO (As := []) (st := []) mi_42_40 (by omega) (by decide +kernel) (by decide +kernel) (by omega) g0o G2 (sc) (by omega) (show 0 = mN 73 by decide +kernel) (by simp [Value.category]) ?_
      rintro r w3 ⟨rfl, G3, S_, O3⟩
      have hX3 := HX_keep hX2 (fun c i h1 h2 => O3 c i (by omega))
      refine V_aload (v := ad 0) mi_42_43 (by simp [stL, lv_args, Value.category]) ?_
      refine V_gR mi_42_44 g0r2 (by omega) G3 ?_
      refine V_gO mi_42_47 g4o G3 (show rd w3 4 5 = some (.int (Int32.ofInt (G 4 - 1))) from (O3 _ _ (by omega)).trans (upd_eq U2)) ?_
      exact V_retI mi_42_50 (fun h => absurd h (by decide +kernel)) ⟨G3, ⟨fun c j hn => (O3 c j (by omega)).trans (upd_ne U2 (by omega)), fun _ => S_⟩, fun k => absurd ok k, fun _ => ⟨fun k => absurd k (by omega), fun _ => ⟨rfl, hX3⟩⟩⟩
    · refine V_ipush mi_42_23 ?_
      exact V_retI mi_42_25 (fun h => absurd h (by decide +kernel)) ⟨hG, XOT_rf, fun k => absurd ok k, fun _ => ⟨fun _ => ⟨rfl, hX⟩, fun k => absurd k (by omega)⟩⟩
  · refine V_ipush mi_42_10 ?_
    exact V_retI mi_42_12 (fun h => absurd h (by decide +kernel)) ⟨hG, XOT_rf, fun _ => ⟨rfl, hX⟩, fun k => absurd k (of_decide_eq_false c1)⟩
theorem movXS_ct (hAD : ∀ i : Nat, ad (1000 + i) = D.2 1000 i) {G : Nat → Int} (hG : GOK ad tys GG ws) (hX : HX 4 G ws) (hB : HB G) {f p h : Int} (fI : I32 f) (pI : I32 p) (hI : I32 h) : CT l D tys A 43 8 0 0 [.ref (ad 0), .int (Int32.ofInt (f)), .int (Int32.ofInt (p)), .int (Int32.ofInt (h))] ws (fun r w => GOK ad tys GG w ∧ XOT ws w ∧ (¬ okMv G f p h → r = some (.int (Int32.ofInt (-2))) ∧ HX 4 G w) ∧ (okMv G f p h → r = some (.int (Int32.ofInt (G (102 + (24 * f.toNat + h.toNat))))) ∧ HX 4 (movG G f p h) w)) := by
  refine CT_of_V (by omega) (show (4 : Nat) ≤ mML 43 by decide +kernel) ?_
  refine V_aload (v := ad 0) mi_43_0 (by simp [stL, lv_args, Value.category]) ?_
  refine V_gR mi_43_1 g0r2 (by omega) hG ?_
  refine V_iload (v := Int32.ofInt (f)) mi_43_4 (by simp [stL, lv_args, Value.category]) ?_
  refine V_cO (As := [.int (Int32.ofInt (f))]) (st := []) mi_43_5 (by omega) (by decide +kernel) (by decide +kernel) (by omega) g4o hG (hfk_ct hG hX hB fI) (by omega) (show 1 = mN 102 by decide +kernel) (by simp [Value.category]) ?_
  rintro r w1 ⟨rfl, rfl⟩
  refine V_beq mi_43_8  (fun c1 => ?_) (fun c1 => ?_)
  · refine V_ipush mi_43_37 ?_
    exact V_retI mi_43_39 (fun h => absurd h (by decide +kernel)) ⟨hG, XOT_rf, fun _ => ⟨rfl, hX⟩, fun k => absurd k (fun k => of_decide_eq_false c1 k.1)⟩
  · refine V_aload (v := ad 0) mi_43_11 (by simp [stL, lv_args, Value.category]) ?_
    refine V_gR mi_43_12 g0r2 (by omega) hG ?_
    refine V_iload (v := Int32.ofInt (h)) mi_43_15 (by simp [stL, lv_args, Value.category]) ?_
    refine V_cO (As := [.int (Int32.ofInt (h))]) (st := []) mi_43_16 (by omega) (by decide +kernel) (by decide +kernel) (by omega) g4o hG (hho_ct hG hX hB hI) (by omega) (show 1 = mN 103 by decide +kernel) (by simp [Value.category]) ?_
    rintro r w2 ⟨rfl, rfl⟩
    refine V_beq mi_43_19  (fun c2 => ?_) (fun c2 => ?_)
    · refine V_ipush mi_43_37 ?_
      exact V_retI mi_43_39 (fun h => absurd h (by decide +kernel)) ⟨hG, XOT_rf, fun _ => ⟨rfl, hX⟩, fun k => absurd k (fun k => of_decide_eq_false c2 k.2.1)⟩
    · refine V_iload (v := Int32.ofInt (p)) mi_43_22 (by simp [stL, lv_args, Value.category]) ?_
      refine V_zlt mi_43_23 pI (fun q3 => ?_) (fun q3 => ?_)
      · refine V_ipush mi_43_37 ?_
        exact V_retI mi_43_39 (fun h => absurd h (by decide +kernel)) ⟨hG, XOT_rf, fun _ => ⟨rfl, hX⟩, fun k => absurd k (fun k => by have := k.2.2; omega)⟩
      · refine V_iload (v := Int32.ofInt (p)) mi_43_26 (by simp [stL, lv_args, Value.category]) ?_
        refine V_aload (v := ad 0) mi_43_27 (by simp [stL, lv_args, Value.category]) ?_
        refine V_gR mi_43_28 g0r2 (by omega) hG ?_
        refine V_gO mi_43_31 g4o hG (show rd _ 4 2 = some (.int (Int32.ofInt (G 1))) from hx0 hX (i := 2) (by omega)) ?_
        refine V_clt mi_43_34 pI ⟨by have := hB.b1; omega, by have := hB.b1; omega⟩ (fun q4 => ?_) (fun q4 => ?_)
        · have c11 := of_decide_eq_true c1
          have c22 := of_decide_eq_true c2
          have ok : okMv G f p h := ⟨c11, c22, q3, q4⟩
          have b3 := hB.b3
          have b2 := hB.b2
          obtain ⟨m, rfl⟩ := Int.eq_ofNat_of_zero_le c11.1
          obtain ⟨n, rfl⟩ := Int.eq_ofNat_of_zero_le c22.1
          refine V_aload (v := ad 0) mi_43_40 (by simp [stL, lv_args, Value.category]) ?_
          refine V_gR mi_43_41 g0r2 (by omega) hG ?_
          refine V_iload (v := Int32.ofInt ((m : Int))) mi_43_44 (by simp [stL, lv_args, Value.category]) ?_
          refine V_iload (v := Int32.ofInt ((n : Int))) mi_43_45 (by simp [stL, lv_args, Value.category]) ?_
          refine V_cO (As := [.int (Int32.ofInt ((m : Int))), .int (Int32.ofInt ((n : Int)))]) (st := []) mi_43_46 (by omega) (by decide +kernel) (by decide +kernel) (by omega) g4o hG (hpl_ct (f := m) (h := n) hG hX hB c11.2 c22.2) (by omega) (show 2 = mN 110 by decide +kernel) (by simp [Value.category]) ?_
          rintro r w3 ⟨rfl, rfl⟩
          obtain ⟨s10, e10, f10⟩ := a10
          refine V_istore mi_43_49 ?_
          refine V_aload (v := ad 0) mi_43_51 (by simp [stL, lv_args, Value.category]) ?_
          refine V_gR mi_43_52 g0r2 (by omega) hG ?_
          refine V_gR mi_43_55 g4r11 (by omega) hG ?_
          refine V_iload (v := Int32.ofInt ((m : Int))) mi_43_58 (by simp [stL, lv_args, Value.category]) ?_
          refine V_ipush mi_43_59 ?_
          refine V_ibin mi_43_61 (by omega) ?_
          rw [ib2]
          refine V_iload (v := Int32.ofInt ((n : Int))) mi_43_62 (by simp [stL, lv_args, Value.category]) ?_
          refine V_ibin mi_43_63 (by omega) ?_
          rw [ib0]
          refine V_iload (v := Int32.ofInt (p)) mi_43_64 (by simp [stL, lv_args, Value.category]) ?_
          rw [show (m : Int) * 24 + (n : Int) = ((24 * m + n : Nat) : Int) by omega]
          refine V_stat (As := [.ref (ad 10), .int (Int32.ofInt (((24 * m + n : Nat) : Int))), .int (Int32.ofInt (p))]) (st := []) mi_43_65 (by omega) (put_ct (j := 24 * m + n) hG e10 (by omega) (by omega) (f10 _ (by omega)) (i32b _).1 (i32b _).2) (by omega) (show 3 = mN 148 by decide +kernel) (by simp [Value.category]) ⟨Nat.le_refl _, Nat.le_refl _⟩ ?_
          rintro r w4 ⟨rfl, G4, U4⟩
          obtain ⟨x1, x2⟩ := stay_hx (j := 24 * m + n) (by omega)
          have hX4 := HX_upd (j := 102 + (24 * m + n)) (z := p) hX (by omega) (by rw [x1, x2]; exact U4)
          obtain ⟨ds, dl, sc⟩ := set3_ct (l := l) (A := A) hAD G4
          refine V_aload (v := ad 0) mi_43_68 (by simp [stL, lv_args, Value.category]) ?_
          refine V_cO (As := []) (st := []) mi_43_69 (by omega) (by decide +kernel) (by decide +kernel) (by omega) g0o G4 (sc) (by omega) (show 0 = mN 73 by decide +kernel) (by simp [Value.category]) ?_
          rintro r w5 ⟨rfl, G5, S_, O5⟩
          refine V_iload (v := Int32.ofInt (G (102 + (24 * m + n)))) mi_43_72 (by simp [stL, lv_args, Value.category]) ?_
          have hX5 := HX_keep hX4 (fun c i h1 h2 => O5 c i (by omega))
          exact V_retI mi_43_74 (fun h => absurd h (by decide +kernel)) ⟨G5, ⟨fun c j hn => (O5 c j (by omega)).trans (upd_ne U4 (by omega)), fun _ => S_⟩, fun k => absurd ok k, fun _ => ⟨rfl, hX5⟩⟩
        · refine V_ipush mi_43_37 ?_
          exact V_retI mi_43_39 (fun h => absurd h (by decide +kernel)) ⟨hG, XOT_rf, fun _ => ⟨rfl, hX⟩, fun k => absurd k (fun k => by have := k.2.2; omega)⟩
theorem teaXS_ct (hAD : ∀ i : Nat, ad (1000 + i) = D.2 1000 i) {G : Nat → Int} (hG : GOK ad tys GG ws) (hX : HX 4 G ws) (hB : HB G) {f o i t : Int} (fI : I32 f) (oI : I32 o) (iI : I32 i) (tI : I32 t) : CT l D tys A 44 8 0 0 [.ref (ad 0), .int (Int32.ofInt (f)), .int (Int32.ofInt (o)), .int (Int32.ofInt (i)), .int (Int32.ofInt (t))] ws (fun r w => GOK ad tys GG w ∧ XOT ws w ∧ (¬ okTe G f o i t → r = some (.int (Int32.ofInt (-2))) ∧ HX 4 G w) ∧ (okTe G f o i t → r = some (.int (ibF 5 (ibF 9 (Int32.ofInt (G (teaJ f o))) (Int32.ofInt i)) (Int32.ofInt 1))) ∧ HX 4 (teaG G f o i t) w)) := by
  refine CT_of_V (by omega) (show (5 : Nat) ≤ mML 44 by decide +kernel) ?_
  refine V_aload (v := ad 0) mi_44_0 (by simp [stL, lv_args, Value.category]) ?_
  refine V_iload (v := Int32.ofInt (f)) mi_44_1 (by simp [stL, lv_args, Value.category]) ?_
  refine V_iload (v := Int32.ofInt (o)) mi_44_2 (by simp [stL, lv_args, Value.category]) ?_
  refine V_cO (As := [.int (Int32.ofInt (f)), .int (Int32.ofInt (o))]) (st := []) mi_44_3 (by omega) (by decide +kernel) (by decide +kernel) (by omega) g0o hG (x2_ct hG hX hB fI oI) (by omega) (show 2 = mN 74 by decide +kernel) (by simp [Value.category]) ?_
  rintro r w1 ⟨rfl, rfl⟩
  refine V_beq mi_44_6  (fun c1 => ?_) (fun c1 => ?_)
  · refine V_ipush mi_44_32 ?_
    exact V_retI mi_44_34 (fun h => absurd h (by decide +kernel)) ⟨hG, XOT_rf, fun _ => ⟨rfl, hX⟩, fun k => absurd k (fun k => of_decide_eq_false c1 k.1)⟩
  · refine V_aload (v := ad 0) mi_44_9 (by simp [stL, lv_args, Value.category]) ?_
    refine V_gR mi_44_10 g0r2 (by omega) hG ?_
    refine V_iload (v := Int32.ofInt (o)) mi_44_13 (by simp [stL, lv_args, Value.category]) ?_
    refine V_iload (v := Int32.ofInt (i)) mi_44_14 (by simp [stL, lv_args, Value.category]) ?_
    refine V_cO (As := [.int (Int32.ofInt (o)), .int (Int32.ofInt (i))]) (st := []) mi_44_15 (by omega) (by decide +kernel) (by decide +kernel) (by omega) g4o hG (hsy_ct hG hX hB oI iI) (by omega) (show 2 = mN 105 by decide +kernel) (by simp [Value.category]) ?_
    rintro r w2 ⟨rfl, rfl⟩
    refine V_beq mi_44_18  (fun c2 => ?_) (fun c2 => ?_)
    · refine V_ipush mi_44_32 ?_
      exact V_retI mi_44_34 (fun h => absurd h (by decide +kernel)) ⟨hG, XOT_rf, fun _ => ⟨rfl, hX⟩, fun k => absurd k (fun k => of_decide_eq_false c2 ⟨k.1.2.1, k.2.1⟩)⟩
    · refine V_iload (v := Int32.ofInt (t)) mi_44_21 (by simp [stL, lv_args, Value.category]) ?_
      refine V_zlt mi_44_23 tI (fun q3 => ?_) (fun q3 => ?_)
      · refine V_ipush mi_44_32 ?_
        exact V_retI mi_44_34 (fun h => absurd h (by decide +kernel)) ⟨hG, XOT_rf, fun _ => ⟨rfl, hX⟩, fun k => absurd k (fun k => by have := k.2.2; omega)⟩
      · refine V_iload (v := Int32.ofInt (t)) mi_44_26 (by simp [stL, lv_args, Value.category]) ?_
        refine V_ipush mi_44_28 ?_
        refine V_cle mi_44_29 tI ⟨by omega, by omega⟩ (fun q4 => ?_) (fun q4 => ?_)
        · have c11 := of_decide_eq_true c1
          have c22 := of_decide_eq_true c2
          have ok : okTe G f o i t := ⟨c11, c22.2, q3, q4⟩
          have b3 := hB.b3
          obtain ⟨s11, e11, f11⟩ := a11
          obtain ⟨m, rfl⟩ := Int.eq_ofNat_of_zero_le c11.1.1
          obtain ⟨n, rfl⟩ := Int.eq_ofNat_of_zero_le c11.2.1.1
          have c23 := c22.2
          rw [Int.toNat_natCast] at c23
          have bl := hB.bl n (by omega)
          have bt := hB.bt (6 * m + n) (by omega)
          have ej : teaJ (m : Int) (n : Int) = 66 + (6 * m + n) := by unfold teaJ; rw [Int.toNat_natCast, Int.toNat_natCast]
          obtain ⟨⟨⟨v0, v1⟩, v2, v3⟩, v4, v5⟩ := teaV_k (b := G (66 + (6 * m + n))) (i := i) bt.1 bt.2 c23.1 (by omega)
          refine V_iload (v := Int32.ofInt ((m : Int))) mi_44_35 (by simp [stL, lv_args, Value.category]) ?_
          refine V_ipush mi_44_36 ?_
          refine V_ibin mi_44_38 (by omega) ?_
          rw [ib2]
          refine V_iload (v := Int32.ofInt ((n : Int))) mi_44_39 (by simp [stL, lv_args, Value.category]) ?_
          refine V_ibin mi_44_40 (by omega) ?_
          rw [ib0]
          rw [show (m : Int) * 6 + (n : Int) = ((6 * m + n : Nat) : Int) by omega]
          refine V_istore mi_44_41 ?_
          refine V_aload (v := ad 0) mi_44_43 (by simp [stL, lv_args, Value.category]) ?_
          refine V_gR mi_44_44 g0r2 (by omega) hG ?_
          refine V_gR mi_44_47 g4r12 (by omega) hG ?_
          refine V_iload (v := Int32.ofInt (((6 * m + n : Nat) : Int))) mi_44_50 (by simp [stL, lv_args, Value.category]) ?_
          refine V_stat (As := [.ref (ad 11), .int (Int32.ofInt (((6 * m + n : Nat) : Int)))]) (st := []) mi_44_52 (by omega) (at_ct (j := 6 * m + n) hG e11 (by omega) (by omega) (show rd _ 11 (6 * m + n) = some (.int (Int32.ofInt (G (66 + (6 * m + n))))) from HX_HY hX 7 (by omega) (6 * m + n) (show 6 * m + n < 36 by omega))) (by omega) (show 2 = mN 147 by decide +kernel) (by simp [Value.category]) ⟨Nat.le_refl _, Nat.le_refl _⟩ ?_
          rintro r w3 ⟨rfl, rfl⟩
          refine V_istore mi_44_55 ?_
          refine V_aload (v := ad 0) mi_44_57 (by simp [stL, lv_args, Value.category]) ?_
          refine V_gR mi_44_58 g0r2 (by omega) hG ?_
          refine V_gR mi_44_61 g4r12 (by omega) hG ?_
          refine V_iload (v := Int32.ofInt (((6 * m + n : Nat) : Int))) mi_44_64 (by simp [stL, lv_args, Value.category]) ?_
          refine V_iload (v := Int32.ofInt (t)) mi_44_66 (by simp [stL, lv_args, Value.category]) ?_
          
          refine V_ipush mi_44_68 ?_
          refine V_cne mi_44_69 tI ⟨by omega, by omega⟩ (fun q5 => ?_) (fun q5 => ?_)
          · refine V_iload (v := Int32.ofInt (G (66 + (6 * m + n)))) mi_44_81 (by simp [stL, lv_args, Value.category]) ?_
            refine V_ipush mi_44_83 ?_
            refine V_iload (v := Int32.ofInt (i)) mi_44_84 (by simp [stL, lv_args, Value.category]) ?_
            refine V_ibin mi_44_85 (by omega) ?_
            refine V_ipush mi_44_86 ?_
            refine V_ibin mi_44_87 (by omega) ?_
            refine V_ibin mi_44_88 (by omega) ?_
            rw [v4]
            have et : t = 0 := by omega
            subst et
            refine V_stat (As := [.ref (ad 11), .int (Int32.ofInt (((6 * m + n : Nat) : Int))), .int (Int32.ofInt (teaV (G (66 + (6 * m + n))) i 0))]) (st := []) mi_44_89 (by omega) (put_ct (j := 6 * m + n) hG e11 (by omega) (by omega) (f11 _ (by omega)) (i32b _).1 (i32b _).2) (by omega) (show 3 = mN 148 by decide +kernel) (by simp [Value.category]) ⟨Nat.le_refl _, Nat.le_refl _⟩ ?_
            rintro r w4 ⟨rfl, G4, U4⟩
            obtain ⟨x1, x2⟩ := told_hx (j := 6 * m + n) (by omega)
            have hX4 := HX_upd (j := 66 + (6 * m + n)) (z := teaV (G (66 + (6 * m + n))) i 0) hX (by omega) (by rw [x1, x2]; exact U4)
            obtain ⟨ds, dl, sc⟩ := set3_ct (l := l) (A := A) hAD G4
            refine V_aload (v := ad 0) mi_44_92 (by simp [stL, lv_args, Value.category]) ?_
            refine V_cO (As := []) (st := []) mi_44_93 (by omega) (by decide +kernel) (by decide +kernel) (by omega) g0o G4 (sc) (by omega) (show 0 = mN 73 by decide +kernel) (by simp [Value.category]) ?_
            rintro r w5 ⟨rfl, G5, S_, O5⟩
            refine V_iload (v := Int32.ofInt (G (66 + (6 * m + n)))) mi_44_96 (by simp [stL, lv_args, Value.category]) ?_
            refine V_iload (v := Int32.ofInt (i)) mi_44_98 (by simp [stL, lv_args, Value.category]) ?_
            refine V_ibin mi_44_99 (by omega) ?_
            refine V_ipush mi_44_100 ?_
            refine V_ibin mi_44_101 (by omega) ?_
            have hX5 := HX_keep hX4 (fun c i h1 h2 => O5 c i (by omega))
            refine V_retI mi_44_102 (fun h => absurd h (by decide +kernel)) ⟨G5, ⟨fun c j hn => (O5 c j (by omega)).trans (upd_ne U4 (by omega)), fun _ => S_⟩, fun k => absurd ok k, fun _ => ⟨by rw [ej], ?_⟩⟩
            unfold teaG
            rw [ej]
            exact hX5
          · refine V_iload (v := Int32.ofInt (G (66 + (6 * m + n)))) mi_44_72 (by simp [stL, lv_args, Value.category]) ?_
            refine V_ipush mi_44_74 ?_
            refine V_iload (v := Int32.ofInt (i)) mi_44_75 (by simp [stL, lv_args, Value.category]) ?_
            refine V_ibin mi_44_76 (by omega) ?_
            refine V_ibin mi_44_77 (by omega) ?_
            refine V_goto mi_44_78 ?_
            rw [v5]
            have et : t = 1 := by omega
            subst et
            refine V_stat (As := [.ref (ad 11), .int (Int32.ofInt (((6 * m + n : Nat) : Int))), .int (Int32.ofInt (teaV (G (66 + (6 * m + n))) i 1))]) (st := []) mi_44_89 (by omega) (put_ct (j := 6 * m + n) hG e11 (by omega) (by omega) (f11 _ (by omega)) (i32b _).1 (i32b _).2) (by omega) (show 3 = mN 148 by decide +kernel) (by simp [Value.category]) ⟨Nat.le_refl _, Nat.le_refl _⟩ ?_
            rintro r w4 ⟨rfl, G4, U4⟩
            obtain ⟨x1, x2⟩ := told_hx (j := 6 * m + n) (by omega)
            have hX4 := HX_upd (j := 66 + (6 * m + n)) (z := teaV (G (66 + (6 * m + n))) i 1) hX (by omega) (by rw [x1, x2]; exact U4)
            obtain ⟨ds, dl, sc⟩ := set3_ct (l := l) (A := A) hAD G4
            refine V_aload (v := ad 0) mi_44_92 (by simp [stL, lv_args, Value.category]) ?_
            refine V_cO (As := []) (st := []) mi_44_93 (by omega) (by decide +kernel) (by decide +kernel) (by omega) g0o G4 (sc) (by omega) (show 0 = mN 73 by decide +kernel) (by simp [Value.category]) ?_
            rintro r w5 ⟨rfl, G5, S_, O5⟩
            refine V_iload (v := Int32.ofInt (G (66 + (6 * m + n)))) mi_44_96 (by simp [stL, lv_args, Value.category]) ?_
            refine V_iload (v := Int32.ofInt (i)) mi_44_98 (by simp [stL, lv_args, Value.category]) ?_
            refine V_ibin mi_44_99 (by omega) ?_
            refine V_ipush mi_44_100 ?_
            refine V_ibin mi_44_101 (by omega) ?_
            have hX5 := HX_keep hX4 (fun c i h1 h2 => O5 c i (by omega))
            refine V_retI mi_44_102 (fun h => absurd h (by decide +kernel)) ⟨G5, ⟨fun c j hn => (O5 c j (by omega)).trans (upd_ne U4 (by omega)), fun _ => S_⟩, fun k => absurd ok k, fun _ => ⟨by rw [ej], ?_⟩⟩
            unfold teaG
            rw [ej]
            exact hX5
        · refine V_ipush mi_44_32 ?_
          exact V_retI mi_44_34 (fun h => absurd h (by decide +kernel)) ⟨hG, XOT_rf, fun _ => ⟨rfl, hX⟩, fun k => absurd k (fun k => by have := k.2.2; omega)⟩
theorem bakXS_0 {G : Nat → Int} {z : Nat} (z8 : z < 8) (hAD : ∀ i : Nat, ad (1000 + i) = D.2 1000 i) (hG : GOK ad tys GG ws) (hX : z.testBit 0 = true → HX 54 G ws) (hz : rd ws 0 12 = some (.int (Int32.ofInt (z : Int)))) : CT l D tys A 68 8 0 0 [.ref (ad 0), .int (Int32.ofInt 0)] ws (fun r w => GOK ad tys GG w ∧ XOT ws w ∧ (z.testBit 0 = true → r = some (.int (Int32.ofInt 0)) ∧ HX 4 G w) ∧ (z.testBit 0 = false → r = some (.int (Int32.ofInt (-6))) ∧ w = ws)) := by
  refine CT_of_V (by omega) (show (2 : Nat) ≤ mML 68 by decide +kernel) ?_
  refine V_aload (v := ad 0) mi_68_0 (by simp [stL, lv_args, Value.category]) ?_
  refine V_iload (v := Int32.ofInt (0)) mi_68_1 (by simp [stL, lv_args, Value.category]) ?_
  refine V_cO (As := [.int (Int32.ofInt (0))]) (st := []) mi_68_2 (by omega) (by decide +kernel) (by decide +kernel) (by omega) g0o hG (iat_0 hG) (by omega) (show 1 = mN 69 by decide +kernel) (by simp [Value.category]) ?_
  rintro r w1 ⟨rfl, rfl⟩
  refine V_astore (v := ad 54) mi_68_5 ?_
  refine V_aload (v := ad 54) mi_68_6 (by simp [stL, lv_args, Value.category]) ?_
  refine V_nnR mi_68_7 ?_
  refine V_aload (v := ad 0) mi_68_13 (by simp [stL, lv_args, Value.category]) ?_
  refine V_gO mi_68_14 g0o hG (hz) ?_
  refine V_iload (v := Int32.ofInt (0)) mi_68_17 (by simp [stL, lv_args, Value.category]) ?_
  refine V_ibin mi_68_18 (by omega) ?_
  refine V_ipush mi_68_19 ?_
  refine V_ibin mi_68_20 (by omega) ?_
  obtain ⟨k1, k2, k3, k4⟩ := kep_k (q := 0) z8 (by omega)
  rw [show ibF 5 (ibF 9 (Int32.ofInt (z : Int)) (Int32.ofInt 0)) (Int32.ofInt 1) = bI (z.testBit 0) from k3]
  refine V_bne mi_68_21  (fun q => ?_) (fun q => ?_)
  · refine V_aload (v := ad 0) mi_68_27 (by simp [stL, lv_args, Value.category]) ?_
    refine V_gR mi_68_28 g0r2 (by omega) hG ?_
    refine V_aload (v := ad 54) mi_68_31 (by simp [stL, lv_args, Value.category]) ?_
    refine V_cO (As := [.ref (ad 54)]) (st := []) mi_68_32 (by omega) (by decide +kernel) (by decide +kernel) (by omega) g4o hG (cpf_4_54 hG (hX q)) (by omega) (show 1 = mN 100 by decide +kernel) (by simp [Value.category]) ?_
    rintro r w2 ⟨rfl, G2, hX2, O2⟩
    obtain ⟨ds, dl, sc⟩ := set3_ct (l := l) (A := A) hAD G2
    refine V_aload (v := ad 0) mi_68_35 (by simp [stL, lv_args, Value.category]) ?_
    refine V_cO (As := []) (st := []) mi_68_36 (by omega) (by decide +kernel) (by decide +kernel) (by omega) g0o G2 (sc) (by omega) (show 0 = mN 73 by decide +kernel) (by simp [Value.category]) ?_
    rintro r w3 ⟨rfl, G3, S_, O3⟩
    refine V_ipush mi_68_39 ?_
    exact V_retI mi_68_40 (fun h => absurd h (by decide +kernel)) ⟨G3, ⟨fun c i hn => (O3 c i (by omega)).trans (O2 c i (by omega)), fun _ => S_⟩, fun _ => ⟨rfl, HX_keep hX2 (fun c i h1 h2 => O3 c i (by omega))⟩, fun h => absurd (h.symm.trans q) Bool.false_ne_true⟩
  · refine V_ipush mi_68_24 ?_
    exact V_retI mi_68_26 (fun h => absurd h (by decide +kernel)) ⟨hG, XOT_rf, fun h => absurd (q.symm.trans h) Bool.false_ne_true, fun _ => ⟨rfl, rfl⟩⟩
theorem bakXS_1 {G : Nat → Int} {z : Nat} (z8 : z < 8) (hAD : ∀ i : Nat, ad (1000 + i) = D.2 1000 i) (hG : GOK ad tys GG ws) (hX : z.testBit 1 = true → HX 66 G ws) (hz : rd ws 0 12 = some (.int (Int32.ofInt (z : Int)))) : CT l D tys A 68 8 0 0 [.ref (ad 0), .int (Int32.ofInt 1)] ws (fun r w => GOK ad tys GG w ∧ XOT ws w ∧ (z.testBit 1 = true → r = some (.int (Int32.ofInt 0)) ∧ HX 4 G w) ∧ (z.testBit 1 = false → r = some (.int (Int32.ofInt (-6))) ∧ w = ws)) := by
  refine CT_of_V (by omega) (show (2 : Nat) ≤ mML 68 by decide +kernel) ?_
  refine V_aload (v := ad 0) mi_68_0 (by simp [stL, lv_args, Value.category]) ?_
  refine V_iload (v := Int32.ofInt (1)) mi_68_1 (by simp [stL, lv_args, Value.category]) ?_
  refine V_cO (As := [.int (Int32.ofInt (1))]) (st := []) mi_68_2 (by omega) (by decide +kernel) (by decide +kernel) (by omega) g0o hG (iat_1 hG) (by omega) (show 1 = mN 69 by decide +kernel) (by simp [Value.category]) ?_
  rintro r w1 ⟨rfl, rfl⟩
  refine V_astore (v := ad 66) mi_68_5 ?_
  refine V_aload (v := ad 66) mi_68_6 (by simp [stL, lv_args, Value.category]) ?_
  refine V_nnR mi_68_7 ?_
  refine V_aload (v := ad 0) mi_68_13 (by simp [stL, lv_args, Value.category]) ?_
  refine V_gO mi_68_14 g0o hG (hz) ?_
  refine V_iload (v := Int32.ofInt (1)) mi_68_17 (by simp [stL, lv_args, Value.category]) ?_
  refine V_ibin mi_68_18 (by omega) ?_
  refine V_ipush mi_68_19 ?_
  refine V_ibin mi_68_20 (by omega) ?_
  obtain ⟨k1, k2, k3, k4⟩ := kep_k (q := 1) z8 (by omega)
  rw [show ibF 5 (ibF 9 (Int32.ofInt (z : Int)) (Int32.ofInt 1)) (Int32.ofInt 1) = bI (z.testBit 1) from k3]
  refine V_bne mi_68_21  (fun q => ?_) (fun q => ?_)
  · refine V_aload (v := ad 0) mi_68_27 (by simp [stL, lv_args, Value.category]) ?_
    refine V_gR mi_68_28 g0r2 (by omega) hG ?_
    refine V_aload (v := ad 66) mi_68_31 (by simp [stL, lv_args, Value.category]) ?_
    refine V_cO (As := [.ref (ad 66)]) (st := []) mi_68_32 (by omega) (by decide +kernel) (by decide +kernel) (by omega) g4o hG (cpf_4_66 hG (hX q)) (by omega) (show 1 = mN 100 by decide +kernel) (by simp [Value.category]) ?_
    rintro r w2 ⟨rfl, G2, hX2, O2⟩
    obtain ⟨ds, dl, sc⟩ := set3_ct (l := l) (A := A) hAD G2
    refine V_aload (v := ad 0) mi_68_35 (by simp [stL, lv_args, Value.category]) ?_
    refine V_cO (As := []) (st := []) mi_68_36 (by omega) (by decide +kernel) (by decide +kernel) (by omega) g0o G2 (sc) (by omega) (show 0 = mN 73 by decide +kernel) (by simp [Value.category]) ?_
    rintro r w3 ⟨rfl, G3, S_, O3⟩
    refine V_ipush mi_68_39 ?_
    exact V_retI mi_68_40 (fun h => absurd h (by decide +kernel)) ⟨G3, ⟨fun c i hn => (O3 c i (by omega)).trans (O2 c i (by omega)), fun _ => S_⟩, fun _ => ⟨rfl, HX_keep hX2 (fun c i h1 h2 => O3 c i (by omega))⟩, fun h => absurd (h.symm.trans q) Bool.false_ne_true⟩
  · refine V_ipush mi_68_24 ?_
    exact V_retI mi_68_26 (fun h => absurd h (by decide +kernel)) ⟨hG, XOT_rf, fun h => absurd (q.symm.trans h) Bool.false_ne_true, fun _ => ⟨rfl, rfl⟩⟩
theorem bakXS_2 {G : Nat → Int} {z : Nat} (z8 : z < 8) (hAD : ∀ i : Nat, ad (1000 + i) = D.2 1000 i) (hG : GOK ad tys GG ws) (hX : z.testBit 2 = true → HX 78 G ws) (hz : rd ws 0 12 = some (.int (Int32.ofInt (z : Int)))) : CT l D tys A 68 8 0 0 [.ref (ad 0), .int (Int32.ofInt 2)] ws (fun r w => GOK ad tys GG w ∧ XOT ws w ∧ (z.testBit 2 = true → r = some (.int (Int32.ofInt 0)) ∧ HX 4 G w) ∧ (z.testBit 2 = false → r = some (.int (Int32.ofInt (-6))) ∧ w = ws)) := by
  refine CT_of_V (by omega) (show (2 : Nat) ≤ mML 68 by decide +kernel) ?_
  refine V_aload (v := ad 0) mi_68_0 (by simp [stL, lv_args, Value.category]) ?_
  refine V_iload (v := Int32.ofInt (2)) mi_68_1 (by simp [stL, lv_args, Value.category]) ?_
  refine V_cO (As := [.int (Int32.ofInt (2))]) (st := []) mi_68_2 (by omega) (by decide +kernel) (by decide +kernel) (by omega) g0o hG (iat_2 hG) (by omega) (show 1 = mN 69 by decide +kernel) (by simp [Value.category]) ?_
  rintro r w1 ⟨rfl, rfl⟩
  refine V_astore (v := ad 78) mi_68_5 ?_
  refine V_aload (v := ad 78) mi_68_6 (by simp [stL, lv_args, Value.category]) ?_
  refine V_nnR mi_68_7 ?_
  refine V_aload (v := ad 0) mi_68_13 (by simp [stL, lv_args, Value.category]) ?_
  refine V_gO mi_68_14 g0o hG (hz) ?_
  refine V_iload (v := Int32.ofInt (2)) mi_68_17 (by simp [stL, lv_args, Value.category]) ?_
  refine V_ibin mi_68_18 (by omega) ?_
  refine V_ipush mi_68_19 ?_
  refine V_ibin mi_68_20 (by omega) ?_
  obtain ⟨k1, k2, k3, k4⟩ := kep_k (q := 2) z8 (by omega)
  rw [show ibF 5 (ibF 9 (Int32.ofInt (z : Int)) (Int32.ofInt 2)) (Int32.ofInt 1) = bI (z.testBit 2) from k3]
  refine V_bne mi_68_21  (fun q => ?_) (fun q => ?_)
  · refine V_aload (v := ad 0) mi_68_27 (by simp [stL, lv_args, Value.category]) ?_
    refine V_gR mi_68_28 g0r2 (by omega) hG ?_
    refine V_aload (v := ad 78) mi_68_31 (by simp [stL, lv_args, Value.category]) ?_
    refine V_cO (As := [.ref (ad 78)]) (st := []) mi_68_32 (by omega) (by decide +kernel) (by decide +kernel) (by omega) g4o hG (cpf_4_78 hG (hX q)) (by omega) (show 1 = mN 100 by decide +kernel) (by simp [Value.category]) ?_
    rintro r w2 ⟨rfl, G2, hX2, O2⟩
    obtain ⟨ds, dl, sc⟩ := set3_ct (l := l) (A := A) hAD G2
    refine V_aload (v := ad 0) mi_68_35 (by simp [stL, lv_args, Value.category]) ?_
    refine V_cO (As := []) (st := []) mi_68_36 (by omega) (by decide +kernel) (by decide +kernel) (by omega) g0o G2 (sc) (by omega) (show 0 = mN 73 by decide +kernel) (by simp [Value.category]) ?_
    rintro r w3 ⟨rfl, G3, S_, O3⟩
    refine V_ipush mi_68_39 ?_
    exact V_retI mi_68_40 (fun h => absurd h (by decide +kernel)) ⟨G3, ⟨fun c i hn => (O3 c i (by omega)).trans (O2 c i (by omega)), fun _ => S_⟩, fun _ => ⟨rfl, HX_keep hX2 (fun c i h1 h2 => O3 c i (by omega))⟩, fun h => absurd (h.symm.trans q) Bool.false_ne_true⟩
  · refine V_ipush mi_68_24 ?_
    exact V_retI mi_68_26 (fun h => absurd h (by decide +kernel)) ⟨hG, XOT_rf, fun h => absurd (q.symm.trans h) Bool.false_ne_true, fun _ => ⟨rfl, rfl⟩⟩
end XSJ
end
section
section XSK
variable {l : Launch} {D : va_G} {tys : List (ClassId × FieldType)} {A : Nat → Prop} {ad : Nat → Nat} {ws : va_W}
noncomputable def HXPS (ad : Nat → Nat) (tys : List (ClassId × FieldType)) (x : TS × (Nat → Int) × (Nat → Int)) (w0 : va_W) (r : Option Value) (w : va_W) : Prop := HXP ad tys x w0 r w ∧ (STX w0 → STX w)
theorem hixxS_ct {n : Nat} {B : Nat → Int} {v0 : Int} (hAD : ∀ i : Nat, ad (1000 + i) = D.2 1000 i) (hG : GOK ad tys GG ws) (T : TXX ws n B) (v0I : I32 v0) : CT l D tys A 3 10 0 0 [.ref (ad 0)] ws (HXPS ad tys (hillX B n v0) ws) := by
  refine CT_of_V (by omega) (show (1 : Nat) ≤ mML 3 by decide +kernel) ?_
  refine V_aload (v := ad 0) mi_3_0 (by simp [stL, lv_args, Value.category]) ?_
  refine V_gR mi_3_1 g0r0 (by omega) hG ?_
  refine V_aload (v := ad 0) mi_3_4 (by simp [stL, lv_args, Value.category]) ?_
  refine V_gR mi_3_5 g0r3 (by omega) hG ?_
  refine V_cO (As := [.ref (ad 16)]) (st := []) mi_3_8 (by omega) (by decide +kernel) (by decide +kernel) (by omega) g1o hG (read_ct hG T v0I) (by omega) (show 1 = mN 133 by decide +kernel) (by simp [Value.category]) ?_
  rintro r w1 ⟨rfl, hA, hR⟩
  obtain ⟨-, -, -, F0, -⟩ := id hA
  have F3 := F0.2.2
  refine V_aload (v := ad 0) mi_3_11 (by simp [stL, lv_args, Value.category]) ?_
  refine V_gR mi_3_12 g0r1 (by omega) hA.1 ?_
  refine V_ipush mi_3_15 ?_
  refine V_pO mi_3_16 g2f1 (by omega) (by decide +kernel) (by decide +kernel) hA.1 (by rw [Int32.toInt_ofInt_of_le (by omega) (by omega)]; omega) (by rw [Int32.toInt_ofInt_of_le (by omega) (by omega)]; omega) (fun w2 G2 U2 => ?_)
  refine V_aload (v := ad 0) mi_3_19 (by simp [stL, lv_args, Value.category]) ?_
  refine V_gR mi_3_20 g0r0 (by omega) G2 ?_
  refine V_gO mi_3_23 g1o G2 ((upd_ne U2 (by omega)).trans F0.1) ?_
  refine V_zeq mi_3_26 ⟨by omega, by omega⟩ (fun q => ?_) (fun q => ?_)
  · obtain ⟨hX, -, -⟩ := hR.1 q
    refine V_aload (v := ad 0) mi_3_32 (by simp [stL, lv_args, Value.category]) ?_
    refine V_gR mi_3_33 g0r2 (by omega) G2 ?_
    refine V_aload (v := ad 0) mi_3_36 (by simp [stL, lv_args, Value.category]) ?_
    refine V_gR mi_3_37 g0r3 (by omega) G2 ?_
    refine V_cO (As := [.ref (ad 16)]) (st := []) mi_3_40 (by omega) (by decide +kernel) (by decide +kernel) (by omega) g4o G2 (cpf_ct G2 (HX_keep hX (fun c i h1 h2 => upd_ne U2 (by omega)))) (by omega) (show 1 = mN 100 by decide +kernel) (by simp [Value.category]) ?_
    rintro r w3 ⟨rfl, G3, hX3, o3⟩
    refine V_aload (v := ad 0) mi_3_43 (by simp [stL, lv_args, Value.category]) ?_
    obtain ⟨d5, k1, k2⟩ := set3_ct (l := l) (A := A) hAD G3
    refine V_cO (As := []) (st := []) mi_3_44 (by omega) (by decide +kernel) (by decide +kernel) (by omega) g0o G3 (k2) (by omega) (show 0 = mN 73 by decide +kernel) (by simp [Value.category]) ?_
    rintro r w4 ⟨r0, G4, S4, o4⟩
    subst r0
    have hX4 := HX_keep hX3 (fun c i h1 h2 => o4 c i (by omega))
    refine V_aload (v := ad 0) mi_3_47 (by simp [stL, lv_args, Value.category]) ?_
    refine V_gR mi_3_48 g0r2 (by omega) G4 ?_
    refine V_gO mi_3_51 g4o G4 (hx0 hX4 (i := 0) (by omega)) ?_
    refine V_retI mi_3_54 (fun q => absurd q (by decide +kernel)) ⟨⟨G4, fun c j hn => ?_, ?_, ?_, ?_, fun _ => ⟨rfl, hX4⟩, fun h => absurd q h⟩, fun _ => S4⟩
    · rw [o4 _ _ (by omega), o3 _ _ (by omega), upd_ne U2 (by omega)]
      exact hR.2 c j (by omega)
    · rw [o4 _ _ (by omega), o3 _ _ (by omega)]
      exact upd_eq U2
    · rw [o4 _ _ (by omega), o3 _ _ (by omega), upd_ne U2 (by omega)]
      exact F0.1
    · rw [o4 _ _ (by omega), o3 _ _ (by omega), upd_ne U2 (by omega)]
      exact F0.2.1
  · refine V_ipush mi_3_29 ?_
    refine V_retI mi_3_31 (fun q => absurd q (by decide +kernel)) ⟨⟨G2, fun c j hn => ?_, upd_eq U2, ?_, ?_, fun h => absurd h q, fun _ => ⟨rfl, fun c j hc => ?_⟩⟩, fun hS => STX_keep hS (fun c j hc => ?_)⟩
    · rw [upd_ne U2 (by omega)]
      exact hR.2 c j (by omega)
    · rw [upd_ne U2 (by omega)]
      exact F0.1
    · rw [upd_ne U2 (by omega)]
      exact F0.2.1
    · rw [upd_ne U2 (by omega)]
      exact hR.2 c j (by omega)
    · rw [upd_ne U2 (by omega)]
      exact hR.2 c j (by omega)
/-- an image, as a function of the world -/
noncomputable def imO (q : Nat) (w : va_W) (j : Nat) : Int := match rd w (54 + 12 * q + hxC j) (hxI j) with
  | some (.int z) => z.toInt
  | _ => 0
theorem imO_keep {q : Nat} {w w' : va_W} (o : ∀ c j, 54 + 12 * q ≤ c → c < 66 + 12 * q → rd w' c j = rd w c j) : imO q w' = imO q w := by
  funext j
  have := hxC_le j
  unfold imO
  rw [o _ _ (by omega) (by omega)]
theorem imO_eq {G : Nat → Int} {q : Nat} {w : va_W} (hX : HX (54 + 12 * q) G w) {j : Nat} (hj : j < 294) (h : I32 (G j)) : imO q w j = G j := by
  unfold imO
  rw [hX j hj]
  exact Int32.toInt_ofInt_of_le h.1 (by have := h.2; omega)
theorem WF_eq {G g : Nat → Int} (h : ∀ j, j < 294 → g j = G j) (h4 : G 4 ≤ 12) (w : WF G) : WF g := fun s hs => by
  rw [h 4 (by omega)] at hs
  rw [h (246 + 4 * s) (by omega), h (246 + 4 * s + 3) (by omega), h 3 (by omega), h 2 (by omega)]
  exact w s hs
theorem WF_up {G : Nat → Int} {j : Nat} {z : Int} (h : WF G) (h4 : G 4 ≤ 12) (hj : 6 ≤ j ∧ j < 246) : WF (updI G j z) := fun s hs => by
  rw [updI_ne (by omega)] at hs
  rw [updI_ne (by omega), updI_ne (by omega), updI_ne (by omega), updI_ne (by omega)]
  exact h s hs
theorem WF_uns {G : Nat → Int} (h : WF G) : WF (updI G 4 (G 4 - 1)) := fun s hs => by
  have e : updI G 4 (G 4 - 1) 4 = G 4 - 1 := if_pos rfl
  rw [e] at hs
  rw [updI_ne (by omega), updI_ne (by omega), updI_ne (by omega), updI_ne (by omega)]
  exact h s (by omega)
theorem WF_say {G : Nat → Int} {f o i h : Int} (w : WF G) (h0 : 0 ≤ G 4) (h4 : G 4 < 12) (ok : okSy G f o i h) : WF (sayG G f o i h) := fun s hs => by
  have e4 : sayG G f o i h 4 = G 4 + 1 := by unfold sayG; exact if_pos rfl
  have eo : ∀ j, j ≠ 4 → ¬ (246 + 4 * (G 4).toNat ≤ j ∧ j ≤ 246 + 4 * (G 4).toNat + 3) → sayG G f o i h j = G j := fun j h1 h2 => by
    unfold sayG
    rw [updI_ne h1, updI_ne (by omega), updI_ne (by omega), updI_ne (by omega), updI_ne (by omega)]
  rw [e4] at hs
  rw [eo 3 (by omega) (by omega), eo 2 (by omega) (by omega)]
  by_cases e : s = (G 4).toNat
  · have e0 : sayG G f o i h (246 + 4 * s) = f := by
      unfold sayG
      rw [e, updI_ne (by omega), updI_ne (by omega), updI_ne (by omega), updI_ne (by omega)]
      exact if_pos rfl
    have e3 : sayG G f o i h (246 + 4 * s + 3) = h := by
      unfold sayG
      rw [e, updI_ne (by omega)]
      exact if_pos rfl
    rw [e0, e3]
    exact ⟨ok.1.2, ok.2.2.2⟩
  · rw [eo _ (by omega) (by omega), eo _ (by omega) (by omega)]
    exact w s (by omega)
noncomputable def AUX (w : va_W) : Prop := STX w ∧ WF (hlO w) ∧ (∀ q, q < 3 → rd w 93 q = some (.int (bI true)) → WF (imO q w)) ∧ rd w 90 22 = some (.int (Int32.ofInt (-1))) ∧ rd w 90 24 = some (.int (Int32.ofInt 0))
noncomputable def RELW (w : va_W) : Prop := RELH w ∧ AUX w
theorem img3 {w0 w : va_W} (h : ∀ q, q < 3 → rd w0 93 q = some (.int (bI true)) → WF (imO q w0)) (o : ∀ c j, (54 ≤ c ∧ c ≤ 89) ∨ c = 93 → rd w c j = rd w0 c j) : ∀ q, q < 3 → rd w 93 q = some (.int (bI true)) → WF (imO q w) := fun q q3 e => by
  rw [imO_keep (w := w0) (fun c j h1 h2 => o c j (by omega))]
  exact h q q3 ((o _ _ (Or.inr rfl)).symm.trans e)
theorem aux_keep {w0 w : va_W} (h : AUX w0) (o : ∀ c j, (4 ≤ c ∧ c ≤ 15) ∨ (29 ≤ c ∧ c ≤ 35 ∧ c ≠ 31) ∨ (54 ≤ c ∧ c ≤ 89) ∨ c = 93 ∨ (c = 90 ∧ (j = 22 ∨ j = 24)) → rd w c j = rd w0 c j) : AUX w :=
  ⟨STX_keep h.1 (fun c j hc => o c j (by omega)), by rw [hlO_keep (w := w0) (fun c j h1 h2 => o c j (by omega))]; exact h.2.1, img3 h.2.2.1 (fun c j hc => o c j (by omega)), (o _ _ (by omega)).trans h.2.2.2.1, (o _ _ (by omega)).trans h.2.2.2.2⟩
theorem aux_wf {G : Nat → Int} {w : va_W} (h : AUX w) (hX : HX 4 G w) (hO : hOK G) (hB : HB G) : WF G :=
  WF_eq (G := hlO w) (fun j hj => (hlO_eq hX hj (hO j hj)).symm) (by rw [hlO_eq hX (by omega) (hO 4 (by omega))]; exact hB.b4.2) h.2.1
theorem wf_aux {G : Nat → Int} {w : va_W} (h : WF G) (hX : HX 4 G w) (hO : hOK G) (hB : HB G) : WF (hlO w) := WF_eq (fun j hj => hlO_eq hX hj (hO j hj)) hB.b4.2 h
/-- the story, by the hill that stands -/
theorem aux_sto {G : Nat → Int} {w : va_W} (h : AUX w) (hX : HX 4 G w) (hW : W91 G w) (hO : hOK G) (hB : HB G) : ∃ g : Nat → Int, hOK g ∧ HX 4 g w ∧ W91 g w ∧ HB g ∧ WF g ∧ STO g w := by
  have e : ∀ j, j < 294 → hlO w j = G j := fun j hj => hlO_eq hX hj (hO j hj)
  have hb : HB (hlO w) := ⟨by rw [e 0 (by omega)]; exact hB.b0, by rw [e 1 (by omega)]; exact hB.b1, by rw [e 2 (by omega)]; exact hB.b2, by rw [e 3 (by omega)]; exact hB.b3, by rw [e 4 (by omega)]; exact hB.b4, by rw [e 5 (by omega)]; exact hB.b5, fun f hf => by rw [e _ (by omega)]; exact hB.bl f hf, fun f hf k hk => by rw [e _ (by omega)]; exact hB.bn f hf k hk, fun f hf => by rw [e _ (by omega)]; exact hB.bs f hf, fun f hf => by rw [e _ (by omega)]; exact hB.bd f hf, fun f hf => by rw [e _ (by omega)]; exact hB.bf f hf, fun j hj => by rw [e _ (by omega)]; exact hB.bt j hj, fun j hj => by rw [e _ (by omega)]; exact hB.bp j hj, fun k hk => by rw [e _ (by omega), e _ (by omega), e _ (by omega), e _ (by omega)]; exact hB.by_ k hk⟩
  exact ⟨hlO w, fun j hj => by rw [e j hj]; exact hO j hj, hlO_X hX hO, fun j hj => by rw [e j hj]; exact hW j hj, hb, h.2.1, h.1 (hlO_X hX hO) hb h.2.1⟩
noncomputable def PAIRT (l : Launch) (D : va_G) (tys : List (ClassId × FieldType)) (A : Nat → Prop) (ad : Nat → Nat) (kx km : Nat) (xs ms : List Value) (ws : va_W) : Prop := ∃ v : Int32, ∃ MID : va_W → Prop, (∃ d', d' < 11 ∧ CT l D tys A kx d' 0 0 xs ws (fun r w => r = some (.int v) ∧ GOK ad tys GG w ∧ MID w)) ∧ ∀ w : va_W, GOK ad tys GG w → MID w → ∃ d', d' < 11 ∧ CT l D tys A km d' 0 0 ms w (fun r w2 => r = some (.int v) ∧ GOK ad tys GG w2 ∧ RELW w2)
theorem pairT_ro {kx km d1 d2 : Nat} {xs ms : List Value} {v : Int32} (hG : GOK ad tys GG ws) (hR : RELW ws) (h1 : d1 < 11) (h2 : d2 < 11) (c1 : CT l D tys A kx d1 0 0 xs ws (fun r w => w = ws ∧ r = some (.int v))) (c2 : CT l D tys A km d2 0 0 ms ws (fun r w => w = ws ∧ r = some (.int v))) : PAIRT l D tys A ad kx km xs ms ws := by
  refine ⟨v, fun w => w = ws, ⟨d1, h1, CT_post c1 (fun r w h => ?_)⟩, fun w hw K => ⟨d2, h2, ?_⟩⟩
  · obtain ⟨rfl, e⟩ := h
    exact ⟨e, hG, rfl⟩
  · subst K
    refine CT_post c2 (fun r w2 h => ?_)
    obtain ⟨rfl, e⟩ := h
    exact ⟨e, hw, hR⟩
theorem pairT_md {kx km d1 d2 : Nat} {xs ms : List Value} {v : Int32} {G G' : Nat → Int} (hR : RELW ws) (hW : W91 G ws) (hO : hOK G') (wf : HB G' → WF G') (h1 : d1 < 11) (h2 : d2 < 11) (c1 : CT l D tys A kx d1 0 0 xs ws (fun r w => GOK ad tys GG w ∧ XOT ws w ∧ r = some (.int v) ∧ HX 4 G' w)) (c2 : ∀ w : va_W, GOK ad tys GG w → W91 G w → CT l D tys A km d2 0 0 ms w (fun r w2 => GOK ad tys GG w2 ∧ MO w w2 ∧ r = some (.int v) ∧ W91 G' w2)) : PAIRT l D tys A ad kx km xs ms ws := by
  refine ⟨v, fun w => XOT ws w ∧ HX 4 G' w, ⟨d1, h1, CT_post c1 (fun r w h => ⟨h.2.2.1, h.1, h.2.1, h.2.2.2⟩)⟩, fun w hw K => ⟨d2, h2, CT_post (c2 w hw (fun j hj => (K.1.1 _ _ (by omega)).trans (hW j hj))) (fun r w2 h => ?_)⟩⟩
  obtain ⟨g1, g2, g3, g4⟩ := h
  have o : ∀ c j, ¬ ((4 ≤ c ∧ c ≤ 15) ∨ (29 ≤ c ∧ c ≤ 35)) → c ≠ 91 → rd w2 c j = rd ws c j := fun c j hc h9 => (g2 c j h9).trans (K.1.1 c j hc)
  have hX2 : HX 4 G' w2 := HX_keep K.2 (fun c i h1 h2 => g2 c i (by omega))
  have hb := hb_of g1 g4 hO
  refine ⟨g3, g1, ⟨relf_keep hR.1.1 (fun c hc j => o c j (by omega) (by omega)) (fun j _ => o 90 j (by omega) (by omega)), ⟨G', hO, hX2, g4⟩, imgs_keep hR.1.2.2 (o _ _ (by omega) (by omega)) (fun c h1 h2 j => o c j (by omega) (by omega)) (fun j => o _ _ (by omega) (by omega)) (fun j => o _ _ (by omega) (by omega))⟩, STX_keep (K.1.2 hR.2.1) (fun c j hc => g2 c j (by omega)), wf_aux (wf hb) hX2 hO hb, img3 hR.2.2.2.1 (fun c j hc => o c j (by omega) (by omega)), (o _ _ (by omega) (by omega)).trans hR.2.2.2.2.1, (o _ _ (by omega) (by omega)).trans hR.2.2.2.2.2⟩
theorem pairT_name (hAD : ∀ i : Nat, ad (1000 + i) = D.2 1000 i) (hG : GOK ad tys GG ws) (hR : RELW ws) (a1 a2 : Int32) : PAIRT l D tys A ad 5 243 [.ref (ad 0), .int a1, .int a2] [.ref (ad 90), .int a1, .int a2] ws := by
  obtain ⟨G, o, x, y⟩ := hR.1.2.1
  have c1 := nmX_ct (l := l) (D := D) (A := A) hG x (hb_of hG y o) (i32b a1) (i32b a2)
  have c2 := nmM_ct (l := l) (D := D) (A := A) hG y (hb_of hG y o) (i32b a1) (i32b a2)
  rw [oi, oi] at c1 c2
  exact pairT_ro hG hR (by omega) (by omega) c1 c2
theorem pairT_length (hAD : ∀ i : Nat, ad (1000 + i) = D.2 1000 i) (hG : GOK ad tys GG ws) (hR : RELW ws) (a1 : Int32) : PAIRT l D tys A ad 6 244 [.ref (ad 0), .int a1] [.ref (ad 90), .int a1] ws := by
  obtain ⟨G, o, x, y⟩ := hR.1.2.1
  have c1 := lnX_ct (l := l) (D := D) (A := A) hG x (hb_of hG y o) (i32b a1)
  have c2 := lnM_ct (l := l) (D := D) (A := A) hG y (hb_of hG y o) (i32b a1)
  rw [oi] at c1 c2
  exact pairT_ro hG hR (by omega) (by omega) c1 c2
theorem pairT_folk (hAD : ∀ i : Nat, ad (1000 + i) = D.2 1000 i) (hG : GOK ad tys GG ws) (hR : RELW ws) (a1 a2 : Int32) : PAIRT l D tys A ad 7 245 [.ref (ad 0), .int a1, .int a2] [.ref (ad 90), .int a1, .int a2] ws := by
  obtain ⟨G, o, x, y⟩ := hR.1.2.1
  have c1 := foX_ct (l := l) (D := D) (A := A) hG x (hb_of hG y o) (i32b a1) (i32b a2)
  have c2 := foM_ct (l := l) (D := D) (A := A) hG y (hb_of hG y o) (i32b a1) (i32b a2)
  rw [oi, oi] at c1 c2
  exact pairT_ro hG hR (by omega) (by omega) c1 c2
theorem pairT_place (hAD : ∀ i : Nat, ad (1000 + i) = D.2 1000 i) (hG : GOK ad tys GG ws) (hR : RELW ws) (a1 a2 : Int32) : PAIRT l D tys A ad 8 246 [.ref (ad 0), .int a1, .int a2] [.ref (ad 90), .int a1, .int a2] ws := by
  obtain ⟨G, o, x, y⟩ := hR.1.2.1
  have c1 := plX_ct (l := l) (D := D) (A := A) hG x (hb_of hG y o) (i32b a1) (i32b a2)
  have c2 := plM_ct (l := l) (D := D) (A := A) hG y (hb_of hG y o) (i32b a1) (i32b a2)
  rw [oi, oi] at c1 c2
  exact pairT_ro hG hR (by omega) (by omega) c1 c2
theorem pairT_saying (hAD : ∀ i : Nat, ad (1000 + i) = D.2 1000 i) (hG : GOK ad tys GG ws) (hR : RELW ws) (a1 a2 : Int32) : PAIRT l D tys A ad 9 247 [.ref (ad 0), .int a1, .int a2] [.ref (ad 90), .int a1, .int a2] ws := by
  obtain ⟨G, o, x, y⟩ := hR.1.2.1
  have c1 := syX_ct (l := l) (D := D) (A := A) hG x (hb_of hG y o) (i32b a1) (i32b a2)
  have c2 := syM_ct (l := l) (D := D) (A := A) hG y (hb_of hG y o) (i32b a1) (i32b a2)
  rw [oi, oi] at c1 c2
  exact pairT_ro hG hR (by omega) (by omega) c1 c2
theorem pairT_fault (hAD : ∀ i : Nat, ad (1000 + i) = D.2 1000 i) (hG : GOK ad tys GG ws) (hR : RELW ws) (a1 : Int32) : PAIRT l D tys A ad 4 221 [.ref (ad 0), .int a1] [.ref (ad 90), .int a1] ws := by
  obtain ⟨a, b, ⟨h1, h2⟩, h3, h4⟩ := hR.1.1.2
  exact pairT_ro hG hR (by omega) (by omega) (fltX_ct a1 hG h1 h2) (fltM_ct a1 hG h3 h4)
theorem pairT_say (hAD : ∀ i : Nat, ad (1000 + i) = D.2 1000 i) (hG : GOK ad tys GG ws) (hR : RELW ws) (a1 a2 a3 a4 : Int32) : PAIRT l D tys A ad 41 291 [.ref (ad 0), .int a1, .int a2, .int a3, .int a4] [.ref (ad 90), .int a1, .int a2, .int a3, .int a4] ws := by
  obtain ⟨G, o, x, y⟩ := hR.1.2.1
  have hb := hb_of hG y o
  have wf := aux_wf hR.2 x o hb
  have c1 := sayXS_ct (l := l) (D := D) (A := A) hAD hG x hb (i32b a1) (i32b a2) (i32b a3) (i32b a4)
  have c2 := fun (w : va_W) (hw : GOK ad tys GG w) (hy : W91 G w) => sayM_ct (l := l) (D := D) (A := A) hw hy hb (i32b a1) (i32b a2) (i32b a3) (i32b a4)
  simp only [oi] at c1 c2
  by_cases k : okSy G a1.toInt a2.toInt a3.toInt a4.toInt
  · by_cases e : G 4 = 12
    · exact pairT_md (G' := G) hR y o (fun _ => wf) (by omega) (by omega) (CT_post c1 (fun r w h => ⟨h.1, h.2.1, ((h.2.2.2 k).1 e).1, ((h.2.2.2 k).1 e).2⟩)) (fun w hw hy => CT_post (c2 w hw hy) (fun r w2 h => ⟨h.1, h.2.1, ((h.2.2.2 k).1 e).1, ((h.2.2.2 k).1 e).2⟩))
    · have e2 : G 4 < 12 := by have := hb.b4; omega
      have ob : hOK (sayG G a1.toInt a2.toInt a3.toInt a4.toInt) := hok_up (hok_up (hok_up (hok_up (hok_up o (i32b a1)) (i32b a2)) (i32b a3)) (i32b a4)) ⟨by have := hb.b4; omega, by omega⟩
      exact pairT_md (G' := sayG G a1.toInt a2.toInt a3.toInt a4.toInt) hR y ob (fun _ => WF_say wf hb.b4.1 e2 k) (by omega) (by omega) (CT_post c1 (fun r w h => ⟨h.1, h.2.1, ((h.2.2.2 k).2 e2).1, ((h.2.2.2 k).2 e2).2⟩)) (fun w hw hy => CT_post (c2 w hw hy) (fun r w2 h => ⟨h.1, h.2.1, ((h.2.2.2 k).2 e2).1, ((h.2.2.2 k).2 e2).2⟩))
  · exact pairT_md (G' := G) hR y o (fun _ => wf) (by omega) (by omega) (CT_post c1 (fun r w h => ⟨h.1, h.2.1, (h.2.2.1 k).1, (h.2.2.1 k).2⟩)) (fun w hw hy => CT_post (c2 w hw hy) (fun r w2 h => ⟨h.1, h.2.1, (h.2.2.1 k).1, (h.2.2.1 k).2⟩))
theorem pairT_unsay (hAD : ∀ i : Nat, ad (1000 + i) = D.2 1000 i) (hG : GOK ad tys GG ws) (hR : RELW ws) : PAIRT l D tys A ad 42 292 [.ref (ad 0)] [.ref (ad 90)] ws := by
  obtain ⟨G, o, x, y⟩ := hR.1.2.1
  have hb := hb_of hG y o
  have wf := aux_wf hR.2 x o hb
  have c1 := unsXS_ct (l := l) (D := D) (A := A) hAD hG x hb
  have c2 := fun (w : va_W) (hw : GOK ad tys GG w) (hy : W91 G w) => unsM_ct (l := l) (D := D) (A := A) hw hy hb
  by_cases k : 0 < G 5
  · by_cases e : G 4 = 0
    · exact pairT_md (G' := G) hR y o (fun _ => wf) (by omega) (by omega) (CT_post c1 (fun r w h => ⟨h.1, h.2.1, ((h.2.2.2 k).1 e).1, ((h.2.2.2 k).1 e).2⟩)) (fun w hw hy => CT_post (c2 w hw hy) (fun r w2 h => ⟨h.1, h.2.1, ((h.2.2.2 k).1 e).1, ((h.2.2.2 k).1 e).2⟩))
    · have e2 : 0 < G 4 := by have := hb.b4; omega
      have ob : hOK (updI G 4 (G 4 - 1)) := hok_up o ⟨by omega, by have := hb.b4; omega⟩
      exact pairT_md (G' := updI G 4 (G 4 - 1)) hR y ob (fun _ => WF_uns wf) (by omega) (by omega) (CT_post c1 (fun r w h => ⟨h.1, h.2.1, ((h.2.2.2 k).2 e2).1, ((h.2.2.2 k).2 e2).2⟩)) (fun w hw hy => CT_post (c2 w hw hy) (fun r w2 h => ⟨h.1, h.2.1, ((h.2.2.2 k).2 e2).1, ((h.2.2.2 k).2 e2).2⟩))
  · exact pairT_md (G' := G) hR y o (fun _ => wf) (by omega) (by omega) (CT_post c1 (fun r w h => ⟨h.1, h.2.1, (h.2.2.1 k).1, (h.2.2.1 k).2⟩)) (fun w hw hy => CT_post (c2 w hw hy) (fun r w2 h => ⟨h.1, h.2.1, (h.2.2.1 k).1, (h.2.2.1 k).2⟩))
theorem pairT_move (hAD : ∀ i : Nat, ad (1000 + i) = D.2 1000 i) (hG : GOK ad tys GG ws) (hR : RELW ws) (a1 a2 a3 : Int32) : PAIRT l D tys A ad 43 293 [.ref (ad 0), .int a1, .int a2, .int a3] [.ref (ad 90), .int a1, .int a2, .int a3] ws := by
  obtain ⟨G, o, x, y⟩ := hR.1.2.1
  have hb := hb_of hG y o
  have wf := aux_wf hR.2 x o hb
  have c1 := movXS_ct (l := l) (D := D) (A := A) hAD hG x hb (i32b a1) (i32b a2) (i32b a3)
  have c2 := fun (w : va_W) (hw : GOK ad tys GG w) (hy : W91 G w) => movM_ct (l := l) (D := D) (A := A) hw hy hb (i32b a1) (i32b a2) (i32b a3)
  simp only [oi] at c1 c2
  by_cases k : okMv G a1.toInt a2.toInt a3.toInt
  · exact pairT_md (G' := movG G a1.toInt a2.toInt a3.toInt) hR y (hok_up o (i32b a2)) (fun _ => WF_up wf hb.b4.2 ⟨by omega, by have := k.1; have := k.2.1; have := k.2.2; have := hb.b2; have := hb.b3; omega⟩) (by omega) (by omega) (CT_post c1 (fun r w h => ⟨h.1, h.2.1, (h.2.2.2 k).1, (h.2.2.2 k).2⟩)) (fun w hw hy => CT_post (c2 w hw hy) (fun r w2 h => ⟨h.1, h.2.1, (h.2.2.2 k).1, (h.2.2.2 k).2⟩))
  · exact pairT_md (G' := G) hR y o (fun _ => wf) (by omega) (by omega) (CT_post c1 (fun r w h => ⟨h.1, h.2.1, (h.2.2.1 k).1, (h.2.2.1 k).2⟩)) (fun w hw hy => CT_post (c2 w hw hy) (fun r w2 h => ⟨h.1, h.2.1, (h.2.2.1 k).1, (h.2.2.1 k).2⟩))
theorem pairT_teach (hAD : ∀ i : Nat, ad (1000 + i) = D.2 1000 i) (hG : GOK ad tys GG ws) (hR : RELW ws) (a1 a2 a3 a4 : Int32) : PAIRT l D tys A ad 44 294 [.ref (ad 0), .int a1, .int a2, .int a3, .int a4] [.ref (ad 90), .int a1, .int a2, .int a3, .int a4] ws := by
  obtain ⟨G, o, x, y⟩ := hR.1.2.1
  have hb := hb_of hG y o
  have wf := aux_wf hR.2 x o hb
  have c1 := teaXS_ct (l := l) (D := D) (A := A) hAD hG x hb (i32b a1) (i32b a2) (i32b a3) (i32b a4)
  have c2 := fun (w : va_W) (hw : GOK ad tys GG w) (hy : W91 G w) => teaM_ct (l := l) (D := D) (A := A) hw hy hb (i32b a1) (i32b a2) (i32b a3) (i32b a4)
  simp only [oi] at c1 c2
  by_cases k : okTe G a1.toInt a2.toInt a3.toInt a4.toInt
  · exact pairT_md (G' := teaG G a1.toInt a2.toInt a3.toInt a4.toInt) hR y (hok_up o (i32b _)) (fun _ => WF_up wf hb.b4.2 (by have := k.1; have := k.2.1; have := hb.b3; unfold teaJ; omega)) (by omega) (by omega) (CT_post c1 (fun r w h => ⟨h.1, h.2.1, (h.2.2.2 k).1, (h.2.2.2 k).2⟩)) (fun w hw hy => CT_post (c2 w hw hy) (fun r w2 h => ⟨h.1, h.2.1, (h.2.2.2 k).1, (h.2.2.2 k).2⟩))
  · exact pairT_md (G' := G) hR y o (fun _ => wf) (by omega) (by omega) (CT_post c1 (fun r w h => ⟨h.1, h.2.1, (h.2.2.1 k).1, (h.2.2.1 k).2⟩)) (fun w hw hy => CT_post (c2 w hw hy) (fun r w2 h => ⟨h.1, h.2.1, (h.2.2.1 k).1, (h.2.2.1 k).2⟩))
theorem imgs_newS {q z : Nat} {w0 w1 w2 : va_W} {G : Nat → Int} (q3 : q < 3) (z8 : z < 8) (hR : RELW w0) (o : hOK G) (hB : HB G) (hW : W91 G w0) (hX : HX 4 G w0) (hq : ∀ p, p < 3 → rd w0 93 p = some (.int (bI (z.testBit p))) ∧ (z.testBit p = true → IMG p w0)) (hx : (∀ c i, ¬ (54 + 12 * q ≤ c ∧ c ≤ 65 + 12 * q) → ¬ (c = 0 ∧ i = 12) → rd w1 c i = rd w0 c i) ∧ rd w1 0 12 = some (.int (Int32.ofInt ((z ||| 1 <<< q : Nat) : Int))) ∧ HX (54 + 12 * q) G w1) (hm : (∀ c j, ¬ (c = 92 ∧ 294 * q ≤ j ∧ j < 294 * q + 294) → ¬ (c = 93 ∧ j = q) → rd w2 c j = rd w1 c j) ∧ (∀ j, j < 294 → rd w2 92 (294 * q + j) = rd w1 91 j) ∧ rd w2 93 q = some (.int (Int32.ofInt 1))) : RELW w2 := by
  have r := imgs_new q3 z8 hR.1 o hW hX hq hx hm
  obtain ⟨x1, x2, x3⟩ := hx
  obtain ⟨m1, m2, m3⟩ := hm
  have oo : ∀ c j, ¬ (54 ≤ c ∧ c ≤ 89) → c ≠ 92 → c ≠ 93 → c ≠ 0 → rd w2 c j = rd w0 c j := fun c j h1 h2 h3 h4 => (m1 c j (by omega) (by omega)).trans (x1 c j (by omega) (by omega))
  have wf := aux_wf hR.2 hX o hB
  refine ⟨r, STX_keep hR.2.1 (fun c j hc => oo c j (by omega) (by omega) (by omega) (by omega)), by rw [hlO_keep (w := w0) (fun c j h1 h2 => oo c j (by omega) (by omega) (by omega) (by omega))]; exact hR.2.2.1, fun p p3 e => ?_, (oo _ _ (by omega) (by omega) (by omega) (by omega)).trans hR.2.2.2.2.1, (oo _ _ (by omega) (by omega) (by omega) (by omega)).trans hR.2.2.2.2.2⟩
  by_cases k : p = q
  · subst k
    exact WF_eq (fun j hj => imO_eq (HX_keep x3 (fun c i h1 h2 => m1 c i (by omega) (by omega))) hj (o j hj)) hB.b4.2 wf
  · rw [imO_keep (w := w0) (fun c j h1 h2 => (m1 c j (by omega) (by omega)).trans (x1 c j (by omega) (by omega)))]
    exact hR.2.2.2.1 p p3 (((m1 _ _ (by omega) (by omega)).trans (x1 _ _ (by omega) (by omega))).symm.trans e)
theorem pairT_image (hAD : ∀ i : Nat, ad (1000 + i) = D.2 1000 i) (hG : GOK ad tys GG ws) (hR : RELW ws) (a1 : Int32) : PAIRT l D tys A ad 67 196 [.ref (ad 0), .int a1] [.ref (ad 90), .int a1] ws := by
  obtain ⟨G, o, x, y⟩ := hR.1.2.1
  obtain ⟨z, z8, hz, hq⟩ := hR.1.2.2
  by_cases k : 0 ≤ a1.toInt ∧ a1.toInt ≤ 2
  · rcases three k with rfl | rfl | rfl
    · exact ⟨Int32.ofInt 0, _, ⟨2, by omega, CT_post (imgX_0 (l := l) (D := D) (A := A) z8 hG x hz) (fun r w h => ⟨h.1, h.2.1, h.2.2⟩)⟩, fun w hw K => ⟨4, by omega, CT_post (imgM_ct (q := 0) (by omega) hw) (fun r w2 h => ⟨h.1, h.2.1, imgs_newS (q := 0) (by omega) z8 hR o (hb_of hG y o) y x hq K h.2.2⟩)⟩⟩
    · exact ⟨Int32.ofInt 0, _, ⟨2, by omega, CT_post (imgX_1 (l := l) (D := D) (A := A) z8 hG x hz) (fun r w h => ⟨h.1, h.2.1, h.2.2⟩)⟩, fun w hw K => ⟨4, by omega, CT_post (imgM_ct (q := 1) (by omega) hw) (fun r w2 h => ⟨h.1, h.2.1, imgs_newS (q := 1) (by omega) z8 hR o (hb_of hG y o) y x hq K h.2.2⟩)⟩⟩
    · exact ⟨Int32.ofInt 0, _, ⟨2, by omega, CT_post (imgX_2 (l := l) (D := D) (A := A) z8 hG x hz) (fun r w h => ⟨h.1, h.2.1, h.2.2⟩)⟩, fun w hw K => ⟨4, by omega, CT_post (imgM_ct (q := 2) (by omega) hw) (fun r w2 h => ⟨h.1, h.2.1, imgs_newS (q := 2) (by omega) z8 hR o (hb_of hG y o) y x hq K h.2.2⟩)⟩⟩
  · have c1 := imgX_n (l := l) (D := D) (A := A) (i32b a1) k hG
    have c2 := imgM_n (l := l) (D := D) (A := A) (i32b a1) k hG
    rw [oi] at c1 c2
    exact pairT_ro hG hR (by omega) (by omega) c1 c2
theorem back_oneS {q z : Nat} {c1 : CT l D tys A 68 8 0 0 [.ref (ad 0), .int (Int32.ofInt (q : Int))] ws (fun r w => GOK ad tys GG w ∧ XOT ws w ∧ (z.testBit q = true → r = some (.int (Int32.ofInt 0)) ∧ ∀ G, HX (54 + 12 * q) G ws → HX 4 G w) ∧ (z.testBit q = false → r = some (.int (Int32.ofInt (-6))) ∧ w = ws))} (q3 : q < 3) (hG : GOK ad tys GG ws) (hR : RELW ws) (hq : rd ws 93 q = some (.int (bI (z.testBit q))) ∧ (z.testBit q = true → IMG q ws)) : PAIRT l D tys A ad 68 197 [.ref (ad 0), .int (Int32.ofInt (q : Int))] [.ref (ad 90), .int (Int32.ofInt (q : Int))] ws := by
  by_cases k : z.testBit q = true
  · obtain ⟨G, o, x, y⟩ := hq.2 k
    refine ⟨Int32.ofInt 0, fun w => XOT ws w ∧ HX 4 G w, ⟨8, by omega, CT_post c1 (fun r w h => ⟨(h.2.2.1 k).1, h.1, h.2.1, (h.2.2.1 k).2 G x⟩)⟩, fun w hw K => ⟨4, by omega, CT_post (bakM_ct (q := q) (b := z.testBit q) q3 hw ((K.1.1 _ _ (by omega)).trans hq.1)) (fun r w2 h => ?_)⟩⟩
    obtain ⟨g1, g2, g3, -⟩ := h
    have oo : ∀ c j, ¬ ((4 ≤ c ∧ c ≤ 15) ∨ (29 ≤ c ∧ c ≤ 35)) → c ≠ 91 → rd w2 c j = rd ws c j := fun c j hc h9 => (g2 c j h9).trans (K.1.1 c j hc)
    have hX2 : HX 4 G w2 := HX_keep K.2 (fun c i h1 h2 => g2 c i (by omega))
    have y2 : W91 G w2 := fun j hj => by
      rw [(g3 k).2 j hj, K.1.1 _ _ (by omega)]
      exact y j hj
    have hb := hb_of g1 y2 o
    have wf : WF G := WF_eq (G := imO q ws) (fun j hj => (imO_eq x hj (o j hj)).symm) (by rw [imO_eq x (by omega) (o 4 (by omega))]; exact hb.b4.2) (hR.2.2.2.1 q q3 (by rw [hq.1, k]))
    refine ⟨(g3 k).1, g1, ⟨relf_keep hR.1.1 (fun c hc j => oo c j (by omega) (by omega)) (fun j _ => oo 90 j (by omega) (by omega)), ⟨G, o, hX2, y2⟩, imgs_keep hR.1.2.2 (oo _ _ (by omega) (by omega)) (fun c h1 h2 j => oo c j (by omega) (by omega)) (fun j => oo _ _ (by omega) (by omega)) (fun j => oo _ _ (by omega) (by omega))⟩, STX_keep (K.1.2 hR.2.1) (fun c j hc => g2 c j (by omega)), wf_aux wf hX2 o hb, img3 hR.2.2.2.1 (fun c j hc => oo c j (by omega) (by omega)), (oo _ _ (by omega) (by omega)).trans hR.2.2.2.2.1, (oo _ _ (by omega) (by omega)).trans hR.2.2.2.2.2⟩
  · have k := Bool.eq_false_iff.mpr k
    refine pairT_ro (v := Int32.ofInt (-6)) hG hR (by omega) (by omega) (CT_post c1 (fun r w h => ⟨(h.2.2.2 k).2, (h.2.2.2 k).1⟩)) (CT_post (bakM_ct (q := q) (b := z.testBit q) q3 hG hq.1) (fun r w h => ⟨(h.2.2.2 k).2, (h.2.2.2 k).1⟩))
theorem back_XS {q z : Nat} {G0 : Nat → Int} {r : Option Value} {w : va_W} (h : GOK ad tys GG w ∧ XOT ws w ∧ (z.testBit q = true → r = some (.int (Int32.ofInt 0)) ∧ HX 4 G0 w) ∧ (z.testBit q = false → r = some (.int (Int32.ofInt (-6))) ∧ w = ws)) (h0 : z.testBit q = true → HX (54 + 12 * q) G0 ws) : GOK ad tys GG w ∧ XOT ws w ∧ (z.testBit q = true → r = some (.int (Int32.ofInt 0)) ∧ ∀ G, HX (54 + 12 * q) G ws → HX 4 G w) ∧ (z.testBit q = false → r = some (.int (Int32.ofInt (-6))) ∧ w = ws) := by
  refine ⟨h.1, h.2.1, fun k => ⟨(h.2.2.1 k).1, fun G hX j hj => ?_⟩, h.2.2.2⟩
  have e1 := h0 k j hj
  have e2 := hX j hj
  rw [(h.2.2.1 k).2 j hj, ← e1, e2]
theorem pairT_back (hAD : ∀ i : Nat, ad (1000 + i) = D.2 1000 i) (hG : GOK ad tys GG ws) (hR : RELW ws) (a1 : Int32) : PAIRT l D tys A ad 68 197 [.ref (ad 0), .int a1] [.ref (ad 90), .int a1] ws := by
  obtain ⟨z, z8, hz, hq⟩ := hR.1.2.2
  by_cases k : 0 ≤ a1.toInt ∧ a1.toInt ≤ 2
  · rcases three k with rfl | rfl | rfl
    · obtain ⟨G0, h0⟩ := img_some (hq 0 (by omega)).2
      exact back_oneS (q := 0) (z := z) (c1 := CT_post (bakXS_0 z8 hAD hG h0 hz) (fun r w h => back_XS h h0)) (by omega) hG hR (hq 0 (by omega))
    · obtain ⟨G0, h0⟩ := img_some (hq 1 (by omega)).2
      exact back_oneS (q := 1) (z := z) (c1 := CT_post (bakXS_1 z8 hAD hG h0 hz) (fun r w h => back_XS h h0)) (by omega) hG hR (hq 1 (by omega))
    · obtain ⟨G0, h0⟩ := img_some (hq 2 (by omega)).2
      exact back_oneS (q := 2) (z := z) (c1 := CT_post (bakXS_2 z8 hAD hG h0 hz) (fun r w h => back_XS h h0)) (by omega) hG hR (hq 2 (by omega))
  · have c1 := bakX_n (l := l) (D := D) (A := A) (i32b a1) k hG
    have c2 := bakM_n (l := l) (D := D) (A := A) (i32b a1) k hG
    rw [oi] at c1 c2
    exact pairT_ro hG hR (by omega) (by omega) c1 c2
theorem pairT_feed (hAD : ∀ i : Nat, ad (1000 + i) = D.2 1000 i) (hG : GOK ad tys GG ws) (hR : RELW ws) (a1 a2 a3 a4 a5 : Int32) : PAIRT l D tys A ad 1 210 [.ref (ad 0), .int a1, .int a2, .int a3, .int a4, .int a5] [.ref (ad 90), .int a1, .int a2, .int a3, .int a4, .int a5] ws := by
  obtain ⟨v, MID, k1, k2⟩ := two_feed (l := l) (D := D) (A := A) hG hR.1.1.1 a1 a2 a3 a4 a5
  refine ⟨v, fun w => MID w ∧ ∀ c j, c ≠ 2 → c ≠ 3 → rd w c j = rd ws c j, ⟨2, by omega, CT_post k1 (fun r w h => ⟨h.1, h.2.1, h.2.2.1, h.2.2.2⟩)⟩, fun w hw K => ⟨1, by omega, CT_post (k2 w hw K.1) (fun r w2 h => ?_)⟩⟩
  obtain ⟨g1, g2, g3, g4⟩ := h
  have oo : ∀ c j, c ≠ 2 → c ≠ 3 → c ≠ 94 → c ≠ 95 → ¬ (c = 90 ∧ j = 5) → rd w2 c j = rd ws c j := fun c j h2 h3 h4 h5 h6 => (g4 c j h4 h5 h6).trans (K.2 c j h2 h3)
  exact ⟨g1, g2, ⟨⟨g3, flt_keep hR.1.1.2 (fun j => oo _ _ (by omega) (by omega) (by omega) (by omega) (by omega)) (oo _ _ (by omega) (by omega) (by omega) (by omega) (by omega)) (oo _ _ (by omega) (by omega) (by omega) (by omega) (by omega))⟩, hil_keep hR.1.2.1 (fun c h1 h2 j => oo c j (by omega) (by omega) (by omega) (by omega) (by omega)) (fun j => oo _ _ (by omega) (by omega) (by omega) (by omega) (by omega)), imgs_keep hR.1.2.2 (oo _ _ (by omega) (by omega) (by omega) (by omega) (by omega)) (fun c h1 h2 j => oo c j (by omega) (by omega) (by omega) (by omega) (by omega)) (fun j => oo _ _ (by omega) (by omega) (by omega) (by omega) (by omega)) (fun j => oo _ _ (by omega) (by omega) (by omega) (by omega) (by omega))⟩, aux_keep hR.2 (fun c j hc => oo c j (by omega) (by omega) (by omega) (by omega) (by omega))⟩
theorem pairT_end (hAD : ∀ i : Nat, ad (1000 + i) = D.2 1000 i) (hG : GOK ad tys GG ws) (hR : RELW ws) (a1 : Int32) : PAIRT l D tys A ad 2 211 [.ref (ad 0), .int a1] [.ref (ad 90), .int a1] ws := by
  obtain ⟨v, MID, k1, k2⟩ := two_end (l := l) (D := D) (A := A) hG hR.1.1.1 a1
  refine ⟨v, fun w => MID w ∧ ∀ c j, c ≠ 2 → rd w c j = rd ws c j, ⟨0, by omega, CT_post k1 (fun r w h => ⟨h.1, h.2.1, h.2.2.1, h.2.2.2⟩)⟩, fun w hw K => ⟨1, by omega, CT_post (k2 w hw K.1) (fun r w2 h => ?_)⟩⟩
  obtain ⟨g1, g2, g3, g4⟩ := h
  have oo : ∀ c j, c ≠ 2 → ¬ (c = 90 ∧ j = 5) → rd w2 c j = rd ws c j := fun c j h2 h6 => (g4 c j h6).trans (K.2 c j h2)
  exact ⟨g1, g2, ⟨⟨g3, flt_keep hR.1.1.2 (fun j => oo _ _ (by omega) (by omega)) (oo _ _ (by omega) (by omega)) (oo _ _ (by omega) (by omega))⟩, hil_keep hR.1.2.1 (fun c h1 h2 j => oo c j (by omega) (by omega)) (fun j => oo _ _ (by omega) (by omega)), imgs_keep hR.1.2.2 (oo _ _ (by omega) (by omega)) (fun c h1 h2 j => oo c j (by omega) (by omega)) (fun j => oo _ _ (by omega) (by omega)) (fun j => oo _ _ (by omega) (by omega))⟩, aux_keep hR.2 (fun c j hc => oo c j (by omega) (by omega))⟩
theorem pairT_hill (hAD : ∀ i : Nat, ad (1000 + i) = D.2 1000 i) (hG : GOK ad tys GG ws) (hR : RELW ws) : PAIRT l D tys A ad 3 233 [.ref (ad 0)] [.ref (ad 90)] ws := by
  obtain ⟨n, B, h0, ⟨h1, h2⟩, h3, h4⟩ := hR.1.1.1
  obtain ⟨v0, hv, v1, v2⟩ := celO hG g90f11 (by omega)
  have c1 := hixxS_ct (l := l) (A := A) hAD hG ⟨h1, h0, h2⟩ ⟨v1, v2⟩
  have c2 : ∀ w : va_W, GOK ad tys GG w → HXo ws w → CT l D tys A 233 10 0 0 [.ref (ad 90)] w (HMP ad tys (hillX B n v0) w) := fun w hw K => himx_ct hw h0 ((K _ _ (by omega)).trans h3) (TB_ne h4 (fun j => K _ _ (by omega))) ((K _ _ (by omega)).trans hv) ⟨v1, v2⟩
  refine ⟨if (hillX B n v0).1.2.1 = 0 then Int32.ofInt ((hillX B n v0).2.1 5) else Int32.ofInt (-4), fun w => HXo ws w ∧ rd w 2 1 = some (.int (Int32.ofInt 0)) ∧ (rd w 1 1 = some (.int (Int32.ofInt (hillX B n v0).1.2.1)) ∧ rd w 1 2 = some (.int (Int32.ofInt (hillX B n v0).1.2.2))) ∧ ((hillX B n v0).1.2.1 = 0 → HX 4 (endG (hillX B n v0)) w) ∧ (¬ (hillX B n v0).1.2.1 = 0 → ∀ c j, 4 ≤ c ∧ c ≤ 15 → rd w c j = rd ws c j) ∧ (STX ws → STX w), ⟨10, by omega, CT_post c1 (fun r w h => ?_)⟩, fun w hw K => ⟨10, by omega, CT_post (c2 w hw K.1) (fun r w2 h => ?_)⟩⟩
  · obtain ⟨⟨g1, g2, g3, g4, g5, g6, g7⟩, g8⟩ := h
    refine ⟨?_, g1, g2, g3, ⟨g4, g5⟩, fun q => (g6 q).2, fun q c j hc => (g7 q).2 c j (Or.inl hc), g8⟩
    split
    · next q => exact (g6 q).1
    · next q => exact (g7 q).1
  · obtain ⟨g1, g2, g3, g4, g5, g6, g7⟩ := h
    obtain ⟨K1, K2, K3, K4, K5, K6⟩ := K
    have oo : ∀ c j, ¬ ((c = 2 ∧ 1 ≤ j ∧ j ≤ 5) ∨ (c = 1 ∧ 1 ≤ j ∧ j ≤ 2) ∨ (4 ≤ c ∧ c ≤ 27) ∨ (29 ≤ c ∧ c ≤ 35)) → c ≠ 91 → c ≠ 96 → c ≠ 97 → c ≠ 90 → rd w2 c j = rd ws c j := fun c j a b e f g => (g2 c j b e f (by omega)).trans (K1 c j a)
    refine ⟨?_, g1, ⟨⟨⟨0, B, by omega, ⟨(g2 _ _ (by omega) (by omega) (by omega) (by omega)).trans K2, fun k hk => absurd hk (by omega)⟩, g3, fun k hk => absurd hk (by omega)⟩, _, _, ⟨(g2 _ _ (by omega) (by omega) (by omega) (by omega)).trans K3.1, (g2 _ _ (by omega) (by omega) (by omega) (by omega)).trans K3.2⟩, g4, g5⟩, ?_, imgs_keep hR.1.2.2 (oo _ _ (by omega) (by omega) (by omega) (by omega) (by omega)) (fun c h1 h2 j => oo c j (by omega) (by omega) (by omega) (by omega) (by omega)) (fun j => oo _ _ (by omega) (by omega) (by omega) (by omega) (by omega)) (fun j => oo _ _ (by omega) (by omega) (by omega) (by omega) (by omega))⟩, STX_keep (K6 hR.2.1) (fun c j hc => g2 _ _ (by omega) (by omega) (by omega) (by omega)), ?_, img3 hR.2.2.2.1 (fun c j hc => oo c j (by omega) (by omega) (by omega) (by omega) (by omega)), (g2 _ _ (by omega) (by omega) (by omega) (by omega)).trans ((K1 _ _ (by omega)).trans hR.2.2.2.2.1), (g2 _ _ (by omega) (by omega) (by omega) (by omega)).trans ((K1 _ _ (by omega)).trans hR.2.2.2.2.2)⟩
    · split
      · next q => exact (g6 q).1
      · next q => exact (g7 q).1
    · by_cases q : (hillX B n v0).1.2.1 = 0
      · obtain ⟨-, f1, f2, f3⟩ := g6 q
        exact ⟨endG (hillX B n v0), endG_ok f1 f2, HX_keep (K4 q) (fun c i h1 h2 => g2 _ _ (by omega) (by omega) (by omega) (by omega)), f3⟩
      · refine hil_keep hR.1.2.1 (fun c h1 h2 j => (g2 _ _ (by omega) (by omega) (by omega) (by omega)).trans (K5 q c j ⟨h1, h2⟩)) (fun j => ((g7 q).2 j).trans (K1 _ _ (by omega)))
    · by_cases q : (hillX B n v0).1.2.1 = 0
      · obtain ⟨-, f1, f2, f3⟩ := g6 q
        exact wf_aux (WF_hill q) (HX_keep (K4 q) (fun c i h1 h2 => g2 _ _ (by omega) (by omega) (by omega) (by omega))) (endG_ok f1 f2) (hb_of g1 f3 (endG_ok f1 f2))
      · rw [hlO_keep (w := ws) (fun c j h1 h2 => (g2 _ _ (by omega) (by omega) (by omega) (by omega)).trans (K5 q c j ⟨h1, h2⟩))]
        exact hR.2.2.1
end XSK
end
section
section XSL
variable {l : Launch} {D : va_G} {tys : List (ClassId × FieldType)} {A : Nat → Prop} {ad : Nat → Nat} {ws : va_W}
theorem oneT_ok {G : Nat → Int} {s : Nat} {T : TT} (h : kOK T.K) (hi : sWhi G s < 6) : kOK (oneT G s T).K := by
  unfold oneT
  split
  · exact spK_ok h hi
  · exact h
theorem sayT_ok {G : Nat → Int} {h : Nat} (hB : HB G) : ∀ (m s : Nat) (T : TT), s + m ≤ 12 → kOK T.K → kOK (sayT G h m s T).K
  | 0, s, T, _, k => k
  | m + 1, s, T, hm, k => by
    obtain ⟨⟨w6, o6, i6, n24⟩, -⟩ := say_b hB (s := s) (by omega)
    unfold sayT
    split
    · exact sayT_ok hB m (s + 1) _ (by omega) (oneT_ok k i6)
    · exact sayT_ok hB m (s + 1) _ (by omega) k
theorem tell_ok {G : Nat → Int} (hB : HB G) : ∀ h : Nat, kOK (tellT G h).K
  | 0 => ini_ok hB
  | h + 1 => sayT_ok hB _ _ _ (by have := hB.b4; omega) (tell_ok hB h)
theorem sayT_no {G : Nat → Int} {h S : Nat} (w : ∀ s, s < S → sWhn G s ≠ h) : ∀ (m s : Nat) (T : TT), s + m = S → sayT G h m s T = T
  | 0, s, T, _ => rfl
  | m + 1, s, T, hm => by
    unfold sayT
    rw [if_neg (w s (by omega))]
    exact sayT_no w m (s + 1) T (by omega)
theorem tell_end {G : Nat → Int} (hB : HB G) (wf : WF G) : tellT G ((G 2).toNat + 1) = tellT G (G 2).toNat := by
  show sayT G (G 2).toNat (G 4).toNat 0 (tellT G (G 2).toNat) = _
  exact sayT_no (S := (G 4).toNat) (fun s hs => by have := WF_n hB wf s hs; omega) _ _ _ (by omega)
/-- the reference has told -/
noncomputable def MTO (w0 w : va_W) : Prop := ∀ c j, ¬ (98 ≤ c ∧ c ≤ 101) → ¬ (c = 90 ∧ (j = 18 ∨ j = 21)) → rd w c j = rd w0 c j
noncomputable def MT (ad : Nat → Nat) (tys : List (ClassId × FieldType)) (G : Nat → Int) (w0 w : va_W) : Prop := GOK ad tys GG w ∧ KNM G ((G 2).toNat + 1) w ∧ (rd w 90 18 = some (.int (tellT G (G 2).toNat).sd) ∧ (∀ i, i < 12 → rd w 100 i = some (.int (Int32.ofInt ((tellT G (G 2).toNat).hb i)))) ∧ ∀ i, i < 12 → rd w 101 i = some (.int (Int32.ofInt ((tellT G (G 2).toNat).lb i)))) ∧ MTO w0 w
theorem gt_ct {G : Nat → Int} (hB : HB G) (wf : WF G) (hG : GOK ad tys GG ws) (hW : W91 G ws) (h24 : rd ws 90 24 = some (.int (Int32.ofInt 0))) (h22 : rd ws 90 22 = some (.int (Int32.ofInt (-1)))) : CT l D tys A 238 8 0 0 [.ref (ad 90)] ws (fun r w => r = none ∧ MT ad tys G ws w) :=
  CT_post (gat_ct hB hG hW h24 h22) (fun r w h => by
    obtain ⟨e, T, k, o⟩ := h
    rw [tell_end hB wf] at T
    exact ⟨e, T.g, k, ⟨T.s, T.h, T.lr⟩, fun c j h1 h2 => o c j (by omega) (by omega) (by omega)⟩)
theorem pairT_st {kx km d1 d2 : Nat} {xs ms : List Value} {v : Int32} (hG : GOK ad tys GG ws) (hR : RELW ws) (h1 : d1 < 11) (h2 : d2 < 11) (c1 : CT l D tys A kx d1 0 0 xs ws (fun r w => w = ws ∧ r = some (.int v))) (c2 : CT l D tys A km d2 0 0 ms ws (fun r w => (GOK ad tys GG w ∧ MTO ws w) ∧ r = some (.int v))) : PAIRT l D tys A ad kx km xs ms ws := by
  refine ⟨v, fun w => w = ws, ⟨d1, h1, CT_post c1 (fun r w h => ?_)⟩, fun w hw K => ⟨d2, h2, ?_⟩⟩
  · obtain ⟨rfl, e⟩ := h
    exact ⟨e, hG, rfl⟩
  · subst K
    refine CT_post c2 (fun r w2 h => ?_)
    obtain ⟨⟨g, o⟩, e⟩ := h
    exact ⟨e, g, relh_keep hR.1 (fun c hc j => o c j (by omega) (by omega)) (fun j hj => o 90 j (by omega) (fun q => by
      obtain ⟨-, q⟩ := q
      rcases q with rfl | rfl
      · exact absurd hj (by unfold spK; decide)
      · exact absurd hj (by unfold spK; decide))), aux_keep hR.2 (fun c j hc => o c j (by omega) (by omega))⟩
theorem stb_ct {f o g : Nat} {v : Int32} (hG : GOK ad tys GG ws) (hf : f < 6) (ho : o < 6) (hg : g ≤ 24) (h : rd ws 33 (36 * g + (6 * f + o)) = some (.int v)) : CT l D tys A 176 1 0 0 [.ref (ad 32), .int (Int32.ofInt ((f : Int))), .int (Int32.ofInt ((o : Int))), .int (Int32.ofInt ((g : Int)))] ws (fun r w => w = ws ∧ r = some (.int v)) := by
  refine CT_of_V (by omega) (show (4 : Nat) ≤ mML 176 by decide +kernel) ?_
  refine V_aload (v := ad 32) mi_176_0 (by simp [stL, lv_args, Value.category]) ?_
  refine V_gR mi_176_1 g32r0 (by omega) hG ?_
  refine V_iload (v := Int32.ofInt ((g : Int))) mi_176_4 (by simp [stL, lv_args, Value.category]) ?_
  refine V_ipush mi_176_5 ?_
  refine V_ibin mi_176_7 (by omega) ?_
  rw [ib2]
  refine V_iload (v := Int32.ofInt ((f : Int))) mi_176_8 (by simp [stL, lv_args, Value.category]) ?_
  refine V_ipush mi_176_9 ?_
  refine V_ibin mi_176_11 (by omega) ?_
  rw [ib2]
  refine V_ibin mi_176_12 (by omega) ?_
  rw [ib0]
  refine V_iload (v := Int32.ofInt ((o : Int))) mi_176_13 (by simp [stL, lv_args, Value.category]) ?_
  refine V_ibin mi_176_14 (by omega) ?_
  rw [ib0]
  rw [show (g : Int) * (36) + (f : Int) * (6) + (o : Int) = ((36 * g + (6 * f + o) : Nat) : Int) by omega]
  refine V_stat (As := [.ref (ad 33), .int (Int32.ofInt (((36 * g + (6 * f + o) : Nat) : Int)))]) (st := []) mi_176_15 (by omega) (atk_ct (j := 36 * g + (6 * f + o)) a33 hG (by omega) (by omega) h) (by omega) (show 2 = mN 147 by decide +kernel) (by simp [Value.category]) ⟨Nat.le_refl _, Nat.le_refl _⟩ ?_
  rintro r w1 ⟨rfl, rfl⟩
  exact V_retI mi_176_18 (fun h => absurd h (by decide +kernel)) ⟨rfl, rfl⟩
theorem sto_k {G : Nat → Int} {w : va_W} (hB : HB G) (hS : STO G w) {f o g : Nat} (hf : (f : Int) < G 3) (ho : o < 6) (hg : (g : Int) ≤ G 2) : rd w 33 (36 * g + (6 * f + o)) = some (.int (Int32.ofInt ((tellT G g).K (6 * f + o)))) :=
  hS.2.2.1 g (by omega) (6 * f + o) (by have := hB.b3; omega) (by omega)
theorem kah_ct {f o g : Nat} {z : Int} (hG : GOK ad tys GG ws) (hf : f < 6) (ho : o < 6) (hg : g ≤ 24) (h : rd ws 98 (36 * g + (6 * f + o)) = some (.int (Int32.ofInt z))) : CT l D tys A 239 0 0 0 [.ref (ad 90), .int (Int32.ofInt ((f : Int))), .int (Int32.ofInt ((o : Int))), .int (Int32.ofInt ((g : Int)))] ws (fun r w => w = ws ∧ r = some (.int (Int32.ofInt z))) := by
  refine CT_of_V (by omega) (show (4 : Nat) ≤ mML 239 by decide +kernel) ?_
  obtain ⟨s98, e98, f98⟩ := a98
  refine V_aload (v := ad 90) mi_239_0 (by simp [stL, lv_args, Value.category]) ?_
  refine V_getI mi_239_1 hG (rref gr16 (by omega) hG) ?_
  refine V_ipush mi_239_4 ?_
  refine V_iload (v := Int32.ofInt ((g : Int))) mi_239_6 (by simp [stL, lv_args, Value.category]) ?_
  refine V_ibin mi_239_7 (by omega) ?_
  rw [ib2]
  refine V_ipush mi_239_8 ?_
  refine V_iload (v := Int32.ofInt ((f : Int))) mi_239_10 (by simp [stL, lv_args, Value.category]) ?_
  refine V_ibin mi_239_11 (by omega) ?_
  rw [ib2]
  refine V_ibin mi_239_12 (by omega) ?_
  rw [ib0]
  refine V_iload (v := Int32.ofInt ((o : Int))) mi_239_13 (by simp [stL, lv_args, Value.category]) ?_
  refine V_ibin mi_239_14 (by omega) ?_
  rw [ib0]
  refine V_aldX (j := 36 * g + (6 * f + o)) mi_239_15 (by rw [show (((36) * ((g : Int))) + ((6) * ((f : Int)))) + ((o : Int)) = ((36 * g + (6 * f + o) : Nat) : Int) by omega]) hG e98 (by omega) (by omega) (h) ?_
  exact V_retI mi_239_16 (fun h => absurd h (by decide +kernel)) ⟨rfl, rfl⟩
theorem mt_k {G : Nat → Int} {w0 w : va_W} (h : MT ad tys G w0 w) {f o g : Nat} (hf : f < 6) (ho : o < 6) (hg : (g : Int) ≤ G 2) : rd w 98 (36 * g + (6 * f + o)) = some (.int (Int32.ofInt ((tellT G g).K (6 * f + o)))) :=
  h.2.1 g (by omega) (6 * f + o) (by omega)
end XSL
end
section
section XSM
variable {l : Launch} {D : va_G} {tys : List (ClassId × FieldType)} {A : Nat → Prop} {ad : Nat → Nat} {ws : va_W}
/-- whole, ahead of hour g -/
noncomputable def whB (G : Nat → Int) (g f o : Nat) : Bool := decide ((tellT G g).K (6 * f + o) = allV (G (6 + 7 * o)))
theorem swh_ct {G : Nat → Int} (hG : GOK ad tys GG ws) (hX : HX 4 G ws) (hB : HB G) (hS : STO G ws) {f o g : Nat} (hf : (f : Int) < G 3) (ho : o < 6) (hg : (g : Int) ≤ G 2) : CT l D tys A 177 2 0 0 [.ref (ad 32), .ref (ad 4), .int (Int32.ofInt ((f : Int))), .int (Int32.ofInt ((o : Int))), .int (Int32.ofInt ((g : Int)))] ws (fun r w => w = ws ∧ r = some (.int (bI (whB G g f o)))) := by
  refine CT_of_V (by omega) (show (5 : Nat) ≤ mML 177 by decide +kernel) ?_
  have b3 := hB.b3
  have b2 := hB.b2
  have bl := hB.bl o ho
  have ba := (allV_k bl.1 bl.2).2
  have bk := tell_ok hB g (6 * f + o) (by omega)
  refine V_aload (v := ad 32) mi_177_0 (by simp [stL, lv_args, Value.category]) ?_
  refine V_iload (v := Int32.ofInt ((f : Int))) mi_177_1 (by simp [stL, lv_args, Value.category]) ?_
  refine V_iload (v := Int32.ofInt ((o : Int))) mi_177_2 (by simp [stL, lv_args, Value.category]) ?_
  refine V_iload (v := Int32.ofInt ((g : Int))) mi_177_3 (by simp [stL, lv_args, Value.category]) ?_
  refine V_cO (As := [.int (Int32.ofInt ((f : Int))), .int (Int32.ofInt ((o : Int))), .int (Int32.ofInt ((g : Int)))]) (st := []) mi_177_5 (by omega) (by decide +kernel) (by decide +kernel) (by omega) g32o hG (stb_ct (f := f) (o := o) (g := g) hG (by omega) ho (by omega) (sto_k hB hS hf ho hg)) (by omega) (show 3 = mN 176 by decide +kernel) (by simp [Value.category]) ?_
  rintro r w1 ⟨rfl, rfl⟩
  refine V_aload (v := ad 4) mi_177_8 (by simp [stL, lv_args, Value.category]) ?_
  refine V_iload (v := Int32.ofInt ((o : Int))) mi_177_9 (by simp [stL, lv_args, Value.category]) ?_
  refine V_cO (As := [.int (Int32.ofInt ((o : Int)))]) (st := [.int (Int32.ofInt ((tellT G g).K (6 * f + o)))]) mi_177_10 (by omega) (by decide +kernel) (by decide +kernel) (by omega) g4o hG (alf_ct (f := o) hG hX hB ho) (by omega) (show 1 = mN 108 by decide +kernel) (by simp [Value.category]) ?_
  rintro r w2 ⟨rfl, rfl⟩
  refine V_cne mi_177_13 ⟨by omega, by omega⟩ ⟨by omega, by omega⟩ (fun q => ?_) (fun q => ?_)
  · refine V_ipush mi_177_20 ?_
    exact V_retI mi_177_21 (fun _ => by decide) ⟨rfl, by rw [show whB G g f o = false from decide_eq_false q]; rfl⟩
  · refine V_ipush mi_177_16 ?_
    refine V_goto mi_177_17 ?_
    exact V_retI mi_177_21 (fun _ => by decide) ⟨rfl, by rw [show whB G g f o = true from decide_eq_true q]; rfl⟩
theorem mwh_ct {G : Nat → Int} {w0 : va_W} (hT : MT ad tys G w0 ws) (hW : W91 G ws) (hB : HB G) {f o g : Nat} (hf : f < 6) (ho : o < 6) (hg : (g : Int) ≤ G 2) : CT l D tys A 241 2 0 0 [.ref (ad 90), .int (Int32.ofInt ((f : Int))), .int (Int32.ofInt ((o : Int))), .int (Int32.ofInt ((g : Int)))] ws (fun r w => w = ws ∧ r = some (.int (bI (whB G g f o)))) := by
  refine CT_of_V (by omega) (show (4 : Nat) ≤ mML 241 by decide +kernel) ?_
  have b3 := hB.b3
  have b2 := hB.b2
  have bl := hB.bl o ho
  have ba := (allV_k bl.1 bl.2).2
  have bk := tell_ok hB g (6 * f + o) (by omega)
  refine V_aload (v := ad 90) mi_241_0 (by simp [stL, lv_args, Value.category]) ?_
  refine V_iload (v := Int32.ofInt ((f : Int))) mi_241_1 (by simp [stL, lv_args, Value.category]) ?_
  refine V_iload (v := Int32.ofInt ((o : Int))) mi_241_2 (by simp [stL, lv_args, Value.category]) ?_
  refine V_iload (v := Int32.ofInt ((g : Int))) mi_241_3 (by simp [stL, lv_args, Value.category]) ?_
  refine V_callM (As := [.int (Int32.ofInt ((f : Int))), .int (Int32.ofInt ((o : Int))), .int (Int32.ofInt ((g : Int)))]) (st := []) mi_241_4 (by omega) (by decide +kernel) (by decide +kernel) hT.1 (kah_ct (f := f) (o := o) (g := g) hT.1 hf ho (by omega) (mt_k hT hf ho hg)) (by omega) (show 3 = mN 239 by decide +kernel) (by simp [Value.category]) ?_
  rintro r w1 ⟨rfl, rfl⟩
  refine V_aload (v := ad 90) mi_241_7 (by simp [stL, lv_args, Value.category]) ?_
  refine V_iload (v := Int32.ofInt ((o : Int))) mi_241_8 (by simp [stL, lv_args, Value.category]) ?_
  refine V_callM (As := [.int (Int32.ofInt ((o : Int)))]) (st := [.int (Int32.ofInt ((tellT G g).K (6 * f + o)))]) mi_241_9 (by omega) (by decide +kernel) (by decide +kernel) hT.1 (who_ct (o := o) ho hT.1 hW hB) (by omega) (show 1 = mN 206 by decide +kernel) (by simp [Value.category]) ?_
  rintro r w2 ⟨rfl, rfl⟩
  refine V_cne mi_241_12 ⟨by omega, by omega⟩ ⟨by omega, by omega⟩ (fun q => ?_) (fun q => ?_)
  · refine V_ipush mi_241_19 ?_
    exact V_retI mi_241_20 (fun _ => by decide) ⟨rfl, by rw [show whB G g f o = false from decide_eq_false q]; rfl⟩
  · refine V_ipush mi_241_15 ?_
    refine V_goto mi_241_16 ?_
    exact V_retI mi_241_20 (fun _ => by decide) ⟨rfl, by rw [show whB G g f o = true from decide_eq_true q]; rfl⟩
theorem mt_w {G : Nat → Int} {w0 w : va_W} (h : MT ad tys G w0 w) (hW : W91 G w0) : W91 G w := fun j hj => (h.2.2.2 91 j (by omega) (by omega)).trans (hW j hj)
end XSM
end
section
section XSR
variable {l : Launch} {D : va_G} {tys : List (ClassId × FieldType)} {A : Nat → Prop} {ad : Nat → Nat} {ws : va_W}
/-- the hours of a call, from t on -/
noncomputable def caI (G : Nat → Int) (f o : Nat) (L : Int) : Nat → Nat → Int
  | 0, _ => L
  | m + 1, t => if G (102 + (24 * f + t)) = G (102 + (24 * o + t)) then caI G f o L m (t + 1) else -1
noncomputable def caL (G : Nat → Int) (f o h : Nat) : Int := (h : Int) + G (6 + 7 * o) * G (48 + f) - 1
noncomputable def laI (G : Nat → Int) (f o h : Nat) : Int := if whB G h f o = true then (if 0 ≤ caL G f o h ∧ caL G f o h < G 2 then caI G f o (caL G f o h) (caL G f o h + 1 - h).toNat h else -1) else -5
theorem mul_bd {a b : Int} (a0 : 0 ≤ a) (a6 : a ≤ 6) (b0 : 0 ≤ b) (b4 : b ≤ 4) : 0 ≤ a * b ∧ a * b ≤ 24 := by
  obtain ⟨m, rfl⟩ := Int.eq_ofNat_of_zero_le a0
  obtain ⟨n, rfl⟩ := Int.eq_ofNat_of_zero_le b0
  have h : (List.range 7).all (fun m => (List.range 5).all (fun n => decide (m * n ≤ 24))) = true := by decide +kernel
  have q := of_decide_eq_true (List.all_eq_true.mp (List.all_eq_true.mp h m (List.mem_range.mpr (by omega))) n (List.mem_range.mpr (by omega)))
  have e : (m : Int) * (n : Int) = ((m * n : Nat) : Int) := (Int.natCast_mul m n).symm
  rw [e]
  omega
theorem caL_bd {G : Nat → Int} (hB : HB G) {f o h : Nat} (hf : f < 6) (ho : o < 6) : (h : Int) - 1 ≤ caL G f o h ∧ caL G f o h ≤ (h : Int) + 23 := by
  have bl := hB.bl o ho
  have bs := hB.bs f hf
  have := mul_bd bl.1 bl.2 bs.1 bs.2
  unfold caL
  omega
theorem ca_63 {G : Nat → Int} (hG : GOK ad tys GG ws) (hX : HX 4 G ws) (hB : HB G) {f o h : Nat} {L : Int} {post : Option Value → va_W → Prop} (hf : (f : Int) < G 3) (ho : (o : Int) < G 3) (hL : -1 ≤ L ∧ L < G 2) : ∀ (m t : Nat), ((t + m : Nat) : Int) = L + 1 → post (some (.int (Int32.ofInt (caI G f o L m t)))) ws → V l D tys A 26 3 0 0 post 0 0 63 [(0, .ref (ad 0)), (1, .int (Int32.ofInt ((f : Int)))), (2, .int (Int32.ofInt ((o : Int)))), (3, .int (Int32.ofInt ((h : Int)))), (4, .int (Int32.ofInt (L))), (5, .int (Int32.ofInt ((t : Int))))] [] ws
  | 0, t, hm, kk => by
    refine V_iload (v := Int32.ofInt ((t : Int))) mi_26_63 (by simp [stL, lv_args, Value.category]) ?_
    refine V_iload (v := Int32.ofInt (L)) mi_26_65 (by simp [stL, lv_args, Value.category]) ?_
    have b2 := hB.b2
    refine V_cgt mi_26_67 ⟨by omega, by omega⟩ ⟨by omega, by omega⟩ (fun q => ?_) (fun q => ?_)
    · refine V_iload (v := Int32.ofInt (L)) mi_26_101 (by simp [stL, lv_args, Value.category]) ?_
      exact V_retI mi_26_103 (fun h => absurd h (by decide +kernel)) kk
    · exact absurd q (by omega)
  | m + 1, t, hm, kk => by
    refine V_iload (v := Int32.ofInt ((t : Int))) mi_26_63 (by simp [stL, lv_args, Value.category]) ?_
    refine V_iload (v := Int32.ofInt (L)) mi_26_65 (by simp [stL, lv_args, Value.category]) ?_
    have b2 := hB.b2
    have b3 := hB.b3
    refine V_cgt mi_26_67 ⟨by omega, by omega⟩ ⟨by omega, by omega⟩ (fun q => ?_) (fun q => ?_)
    · exact absurd q (by omega)
    · have bf := hB.bp (24 * f + t) (by omega)
      have bo := hB.bp (24 * o + t) (by omega)
      refine V_aload (v := ad 0) mi_26_70 (by simp [stL, lv_args, Value.category]) ?_
      refine V_gR mi_26_71 g0r2 (by omega) hG ?_
      refine V_iload (v := Int32.ofInt ((f : Int))) mi_26_74 (by simp [stL, lv_args, Value.category]) ?_
      refine V_iload (v := Int32.ofInt ((t : Int))) mi_26_75 (by simp [stL, lv_args, Value.category]) ?_
      refine V_cO (As := [.int (Int32.ofInt ((f : Int))), .int (Int32.ofInt ((t : Int)))]) (st := []) mi_26_77 (by omega) (by decide +kernel) (by decide +kernel) (by omega) g4o hG (hpl_ct (f := f) (h := t) hG hX hB hf (by omega)) (by omega) (show 2 = mN 110 by decide +kernel) (by simp [Value.category]) ?_
      rintro r w1 ⟨e1, rfl⟩
      rw [e1]
      refine V_aload (v := ad 0) mi_26_80 (by simp [stL, lv_args, Value.category]) ?_
      refine V_gR mi_26_81 g0r2 (by omega) hG ?_
      refine V_iload (v := Int32.ofInt ((o : Int))) mi_26_84 (by simp [stL, lv_args, Value.category]) ?_
      refine V_iload (v := Int32.ofInt ((t : Int))) mi_26_85 (by simp [stL, lv_args, Value.category]) ?_
      refine V_cO (As := [.int (Int32.ofInt ((o : Int))), .int (Int32.ofInt ((t : Int)))]) (st := [.int (Int32.ofInt (G (102 + (24 * f + t))))]) mi_26_87 (by omega) (by decide +kernel) (by decide +kernel) (by omega) g4o hG (hpl_ct (f := o) (h := t) hG hX hB ho (by omega)) (by omega) (show 2 = mN 110 by decide +kernel) (by simp [Value.category]) ?_
      rintro r w2 ⟨e2, rfl⟩
      rw [e2]
      refine V_ceq mi_26_90 ⟨by omega, by omega⟩ ⟨by omega, by omega⟩ (fun q2 => ?_) (fun q2 => ?_)
      · refine V_iinc (v := Int32.ofInt ((t : Int))) mi_26_95 (by simp [stL, lv_args, Value.category]) ?_
        rw [ia2]
        refine V_goto mi_26_98 ?_
        refine V_sub (lv' := [(0, .ref (ad 0)), (1, .int (Int32.ofInt ((f : Int)))), (2, .int (Int32.ofInt ((o : Int)))), (3, .int (Int32.ofInt ((h : Int)))), (4, .int (Int32.ofInt (L))), (5, .int (Int32.ofInt (((t + 1 : Nat) : Int))))]) (fun q hq => ?_) ?_
        · simp only [List.mem_cons, List.not_mem_nil, or_false] at hq
          rcases hq with rfl | rfl | rfl | rfl | rfl | rfl <;> simp [stL, lv_args, Value.category]
        rw [show caI G f o L (m + 1) t = caI G f o L m (t + 1) from if_pos q2] at kk
        exact ca_63 hG hX hB hf ho hL m (t + 1) (by omega) kk
      · refine V_ipush mi_26_93 ?_
        rw [show caI G f o L (m + 1) t = -1 from if_neg q2] at kk
        exact V_retI mi_26_94 (fun h => absurd h (by decide +kernel)) kk
theorem laX_ct {G : Nat → Int} (hG : GOK ad tys GG ws) (hX : HX 4 G ws) (hB : HB G) (hS : STO G ws) {f o h : Nat} (hf : (f : Int) < G 3) (ho : (o : Int) < G 3) (hh : (h : Int) < G 2) : CT l D tys A 26 3 0 0 [.ref (ad 0), .int (Int32.ofInt ((f : Int))), .int (Int32.ofInt ((o : Int))), .int (Int32.ofInt ((h : Int)))] ws (fun r w => w = ws ∧ r = some (.int (Int32.ofInt (laI G f o h)))) := by
  refine CT_of_V (by omega) (show (4 : Nat) ≤ mML 26 by decide +kernel) ?_
  have b3 := hB.b3
  have b2 := hB.b2
  have bl := hB.bl o (by omega)
  have bs := hB.bs f (by omega)
  have bL := caL_bd hB (f := f) (o := o) (h := h) (by omega) (by omega)
  refine V_aload (v := ad 0) mi_26_0 (by simp [stL, lv_args, Value.category]) ?_
  refine V_gR mi_26_1 g0r5 (by omega) hG ?_
  refine V_aload (v := ad 0) mi_26_4 (by simp [stL, lv_args, Value.category]) ?_
  refine V_gR mi_26_5 g0r2 (by omega) hG ?_
  refine V_iload (v := Int32.ofInt ((f : Int))) mi_26_8 (by simp [stL, lv_args, Value.category]) ?_
  refine V_iload (v := Int32.ofInt ((o : Int))) mi_26_9 (by simp [stL, lv_args, Value.category]) ?_
  refine V_iload (v := Int32.ofInt ((h : Int))) mi_26_10 (by simp [stL, lv_args, Value.category]) ?_
  refine V_cO (As := [.ref (ad 4), .int (Int32.ofInt ((f : Int))), .int (Int32.ofInt ((o : Int))), .int (Int32.ofInt ((h : Int)))]) (st := []) mi_26_11 (by omega) (by decide +kernel) (by decide +kernel) (by omega) g32o hG (swh_ct (f := f) (o := o) (g := h) hG hX hB hS hf (by omega) (by omega)) (by omega) (show 4 = mN 177 by decide +kernel) (by simp [Value.category]) ?_
  rintro r w1 ⟨rfl, rfl⟩
  refine V_bne mi_26_14  (fun q => ?_) (fun q => ?_)
  · have e1 : laI G f o h = (if 0 ≤ caL G f o h ∧ caL G f o h < G 2 then caI G f o (caL G f o h) (caL G f o h + 1 - h).toNat h else -1) := if_pos q
    refine V_iload (v := Int32.ofInt ((h : Int))) mi_26_20 (by simp [stL, lv_args, Value.category]) ?_
    refine V_aload (v := ad 0) mi_26_21 (by simp [stL, lv_args, Value.category]) ?_
    refine V_gR mi_26_22 g0r2 (by omega) hG ?_
    refine V_iload (v := Int32.ofInt ((o : Int))) mi_26_25 (by simp [stL, lv_args, Value.category]) ?_
    refine V_cO (As := [.int (Int32.ofInt ((o : Int)))]) (st := [.int (Int32.ofInt ((h : Int)))]) mi_26_26 (by omega) (by decide +kernel) (by decide +kernel) (by omega) g4o hG (hle_ct (f := o) hG hX hB (by omega)) (by omega) (show 1 = mN 106 by decide +kernel) (by simp [Value.category]) ?_
    rintro r w2 ⟨rfl, rfl⟩
    refine V_aload (v := ad 0) mi_26_29 (by simp [stL, lv_args, Value.category]) ?_
    refine V_gR mi_26_30 g0r2 (by omega) hG ?_
    refine V_gR mi_26_33 g4r8 (by omega) hG ?_
    refine V_iload (v := Int32.ofInt ((f : Int))) mi_26_36 (by simp [stL, lv_args, Value.category]) ?_
    refine V_stat (As := [.ref (ad 7), .int (Int32.ofInt ((f : Int)))]) (st := [.int (Int32.ofInt (G (6 + 7 * o))), .int (Int32.ofInt ((h : Int)))]) mi_26_37 (by omega) (atk_ct (j := f) a7 hG (by omega) (by omega) (HX_HY hX 3 (by omega) f (show f < 6 by omega))) (by omega) (show 2 = mN 147 by decide +kernel) (by simp [Value.category]) ⟨Nat.le_refl _, Nat.le_refl _⟩ ?_
    rintro r w3 ⟨rfl, rfl⟩
    rw [show hxJ 3 f = 48 + f from rfl]
    refine V_ibin mi_26_40 (by omega) ?_
    rw [ib2]
    refine V_ibin mi_26_41 (by omega) ?_
    rw [ib0]
    refine V_ipush mi_26_42 ?_
    refine V_ibin mi_26_43 (by omega) ?_
    rw [ib1]
    rw [show (h : Int) + G (6 + 7 * o) * G (48 + f) - 1 = caL G f o h from rfl]
    refine V_istore mi_26_44 ?_
    refine V_aload (v := ad 0) mi_26_46 (by simp [stL, lv_args, Value.category]) ?_
    refine V_gR mi_26_47 g0r2 (by omega) hG ?_
    refine V_iload (v := Int32.ofInt (caL G f o h)) mi_26_50 (by simp [stL, lv_args, Value.category]) ?_
    refine V_cO (As := [.int (Int32.ofInt (caL G f o h))]) (st := []) mi_26_52 (by omega) (by decide +kernel) (by decide +kernel) (by omega) g4o hG (hho_ct hG hX hB (f := caL G f o h) ⟨by omega, by omega⟩) (by omega) (show 1 = mN 103 by decide +kernel) (by simp [Value.category]) ?_
    rintro r w4 ⟨rfl, rfl⟩
    refine V_bne mi_26_55  (fun q2 => ?_) (fun q2 => ?_)
    · have c := of_decide_eq_true q2
      rw [if_pos c] at e1
      refine V_iload (v := Int32.ofInt ((h : Int))) mi_26_60 (by simp [stL, lv_args, Value.category]) ?_
      refine V_istore mi_26_61 ?_
      refine V_sub (lv' := [(0, .ref (ad 0)), (1, .int (Int32.ofInt ((f : Int)))), (2, .int (Int32.ofInt ((o : Int)))), (3, .int (Int32.ofInt ((h : Int)))), (4, .int (Int32.ofInt (caL G f o h))), (5, .int (Int32.ofInt ((h : Int))))]) (fun q hq => ?_) ?_
      · simp only [List.mem_cons, List.not_mem_nil, or_false] at hq
        rcases hq with rfl | rfl | rfl | rfl | rfl | rfl <;> simp [stL, lv_args, Value.category]
      exact ca_63 (h := h) hG hX hB hf ho ⟨by omega, c.2⟩ (caL G f o h + 1 - h).toNat h (by omega) ⟨rfl, by rw [e1]⟩
    · rw [if_neg (of_decide_eq_false q2)] at e1
      refine V_ipush mi_26_58 ?_
      exact V_retI mi_26_59 (fun h => absurd h (by decide +kernel)) ⟨rfl, by rw [e1]⟩
  · refine V_ipush mi_26_17 ?_
    exact V_retI mi_26_19 (fun h => absurd h (by decide +kernel)) ⟨rfl, by rw [show laI G f o h = -5 from if_neg (by rw [q]; exact Bool.false_ne_true)]⟩
theorem cm_50 {G : Nat → Int} {w0 : va_W} (hT : MT ad tys G w0 ws) (hW : W91 G ws) (hB : HB G) {f o h : Nat} {L : Int} {post : Option Value → va_W → Prop} (hf : f < 6) (ho : o < 6) (hL : -1 ≤ L ∧ L < G 2) : ∀ (m t : Nat), ((t + m : Nat) : Int) = L + 1 → post (some (.int (Int32.ofInt (caI G f o L m t)))) ws → V l D tys A 265 3 0 0 post 0 0 50 [(0, .ref (ad 90)), (1, .int (Int32.ofInt ((f : Int)))), (2, .int (Int32.ofInt ((o : Int)))), (3, .int (Int32.ofInt ((h : Int)))), (4, .int (Int32.ofInt (L))), (5, .int (Int32.ofInt ((t : Int))))] [] ws
  | 0, t, hm, kk => by
    refine V_iload (v := Int32.ofInt ((t : Int))) mi_265_50 (by simp [stL, lv_args, Value.category]) ?_
    refine V_iload (v := Int32.ofInt (L)) mi_265_52 (by simp [stL, lv_args, Value.category]) ?_
    have b2 := hB.b2
    refine V_cgt mi_265_54 ⟨by omega, by omega⟩ ⟨by omega, by omega⟩ (fun q => ?_) (fun q => ?_)
    · refine V_iload (v := Int32.ofInt (L)) mi_265_76 (by simp [stL, lv_args, Value.category]) ?_
      exact V_retI mi_265_78 (fun h => absurd h (by decide +kernel)) kk
    · exact absurd q (by omega)
  | m + 1, t, hm, kk => by
    refine V_iload (v := Int32.ofInt ((t : Int))) mi_265_50 (by simp [stL, lv_args, Value.category]) ?_
    refine V_iload (v := Int32.ofInt (L)) mi_265_52 (by simp [stL, lv_args, Value.category]) ?_
    have b2 := hB.b2
    refine V_cgt mi_265_54 ⟨by omega, by omega⟩ ⟨by omega, by omega⟩ (fun q => ?_) (fun q => ?_)
    · exact absurd q (by omega)
    · refine V_aload (v := ad 90) mi_265_57 (by simp [stL, lv_args, Value.category]) ?_
      refine V_iload (v := Int32.ofInt ((f : Int))) mi_265_58 (by simp [stL, lv_args, Value.category]) ?_
      refine V_iload (v := Int32.ofInt ((o : Int))) mi_265_59 (by simp [stL, lv_args, Value.category]) ?_
      refine V_iload (v := Int32.ofInt ((t : Int))) mi_265_60 (by simp [stL, lv_args, Value.category]) ?_
      refine V_callM (As := [.int (Int32.ofInt ((f : Int))), .int (Int32.ofInt ((o : Int))), .int (Int32.ofInt ((t : Int)))]) (st := []) mi_265_62 (by omega) (by decide +kernel) (by decide +kernel) hT.1 (mmt_ct (f := f) (o := o) (h := t) hT.1 hW hB hf ho (by omega)) (by omega) (show 3 = mN 264 by decide +kernel) (by simp [Value.category]) ?_
      rintro r w1 ⟨e1, rfl⟩
      rw [e1]
      refine V_bne mi_265_65  (fun q2 => ?_) (fun q2 => ?_)
      · refine V_iinc (v := Int32.ofInt ((t : Int))) mi_265_70 (by simp [stL, lv_args, Value.category]) ?_
        rw [ia2]
        refine V_goto mi_265_73 ?_
        refine V_sub (lv' := [(0, .ref (ad 90)), (1, .int (Int32.ofInt ((f : Int)))), (2, .int (Int32.ofInt ((o : Int)))), (3, .int (Int32.ofInt ((h : Int)))), (4, .int (Int32.ofInt (L))), (5, .int (Int32.ofInt (((t + 1 : Nat) : Int))))]) (fun q hq => ?_) ?_
        · simp only [List.mem_cons, List.not_mem_nil, or_false] at hq
          rcases hq with rfl | rfl | rfl | rfl | rfl | rfl <;> simp [stL, lv_args, Value.category]
        rw [show caI G f o L (m + 1) t = caI G f o L m (t + 1) from if_pos (of_decide_eq_true q2)] at kk
        exact cm_50 hT hW hB hf ho hL m (t + 1) (by omega) kk
      · refine V_ipush mi_265_68 ?_
        rw [show caI G f o L (m + 1) t = -1 from if_neg (of_decide_eq_false q2)] at kk
        exact V_retI mi_265_69 (fun h => absurd h (by decide +kernel)) kk
theorem laM_ct {G : Nat → Int} {w0 : va_W} (hT : MT ad tys G w0 ws) (hW : W91 G ws) (hB : HB G) {f o h : Nat} (hf : f < 6) (ho : o < 6) (hh : (h : Int) < G 2) : CT l D tys A 265 3 0 0 [.ref (ad 90), .int (Int32.ofInt ((f : Int))), .int (Int32.ofInt ((o : Int))), .int (Int32.ofInt ((h : Int)))] ws (fun r w => w = ws ∧ r = some (.int (Int32.ofInt (laI G f o h)))) := by
  refine CT_of_V (by omega) (show (4 : Nat) ≤ mML 265 by decide +kernel) ?_
  obtain ⟨s91, e91, -⟩ := g91s
  have b3 := hB.b3
  have b2 := hB.b2
  have bl := hB.bl o (by omega)
  have bs := hB.bs f (by omega)
  have bL := caL_bd hB (f := f) (o := o) (h := h) (by omega) (by omega)
  refine V_aload (v := ad 90) mi_265_0 (by simp [stL, lv_args, Value.category]) ?_
  refine V_iload (v := Int32.ofInt ((f : Int))) mi_265_1 (by simp [stL, lv_args, Value.category]) ?_
  refine V_iload (v := Int32.ofInt ((o : Int))) mi_265_2 (by simp [stL, lv_args, Value.category]) ?_
  refine V_iload (v := Int32.ofInt ((h : Int))) mi_265_3 (by simp [stL, lv_args, Value.category]) ?_
  refine V_callM (As := [.int (Int32.ofInt ((f : Int))), .int (Int32.ofInt ((o : Int))), .int (Int32.ofInt ((h : Int)))]) (st := []) mi_265_4 (by omega) (by decide +kernel) (by decide +kernel) hT.1 (mwh_ct (f := f) (o := o) (g := h) hT hW hB hf ho (by omega)) (by omega) (show 3 = mN 241 by decide +kernel) (by simp [Value.category]) ?_
  rintro r w1 ⟨rfl, rfl⟩
  refine V_bne mi_265_7  (fun q => ?_) (fun q => ?_)
  · have e1 : laI G f o h = (if 0 ≤ caL G f o h ∧ caL G f o h < G 2 then caI G f o (caL G f o h) (caL G f o h + 1 - h).toNat h else -1) := if_pos q
    refine V_iload (v := Int32.ofInt ((h : Int))) mi_265_13 (by simp [stL, lv_args, Value.category]) ?_
    refine V_aload (v := ad 90) mi_265_14 (by simp [stL, lv_args, Value.category]) ?_
    refine V_iload (v := Int32.ofInt ((o : Int))) mi_265_15 (by simp [stL, lv_args, Value.category]) ?_
    refine V_callM (As := [.int (Int32.ofInt ((o : Int)))]) (st := [.int (Int32.ofInt ((h : Int)))]) mi_265_16 (by omega) (by decide +kernel) (by decide +kernel) hT.1 (mle_ct (f := o) hT.1 hW hB ho) (by omega) (show 1 = mN 204 by decide +kernel) (by simp [Value.category]) ?_
    rintro r w2 ⟨rfl, rfl⟩
    refine V_aload (v := ad 90) mi_265_19 (by simp [stL, lv_args, Value.category]) ?_
    refine V_getI mi_265_20 hT.1 (rref gr1m (by omega) hT.1) ?_
    refine V_ipush mi_265_23 ?_
    refine V_iload (v := Int32.ofInt ((f : Int))) mi_265_25 (by simp [stL, lv_args, Value.category]) ?_
    refine V_ibin mi_265_26 (by omega) ?_
    rw [ib0]
    refine V_aldX (j := 48 + f) mi_265_27 (by rw [show (48) + ((f : Int)) = ((48 + f : Nat) : Int) by omega]) hT.1 e91 (by omega) (by omega) (hW _ (by omega)) ?_
    refine V_ibin mi_265_28 (by omega) ?_
    rw [ib2]
    refine V_ibin mi_265_29 (by omega) ?_
    rw [ib0]
    refine V_ipush mi_265_30 ?_
    refine V_ibin mi_265_31 (by omega) ?_
    rw [ib1]
    rw [show (h : Int) + G (6 + 7 * o) * G (48 + f) - 1 = caL G f o h from rfl]
    refine V_istore mi_265_32 ?_
    refine V_iload (v := Int32.ofInt (caL G f o h)) mi_265_34 (by simp [stL, lv_args, Value.category]) ?_
    refine V_aload (v := ad 90) mi_265_36 (by simp [stL, lv_args, Value.category]) ?_
    refine V_getI mi_265_37 hT.1 (rref gr1m (by omega) hT.1) ?_
    refine V_ipush mi_265_40 ?_
    refine V_aldX (j := 2) mi_265_41 rfl hT.1 e91 (by omega) (by omega) (hW _ (by omega)) ?_
    refine V_clt mi_265_42 ⟨by omega, by omega⟩ ⟨by omega, by omega⟩ (fun q2 => ?_) (fun q2 => ?_)
    · refine V_iload (v := Int32.ofInt ((h : Int))) mi_265_47 (by simp [stL, lv_args, Value.category]) ?_
      refine V_istore mi_265_48 ?_
      refine V_sub (lv' := [(0, .ref (ad 90)), (1, .int (Int32.ofInt ((f : Int)))), (2, .int (Int32.ofInt ((o : Int)))), (3, .int (Int32.ofInt ((h : Int)))), (4, .int (Int32.ofInt (caL G f o h))), (5, .int (Int32.ofInt ((h : Int))))]) (fun q hq => ?_) ?_
      · simp only [List.mem_cons, List.not_mem_nil, or_false] at hq
        rcases hq with rfl | rfl | rfl | rfl | rfl | rfl <;> simp [stL, lv_args, Value.category]
      refine cm_50 (h := h) hT hW hB hf ho ⟨by omega, q2⟩ (caL G f o h + 1 - h).toNat h (by omega) ⟨rfl, ?_⟩
      rw [e1]
      by_cases c : 0 ≤ caL G f o h
      · rw [if_pos ⟨c, q2⟩]
      · rw [if_neg (fun k => c k.1), show (caL G f o h + 1 - h).toNat = 0 by omega, show caI G f o (caL G f o h) 0 h = caL G f o h from rfl, show caL G f o h = -1 by omega]
    · rw [if_neg (fun k => by omega)] at e1
      refine V_ipush mi_265_45 ?_
      exact V_retI mi_265_46 (fun h => absurd h (by decide +kernel)) ⟨rfl, by rw [e1]⟩
  · refine V_ipush mi_265_10 ?_
    exact V_retI mi_265_12 (fun h => absurd h (by decide +kernel)) ⟨rfl, by rw [show laI G f o h = -5 from if_neg (by rw [q]; exact Bool.false_ne_true)]⟩
end XSR
end
section
section XSS
variable {l : Launch} {D : va_G} {tys : List (ClassId × FieldType)} {A : Nat → Prop} {ad : Nat → Nat} {ws : va_W}
theorem caI_bd {G : Nat → Int} {f o : Nat} {L : Int} : ∀ m t : Nat, caI G f o L m t = L ∨ caI G f o L m t = -1
  | 0, t => Or.inl rfl
  | m + 1, t => by
    unfold caI
    split
    · exact caI_bd m (t + 1)
    · exact Or.inr rfl
theorem laI_bd {G : Nat → Int} (hB : HB G) {f o h : Nat} : -5 ≤ laI G f o h ∧ laI G f o h < 24 := by
  have b2 := hB.b2
  unfold laI
  split
  · split
    · rcases caI_bd (G := G) (f := f) (o := o) (L := caL G f o h) (caL G f o h + 1 - h).toNat h with e | e
      · rw [e]
        omega
      · rw [e]
        omega
    · omega
  · omega
noncomputable def clP (G : Nat → Int) (h f p : Nat) : Bool := !(Nat.beq p f) && decide (0 ≤ laI G p f h)
theorem clP_f {G : Nat → Int} {h f : Nat} : clP G h f f = false := by
  unfold clP
  rw [Nat.beq_refl]
  rfl
theorem clP_n {G : Nat → Int} {h f p : Nat} (n : p ≠ f) : clP G h f p = decide (0 ≤ laI G p f h) := by
  unfold clP
  rw [show Nat.beq p f = false from Bool.eq_false_iff.mpr (fun e => n (Nat.eq_of_beq_eq_true e))]
  rfl
end XSS
end
section
section XSU
variable {l : Launch} {D : va_G} {tys : List (ClassId × FieldType)} {A : Nat → Prop} {ad : Nat → Nat} {ws : va_W}
theorem cd_30 {G : Nat → Int} (hG : GOK ad tys GG ws) (hX : HX 4 G ws) (hB : HB G) (hS : STO G ws) {f h : Nat} {post : Option Value → va_W → Prop} (hf : (f : Int) < G 3) (hh : (h : Int) < G 2) : ∀ (m p : Nat), ((p + m : Nat) : Int) = G 3 → post (some (.int (Int32.ofInt (orI (clP G h f) (G 3).toNat)))) ws → V l D tys A 25 4 0 0 post 0 0 30 [(0, .ref (ad 0)), (1, .int (Int32.ofInt ((f : Int)))), (2, .int (Int32.ofInt ((h : Int)))), (3, .int (Int32.ofInt (orI (clP G h f) p))), (4, .int (Int32.ofInt ((p : Int))))] [] ws
  | 0, p, hm, kk => by
    have b3 := hB.b3
    have b2 := hB.b2
    refine V_iload (v := Int32.ofInt ((p : Int))) mi_25_30 (by simp [stL, lv_args, Value.category]) ?_
    refine V_aload (v := ad 0) mi_25_32 (by simp [stL, lv_args, Value.category]) ?_
    refine V_gR mi_25_33 g0r2 (by omega) hG ?_
    refine V_gO mi_25_36 g4o hG (show rd _ 4 4 = some (.int (Int32.ofInt (G 3))) from hx0 hX (i := 4) (by omega)) ?_
    refine V_cge mi_25_39 ⟨by omega, by omega⟩ ⟨by omega, by omega⟩ (fun q => ?_) (fun q => ?_)
    · have e : p = (G 3).toNat := by omega
      rw [← e] at kk
      refine V_iload (v := Int32.ofInt (orI (clP G h f) p)) mi_25_72 (by simp [stL, lv_args, Value.category]) ?_
      exact V_retI mi_25_73 (fun h => absurd h (by decide +kernel)) kk
    · exact absurd q (by omega)
  | m + 1, p, hm, kk => by
    have b3 := hB.b3
    have b2 := hB.b2
    refine V_iload (v := Int32.ofInt ((p : Int))) mi_25_30 (by simp [stL, lv_args, Value.category]) ?_
    refine V_aload (v := ad 0) mi_25_32 (by simp [stL, lv_args, Value.category]) ?_
    refine V_gR mi_25_33 g0r2 (by omega) hG ?_
    refine V_gO mi_25_36 g4o hG (show rd _ 4 4 = some (.int (Int32.ofInt (G 3))) from hx0 hX (i := 4) (by omega)) ?_
    refine V_cge mi_25_39 ⟨by omega, by omega⟩ ⟨by omega, by omega⟩ (fun q => ?_) (fun q => ?_)
    · exact absurd q (by omega)
    · have lb := laI_bd hB (f := p) (o := f) (h := h)
      refine V_iload (v := Int32.ofInt ((p : Int))) mi_25_42 (by simp [stL, lv_args, Value.category]) ?_
      refine V_iload (v := Int32.ofInt ((f : Int))) mi_25_44 (by simp [stL, lv_args, Value.category]) ?_
      refine V_ceq mi_25_45 ⟨by omega, by omega⟩ ⟨by omega, by omega⟩ (fun q2 => ?_) (fun q2 => ?_)
      · rw [← orI_s0 (P := clP G h f) (by rw [show p = f by omega]; exact clP_f)]
        refine V_iinc (v := Int32.ofInt ((p : Int))) mi_25_66 (by simp [stL, lv_args, Value.category]) ?_
        rw [ia2]
        refine V_goto mi_25_69 ?_
        refine V_sub (lv' := [(0, .ref (ad 0)), (1, .int (Int32.ofInt ((f : Int)))), (2, .int (Int32.ofInt ((h : Int)))), (3, .int (Int32.ofInt (orI (clP G h f) (p + 1)))), (4, .int (Int32.ofInt (((p + 1 : Nat) : Int))))]) (fun q hq => ?_) ?_
        · simp only [List.mem_cons, List.not_mem_nil, or_false] at hq
          rcases hq with rfl | rfl | rfl | rfl | rfl <;> simp [stL, lv_args, Value.category]
        exact cd_30 hG hX hB hS hf hh m (p + 1) (by omega) kk
      · have hn : p ≠ f := by omega
        refine V_aload (v := ad 0) mi_25_48 (by simp [stL, lv_args, Value.category]) ?_
        refine V_iload (v := Int32.ofInt ((p : Int))) mi_25_49 (by simp [stL, lv_args, Value.category]) ?_
        refine V_iload (v := Int32.ofInt ((f : Int))) mi_25_51 (by simp [stL, lv_args, Value.category]) ?_
        refine V_iload (v := Int32.ofInt ((h : Int))) mi_25_52 (by simp [stL, lv_args, Value.category]) ?_
        refine V_cO (As := [.int (Int32.ofInt ((p : Int))), .int (Int32.ofInt ((f : Int))), .int (Int32.ofInt ((h : Int)))]) (st := []) mi_25_53 (by omega) (by decide +kernel) (by decide +kernel) (by omega) g0o hG (laX_ct (f := p) (o := f) (h := h) hG hX hB hS (by omega) hf hh) (by omega) (show 3 = mN 26 by decide +kernel) (by simp [Value.category]) ?_
        rintro r w1 ⟨e1, rfl⟩
        rw [e1]
        refine V_zlt mi_25_56 ⟨by omega, by omega⟩ (fun q3 => ?_) (fun q3 => ?_)
        · rw [← orI_s0 (P := clP G h f) (by rw [clP_n hn]; exact decide_eq_false (by omega))]
          refine V_iinc (v := Int32.ofInt ((p : Int))) mi_25_66 (by simp [stL, lv_args, Value.category]) ?_
          rw [ia2]
          refine V_goto mi_25_69 ?_
          refine V_sub (lv' := [(0, .ref (ad 0)), (1, .int (Int32.ofInt ((f : Int)))), (2, .int (Int32.ofInt ((h : Int)))), (3, .int (Int32.ofInt (orI (clP G h f) (p + 1)))), (4, .int (Int32.ofInt (((p + 1 : Nat) : Int))))]) (fun q hq => ?_) ?_
          · simp only [List.mem_cons, List.not_mem_nil, or_false] at hq
            rcases hq with rfl | rfl | rfl | rfl | rfl <;> simp [stL, lv_args, Value.category]
          exact cd_30 hG hX hB hS hf hh m (p + 1) (by omega) kk
        · refine V_iload (v := Int32.ofInt (orI (clP G h f) p)) mi_25_59 (by simp [stL, lv_args, Value.category]) ?_
          refine V_ipush mi_25_60 ?_
          refine V_iload (v := Int32.ofInt ((p : Int))) mi_25_61 (by simp [stL, lv_args, Value.category]) ?_
          refine V_ibin mi_25_63 (by omega) ?_
          refine V_ibin mi_25_64 (by omega) ?_
          rw [bitO_i, ← orI_s1 (P := clP G h f) (by rw [clP_n hn]; exact decide_eq_true q3)]
          refine V_istore mi_25_65 ?_
          refine V_iinc (v := Int32.ofInt ((p : Int))) mi_25_66 (by simp [stL, lv_args, Value.category]) ?_
          rw [ia2]
          refine V_goto mi_25_69 ?_
          refine V_sub (lv' := [(0, .ref (ad 0)), (1, .int (Int32.ofInt ((f : Int)))), (2, .int (Int32.ofInt ((h : Int)))), (3, .int (Int32.ofInt (orI (clP G h f) (p + 1)))), (4, .int (Int32.ofInt (((p + 1 : Nat) : Int))))]) (fun q hq => ?_) ?_
          · simp only [List.mem_cons, List.not_mem_nil, or_false] at hq
            rcases hq with rfl | rfl | rfl | rfl | rfl <;> simp [stL, lv_args, Value.category]
          exact cd_30 hG hX hB hS hf hh m (p + 1) (by omega) kk
theorem cdX_ct {G : Nat → Int} (hG : GOK ad tys GG ws) (hX : HX 4 G ws) (hB : HB G) (hS : STO G ws) {f h : Int} (fI : I32 f) (hI : I32 h) : CT l D tys A 25 4 0 0 [.ref (ad 0), .int (Int32.ofInt (f)), .int (Int32.ofInt (h))] ws (fun r w => w = ws ∧ r = some (.int (if (0 ≤ f ∧ f < G 3) ∧ 0 ≤ h ∧ h < G 2 then Int32.ofInt (orI (clP G h.toNat f.toNat) (G 3).toNat) else Int32.ofInt (-2)))) := by
  refine CT_of_V (by omega) (show (3 : Nat) ≤ mML 25 by decide +kernel) ?_
  have b3 := hB.b3
  have b2 := hB.b2
  refine V_aload (v := ad 0) mi_25_0 (by simp [stL, lv_args, Value.category]) ?_
  refine V_gR mi_25_1 g0r2 (by omega) hG ?_
  refine V_iload (v := Int32.ofInt (f)) mi_25_4 (by simp [stL, lv_args, Value.category]) ?_
  refine V_cO (As := [.int (Int32.ofInt (f))]) (st := []) mi_25_5 (by omega) (by decide +kernel) (by decide +kernel) (by omega) g4o hG (hfk_ct hG hX hB fI) (by omega) (show 1 = mN 102 by decide +kernel) (by simp [Value.category]) ?_
  rintro r w1 ⟨rfl, rfl⟩
  refine V_beq mi_25_8  (fun c1 => ?_) (fun c1 => ?_)
  · refine V_ipush mi_25_22 ?_
    exact V_retI mi_25_24 (fun h => absurd h (by decide +kernel)) ⟨rfl, by rw [if_neg (fun k => of_decide_eq_false c1 k.1)]⟩
  · refine V_aload (v := ad 0) mi_25_11 (by simp [stL, lv_args, Value.category]) ?_
    refine V_gR mi_25_12 g0r2 (by omega) hG ?_
    refine V_iload (v := Int32.ofInt (h)) mi_25_15 (by simp [stL, lv_args, Value.category]) ?_
    refine V_cO (As := [.int (Int32.ofInt (h))]) (st := []) mi_25_16 (by omega) (by decide +kernel) (by decide +kernel) (by omega) g4o hG (hho_ct hG hX hB hI) (by omega) (show 1 = mN 103 by decide +kernel) (by simp [Value.category]) ?_
    rintro r w3 ⟨rfl, rfl⟩
    refine V_bne mi_25_19  (fun c3 => ?_) (fun c3 => ?_)
    · have k1 := of_decide_eq_true c1
      have k3 := of_decide_eq_true c3
      obtain ⟨m, rfl⟩ := Int.eq_ofNat_of_zero_le k1.1
      obtain ⟨k, rfl⟩ := Int.eq_ofNat_of_zero_le k3.1
      refine V_ipush mi_25_25 ?_
      refine V_istore mi_25_26 ?_
      refine V_ipush mi_25_27 ?_
      refine V_istore mi_25_28 ?_
      refine V_sub (lv' := [(0, .ref (ad 0)), (1, .int (Int32.ofInt (m : Int))), (2, .int (Int32.ofInt (k : Int))), (3, .int (Int32.ofInt 0)), (4, .int (Int32.ofInt ((0 : Nat) : Int)))]) (fun q hq => ?_) ?_
      · simp only [List.mem_cons, List.not_mem_nil, or_false] at hq
        rcases hq with rfl | rfl | rfl | rfl | rfl <;> simp [stL, lv_args, Value.category]
      exact cd_30 hG hX hB hS (f := m) (h := k) (by omega) (by omega) (G 3).toNat 0 (by omega) ⟨rfl, by rw [if_pos ⟨k1, k3⟩, Int.toNat_natCast, Int.toNat_natCast]⟩
    · refine V_ipush mi_25_22 ?_
      exact V_retI mi_25_24 (fun h => absurd h (by decide +kernel)) ⟨rfl, by rw [if_neg (fun k => of_decide_eq_false c3 k.2)]⟩
theorem cdm_28 {G : Nat → Int} {w0 : va_W} (hT : MT ad tys G w0 ws) (hW : W91 G ws) (hB : HB G) {f h : Nat} {post : Option Value → va_W → Prop} (hf : f < 6) (hh : (h : Int) < G 2) : ∀ (m p : Nat), ((p + m : Nat) : Int) = G 3 → post (some (.int (Int32.ofInt (orI (clP G h f) (G 3).toNat)))) ws → V l D tys A 269 9 0 0 post 0 0 28 [(0, .ref (ad 90)), (1, .int (Int32.ofInt ((f : Int)))), (2, .int (Int32.ofInt ((h : Int)))), (3, .int (Int32.ofInt (orI (clP G h f) p))), (4, .int (Int32.ofInt ((p : Int))))] [] ws
  | 0, p, hm, kk => by
    obtain ⟨s91, e91, -⟩ := g91s
    have b3 := hB.b3
    have b2 := hB.b2
    refine V_iload (v := Int32.ofInt ((p : Int))) mi_269_28 (by simp [stL, lv_args, Value.category]) ?_
    refine V_aload (v := ad 90) mi_269_30 (by simp [stL, lv_args, Value.category]) ?_
    refine V_getI mi_269_31 hT.1 (rref gr1m (by omega) hT.1) ?_
    refine V_ipush mi_269_34 ?_
    refine V_aldX (j := 3) mi_269_35 rfl hT.1 e91 (by omega) (by omega) (hW _ (by omega)) ?_
    refine V_cge mi_269_36 ⟨by omega, by omega⟩ ⟨by omega, by omega⟩ (fun q => ?_) (fun q => ?_)
    · have e : p = (G 3).toNat := by omega
      rw [← e] at kk
      refine V_iload (v := Int32.ofInt (orI (clP G h f) p)) mi_269_73 (by simp [stL, lv_args, Value.category]) ?_
      exact V_retI mi_269_74 (fun h => absurd h (by decide +kernel)) kk
    · exact absurd q (by omega)
  | m + 1, p, hm, kk => by
    obtain ⟨s91, e91, -⟩ := g91s
    have b3 := hB.b3
    have b2 := hB.b2
    refine V_iload (v := Int32.ofInt ((p : Int))) mi_269_28 (by simp [stL, lv_args, Value.category]) ?_
    refine V_aload (v := ad 90) mi_269_30 (by simp [stL, lv_args, Value.category]) ?_
    refine V_getI mi_269_31 hT.1 (rref gr1m (by omega) hT.1) ?_
    refine V_ipush mi_269_34 ?_
    refine V_aldX (j := 3) mi_269_35 rfl hT.1 e91 (by omega) (by omega) (hW _ (by omega)) ?_
    refine V_cge mi_269_36 ⟨by omega, by omega⟩ ⟨by omega, by omega⟩ (fun q => ?_) (fun q => ?_)
    · exact absurd q (by omega)
    · have lb := laI_bd hB (f := p) (o := f) (h := h)
      refine V_iload (v := Int32.ofInt (orI (clP G h f) p)) mi_269_39 (by simp [stL, lv_args, Value.category]) ?_
      refine V_iload (v := Int32.ofInt ((p : Int))) mi_269_40 (by simp [stL, lv_args, Value.category]) ?_
      refine V_iload (v := Int32.ofInt ((f : Int))) mi_269_42 (by simp [stL, lv_args, Value.category]) ?_
      refine V_ceq mi_269_43 ⟨by omega, by omega⟩ ⟨by omega, by omega⟩ (fun q2 => ?_) (fun q2 => ?_)
      · refine V_ipush mi_269_64 ?_
        refine V_ibin mi_269_65 (by omega) ?_
        rw [or0, ← orI_s0 (P := clP G h f) (by rw [show p = f by omega]; exact clP_f)]
        refine V_istore mi_269_66 ?_
        refine V_iinc (v := Int32.ofInt ((p : Int))) mi_269_67 (by simp [stL, lv_args, Value.category]) ?_
        rw [ia2]
        refine V_goto mi_269_70 ?_
        refine V_sub (lv' := [(0, .ref (ad 90)), (1, .int (Int32.ofInt ((f : Int)))), (2, .int (Int32.ofInt ((h : Int)))), (3, .int (Int32.ofInt (orI (clP G h f) (p + 1)))), (4, .int (Int32.ofInt (((p + 1 : Nat) : Int))))]) (fun q hq => ?_) ?_
        · simp only [List.mem_cons, List.not_mem_nil, or_false] at hq
          rcases hq with rfl | rfl | rfl | rfl | rfl <;> simp [stL, lv_args, Value.category]
        exact cdm_28 hT hW hB hf hh m (p + 1) (by omega) kk
      · have hn : p ≠ f := by omega
        refine V_aload (v := ad 90) mi_269_46 (by simp [stL, lv_args, Value.category]) ?_
        refine V_iload (v := Int32.ofInt ((p : Int))) mi_269_47 (by simp [stL, lv_args, Value.category]) ?_
        refine V_iload (v := Int32.ofInt ((f : Int))) mi_269_49 (by simp [stL, lv_args, Value.category]) ?_
        refine V_iload (v := Int32.ofInt ((h : Int))) mi_269_50 (by simp [stL, lv_args, Value.category]) ?_
        refine V_callM (As := [.int (Int32.ofInt ((p : Int))), .int (Int32.ofInt ((f : Int))), .int (Int32.ofInt ((h : Int)))]) (st := [.int (Int32.ofInt (orI (clP G h f) p))]) mi_269_51 (by omega) (by decide +kernel) (by decide +kernel) hT.1 (laM_ct (f := p) (o := f) (h := h) hT hW hB (by omega) hf hh) (by omega) (show 3 = mN 265 by decide +kernel) (by simp [Value.category]) ?_
        rintro r w1 ⟨e1, rfl⟩
        rw [e1]
        refine V_zlt mi_269_54 ⟨by omega, by omega⟩ (fun q3 => ?_) (fun q3 => ?_)
        · refine V_ipush mi_269_64 ?_
          refine V_ibin mi_269_65 (by omega) ?_
          rw [or0, ← orI_s0 (P := clP G h f) (by rw [clP_n hn]; exact decide_eq_false (by omega))]
          refine V_istore mi_269_66 ?_
          refine V_iinc (v := Int32.ofInt ((p : Int))) mi_269_67 (by simp [stL, lv_args, Value.category]) ?_
          rw [ia2]
          refine V_goto mi_269_70 ?_
          refine V_sub (lv' := [(0, .ref (ad 90)), (1, .int (Int32.ofInt ((f : Int)))), (2, .int (Int32.ofInt ((h : Int)))), (3, .int (Int32.ofInt (orI (clP G h f) (p + 1)))), (4, .int (Int32.ofInt (((p + 1 : Nat) : Int))))]) (fun q hq => ?_) ?_
          · simp only [List.mem_cons, List.not_mem_nil, or_false] at hq
            rcases hq with rfl | rfl | rfl | rfl | rfl <;> simp [stL, lv_args, Value.category]
          exact cdm_28 hT hW hB hf hh m (p + 1) (by omega) kk
        · refine V_ipush mi_269_57 ?_
          refine V_iload (v := Int32.ofInt ((p : Int))) mi_269_58 (by simp [stL, lv_args, Value.category]) ?_
          refine V_ibin mi_269_60 (by omega) ?_
          refine V_goto mi_269_61 ?_
          refine V_ibin mi_269_65 (by omega) ?_
          rw [bitO_i, ← orI_s1 (P := clP G h f) (by rw [clP_n hn]; exact decide_eq_true q3)]
          refine V_istore mi_269_66 ?_
          refine V_iinc (v := Int32.ofInt ((p : Int))) mi_269_67 (by simp [stL, lv_args, Value.category]) ?_
          rw [ia2]
          refine V_goto mi_269_70 ?_
          refine V_sub (lv' := [(0, .ref (ad 90)), (1, .int (Int32.ofInt ((f : Int)))), (2, .int (Int32.ofInt ((h : Int)))), (3, .int (Int32.ofInt (orI (clP G h f) (p + 1)))), (4, .int (Int32.ofInt (((p + 1 : Nat) : Int))))]) (fun q hq => ?_) ?_
          · simp only [List.mem_cons, List.not_mem_nil, or_false] at hq
            rcases hq with rfl | rfl | rfl | rfl | rfl <;> simp [stL, lv_args, Value.category]
          exact cdm_28 hT hW hB hf hh m (p + 1) (by omega) kk
theorem cdM_ct {G : Nat → Int} (hG : GOK ad tys GG ws) (hW : W91 G ws) (hB : HB G) (wf : WF G) (h24 : rd ws 90 24 = some (.int (Int32.ofInt 0))) (h22 : rd ws 90 22 = some (.int (Int32.ofInt (-1)))) {f h : Int} (fI : I32 f) (hI : I32 h) : CT l D tys A 269 9 0 0 [.ref (ad 90), .int (Int32.ofInt (f)), .int (Int32.ofInt (h))] ws (fun r w => (GOK ad tys GG w ∧ MTO ws w) ∧ r = some (.int (if (0 ≤ f ∧ f < G 3) ∧ 0 ≤ h ∧ h < G 2 then Int32.ofInt (orI (clP G h.toNat f.toNat) (G 3).toNat) else Int32.ofInt (-2)))) := by
  refine CT_of_V (by omega) (show (3 : Nat) ≤ mML 269 by decide +kernel) ?_
  have b3 := hB.b3
  have b2 := hB.b2
  refine V_aload (v := ad 90) mi_269_0 (by simp [stL, lv_args, Value.category]) ?_
  refine V_iload (v := Int32.ofInt (f)) mi_269_1 (by simp [stL, lv_args, Value.category]) ?_
  refine V_callM (As := [.int (Int32.ofInt (f))]) (st := []) mi_269_2 (by omega) (by decide +kernel) (by decide +kernel) hG (mfk_ct hG hW hB fI) (by omega) (show 1 = mN 199 by decide +kernel) (by simp [Value.category]) ?_
  rintro r w1 ⟨rfl, rfl⟩
  refine V_beq mi_269_5  (fun c1 => ?_) (fun c1 => ?_)
  · refine V_ipush mi_269_16 ?_
    exact V_retI mi_269_18 (fun h => absurd h (by decide +kernel)) ⟨⟨hG, fun _ _ _ _ => rfl⟩, by rw [if_neg (fun k => of_decide_eq_false c1 k.1)]⟩
  · refine V_aload (v := ad 90) mi_269_8 (by simp [stL, lv_args, Value.category]) ?_
    refine V_iload (v := Int32.ofInt (h)) mi_269_9 (by simp [stL, lv_args, Value.category]) ?_
    refine V_callM (As := [.int (Int32.ofInt (h))]) (st := []) mi_269_10 (by omega) (by decide +kernel) (by decide +kernel) hG (mho_ct hG hW hB hI) (by omega) (show 1 = mN 201 by decide +kernel) (by simp [Value.category]) ?_
    rintro r w3 ⟨rfl, rfl⟩
    refine V_bne mi_269_13  (fun c3 => ?_) (fun c3 => ?_)
    · have k1 := of_decide_eq_true c1
      have k3 := of_decide_eq_true c3
      obtain ⟨m, rfl⟩ := Int.eq_ofNat_of_zero_le k1.1
      obtain ⟨k, rfl⟩ := Int.eq_ofNat_of_zero_le k3.1
      refine V_aload (v := ad 90) mi_269_19 (by simp [stL, lv_args, Value.category]) ?_
      refine V_callM (As := []) (st := []) mi_269_20 (by omega) (by decide +kernel) (by decide +kernel) hG (gt_ct hB wf hG hW h24 h22) (by omega) (show 0 = mN 238 by decide +kernel) (by simp [Value.category]) ?_
      rintro r w4 ⟨rfl, T⟩
      refine V_ipush mi_269_23 ?_
      refine V_istore mi_269_24 ?_
      refine V_ipush mi_269_25 ?_
      refine V_istore mi_269_26 ?_
      refine V_sub (lv' := [(0, .ref (ad 90)), (1, .int (Int32.ofInt (m : Int))), (2, .int (Int32.ofInt (k : Int))), (3, .int (Int32.ofInt 0)), (4, .int (Int32.ofInt ((0 : Nat) : Int)))]) (fun q hq => ?_) ?_
      · simp only [List.mem_cons, List.not_mem_nil, or_false] at hq
        rcases hq with rfl | rfl | rfl | rfl | rfl <;> simp [stL, lv_args, Value.category]
      exact cdm_28 T (mt_w T hW) hB (f := m) (h := k) (by omega) (by omega) (G 3).toNat 0 (by omega) ⟨⟨T.1, T.2.2.2⟩, by rw [if_pos ⟨k1, k3⟩, Int.toNat_natCast, Int.toNat_natCast]⟩
    · refine V_ipush mi_269_16 ?_
      exact V_retI mi_269_18 (fun h => absurd h (by decide +kernel)) ⟨⟨hG, fun _ _ _ _ => rfl⟩, by rw [if_neg (fun k => of_decide_eq_false c3 k.2)]⟩
theorem pairT_called (hAD : ∀ i : Nat, ad (1000 + i) = D.2 1000 i) (hG : GOK ad tys GG ws) (hR : RELW ws) (a1 a2 : Int32) : PAIRT l D tys A ad 25 269 [.ref (ad 0), .int a1, .int a2] [.ref (ad 90), .int a1, .int a2] ws := by
  obtain ⟨G0, o0, x0, y0⟩ := hR.1.2.1
  obtain ⟨G, o, x, y, hb, wf, hS⟩ := aux_sto hR.2 x0 y0 o0 (hb_of hG y0 o0)
  have c1 := cdX_ct (l := l) (D := D) (A := A) hG x hb hS (i32b a1) (i32b a2)
  have c2 := cdM_ct (l := l) (D := D) (A := A) hG y hb wf hR.2.2.2.2.2 hR.2.2.2.2.1 (i32b a1) (i32b a2)
  simp only [oi] at c1 c2
  exact pairT_st hG hR (by omega) (by omega) c1 c2
end XSU
end
