section XSW
theorem namW_ne {B : Nat → Int} {n : Nat} {y : Int} {F i : Nat} (hF : F < 6) (hi : i < 6 ∨ 246 ≤ i) : ∀ (f k : Nat) (s : TS) (g : Nat → Int), k + f ≤ 7 → (namW B n y F f k s g).2.2 i = g i
  | 0, k, s, g, _ => rfl
  | f + 1, k, s, g, hk => by
    have u : updI g (7 + 7 * F + k) (namR y k s) i = g i := updI_ne (by omega)
    unfold namW
    split
    · split
      · exact u
      · exact (namW_ne hF hi f (k + 1) _ _ (by omega)).trans u
    · rfl
/-- what is read so far: sayings are by folk that are there, at hours that are there -/
noncomputable def WR (fr : Nat → Int) : Prop := ((0 ≤ fr 3 ∧ fr 3 ≤ 6) ∧ (0 ≤ fr 4 ∧ fr 4 ≤ 12) ∧ 0 ≤ fr 5) ∧ (fr 5 = 0 → fr 4 = 0) ∧ ∀ s : Nat, (s : Int) < fr 4 → fr (246 + 4 * s) < fr 3 ∧ fr (246 + 4 * s + 3) < fr 2
theorem WR_same {fr fr' : Nat → Int} (h : WR fr) (e : ∀ i, (1 < i ∧ i < 6) ∨ 246 ≤ i → fr' i = fr i) : WR fr' := by
  obtain ⟨a, b, c⟩ := h
  unfold WR
  rw [e 3 (by omega), e 4 (by omega), e 5 (by omega), e 2 (by omega)]
  exact ⟨a, b, fun s hs => by rw [e _ (by omega), e _ (by omega)]; exact c s hs⟩
theorem WR_upd {fr : Nat → Int} {j : Nat} {z : Int} (h : WR fr) (hj : j < 2 ∨ (6 ≤ j ∧ j < 246)) : WR (updI fr j z) := WR_same h (fun i hi => updI_ne (by omega))
theorem folk_ok {B fr : Nat → Int} {n : Nat} {s : TS} (h : (folkT B n fr s).2.1 = 0) : s.2.1 = 0 ∧ 0 ≤ folkR fr s ∧ folkR fr s < fr 3 := by
  obtain ⟨h1, h2, h3, h4, h5⟩ := num_ok h
  have e : folkR fr s = s.1.2.2.2 := h4
  exact ⟨h1, by omega, by omega⟩
theorem hour_ok {B fr : Nat → Int} {n : Nat} {s : TS} (h : (hourT B n fr s).2.1 = 0) : s.2.1 = 0 ∧ 0 ≤ hourR fr s ∧ hourR fr s < fr 2 := by
  obtain ⟨h1, h2, h3, h4, h5⟩ := num_ok h
  have e : hourR fr s = s.1.2.2.2 := h4
  exact ⟨h1, by omega, by omega⟩
theorem othe_ok {B fr : Nat → Int} {n : Nat} {f : Int} {s : TS} (h : (otheT B n fr f s).2.1 = 0) : s.2.1 = 0 ∧ 0 ≤ otheR fr f s ∧ otheR fr f s < fr 3 := by
  obtain ⟨h1, h2, h3⟩ := folk_ok h
  refine ⟨?_, h2, h3⟩
  unfold otheP at h1
  split at h1
  · exact absurd h1 (err_ok (by decide))
  · exact h1
theorem WR_says {B fr : Nat → Int} {n : Nat} {s : TS} (h : WR fr) (n5 : ¬ fr 5 = 0) (n12 : ¬ fr 4 = 12) (g : (saT fr B n s).2.1 = 0) : WR (saG fr B n s) := by
  unfold saG
  rw [if_pos g]
  obtain ⟨g1, h0, h1⟩ := hour_ok g
  obtain ⟨g2, -, -⟩ := need_ok g1
  obtain ⟨g3, -⟩ := num_ok g2
  obtain ⟨g4, o0, o1⟩ := folk_ok g3
  obtain ⟨g5, f0, f1⟩ := folk_ok g4
  obtain ⟨⟨⟨a0, a6⟩, ⟨b0, b12⟩, c5⟩, e5, w⟩ := h
  have hk : saK fr = 246 + 4 * (fr 4).toNat := rfl
  have e4 : ∀ z, updI (updI (updI (updI (updI fr (saK fr) (saF fr s)) (saK fr + 1) (saO fr B n s : Int)) (saK fr + 2) (saI fr B n s)) (saK fr + 3) (saH fr B n s)) 4 z 4 = z := fun z => if_pos rfl
  have eo : ∀ z i, i ≠ 4 → ¬ (saK fr ≤ i ∧ i ≤ saK fr + 3) → updI (updI (updI (updI (updI fr (saK fr) (saF fr s)) (saK fr + 1) (saO fr B n s : Int)) (saK fr + 2) (saI fr B n s)) (saK fr + 3) (saH fr B n s)) 4 z i = fr i := fun z i h1 h2 => by
    rw [updI_ne h1, updI_ne (by omega), updI_ne (by omega), updI_ne (by omega), updI_ne (by omega)]
  have ek : ∀ z, updI (updI (updI (updI (updI fr (saK fr) (saF fr s)) (saK fr + 1) (saO fr B n s : Int)) (saK fr + 2) (saI fr B n s)) (saK fr + 3) (saH fr B n s)) 4 z (saK fr) = saF fr s := fun z => by
    rw [updI_ne (by omega), updI_ne (by omega), updI_ne (by omega), updI_ne (by omega)]
    exact if_pos rfl
  have ek3 : ∀ z, updI (updI (updI (updI (updI fr (saK fr) (saF fr s)) (saK fr + 1) (saO fr B n s : Int)) (saK fr + 2) (saI fr B n s)) (saK fr + 3) (saH fr B n s)) 4 z (saK fr + 3) = saH fr B n s := fun z => by
    rw [updI_ne (by omega)]
    exact if_pos rfl
  unfold WR
  rw [e4, eo _ 3 (by omega) (by omega), eo _ 5 (by omega) (by omega), eo _ 2 (by omega) (by omega)]
  refine ⟨⟨⟨a0, a6⟩, ⟨by omega, by omega⟩, c5⟩, fun q => ?_, fun i hi => ?_⟩
  · exact absurd q n5
  · by_cases e : i = (fr 4).toNat
    · have e1 : 246 + 4 * i = saK fr := by rw [hk, e]
      rw [e1, ek, ek3]
      exact ⟨f1, h1⟩
    · rw [eo _ _ (by omega) (by omega), eo _ _ (by omega) (by omega)]
      exact w i (by omega)
theorem WR_lin {B fr td : Nat → Int} {n : Nat} {s : TS} (h : WR fr) (g : (linW B n fr td s).1.2.1 = 0) : WR (linW B n fr td s).2.1 := by
  unfold linW at g ⊢
  split
  · next q =>
    obtain ⟨a, e5, w⟩ := h
    have e : ∀ i, 2 < i → firF B n fr s i = fr i := fun i hi => by
      unfold firF
      rw [updI_ne (by omega), updI_ne (by omega), updI_ne (by omega)]
    show WR (firF B n fr s)
    unfold WR
    rw [e 3 (by omega), e 4 (by omega), e 5 (by omega)]
    exact ⟨a, e5, fun i hi => by rw [e5 q] at hi; omega⟩
  · next q =>
    rw [if_neg q] at g
    have h3 := h.1.1
    unfold linN at g ⊢
    split
    · next q1 =>
      rw [if_pos q1] at g
      split
      · next q2 =>
        exact h
      · next q2 =>
        rw [if_neg q2] at g
        have hF : (fr 3).toNat < 6 := by omega
        have nw : ∀ i, (i < 6 ∨ 246 ≤ i) → (namW B n (fr 0) (fr 3).toNat 7 0 (advS B n s) fr).2.2 i = fr i := fun i hi => namW_ne hF hi 7 0 _ _ (by omega)
        obtain ⟨⟨a, b, c⟩, e5, w⟩ := h
        show WR (namZ (fr 3).toNat (namW B n (fr 0) (fr 3).toNat 7 0 (advS B n s) fr))
        unfold namZ
        rw [if_pos g]
        have e3 : ∀ (x : Nat → Int) z, updI x 3 z 3 = z := fun x z => if_pos rfl
        have eo : ∀ i, i ≠ 3 → (i < 6 ∨ 246 ≤ i) → updI (updI (updI (namW B n (fr 0) (fr 3).toNat 7 0 (advS B n s) fr).2.2 (6 + 7 * (fr 3).toNat) ((namW B n (fr 0) (fr 3).toNat 7 0 (advS B n s) fr).2.1 : Int)) (48 + (fr 3).toNat) 1) 3 (((fr 3).toNat : Int) + 1) i = fr i := fun i h1 h2 => by
          rw [updI_ne h1, updI_ne (by omega), updI_ne (by omega), nw i h2]
        unfold WR
        rw [e3, eo 4 (by omega) (by omega), eo 5 (by omega) (by omega), eo 2 (by omega) (by omega)]
        exact ⟨⟨⟨by omega, by omega⟩, b, c⟩, e5, fun i hi => by
          rw [eo _ (by omega) (by omega), eo _ (by omega) (by omega)]
          have := w i hi
          omega⟩
    · next q1 =>
      rw [if_neg q1] at g
      split
      · next q2 =>
        rw [if_pos q2] at g
        obtain ⟨g1, -⟩ := num_ok g
        obtain ⟨-, f0, f1⟩ := folk_ok g1
        show WR (stF fr B n (advS B n s))
        unfold stF
        rw [if_pos g]
        exact WR_upd h (by omega)
      · next q2 =>
        rw [if_neg q2] at g
        split
        · next q3 =>
          rw [if_pos q3] at g
          obtain ⟨g1, -⟩ := num_ok g
          obtain ⟨-, f0, f1⟩ := folk_ok g1
          show WR (deF fr B n (advS B n s))
          unfold deF
          rw [if_pos g]
          exact WR_upd h (by omega)
        · next q3 =>
          rw [if_neg q3] at g
          split
          · next q4 => exact h
          · next q4 =>
            rw [if_neg q4] at g
            split
            · next q5 =>
              rw [if_pos q5] at g
              obtain ⟨g1, -⟩ := num_ok (show (numT B n 0 _ (knS fr B n (advS B n s))).2.1 = 0 from g)
              obtain ⟨g2, o0, o1⟩ := othe_ok g1
              obtain ⟨-, f0, f1⟩ := folk_ok g2
              show WR (knG fr B n (advS B n s))
              unfold knG
              rw [if_pos g]
              refine WR_upd h ?_
              have e1 : knF fr (advS B n s) = folkR fr (advS B n s) := rfl
              have e2 : knO fr B n (advS B n s) = (otheR fr (knF fr (advS B n s)) (folkT B n fr (advS B n s))).toNat := rfl
              unfold knJ
              omega
            · next q5 =>
              rw [if_neg q5] at g
              split
              · next q6 =>
                rw [if_pos q6] at g
                split
                · exact h
                · next q7 =>
                  rw [if_neg q7] at g
                  exact WR_says h q q7 g
              · next q6 =>
                rw [if_neg q6] at g
                split
                · next q7 =>
                  rw [if_pos q7] at g
                  obtain ⟨g2, o0, o1⟩ := othe_ok g
                  show WR (foF fr B n (advS B n s))
                  unfold foF
                  rw [if_pos g]
                  refine WR_upd h ?_
                  have e2 : foO fr B n (advS B n s) = (otheR fr (folkR fr (advS B n s)) (folkT B n fr (advS B n s))).toNat := rfl
                  omega
                · exact h
theorem WR_linS {B : Nat → Int} {n : Nat} {x : TS × (Nat → Int) × (Nat → Int)} (h : WR x.2.1) (g : (linS B n x).1.2.1 = 0) : WR (linS B n x).2.1 := by
  have g0 : (linW B n x.2.1 x.2.2 x.1).1.2.1 = 0 := by
    have gs : (signS (linW B n x.2.1 x.2.2 x.1).1).2.1 = 0 := by
      unfold linS at g
      by_cases e : (signS (linW B n x.2.1 x.2.2 x.1).1).2.1 = 0
      · exact e
      · rw [if_neg e] at g
        exact absurd g e
    exact (sign_ok gs).1
  have w := WR_lin (td := x.2.2) h g0
  obtain ⟨⟨a, b, c⟩, e5, ws⟩ := w
  show WR (updI (linW B n x.2.1 x.2.2 x.1).2.1 5 ((linW B n x.2.1 x.2.2 x.1).2.1 5 + 1))
  have e : ∀ i, i ≠ 5 → updI (linW B n x.2.1 x.2.2 x.1).2.1 5 ((linW B n x.2.1 x.2.2 x.1).2.1 5 + 1) i = (linW B n x.2.1 x.2.2 x.1).2.1 i := fun i hi => updI_ne hi
  have e55 : updI (linW B n x.2.1 x.2.2 x.1).2.1 5 ((linW B n x.2.1 x.2.2 x.1).2.1 5 + 1) 5 = (linW B n x.2.1 x.2.2 x.1).2.1 5 + 1 := if_pos rfl
  unfold WR
  rw [e 3 (by omega), e 4 (by omega), e 2 (by omega), e55]
  exact ⟨⟨a, b, by omega⟩, fun q => by omega, fun i hi => by rw [e _ (by omega), e _ (by omega)]; exact ws i hi⟩
theorem WR_linA {B : Nat → Int} {n : Nat} : ∀ (f : Nat) (x : TS × (Nat → Int) × (Nat → Int)), (x.1.2.1 = 0 → WR x.2.1) → (linA B n f x).1.2.1 = 0 → WR (linA B n f x).2.1
  | 0, x, h, g => h g
  | f + 1, x, h, g => by
    unfold linA at g ⊢
    split
    · next q =>
      rw [if_pos q] at g
      exact WR_linA f _ (fun g1 => WR_linS (h q.1) g1) g
    · next q =>
      rw [if_neg q] at g
      exact h g
theorem WF_hill {B : Nat → Int} {n : Nat} {v0 : Int} (g : (hillX B n v0).1.2.1 = 0) : WF (endG (hillX B n v0)) := by
  obtain ⟨-, -, w⟩ := WR_linA 1402 (hill0 B n v0) (fun _ => ⟨⟨⟨by show (0 : Int) ≤ 0; omega, by show (0 : Int) ≤ 6; omega⟩, ⟨by show (0 : Int) ≤ 0; omega, by show (0 : Int) ≤ 12; omega⟩, by show (0 : Int) ≤ 0; omega⟩, fun _ => rfl, fun s hs => by
    have hs : (s : Int) < 0 := hs
    omega⟩) g
  intro s hs
  have e : ∀ i, i < 102 ∨ 246 ≤ i → endG (hillX B n v0) i = (hillX B n v0).2.1 i := fun i hi => if_neg (by omega)
  rw [e 4 (by omega)] at hs
  rw [e 3 (by omega), e 2 (by omega), e _ (by omega), e _ (by omega)]
  exact w s hs
end XSW
section XSJ
variable {l : Launch} {D : va_G} {tys : List (ClassId × FieldType)} {A : Nat → Prop} {ad : Nat → Nat} {ws : va_W}
/-- the class's hill, as a function of the world -/
noncomputable def hlO (w : va_W) (j : Nat) : Int := match rd w (4 + hxC j) (hxI j) with
  | some (.int z) => z.toInt
  | _ => 0
theorem hxC_le (j : Nat) : hxC j ≤ 11 := by
  unfold hxC
  split
  · omega
  · split
    · split <;> omega
    · split
      · omega
      · split
        · omega
        · split
          · omega
          · split
            · omega
            · split <;> omega
theorem hlO_keep {w w' : va_W} (o : ∀ c j, 4 ≤ c → c ≤ 15 → rd w' c j = rd w c j) : hlO w' = hlO w := by
  funext j
  have := hxC_le j
  unfold hlO
  rw [o _ _ (by omega) (by omega)]
theorem hlO_eq {G : Nat → Int} {w : va_W} (hX : HX 4 G w) {j : Nat} (hj : j < 294) (h : I32 (G j)) : hlO w j = G j := by
  unfold hlO
  rw [hX j hj]
  exact Int32.toInt_ofInt_of_le h.1 (by have := h.2; omega)
theorem hlO_X {G : Nat → Int} {w : va_W} (hX : HX 4 G w) (hO : hOK G) : HX 4 (hlO w) w := fun j hj => by
  rw [hlO_eq hX hj (hO j hj)]
  exact hX j hj
/-- the story is that of the hill that stands -/
noncomputable def STX (w : va_W) : Prop := HX 4 (hlO w) w → HB (hlO w) → WF (hlO w) → STO (hlO w) w
theorem STX_keep {w w' : va_W} (h : STX w) (o : ∀ c j, (4 ≤ c ∧ c ≤ 15) ∨ (29 ≤ c ∧ c ≤ 35 ∧ c ≠ 31) → rd w' c j = rd w c j) : STX w' := by
  have e : hlO w' = hlO w := hlO_keep (fun c j h1 h2 => o c j (Or.inl ⟨h1, h2⟩))
  intro x b f
  rw [e] at x b f ⊢
  exact STO_keep (h (HX_keep x (fun c i h1 h2 => (o c i (by omega)).symm)) b f) (fun c j hc => o c j (Or.inr hc))
theorem set3_ct (hAD : ∀ i : Nat, ad (1000 + i) = D.2 1000 i) (hG : GOK ad tys GG ws) : ∃ d', d' < 7 ∧ CT l D tys A 73 d' 0 0 [.ref (ad 0)] ws (fun r w => r = none ∧ GOK ad tys GG w ∧ STX w ∧ ∀ c j, ¬ (29 ≤ c ∧ c ≤ 35) → rd w c j = rd ws c j) := by
  by_cases h : HX 4 (hlO ws) ws ∧ HB (hlO ws) ∧ WF (hlO ws)
  · refine ⟨5, by omega, CT_post (set2_ct hG h.1 h.2.1 h.2.2) (fun r w q => ?_)⟩
    obtain ⟨e, g, s, o⟩ := q
    have eq : hlO w = hlO ws := hlO_keep (fun c j h1 h2 => o c j (by omega))
    exact ⟨e, g, fun _ _ _ => by rw [eq]; exact s, o⟩
  · obtain ⟨d', dl, c⟩ := set_ct (l := l) (A := A) hAD hG
    refine ⟨d', dl, CT_post c (fun r w q => ?_)⟩
    obtain ⟨e, g, o⟩ := q
    have eq : hlO w = hlO ws := hlO_keep (fun c j h1 h2 => o c j (by omega))
    refine ⟨e, g, fun x b f => ?_, o⟩
    rw [eq] at x b f
    exact absurd ⟨HX_keep x (fun c i h1 h2 => (o c i (by omega)).symm), b, f⟩ h
noncomputable def XOT (w0 w : va_W) : Prop := XO w0 w ∧ (STX w0 → STX w)
theorem XOT_rf {w : va_W} : XOT w w := ⟨XO_rf, fun h => h⟩
theorem sayXS_ct (hAD : ∀ i : Nat, ad (1000 + i) = D.2 1000 i) {G : Nat → Int} (hG : GOK ad tys GG ws) (hX : HX 4 G ws) (hB : HB G) {f o i h : Int} (fI : I32 f) (oI : I32 o) (iI : I32 i) (hI : I32 h) : CT l D tys A 41 8 0 0 [.ref (ad 0), .int (Int32.ofInt (f)), .int (Int32.ofInt (o)), .int (Int32.ofInt (i)), .int (Int32.ofInt (h))] ws (fun r w => GOK ad tys GG w ∧ XOT ws w ∧ (¬ okSy G f o i h → r = some (.int (Int32.ofInt (-2))) ∧ HX 4 G w) ∧ (okSy G f o i h → (G 4 = 12 → r = some (.int (Int32.ofInt (-3))) ∧ HX 4 G w) ∧ (G 4 < 12 → r = some (.int (Int32.ofInt (G 4))) ∧ HX 4 (sayG G f o i h) w))) := by
  refine CT_of_V (by omega) (show (5 : Nat) ≤ mML 41 by decide +kernel) ?_
  refine V_aload (v := ad 0) mi_41_0 (by simp [stL, lv_args, Value.category]) ?_
  refine V_gR mi_41_1 g0r2 (by omega) hG ?_
  refine V_iload (v := Int32.ofInt (f)) mi_41_4 (by simp [stL, lv_args, Value.category]) ?_
  refine V_cO (As := [.int (Int32.ofInt (f))]) (st := []) mi_41_5 (by omega) (by decide +kernel) (by decide +kernel) (by omega) g4o hG (hfk_ct hG hX hB fI) (by omega) (show 1 = mN 102 by decide +kernel) (by simp [Value.category]) ?_
  rintro r w1 ⟨rfl, rfl⟩
  refine V_beq mi_41_8  (fun c1 => ?_) (fun c1 => ?_)
  · refine V_ipush mi_41_35 ?_
    exact V_retI mi_41_37 (fun h => absurd h (by decide +kernel)) ⟨hG, XOT_rf, fun _ => ⟨rfl, hX⟩, fun k => absurd k (fun k => of_decide_eq_false c1 k.1)⟩
  · refine V_aload (v := ad 0) mi_41_11 (by simp [stL, lv_args, Value.category]) ?_
    refine V_gR mi_41_12 g0r2 (by omega) hG ?_
    refine V_iload (v := Int32.ofInt (o)) mi_41_15 (by simp [stL, lv_args, Value.category]) ?_
    refine V_iload (v := Int32.ofInt (i)) mi_41_16 (by simp [stL, lv_args, Value.category]) ?_
    refine V_cO (As := [.int (Int32.ofInt (o)), .int (Int32.ofInt (i))]) (st := []) mi_41_17 (by omega) (by decide +kernel) (by decide +kernel) (by omega) g4o hG (hsy_ct hG hX hB oI iI) (by omega) (show 2 = mN 105 by decide +kernel) (by simp [Value.category]) ?_
    rintro r w2 ⟨rfl, rfl⟩
    refine V_beq mi_41_20  (fun c2 => ?_) (fun c2 => ?_)
    · refine V_ipush mi_41_35 ?_
      exact V_retI mi_41_37 (fun h => absurd h (by decide +kernel)) ⟨hG, XOT_rf, fun _ => ⟨rfl, hX⟩, fun k => absurd k (fun k => of_decide_eq_false c2 k.2.1)⟩
    · refine V_aload (v := ad 0) mi_41_23 (by simp [stL, lv_args, Value.category]) ?_
      refine V_gR mi_41_24 g0r2 (by omega) hG ?_
      refine V_iload (v := Int32.ofInt (h)) mi_41_27 (by simp [stL, lv_args, Value.category]) ?_
      refine V_cO (As := [.int (Int32.ofInt (h))]) (st := []) mi_41_29 (by omega) (by decide +kernel) (by decide +kernel) (by omega) g4o hG (hho_ct hG hX hB hI) (by omega) (show 1 = mN 103 by decide +kernel) (by simp [Value.category]) ?_
      rintro r w3 ⟨rfl, rfl⟩
      refine V_bne mi_41_32  (fun c3 => ?_) (fun c3 => ?_)
      · have ok : okSy G f o i h := ⟨of_decide_eq_true c1, of_decide_eq_true c2, of_decide_eq_true c3⟩
        have b4 := hB.b4
        refine V_aload (v := ad 0) mi_41_38 (by simp [stL, lv_args, Value.category]) ?_
        refine V_gR mi_41_39 g0r2 (by omega) hG ?_
        refine V_gO mi_41_42 g4o hG (show rd _ 4 5 = some (.int (Int32.ofInt (G 4))) from hx0 hX (i := 5) (by omega)) ?_
        refine V_ipush mi_41_45 ?_
        refine V_clt mi_41_47 ⟨by omega, by omega⟩ ⟨by omega, by omega⟩ (fun q4 => ?_) (fun q4 => ?_)
        · refine V_aload (v := ad 0) mi_41_53 (by simp [stL, lv_args, Value.category]) ?_
          refine V_gR mi_41_54 g0r2 (by omega) hG ?_
          refine V_gO mi_41_57 g4o hG (show rd _ 4 5 = some (.int (Int32.ofInt (G 4))) from hx0 hX (i := 5) (by omega)) ?_
          refine V_istore mi_41_60 ?_
          refine V_aload (v := ad 0) mi_41_62 (by simp [stL, lv_args, Value.category]) ?_
          refine V_gR mi_41_63 g0r2 (by omega) hG ?_
          refine V_iload (v := Int32.ofInt (f)) mi_41_66 (by simp [stL, lv_args, Value.category]) ?_
          refine V_iload (v := Int32.ofInt (o)) mi_41_67 (by simp [stL, lv_args, Value.category]) ?_
          refine V_iload (v := Int32.ofInt (i)) mi_41_68 (by simp [stL, lv_args, Value.category]) ?_
          refine V_iload (v := Int32.ofInt (h)) mi_41_69 (by simp [stL, lv_args, Value.category]) ?_
          refine V_cO (As := [.int (Int32.ofInt (f)), .int (Int32.ofInt (o)), .int (Int32.ofInt (i)), .int (Int32.ofInt (h))]) (st := []) mi_41_71 (by omega) (by decide +kernel) (by decide +kernel) (by omega) g4o hG (adh_ct hG hX hB (by omega)) (by omega) (show 4 = mN 112 by decide +kernel) (by simp [Value.category]) ?_
          rintro r w4 ⟨rfl, G4, hX4, O4⟩
          obtain ⟨ds, dl, sc⟩ := set3_ct (l := l) (A := A) hAD G4
          refine V_aload (v := ad 0) mi_41_74 (by simp [stL, lv_args, Value.category]) ?_
          refine V_cO (As := []) (st := []) mi_41_75 (by omega) (by decide +kernel) (by decide +kernel) (by omega) g0o G4 (sc) (by omega) (show 0 = mN 73 by decide +kernel) (by simp [Value.category]) ?_
          rintro r w5 ⟨rfl, G5, S_, O5⟩
          refine V_iload (v := Int32.ofInt (G 4)) mi_41_78 (by simp [stL, lv_args, Value.category]) ?_
          exact V_retI mi_41_80 (fun h => absurd h (by decide +kernel)) ⟨G5, ⟨fun c j hn => (O5 c j (by omega)).trans (O4 c j hn), fun _ => S_⟩, fun k => absurd ok k, fun _ => ⟨fun k => absurd k (by omega), fun _ => ⟨rfl, HX_keep hX4 (fun c i h1 h2 => O5 c i (by omega))⟩⟩⟩
        · refine V_ipush mi_41_50 ?_
          exact V_retI mi_41_52 (fun h => absurd h (by decide +kernel)) ⟨hG, XOT_rf, fun k => absurd ok k, fun _ => ⟨fun _ => ⟨rfl, hX⟩, fun k => absurd k (by omega)⟩⟩
      · refine V_ipush mi_41_35 ?_
        exact V_retI mi_41_37 (fun h => absurd h (by decide +kernel)) ⟨hG, XOT_rf, fun _ => ⟨rfl, hX⟩, fun k => absurd k (fun k => of_decide_eq_false c3 k.2.2)⟩
theorem unsXS_ct (hAD : ∀ i : Nat, ad (1000 + i) = D.2 1000 i) {G : Nat → Int} (hG : GOK ad tys GG ws) (hX : HX 4 G ws) (hB : HB G) : CT l D tys A 42 8 0 0 [.ref (ad 0)] ws (fun r w => GOK ad tys GG w ∧ XOT ws w ∧ (¬ 0 < G 5 → r = some (.int (Int32.ofInt (-2))) ∧ HX 4 G w) ∧ (0 < G 5 → (G 4 = 0 → r = some (.int (Int32.ofInt (-5))) ∧ HX 4 G w) ∧ (0 < G 4 → r = some (.int (Int32.ofInt (G 4 - 1))) ∧ HX 4 (updI G 4 (G 4 - 1)) w))) := by
  refine CT_of_V (by omega) (show (1 : Nat) ≤ mML 42 by decide +kernel) ?_
  have b4 := hB.b4
  refine V_aload (v := ad 0) mi_42_0 (by simp [stL, lv_args, Value.category]) ?_
  refine V_gR mi_42_1 g0r2 (by omega) hG ?_
  refine V_cO (As := []) (st := []) mi_42_4 (by omega) (by decide +kernel) (by decide +kernel) (by omega) g4o hG (hth_ct hG hX hB) (by omega) (show 0 = mN 101 by decide +kernel) (by simp [Value.category]) ?_
  rintro r w1 ⟨rfl, rfl⟩
  refine V_bne mi_42_7  (fun c1 => ?_) (fun c1 => ?_)
  · have ok := of_decide_eq_true c1
    refine V_aload (v := ad 0) mi_42_13 (by simp [stL, lv_args, Value.category]) ?_
    refine V_gR mi_42_14 g0r2 (by omega) hG ?_
    refine V_gO mi_42_17 g4o hG (show rd _ 4 5 = some (.int (Int32.ofInt (G 4))) from hx0 hX (i := 5) (by omega)) ?_
    refine V_zgt mi_42_20 ⟨by omega, by omega⟩ (fun q => ?_) (fun q => ?_)
    · refine V_aload (v := ad 0) mi_42_26 (by simp [stL, lv_args, Value.category]) ?_
      refine V_gR mi_42_27 g0r2 (by omega) hG ?_
      refine V_dup mi_42_30 (by simp [Value.category]) ?_
      refine V_gO mi_42_31 g4o hG (show rd _ 4 5 = some (.int (Int32.ofInt (G 4))) from hx0 hX (i := 5) (by omega)) ?_
      refine V_ipush mi_42_34 ?_
      refine V_ibin mi_42_35 (by omega) ?_
      rw [ib1]
      refine V_pO mi_42_36 g4f5 (by omega) (by decide +kernel) (by decide +kernel) hG (by rw [Int32.toInt_ofInt_of_le (by omega) (by omega)]; omega) (by rw [Int32.toInt_ofInt_of_le (by omega) (by omega)]; omega) (fun w2 G2 U2 => ?_)
      have hX2 := HX_upd (j := 4) (z := G 4 - 1) hX (by omega) U2
      obtain ⟨ds, dl, sc⟩ := set3_ct (l := l) (A := A) hAD G2
      refine V_aload (v := ad 0) mi_42_39 (by simp [stL, lv_args, Value.category]) ?_
      refine V_cO (As := []) (st := []) mi_42_40 (by omega) (by decide +kernel) (by decide +kernel) (by omega) g0o G2 (sc) (by omega) (show 0 = mN 73 by decide +kernel) (by simp [Value.category]) ?_
      rintro r w3 ⟨rfl, G3, S_, O3⟩
      have hX3 := HX_keep hX2 (fun c i h1 h2 => O3 c i (by omega))
      refine V_aload (v := ad 0) mi_42_43 (by simp [stL, lv_args, Value.category]) ?_
      refine V_gR mi_42_44 g0r2 (by omega) G3 ?_
      refine V_gO mi_42_47 g4o G3 (show rd w3 4 5 = some (.int (Int32.ofInt (G 4 - 1))) from (O3 _ _ (by omega)).trans (upd_eq U2)) ?_
      exact V_retI mi_42_50 (fun h => absurd h (by decide +kernel)) ⟨G3, ⟨fun c j hn => (O3 c j (by omega)).trans (upd_ne U2 (by omega)), fun _ => S_⟩, fun k => absurd ok k, fun _ => ⟨fun k => absurd k (by omega), fun _ => ⟨rfl, hX3⟩⟩⟩
    · refine V_ipush mi_42_23 ?_
      exact V_retI mi_42_25 (fun h => absurd h (by decide +kernel)) ⟨hG, XOT_rf, fun k => absurd ok k, fun _ => ⟨fun _ => ⟨rfl, hX⟩, fun k => absurd k (by omega)⟩⟩
  · refine V_ipush mi_42_10 ?_
    exact V_retI mi_42_12 (fun h => absurd h (by decide +kernel)) ⟨hG, XOT_rf, fun _ => ⟨rfl, hX⟩, fun k => absurd k (of_decide_eq_false c1)⟩
theorem movXS_ct (hAD : ∀ i : Nat, ad (1000 + i) = D.2 1000 i) {G : Nat → Int} (hG : GOK ad tys GG ws) (hX : HX 4 G ws) (hB : HB G) {f p h : Int} (fI : I32 f) (pI : I32 p) (hI : I32 h) : CT l D tys A 43 8 0 0 [.ref (ad 0), .int (Int32.ofInt (f)), .int (Int32.ofInt (p)), .int (Int32.ofInt (h))] ws (fun r w => GOK ad tys GG w ∧ XOT ws w ∧ (¬ okMv G f p h → r = some (.int (Int32.ofInt (-2))) ∧ HX 4 G w) ∧ (okMv G f p h → r = some (.int (Int32.ofInt (G (102 + (24 * f.toNat + h.toNat))))) ∧ HX 4 (movG G f p h) w)) := by
  refine CT_of_V (by omega) (show (4 : Nat) ≤ mML 43 by decide +kernel) ?_
  refine V_aload (v := ad 0) mi_43_0 (by simp [stL, lv_args, Value.category]) ?_
  refine V_gR mi_43_1 g0r2 (by omega) hG ?_
  refine V_iload (v := Int32.ofInt (f)) mi_43_4 (by simp [stL, lv_args, Value.category]) ?_
  refine V_cO (As := [.int (Int32.ofInt (f))]) (st := []) mi_43_5 (by omega) (by decide +kernel) (by decide +kernel) (by omega) g4o hG (hfk_ct hG hX hB fI) (by omega) (show 1 = mN 102 by decide +kernel) (by simp [Value.category]) ?_
  rintro r w1 ⟨rfl, rfl⟩
  refine V_beq mi_43_8  (fun c1 => ?_) (fun c1 => ?_)
  · refine V_ipush mi_43_37 ?_
    exact V_retI mi_43_39 (fun h => absurd h (by decide +kernel)) ⟨hG, XOT_rf, fun _ => ⟨rfl, hX⟩, fun k => absurd k (fun k => of_decide_eq_false c1 k.1)⟩
  · refine V_aload (v := ad 0) mi_43_11 (by simp [stL, lv_args, Value.category]) ?_
    refine V_gR mi_43_12 g0r2 (by omega) hG ?_
    refine V_iload (v := Int32.ofInt (h)) mi_43_15 (by simp [stL, lv_args, Value.category]) ?_
    refine V_cO (As := [.int (Int32.ofInt (h))]) (st := []) mi_43_16 (by omega) (by decide +kernel) (by decide +kernel) (by omega) g4o hG (hho_ct hG hX hB hI) (by omega) (show 1 = mN 103 by decide +kernel) (by simp [Value.category]) ?_
    rintro r w2 ⟨rfl, rfl⟩
    refine V_beq mi_43_19  (fun c2 => ?_) (fun c2 => ?_)
    · refine V_ipush mi_43_37 ?_
      exact V_retI mi_43_39 (fun h => absurd h (by decide +kernel)) ⟨hG, XOT_rf, fun _ => ⟨rfl, hX⟩, fun k => absurd k (fun k => of_decide_eq_false c2 k.2.1)⟩
    · refine V_iload (v := Int32.ofInt (p)) mi_43_22 (by simp [stL, lv_args, Value.category]) ?_
      refine V_zlt mi_43_23 pI (fun q3 => ?_) (fun q3 => ?_)
      · refine V_ipush mi_43_37 ?_
        exact V_retI mi_43_39 (fun h => absurd h (by decide +kernel)) ⟨hG, XOT_rf, fun _ => ⟨rfl, hX⟩, fun k => absurd k (fun k => by have := k.2.2; omega)⟩
      · refine V_iload (v := Int32.ofInt (p)) mi_43_26 (by simp [stL, lv_args, Value.category]) ?_
        refine V_aload (v := ad 0) mi_43_27 (by simp [stL, lv_args, Value.category]) ?_
        refine V_gR mi_43_28 g0r2 (by omega) hG ?_
        refine V_gO mi_43_31 g4o hG (show rd _ 4 2 = some (.int (Int32.ofInt (G 1))) from hx0 hX (i := 2) (by omega)) ?_
        refine V_clt mi_43_34 pI ⟨by have := hB.b1; omega, by have := hB.b1; omega⟩ (fun q4 => ?_) (fun q4 => ?_)
        · have c11 := of_decide_eq_true c1
          have c22 := of_decide_eq_true c2
          have ok : okMv G f p h := ⟨c11, c22, q3, q4⟩
          have b3 := hB.b3
          have b2 := hB.b2
          obtain ⟨m, rfl⟩ := Int.eq_ofNat_of_zero_le c11.1
          obtain ⟨n, rfl⟩ := Int.eq_ofNat_of_zero_le c22.1
          refine V_aload (v := ad 0) mi_43_40 (by simp [stL, lv_args, Value.category]) ?_
          refine V_gR mi_43_41 g0r2 (by omega) hG ?_
          refine V_iload (v := Int32.ofInt ((m : Int))) mi_43_44 (by simp [stL, lv_args, Value.category]) ?_
          refine V_iload (v := Int32.ofInt ((n : Int))) mi_43_45 (by simp [stL, lv_args, Value.category]) ?_
          refine V_cO (As := [.int (Int32.ofInt ((m : Int))), .int (Int32.ofInt ((n : Int)))]) (st := []) mi_43_46 (by omega) (by decide +kernel) (by decide +kernel) (by omega) g4o hG (hpl_ct (f := m) (h := n) hG hX hB c11.2 c22.2) (by omega) (show 2 = mN 110 by decide +kernel) (by simp [Value.category]) ?_
          rintro r w3 ⟨rfl, rfl⟩
          obtain ⟨s10, e10, f10⟩ := a10
          refine V_istore mi_43_49 ?_
          refine V_aload (v := ad 0) mi_43_51 (by simp [stL, lv_args, Value.category]) ?_
          refine V_gR mi_43_52 g0r2 (by omega) hG ?_
          refine V_gR mi_43_55 g4r11 (by omega) hG ?_
          refine V_iload (v := Int32.ofInt ((m : Int))) mi_43_58 (by simp [stL, lv_args, Value.category]) ?_
          refine V_ipush mi_43_59 ?_
          refine V_ibin mi_43_61 (by omega) ?_
          rw [ib2]
          refine V_iload (v := Int32.ofInt ((n : Int))) mi_43_62 (by simp [stL, lv_args, Value.category]) ?_
          refine V_ibin mi_43_63 (by omega) ?_
          rw [ib0]
          refine V_iload (v := Int32.ofInt (p)) mi_43_64 (by simp [stL, lv_args, Value.category]) ?_
          rw [show (m : Int) * 24 + (n : Int) = ((24 * m + n : Nat) : Int) by omega]
          refine V_stat (As := [.ref (ad 10), .int (Int32.ofInt (((24 * m + n : Nat) : Int))), .int (Int32.ofInt (p))]) (st := []) mi_43_65 (by omega) (put_ct (j := 24 * m + n) hG e10 (by omega) (by omega) (f10 _ (by omega)) (i32b _).1 (i32b _).2) (by omega) (show 3 = mN 148 by decide +kernel) (by simp [Value.category]) ⟨Nat.le_refl _, Nat.le_refl _⟩ ?_
          rintro r w4 ⟨rfl, G4, U4⟩
          obtain ⟨x1, x2⟩ := stay_hx (j := 24 * m + n) (by omega)
          have hX4 := HX_upd (j := 102 + (24 * m + n)) (z := p) hX (by omega) (by rw [x1, x2]; exact U4)
          obtain ⟨ds, dl, sc⟩ := set3_ct (l := l) (A := A) hAD G4
          refine V_aload (v := ad 0) mi_43_68 (by simp [stL, lv_args, Value.category]) ?_
          refine V_cO (As := []) (st := []) mi_43_69 (by omega) (by decide +kernel) (by decide +kernel) (by omega) g0o G4 (sc) (by omega) (show 0 = mN 73 by decide +kernel) (by simp [Value.category]) ?_
          rintro r w5 ⟨rfl, G5, S_, O5⟩
          refine V_iload (v := Int32.ofInt (G (102 + (24 * m + n)))) mi_43_72 (by simp [stL, lv_args, Value.category]) ?_
          have hX5 := HX_keep hX4 (fun c i h1 h2 => O5 c i (by omega))
          exact V_retI mi_43_74 (fun h => absurd h (by decide +kernel)) ⟨G5, ⟨fun c j hn => (O5 c j (by omega)).trans (upd_ne U4 (by omega)), fun _ => S_⟩, fun k => absurd ok k, fun _ => ⟨rfl, hX5⟩⟩
        · refine V_ipush mi_43_37 ?_
          exact V_retI mi_43_39 (fun h => absurd h (by decide +kernel)) ⟨hG, XOT_rf, fun _ => ⟨rfl, hX⟩, fun k => absurd k (fun k => by have := k.2.2; omega)⟩
theorem teaXS_ct (hAD : ∀ i : Nat, ad (1000 + i) = D.2 1000 i) {G : Nat → Int} (hG : GOK ad tys GG ws) (hX : HX 4 G ws) (hB : HB G) {f o i t : Int} (fI : I32 f) (oI : I32 o) (iI : I32 i) (tI : I32 t) : CT l D tys A 44 8 0 0 [.ref (ad 0), .int (Int32.ofInt (f)), .int (Int32.ofInt (o)), .int (Int32.ofInt (i)), .int (Int32.ofInt (t))] ws (fun r w => GOK ad tys GG w ∧ XOT ws w ∧ (¬ okTe G f o i t → r = some (.int (Int32.ofInt (-2))) ∧ HX 4 G w) ∧ (okTe G f o i t → r = some (.int (ibF 5 (ibF 9 (Int32.ofInt (G (teaJ f o))) (Int32.ofInt i)) (Int32.ofInt 1))) ∧ HX 4 (teaG G f o i t) w)) := by
  refine CT_of_V (by omega) (show (5 : Nat) ≤ mML 44 by decide +kernel) ?_
  refine V_aload (v := ad 0) mi_44_0 (by simp [stL, lv_args, Value.category]) ?_
  refine V_iload (v := Int32.ofInt (f)) mi_44_1 (by simp [stL, lv_args, Value.category]) ?_
  refine V_iload (v := Int32.ofInt (o)) mi_44_2 (by simp [stL, lv_args, Value.category]) ?_
  refine V_cO (As := [.int (Int32.ofInt (f)), .int (Int32.ofInt (o))]) (st := []) mi_44_3 (by omega) (by decide +kernel) (by decide +kernel) (by omega) g0o hG (x2_ct hG hX hB fI oI) (by omega) (show 2 = mN 74 by decide +kernel) (by simp [Value.category]) ?_
  rintro r w1 ⟨rfl, rfl⟩
  refine V_beq mi_44_6  (fun c1 => ?_) (fun c1 => ?_)
  · refine V_ipush mi_44_32 ?_
    exact V_retI mi_44_34 (fun h => absurd h (by decide +kernel)) ⟨hG, XOT_rf, fun _ => ⟨rfl, hX⟩, fun k => absurd k (fun k => of_decide_eq_false c1 k.1)⟩
  · refine V_aload (v := ad 0) mi_44_9 (by simp [stL, lv_args, Value.category]) ?_
    refine V_gR mi_44_10 g0r2 (by omega) hG ?_
    refine V_iload (v := Int32.ofInt (o)) mi_44_13 (by simp [stL, lv_args, Value.category]) ?_
    refine V_iload (v := Int32.ofInt (i)) mi_44_14 (by simp [stL, lv_args, Value.category]) ?_
    refine V_cO (As := [.int (Int32.ofInt (o)), .int (Int32.ofInt (i))]) (st := []) mi_44_15 (by omega) (by decide +kernel) (by decide +kernel) (by omega) g4o hG (hsy_ct hG hX hB oI iI) (by omega) (show 2 = mN 105 by decide +kernel) (by simp [Value.category]) ?_
    rintro r w2 ⟨rfl, rfl⟩
    refine V_beq mi_44_18  (fun c2 => ?_) (fun c2 => ?_)
    · refine V_ipush mi_44_32 ?_
      exact V_retI mi_44_34 (fun h => absurd h (by decide +kernel)) ⟨hG, XOT_rf, fun _ => ⟨rfl, hX⟩, fun k => absurd k (fun k => of_decide_eq_false c2 ⟨k.1.2.1, k.2.1⟩)⟩
    · refine V_iload (v := Int32.ofInt (t)) mi_44_21 (by simp [stL, lv_args, Value.category]) ?_
      refine V_zlt mi_44_23 tI (fun q3 => ?_) (fun q3 => ?_)
      · refine V_ipush mi_44_32 ?_
        exact V_retI mi_44_34 (fun h => absurd h (by decide +kernel)) ⟨hG, XOT_rf, fun _ => ⟨rfl, hX⟩, fun k => absurd k (fun k => by have := k.2.2; omega)⟩
      · refine V_iload (v := Int32.ofInt (t)) mi_44_26 (by simp [stL, lv_args, Value.category]) ?_
        refine V_ipush mi_44_28 ?_
        refine V_cle mi_44_29 tI ⟨by omega, by omega⟩ (fun q4 => ?_) (fun q4 => ?_)
        · have c11 := of_decide_eq_true c1
          have c22 := of_decide_eq_true c2
          have ok : okTe G f o i t := ⟨c11, c22.2, q3, q4⟩
          have b3 := hB.b3
          obtain ⟨s11, e11, f11⟩ := a11
          obtain ⟨m, rfl⟩ := Int.eq_ofNat_of_zero_le c11.1.1
          obtain ⟨n, rfl⟩ := Int.eq_ofNat_of_zero_le c11.2.1.1
          have c23 := c22.2
          rw [Int.toNat_natCast] at c23
          have bl := hB.bl n (by omega)
          have bt := hB.bt (6 * m + n) (by omega)
          have ej : teaJ (m : Int) (n : Int) = 66 + (6 * m + n) := by unfold teaJ; rw [Int.toNat_natCast, Int.toNat_natCast]
          obtain ⟨⟨⟨v0, v1⟩, v2, v3⟩, v4, v5⟩ := teaV_k (b := G (66 + (6 * m + n))) (i := i) bt.1 bt.2 c23.1 (by omega)
          refine V_iload (v := Int32.ofInt ((m : Int))) mi_44_35 (by simp [stL, lv_args, Value.category]) ?_
          refine V_ipush mi_44_36 ?_
          refine V_ibin mi_44_38 (by omega) ?_
          rw [ib2]
          refine V_iload (v := Int32.ofInt ((n : Int))) mi_44_39 (by simp [stL, lv_args, Value.category]) ?_
          refine V_ibin mi_44_40 (by omega) ?_
          rw [ib0]
          rw [show (m : Int) * 6 + (n : Int) = ((6 * m + n : Nat) : Int) by omega]
          refine V_istore mi_44_41 ?_
          refine V_aload (v := ad 0) mi_44_43 (by simp [stL, lv_args, Value.category]) ?_
          refine V_gR mi_44_44 g0r2 (by omega) hG ?_
          refine V_gR mi_44_47 g4r12 (by omega) hG ?_
          refine V_iload (v := Int32.ofInt (((6 * m + n : Nat) : Int))) mi_44_50 (by simp [stL, lv_args, Value.category]) ?_
          refine V_stat (As := [.ref (ad 11), .int (Int32.ofInt (((6 * m + n : Nat) : Int)))]) (st := []) mi_44_52 (by omega) (at_ct (j := 6 * m + n) hG e11 (by omega) (by omega) (show rd _ 11 (6 * m + n) = some (.int (Int32.ofInt (G (66 + (6 * m + n))))) from HX_HY hX 7 (by omega) (6 * m + n) (show 6 * m + n < 36 by omega))) (by omega) (show 2 = mN 147 by decide +kernel) (by simp [Value.category]) ⟨Nat.le_refl _, Nat.le_refl _⟩ ?_
          rintro r w3 ⟨rfl, rfl⟩
          refine V_istore mi_44_55 ?_
          refine V_aload (v := ad 0) mi_44_57 (by simp [stL, lv_args, Value.category]) ?_
          refine V_gR mi_44_58 g0r2 (by omega) hG ?_
          refine V_gR mi_44_61 g4r12 (by omega) hG ?_
          refine V_iload (v := Int32.ofInt (((6 * m + n : Nat) : Int))) mi_44_64 (by simp [stL, lv_args, Value.category]) ?_
          refine V_iload (v := Int32.ofInt (t)) mi_44_66 (by simp [stL, lv_args, Value.category]) ?_
          
          refine V_ipush mi_44_68 ?_
          refine V_cne mi_44_69 tI ⟨by omega, by omega⟩ (fun q5 => ?_) (fun q5 => ?_)
          · refine V_iload (v := Int32.ofInt (G (66 + (6 * m + n)))) mi_44_81 (by simp [stL, lv_args, Value.category]) ?_
            refine V_ipush mi_44_83 ?_
            refine V_iload (v := Int32.ofInt (i)) mi_44_84 (by simp [stL, lv_args, Value.category]) ?_
            refine V_ibin mi_44_85 (by omega) ?_
            refine V_ipush mi_44_86 ?_
            refine V_ibin mi_44_87 (by omega) ?_
            refine V_ibin mi_44_88 (by omega) ?_
            rw [v4]
            have et : t = 0 := by omega
            subst et
            refine V_stat (As := [.ref (ad 11), .int (Int32.ofInt (((6 * m + n : Nat) : Int))), .int (Int32.ofInt (teaV (G (66 + (6 * m + n))) i 0))]) (st := []) mi_44_89 (by omega) (put_ct (j := 6 * m + n) hG e11 (by omega) (by omega) (f11 _ (by omega)) (i32b _).1 (i32b _).2) (by omega) (show 3 = mN 148 by decide +kernel) (by simp [Value.category]) ⟨Nat.le_refl _, Nat.le_refl _⟩ ?_
            rintro r w4 ⟨rfl, G4, U4⟩
            obtain ⟨x1, x2⟩ := told_hx (j := 6 * m + n) (by omega)
            have hX4 := HX_upd (j := 66 + (6 * m + n)) (z := teaV (G (66 + (6 * m + n))) i 0) hX (by omega) (by rw [x1, x2]; exact U4)
            obtain ⟨ds, dl, sc⟩ := set3_ct (l := l) (A := A) hAD G4
            refine V_aload (v := ad 0) mi_44_92 (by simp [stL, lv_args, Value.category]) ?_
            refine V_cO (As := []) (st := []) mi_44_93 (by omega) (by decide +kernel) (by decide +kernel) (by omega) g0o G4 (sc) (by omega) (show 0 = mN 73 by decide +kernel) (by simp [Value.category]) ?_
            rintro r w5 ⟨rfl, G5, S_, O5⟩
            refine V_iload (v := Int32.ofInt (G (66 + (6 * m + n)))) mi_44_96 (by simp [stL, lv_args, Value.category]) ?_
            refine V_iload (v := Int32.ofInt (i)) mi_44_98 (by simp [stL, lv_args, Value.category]) ?_
            refine V_ibin mi_44_99 (by omega) ?_
            refine V_ipush mi_44_100 ?_
            refine V_ibin mi_44_101 (by omega) ?_
            have hX5 := HX_keep hX4 (fun c i h1 h2 => O5 c i (by omega))
            refine V_retI mi_44_102 (fun h => absurd h (by decide +kernel)) ⟨G5, ⟨fun c j hn => (O5 c j (by omega)).trans (upd_ne U4 (by omega)), fun _ => S_⟩, fun k => absurd ok k, fun _ => ⟨by rw [ej], ?_⟩⟩
            unfold teaG
            rw [ej]
            exact hX5
          · refine V_iload (v := Int32.ofInt (G (66 + (6 * m + n)))) mi_44_72 (by simp [stL, lv_args, Value.category]) ?_
            refine V_ipush mi_44_74 ?_
            refine V_iload (v := Int32.ofInt (i)) mi_44_75 (by simp [stL, lv_args, Value.category]) ?_
            refine V_ibin mi_44_76 (by omega) ?_
            refine V_ibin mi_44_77 (by omega) ?_
            refine V_goto mi_44_78 ?_
            rw [v5]
            have et : t = 1 := by omega
            subst et
            refine V_stat (As := [.ref (ad 11), .int (Int32.ofInt (((6 * m + n : Nat) : Int))), .int (Int32.ofInt (teaV (G (66 + (6 * m + n))) i 1))]) (st := []) mi_44_89 (by omega) (put_ct (j := 6 * m + n) hG e11 (by omega) (by omega) (f11 _ (by omega)) (i32b _).1 (i32b _).2) (by omega) (show 3 = mN 148 by decide +kernel) (by simp [Value.category]) ⟨Nat.le_refl _, Nat.le_refl _⟩ ?_
            rintro r w4 ⟨rfl, G4, U4⟩
            obtain ⟨x1, x2⟩ := told_hx (j := 6 * m + n) (by omega)
            have hX4 := HX_upd (j := 66 + (6 * m + n)) (z := teaV (G (66 + (6 * m + n))) i 1) hX (by omega) (by rw [x1, x2]; exact U4)
            obtain ⟨ds, dl, sc⟩ := set3_ct (l := l) (A := A) hAD G4
            refine V_aload (v := ad 0) mi_44_92 (by simp [stL, lv_args, Value.category]) ?_
            refine V_cO (As := []) (st := []) mi_44_93 (by omega) (by decide +kernel) (by decide +kernel) (by omega) g0o G4 (sc) (by omega) (show 0 = mN 73 by decide +kernel) (by simp [Value.category]) ?_
            rintro r w5 ⟨rfl, G5, S_, O5⟩
            refine V_iload (v := Int32.ofInt (G (66 + (6 * m + n)))) mi_44_96 (by simp [stL, lv_args, Value.category]) ?_
            refine V_iload (v := Int32.ofInt (i)) mi_44_98 (by simp [stL, lv_args, Value.category]) ?_
            refine V_ibin mi_44_99 (by omega) ?_
            refine V_ipush mi_44_100 ?_
            refine V_ibin mi_44_101 (by omega) ?_
            have hX5 := HX_keep hX4 (fun c i h1 h2 => O5 c i (by omega))
            refine V_retI mi_44_102 (fun h => absurd h (by decide +kernel)) ⟨G5, ⟨fun c j hn => (O5 c j (by omega)).trans (upd_ne U4 (by omega)), fun _ => S_⟩, fun k => absurd ok k, fun _ => ⟨by rw [ej], ?_⟩⟩
            unfold teaG
            rw [ej]
            exact hX5
        · refine V_ipush mi_44_32 ?_
          exact V_retI mi_44_34 (fun h => absurd h (by decide +kernel)) ⟨hG, XOT_rf, fun _ => ⟨rfl, hX⟩, fun k => absurd k (fun k => by have := k.2.2; omega)⟩
theorem bakXS_0 {G : Nat → Int} {z : Nat} (z8 : z < 8) (hAD : ∀ i : Nat, ad (1000 + i) = D.2 1000 i) (hG : GOK ad tys GG ws) (hX : z.testBit 0 = true → HX 54 G ws) (hz : rd ws 0 12 = some (.int (Int32.ofInt (z : Int)))) : CT l D tys A 68 8 0 0 [.ref (ad 0), .int (Int32.ofInt 0)] ws (fun r w => GOK ad tys GG w ∧ XOT ws w ∧ (z.testBit 0 = true → r = some (.int (Int32.ofInt 0)) ∧ HX 4 G w) ∧ (z.testBit 0 = false → r = some (.int (Int32.ofInt (-6))) ∧ w = ws)) := by
  refine CT_of_V (by omega) (show (2 : Nat) ≤ mML 68 by decide +kernel) ?_
  refine V_aload (v := ad 0) mi_68_0 (by simp [stL, lv_args, Value.category]) ?_
  refine V_iload (v := Int32.ofInt (0)) mi_68_1 (by simp [stL, lv_args, Value.category]) ?_
  refine V_cO (As := [.int (Int32.ofInt (0))]) (st := []) mi_68_2 (by omega) (by decide +kernel) (by decide +kernel) (by omega) g0o hG (iat_0 hG) (by omega) (show 1 = mN 69 by decide +kernel) (by simp [Value.category]) ?_
  rintro r w1 ⟨rfl, rfl⟩
  refine V_astore (v := ad 54) mi_68_5 ?_
  refine V_aload (v := ad 54) mi_68_6 (by simp [stL, lv_args, Value.category]) ?_
  refine V_nnR mi_68_7 ?_
  refine V_aload (v := ad 0) mi_68_13 (by simp [stL, lv_args, Value.category]) ?_
  refine V_gO mi_68_14 g0o hG (hz) ?_
  refine V_iload (v := Int32.ofInt (0)) mi_68_17 (by simp [stL, lv_args, Value.category]) ?_
  refine V_ibin mi_68_18 (by omega) ?_
  refine V_ipush mi_68_19 ?_
  refine V_ibin mi_68_20 (by omega) ?_
  obtain ⟨k1, k2, k3, k4⟩ := kep_k (q := 0) z8 (by omega)
  rw [show ibF 5 (ibF 9 (Int32.ofInt (z : Int)) (Int32.ofInt 0)) (Int32.ofInt 1) = bI (z.testBit 0) from k3]
  refine V_bne mi_68_21  (fun q => ?_) (fun q => ?_)
  · refine V_aload (v := ad 0) mi_68_27 (by simp [stL, lv_args, Value.category]) ?_
    refine V_gR mi_68_28 g0r2 (by omega) hG ?_
    refine V_aload (v := ad 54) mi_68_31 (by simp [stL, lv_args, Value.category]) ?_
    refine V_cO (As := [.ref (ad 54)]) (st := []) mi_68_32 (by omega) (by decide +kernel) (by decide +kernel) (by omega) g4o hG (cpf_4_54 hG (hX q)) (by omega) (show 1 = mN 100 by decide +kernel) (by simp [Value.category]) ?_
    rintro r w2 ⟨rfl, G2, hX2, O2⟩
    obtain ⟨ds, dl, sc⟩ := set3_ct (l := l) (A := A) hAD G2
    refine V_aload (v := ad 0) mi_68_35 (by simp [stL, lv_args, Value.category]) ?_
    refine V_cO (As := []) (st := []) mi_68_36 (by omega) (by decide +kernel) (by decide +kernel) (by omega) g0o G2 (sc) (by omega) (show 0 = mN 73 by decide +kernel) (by simp [Value.category]) ?_
    rintro r w3 ⟨rfl, G3, S_, O3⟩
    refine V_ipush mi_68_39 ?_
    exact V_retI mi_68_40 (fun h => absurd h (by decide +kernel)) ⟨G3, ⟨fun c i hn => (O3 c i (by omega)).trans (O2 c i (by omega)), fun _ => S_⟩, fun _ => ⟨rfl, HX_keep hX2 (fun c i h1 h2 => O3 c i (by omega))⟩, fun h => absurd (h.symm.trans q) Bool.false_ne_true⟩
  · refine V_ipush mi_68_24 ?_
    exact V_retI mi_68_26 (fun h => absurd h (by decide +kernel)) ⟨hG, XOT_rf, fun h => absurd (q.symm.trans h) Bool.false_ne_true, fun _ => ⟨rfl, rfl⟩⟩
theorem bakXS_1 {G : Nat → Int} {z : Nat} (z8 : z < 8) (hAD : ∀ i : Nat, ad (1000 + i) = D.2 1000 i) (hG : GOK ad tys GG ws) (hX : z.testBit 1 = true → HX 66 G ws) (hz : rd ws 0 12 = some (.int (Int32.ofInt (z : Int)))) : CT l D tys A 68 8 0 0 [.ref (ad 0), .int (Int32.ofInt 1)] ws (fun r w => GOK ad tys GG w ∧ XOT ws w ∧ (z.testBit 1 = true → r = some (.int (Int32.ofInt 0)) ∧ HX 4 G w) ∧ (z.testBit 1 = false → r = some (.int (Int32.ofInt (-6))) ∧ w = ws)) := by
  refine CT_of_V (by omega) (show (2 : Nat) ≤ mML 68 by decide +kernel) ?_
  refine V_aload (v := ad 0) mi_68_0 (by simp [stL, lv_args, Value.category]) ?_
  refine V_iload (v := Int32.ofInt (1)) mi_68_1 (by simp [stL, lv_args, Value.category]) ?_
  refine V_cO (As := [.int (Int32.ofInt (1))]) (st := []) mi_68_2 (by omega) (by decide +kernel) (by decide +kernel) (by omega) g0o hG (iat_1 hG) (by omega) (show 1 = mN 69 by decide +kernel) (by simp [Value.category]) ?_
  rintro r w1 ⟨rfl, rfl⟩
  refine V_astore (v := ad 66) mi_68_5 ?_
  refine V_aload (v := ad 66) mi_68_6 (by simp [stL, lv_args, Value.category]) ?_
  refine V_nnR mi_68_7 ?_
  refine V_aload (v := ad 0) mi_68_13 (by simp [stL, lv_args, Value.category]) ?_
  refine V_gO mi_68_14 g0o hG (hz) ?_
  refine V_iload (v := Int32.ofInt (1)) mi_68_17 (by simp [stL, lv_args, Value.category]) ?_
  refine V_ibin mi_68_18 (by omega) ?_
  refine V_ipush mi_68_19 ?_
  refine V_ibin mi_68_20 (by omega) ?_
  obtain ⟨k1, k2, k3, k4⟩ := kep_k (q := 1) z8 (by omega)
  rw [show ibF 5 (ibF 9 (Int32.ofInt (z : Int)) (Int32.ofInt 1)) (Int32.ofInt 1) = bI (z.testBit 1) from k3]
  refine V_bne mi_68_21  (fun q => ?_) (fun q => ?_)
  · refine V_aload (v := ad 0) mi_68_27 (by simp [stL, lv_args, Value.category]) ?_
    refine V_gR mi_68_28 g0r2 (by omega) hG ?_
    refine V_aload (v := ad 66) mi_68_31 (by simp [stL, lv_args, Value.category]) ?_
    refine V_cO (As := [.ref (ad 66)]) (st := []) mi_68_32 (by omega) (by decide +kernel) (by decide +kernel) (by omega) g4o hG (cpf_4_66 hG (hX q)) (by omega) (show 1 = mN 100 by decide +kernel) (by simp [Value.category]) ?_
    rintro r w2 ⟨rfl, G2, hX2, O2⟩
    obtain ⟨ds, dl, sc⟩ := set3_ct (l := l) (A := A) hAD G2
    refine V_aload (v := ad 0) mi_68_35 (by simp [stL, lv_args, Value.category]) ?_
    refine V_cO (As := []) (st := []) mi_68_36 (by omega) (by decide +kernel) (by decide +kernel) (by omega) g0o G2 (sc) (by omega) (show 0 = mN 73 by decide +kernel) (by simp [Value.category]) ?_
    rintro r w3 ⟨rfl, G3, S_, O3⟩
    refine V_ipush mi_68_39 ?_
    exact V_retI mi_68_40 (fun h => absurd h (by decide +kernel)) ⟨G3, ⟨fun c i hn => (O3 c i (by omega)).trans (O2 c i (by omega)), fun _ => S_⟩, fun _ => ⟨rfl, HX_keep hX2 (fun c i h1 h2 => O3 c i (by omega))⟩, fun h => absurd (h.symm.trans q) Bool.false_ne_true⟩
  · refine V_ipush mi_68_24 ?_
    exact V_retI mi_68_26 (fun h => absurd h (by decide +kernel)) ⟨hG, XOT_rf, fun h => absurd (q.symm.trans h) Bool.false_ne_true, fun _ => ⟨rfl, rfl⟩⟩
theorem bakXS_2 {G : Nat → Int} {z : Nat} (z8 : z < 8) (hAD : ∀ i : Nat, ad (1000 + i) = D.2 1000 i) (hG : GOK ad tys GG ws) (hX : z.testBit 2 = true → HX 78 G ws) (hz : rd ws 0 12 = some (.int (Int32.ofInt (z : Int)))) : CT l D tys A 68 8 0 0 [.ref (ad 0), .int (Int32.ofInt 2)] ws (fun r w => GOK ad tys GG w ∧ XOT ws w ∧ (z.testBit 2 = true → r = some (.int (Int32.ofInt 0)) ∧ HX 4 G w) ∧ (z.testBit 2 = false → r = some (.int (Int32.ofInt (-6))) ∧ w = ws)) := by
  refine CT_of_V (by omega) (show (2 : Nat) ≤ mML 68 by decide +kernel) ?_
  refine V_aload (v := ad 0) mi_68_0 (by simp [stL, lv_args, Value.category]) ?_
  refine V_iload (v := Int32.ofInt (2)) mi_68_1 (by simp [stL, lv_args, Value.category]) ?_
  refine V_cO (As := [.int (Int32.ofInt (2))]) (st := []) mi_68_2 (by omega) (by decide +kernel) (by decide +kernel) (by omega) g0o hG (iat_2 hG) (by omega) (show 1 = mN 69 by decide +kernel) (by simp [Value.category]) ?_
  rintro r w1 ⟨rfl, rfl⟩
  refine V_astore (v := ad 78) mi_68_5 ?_
  refine V_aload (v := ad 78) mi_68_6 (by simp [stL, lv_args, Value.category]) ?_
  refine V_nnR mi_68_7 ?_
  refine V_aload (v := ad 0) mi_68_13 (by simp [stL, lv_args, Value.category]) ?_
  refine V_gO mi_68_14 g0o hG (hz) ?_
  refine V_iload (v := Int32.ofInt (2)) mi_68_17 (by simp [stL, lv_args, Value.category]) ?_
  refine V_ibin mi_68_18 (by omega) ?_
  refine V_ipush mi_68_19 ?_
  refine V_ibin mi_68_20 (by omega) ?_
  obtain ⟨k1, k2, k3, k4⟩ := kep_k (q := 2) z8 (by omega)
  rw [show ibF 5 (ibF 9 (Int32.ofInt (z : Int)) (Int32.ofInt 2)) (Int32.ofInt 1) = bI (z.testBit 2) from k3]
  refine V_bne mi_68_21  (fun q => ?_) (fun q => ?_)
  · refine V_aload (v := ad 0) mi_68_27 (by simp [stL, lv_args, Value.category]) ?_
    refine V_gR mi_68_28 g0r2 (by omega) hG ?_
    refine V_aload (v := ad 78) mi_68_31 (by simp [stL, lv_args, Value.category]) ?_
    refine V_cO (As := [.ref (ad 78)]) (st := []) mi_68_32 (by omega) (by decide +kernel) (by decide +kernel) (by omega) g4o hG (cpf_4_78 hG (hX q)) (by omega) (show 1 = mN 100 by decide +kernel) (by simp [Value.category]) ?_
    rintro r w2 ⟨rfl, G2, hX2, O2⟩
    obtain ⟨ds, dl, sc⟩ := set3_ct (l := l) (A := A) hAD G2
    refine V_aload (v := ad 0) mi_68_35 (by simp [stL, lv_args, Value.category]) ?_
    refine V_cO (As := []) (st := []) mi_68_36 (by omega) (by decide +kernel) (by decide +kernel) (by omega) g0o G2 (sc) (by omega) (show 0 = mN 73 by decide +kernel) (by simp [Value.category]) ?_
    rintro r w3 ⟨rfl, G3, S_, O3⟩
    refine V_ipush mi_68_39 ?_
    exact V_retI mi_68_40 (fun h => absurd h (by decide +kernel)) ⟨G3, ⟨fun c i hn => (O3 c i (by omega)).trans (O2 c i (by omega)), fun _ => S_⟩, fun _ => ⟨rfl, HX_keep hX2 (fun c i h1 h2 => O3 c i (by omega))⟩, fun h => absurd (h.symm.trans q) Bool.false_ne_true⟩
  · refine V_ipush mi_68_24 ?_
    exact V_retI mi_68_26 (fun h => absurd h (by decide +kernel)) ⟨hG, XOT_rf, fun h => absurd (q.symm.trans h) Bool.false_ne_true, fun _ => ⟨rfl, rfl⟩⟩
end XSJ
