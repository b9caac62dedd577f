section XUF
def WI (G : Nat → Int) : Prop := ∀ s : Nat, (s : Int) < G 4 → ∀ o : Nat, o < 6 → G (246 + 4 * s + 1) = (o : Int) → G (246 + 4 * s + 2) < G (6 + 7 * o)
def WQ (fr : Nat → Int) : Prop := ∀ s : Nat, (s : Int) < fr 4 → ∀ o : Nat, o < 6 → fr (246 + 4 * s + 1) = (o : Int) → (o : Int) < fr 3 ∧ fr (246 + 4 * s + 2) < fr (6 + 7 * o)
theorem WQ_upd {fr : Nat → Int} {j : Nat} {z : Int} (h : WQ fr) (hj : 48 ≤ j ∧ j < 246) : WQ (updI fr j z) := fun s hs o ho => by
  rw [updI_ne (by omega)] at hs
  rw [updI_ne (by omega), updI_ne (by omega), updI_ne (by omega), updI_ne (by omega)]
  exact h s hs o ho
theorem namW_ne2 {B : Nat → Int} {n : Nat} {y : Int} {F i : Nat} (hi : i < 7 + 7 * F ∨ 14 + 7 * F ≤ i) : ∀ (f k : Nat) (s : TS) (g : Nat → Int), k + f ≤ 7 → (namW B n y F f k s g).2.2 i = g i
  | 0, k, s, g, _ => rfl
  | f + 1, k, s, g, hk => by
    have u : updI g (7 + 7 * F + k) (namR y k s) i = g i := updI_ne (by omega)
    unfold namW
    split
    · split
      · exact u
      · exact (namW_ne2 hi f (k + 1) _ _ (by omega)).trans u
    · rfl
theorem WQ_says {B fr : Nat → Int} {n : Nat} {s : TS} (h : WR fr) (w2 : WQ fr) (n12 : ¬ fr 4 = 12) (g : (saT fr B n s).2.1 = 0) : WQ (saG fr B n s) := by
  unfold saG
  rw [if_pos g]
  obtain ⟨g1, h0, h1⟩ := hour_ok g
  obtain ⟨g2, -, -⟩ := need_ok g1
  obtain ⟨g3, -, nb, nr, -⟩ := num_ok g2
  obtain ⟨g4, o0, o1⟩ := folk_ok g3
  obtain ⟨g5, f0, f1⟩ := folk_ok g4
  obtain ⟨⟨⟨a0, a6⟩, ⟨b0, b12⟩, c5⟩, -, -⟩ := h
  have hk : saK fr = 246 + 4 * (fr 4).toNat := rfl
  have e4 : ∀ z, updI (updI (updI (updI (updI fr (saK fr) (saF fr s)) (saK fr + 1) (saO fr B n s : Int)) (saK fr + 2) (saI fr B n s)) (saK fr + 3) (saH fr B n s)) 4 z 4 = z := fun z => if_pos rfl
  have eo : ∀ z i, i ≠ 4 → ¬ (saK fr ≤ i ∧ i ≤ saK fr + 3) → updI (updI (updI (updI (updI fr (saK fr) (saF fr s)) (saK fr + 1) (saO fr B n s : Int)) (saK fr + 2) (saI fr B n s)) (saK fr + 3) (saH fr B n s)) 4 z i = fr i := fun z i h1 h2 => by
    rw [updI_ne h1, updI_ne (by omega), updI_ne (by omega), updI_ne (by omega), updI_ne (by omega)]
  have ek1 : ∀ z, updI (updI (updI (updI (updI fr (saK fr) (saF fr s)) (saK fr + 1) (saO fr B n s : Int)) (saK fr + 2) (saI fr B n s)) (saK fr + 3) (saH fr B n s)) 4 z (saK fr + 1) = (saO fr B n s : Int) := fun z => by
    rw [updI_ne (by omega), updI_ne (by omega), updI_ne (by omega)]
    exact if_pos rfl
  have ek2 : ∀ z, updI (updI (updI (updI (updI fr (saK fr) (saF fr s)) (saK fr + 1) (saO fr B n s : Int)) (saK fr + 2) (saI fr B n s)) (saK fr + 3) (saH fr B n s)) 4 z (saK fr + 2) = saI fr B n s := fun z => by
    rw [updI_ne (by omega), updI_ne (by omega)]
    exact if_pos rfl
  intro i hi o ho
  rw [e4] at hi
  rw [eo _ 3 (by omega) (by omega), eo _ (6 + 7 * o) (by omega) (by omega)]
  by_cases e : i = (fr 4).toNat
  · have e1 : 246 + 4 * i = saK fr := by rw [hk, e]
    rw [e1, ek1, ek2]
    intro eo2
    have e3 : saO fr B n s = o := by omega
    have o0' : 0 ≤ folkR fr (saA fr B n s) := o0
    have o1' : folkR fr (saA fr B n s) < fr 3 := o1
    have e5 : saO fr B n s = (folkR fr (saA fr B n s)).toNat := rfl
    have e6 : saI fr B n s = numR 0 (fr (6 + 7 * saO fr B n s) - 1) (saB fr B n s) := rfl
    have e7 : saI fr B n s ≤ fr (6 + 7 * saO fr B n s) - 1 := by
      rw [e6, nr]
      exact nb.2
    rw [e3] at e7
    exact ⟨by omega, by omega⟩
  · rw [eo _ _ (by omega) (by omega), eo _ _ (by omega) (by omega)]
    exact w2 i (by omega) o ho
theorem WQ_lin {B fr td : Nat → Int} {n : Nat} {s : TS} (h : WR fr) (w2 : WQ fr) (g : (linW B n fr td s).1.2.1 = 0) : WQ (linW B n fr td s).2.1 := by
  unfold linW at g ⊢
  split
  · next q =>
    obtain ⟨a, e5, w⟩ := h
    have e : ∀ i, 2 < i → firF B n fr s i = fr i := fun i hi => by
      unfold firF
      rw [updI_ne (by omega), updI_ne (by omega), updI_ne (by omega)]
    show WQ (firF B n fr s)
    intro i hi
    rw [e 4 (by omega), e5 q] at hi
    exact absurd hi (by omega)
  · next q =>
    rw [if_neg q] at g
    have h3 := h.1.1
    unfold linN at g ⊢
    split
    · next q1 =>
      rw [if_pos q1] at g
      split
      · next q2 =>
        exact w2
      · next q2 =>
        rw [if_neg q2] at g
        have hF : (fr 3).toNat < 6 := by omega
        have nw : ∀ i, (i < 6 ∨ 246 ≤ i) → (namW B n (fr 0) (fr 3).toNat 7 0 (advS B n s) fr).2.2 i = fr i := fun i hi => namW_ne hF hi 7 0 _ _ (by omega)
        obtain ⟨⟨a, b, c⟩, e5, w⟩ := h
        show WQ (namZ (fr 3).toNat (namW B n (fr 0) (fr 3).toNat 7 0 (advS B n s) fr))
        unfold namZ
        rw [if_pos g]
        have e3 : ∀ (x : Nat → Int) z, updI x 3 z 3 = z := fun x z => if_pos rfl
        have eo : ∀ i, i ≠ 3 → (i < 6 ∨ 246 ≤ i) → updI (updI (updI (namW B n (fr 0) (fr 3).toNat 7 0 (advS B n s) fr).2.2 (6 + 7 * (fr 3).toNat) ((namW B n (fr 0) (fr 3).toNat 7 0 (advS B n s) fr).2.1 : Int)) (48 + (fr 3).toNat) 1) 3 (((fr 3).toNat : Int) + 1) i = fr i := fun i h1 h2 => by
          rw [updI_ne h1, updI_ne (by omega), updI_ne (by omega), nw i h2]
        have nw2 : ∀ i, i < 7 + 7 * (fr 3).toNat → (namW B n (fr 0) (fr 3).toNat 7 0 (advS B n s) fr).2.2 i = fr i := fun i hi => namW_ne2 (Or.inl hi) 7 0 _ _ (by omega)
        intro i hi o ho
        rw [eo 4 (by omega) (by omega)] at hi
        rw [e3, eo (246 + 4 * i + 1) (by omega) (by omega), eo (246 + 4 * i + 2) (by omega) (by omega)]
        intro ew
        have q9 := w2 i hi o ho ew
        rw [updI_ne (by omega), updI_ne (by omega), updI_ne (by omega), nw2 _ (by omega)]
        exact ⟨by omega, q9.2⟩
    · next q1 =>
      rw [if_neg q1] at g
      split
      · next q2 =>
        rw [if_pos q2] at g
        obtain ⟨g1, -⟩ := num_ok g
        obtain ⟨-, f0, f1⟩ := folk_ok g1
        show WQ (stF fr B n (advS B n s))
        unfold stF
        rw [if_pos g]
        exact WQ_upd w2 (by omega)
      · next q2 =>
        rw [if_neg q2] at g
        split
        · next q3 =>
          rw [if_pos q3] at g
          obtain ⟨g1, -⟩ := num_ok g
          obtain ⟨-, f0, f1⟩ := folk_ok g1
          show WQ (deF fr B n (advS B n s))
          unfold deF
          rw [if_pos g]
          exact WQ_upd w2 (by omega)
        · next q3 =>
          rw [if_neg q3] at g
          split
          · next q4 => exact w2
          · next q4 =>
            rw [if_neg q4] at g
            split
            · next q5 =>
              rw [if_pos q5] at g
              obtain ⟨g1, -⟩ := num_ok (show (numT B n 0 _ (knS fr B n (advS B n s))).2.1 = 0 from g)
              obtain ⟨g2, o0, o1⟩ := othe_ok g1
              obtain ⟨-, f0, f1⟩ := folk_ok g2
              show WQ (knG fr B n (advS B n s))
              unfold knG
              rw [if_pos g]
              refine WQ_upd w2 ?_
              have e1 : knF fr (advS B n s) = folkR fr (advS B n s) := rfl
              have e2 : knO fr B n (advS B n s) = (otheR fr (knF fr (advS B n s)) (folkT B n fr (advS B n s))).toNat := rfl
              unfold knJ
              omega
            · next q5 =>
              rw [if_neg q5] at g
              split
              · next q6 =>
                rw [if_pos q6] at g
                split
                · exact w2
                · next q7 =>
                  rw [if_neg q7] at g
                  exact WQ_says h w2 q7 g
              · next q6 =>
                rw [if_neg q6] at g
                split
                · next q7 =>
                  rw [if_pos q7] at g
                  obtain ⟨g2, o0, o1⟩ := othe_ok g
                  show WQ (foF fr B n (advS B n s))
                  unfold foF
                  rw [if_pos g]
                  refine WQ_upd w2 ?_
                  have e2 : foO fr B n (advS B n s) = (otheR fr (folkR fr (advS B n s)) (folkT B n fr (advS B n s))).toNat := rfl
                  omega
                · exact w2
theorem WQ_linS {B : Nat → Int} {n : Nat} {x : TS × (Nat → Int) × (Nat → Int)} (h : WR x.2.1) (w2 : WQ x.2.1) (g : (linS B n x).1.2.1 = 0) : WQ (linS B n x).2.1 := by
  have g0 : (linW B n x.2.1 x.2.2 x.1).1.2.1 = 0 := by
    have gs : (signS (linW B n x.2.1 x.2.2 x.1).1).2.1 = 0 := by
      unfold linS at g
      by_cases e : (signS (linW B n x.2.1 x.2.2 x.1).1).2.1 = 0
      · exact e
      · rw [if_neg e] at g
        exact absurd g e
    exact (sign_ok gs).1
  have w := WQ_lin (td := x.2.2) h w2 g0
  show WQ (updI (linW B n x.2.1 x.2.2 x.1).2.1 5 ((linW B n x.2.1 x.2.2 x.1).2.1 5 + 1))
  intro i hi o ho
  rw [updI_ne (by omega)] at hi
  rw [updI_ne (by omega), updI_ne (by omega), updI_ne (by omega), updI_ne (by omega)]
  exact w i hi o ho
theorem WQ_linA {B : Nat → Int} {n : Nat} : ∀ (f : Nat) (x : TS × (Nat → Int) × (Nat → Int)), (x.1.2.1 = 0 → WR x.2.1 ∧ WQ x.2.1) → (linA B n f x).1.2.1 = 0 → WQ (linA B n f x).2.1
  | 0, x, h, g => (h g).2
  | f + 1, x, h, g => by
    unfold linA at g ⊢
    split
    · next q =>
      rw [if_pos q] at g
      exact WQ_linA f _ (fun g1 => ⟨WR_linS (h q.1).1 g1, WQ_linS (h q.1).1 (h q.1).2 g1⟩) g
    · next q =>
      rw [if_neg q] at g
      exact (h g).2
theorem WI_hill {B : Nat → Int} {n : Nat} {v0 : Int} (g : (hillX B n v0).1.2.1 = 0) : WI (endG (hillX B n v0)) := by
  have w := WQ_linA 1402 (hill0 B n v0) (fun _ => ⟨⟨⟨⟨by show (0 : Int) ≤ 0; omega, by show (0 : Int) ≤ 6; omega⟩, ⟨by show (0 : Int) ≤ 0; omega, by show (0 : Int) ≤ 12; omega⟩, by show (0 : Int) ≤ 0; omega⟩, fun _ => rfl, fun s hs => by
    have hs : (s : Int) < 0 := hs
    omega⟩, fun s hs => by
    have hs : (s : Int) < 0 := hs
    omega⟩) g
  intro s hs o ho
  have e : ∀ i, i < 102 ∨ 246 ≤ i → endG (hillX B n v0) i = (hillX B n v0).2.1 i := fun i hi => if_neg (by omega)
  rw [e 4 (by omega)] at hs
  rw [e _ (by omega), e _ (by omega), e _ (by omega)]
  exact fun q => (w s hs o ho q).2
end XUF
