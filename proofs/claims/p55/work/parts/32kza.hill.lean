section XWA
noncomputable def WP (G : Nat → Int) : Prop := ∀ f : Nat, f < 6 → (f : Int) < G 3 → ∀ i : Nat, i < 6 → (i : Int) < G (6 + 7 * f) → G (7 + 7 * f + i) < G 0
noncomputable def WPQ (fr : Nat → Int) : Prop := (fr 5 = 0 → fr 3 = 0) ∧ WP fr
theorem WP_same {fr fr' : Nat → Int} (h : WP fr) (e : ∀ i, i < 4 ∨ (6 ≤ i ∧ i < 48) → fr' i = fr i) : WP fr' := fun f hf h3 i hi hl => by
  rw [e 3 (by omega)] at h3
  rw [e (6 + 7 * f) (by omega)] at hl
  rw [e (7 + 7 * f + i) (by omega), e 0 (by omega)]
  exact h f hf h3 i hi hl
theorem WPQ_same {fr fr' : Nat → Int} (h : WPQ fr) (e : ∀ i, i < 4 ∨ (5 ≤ i ∧ i < 48) → fr' i = fr i) : WPQ fr' := by
  refine ⟨?_, WP_same h.2 (fun i hi => e i (by omega))⟩
  rw [e 5 (by omega), e 3 (by omega)]
  exact h.1
theorem WPQ_upd {fr : Nat → Int} {j : Nat} {z : Int} (h : WPQ fr) (hj : 48 ≤ j ∧ j < 246) : WPQ (updI fr j z) := WPQ_same h (fun i hi => updI_ne (by omega))
theorem namW_ne3 {B : Nat → Int} {n : Nat} {y : Int} {F i : Nat} (hi : i < 7 + 7 * F ∨ 14 + 7 * F ≤ i) : ∀ (f k : Nat) (s : TS) (g : Nat → Int), k + f ≤ 7 → (namW B n y F f k s g).2.2 i = g i
  | 0, k, s, g, _ => rfl
  | f + 1, k, s, g, hk => by
    have u : updI g (7 + 7 * F + k) (namR y k s) i = g i := updI_ne (by omega)
    unfold namW
    split
    · split
      · exact u
      · exact (namW_ne3 hi f (k + 1) _ _ (by omega)).trans u
    · rfl
theorem namW_v {B : Nat → Int} {n : Nat} {y : Int} {F : Nat} : ∀ (f k : Nat) (s : TS) (g : Nat → Int), (namW B n y F f k s g).1.2.1 = 0 → (∀ i, i < k → g (7 + 7 * F + i) < y) → ∀ i, i < (namW B n y F f k s g).2.1 → (namW B n y F f k s g).2.2 (7 + 7 * F + i) < y
  | 0, k, s, g, _, hg => hg
  | f + 1, k, s, g, h, hg => by
    unfold namW at h ⊢
    by_cases a : (namN B n y k s).2.1 = 0
    · rw [if_pos a] at h ⊢
      obtain ⟨-, -, c1, c2, -⟩ := num_ok (B := B) (n := n) (lo := 0) (hi := y - 1) (s := nam1 y k s) a
      have c2 : namR y k s = (nam1 y k s).1.2.2.2 := c2
      have hg2 : ∀ i, i < k + 1 → updI g (7 + 7 * F + k) (namR y k s) (7 + 7 * F + i) < y := fun i hi => by
        by_cases e : i = k
        · rw [e, show updI g (7 + 7 * F + k) (namR y k s) (7 + 7 * F + k) = namR y k s from if_pos rfl]
          omega
        · rw [updI_ne (by omega)]
          exact hg i (by omega)
      split
      · exact hg2
      · next b =>
        rw [if_neg b] at h
        exact namW_v f (k + 1) _ _ h hg2
    · rw [if_neg a] at h
      exact absurd h a
theorem WPQ_says {B fr : Nat → Int} {n : Nat} {s : TS} (w2 : WPQ fr) (g : (saT fr B n s).2.1 = 0) : WPQ (saG fr B n s) := by
  unfold saG
  rw [if_pos g]
  have hk : saK fr = 246 + 4 * (fr 4).toNat := rfl
  exact WPQ_same w2 (fun i hi => by
    rw [updI_ne (by omega), updI_ne (by omega), updI_ne (by omega), updI_ne (by omega), updI_ne (by omega)])
theorem WPQ_lin {B fr td : Nat → Int} {n : Nat} {s : TS} (h : WR fr) (w2 : WPQ fr) (g : (linW B n fr td s).1.2.1 = 0) : WPQ (linW B n fr td s).2.1 := by
  unfold linW at g ⊢
  split
  · next q =>
    obtain ⟨a, e5, w⟩ := h
    have e : ∀ i, 2 < i → firF B n fr s i = fr i := fun i hi => by
      unfold firF
      rw [updI_ne (by omega), updI_ne (by omega), updI_ne (by omega)]
    show WPQ (firF B n fr s)
    have z3 := w2.1 q
    refine ⟨fun _ => by rw [e 3 (by omega)]; exact z3, fun f hf h3 => ?_⟩
    rw [e 3 (by omega), z3] at h3
    exact absurd h3 (by omega)
  · next q =>
    rw [if_neg q] at g
    have h3 := h.1.1
    unfold linN at g ⊢
    split
    · next q1 =>
      rw [if_pos q1] at g
      split
      · next q2 =>
        exact w2
      · next q2 =>
        rw [if_neg q2] at g
        have hF : (fr 3).toNat < 6 := by omega
        have nw : ∀ i, (i < 6 ∨ 246 ≤ i) → (namW B n (fr 0) (fr 3).toNat 7 0 (advS B n s) fr).2.2 i = fr i := fun i hi => namW_ne hF hi 7 0 _ _ (by omega)
        obtain ⟨⟨a, b, c⟩, e5, w⟩ := h
        show WPQ (namZ (fr 3).toNat (namW B n (fr 0) (fr 3).toNat 7 0 (advS B n s) fr))
        unfold namZ
        rw [if_pos g]
        have e3 : ∀ (x : Nat → Int) z, updI x 3 z 3 = z := fun x z => if_pos rfl
        have eo : ∀ i, i ≠ 3 → (i < 6 ∨ 246 ≤ i) → updI (updI (updI (namW B n (fr 0) (fr 3).toNat 7 0 (advS B n s) fr).2.2 (6 + 7 * (fr 3).toNat) ((namW B n (fr 0) (fr 3).toNat 7 0 (advS B n s) fr).2.1 : Int)) (48 + (fr 3).toNat) 1) 3 (((fr 3).toNat : Int) + 1) i = fr i := fun i h1 h2 => by
          rw [updI_ne h1, updI_ne (by omega), updI_ne (by omega), nw i h2]
        have nw2 : ∀ i, i < 7 + 7 * (fr 3).toNat → (namW B n (fr 0) (fr 3).toNat 7 0 (advS B n s) fr).2.2 i = fr i := fun i hi => namW_ne3 (Or.inl hi) 7 0 _ _ (by omega)
        have nv := namW_v 7 0 (advS B n s) fr g (fun i hi => absurd hi (by omega))
        refine ⟨fun q5 => by rw [eo 5 (by omega) (by omega)] at q5; exact absurd q5 q, fun p hp hp3 i hi hl => ?_⟩
        rw [e3] at hp3
        rw [eo 0 (by omega) (by omega)]
        by_cases ep : p = (fr 3).toNat
        · rw [ep, updI_ne (by omega), updI_ne (by omega), show ∀ x z, updI x (6 + 7 * (fr 3).toNat) z (6 + 7 * (fr 3).toNat) = z from fun x z => if_pos rfl] at hl
          rw [ep, updI_ne (by omega), updI_ne (by omega), updI_ne (by omega)]
          exact nv i (by omega)
        · rw [updI_ne (by omega), updI_ne (by omega), updI_ne (by omega), nw2 _ (by omega)] at hl
          rw [updI_ne (by omega), updI_ne (by omega), updI_ne (by omega), nw2 _ (by omega)]
          exact w2.2 p hp (by omega) i hi hl
    · next q1 =>
      rw [if_neg q1] at g
      split
      · next q2 =>
        rw [if_pos q2] at g
        obtain ⟨g1, -⟩ := num_ok g
        obtain ⟨-, f0, f1⟩ := folk_ok g1
        show WPQ (stF fr B n (advS B n s))
        unfold stF
        rw [if_pos g]
        exact WPQ_upd w2 (by omega)
      · next q2 =>
        rw [if_neg q2] at g
        split
        · next q3 =>
          rw [if_pos q3] at g
          obtain ⟨g1, -⟩ := num_ok g
          obtain ⟨-, f0, f1⟩ := folk_ok g1
          show WPQ (deF fr B n (advS B n s))
          unfold deF
          rw [if_pos g]
          exact WPQ_upd w2 (by omega)
        · next q3 =>
          rw [if_neg q3] at g
          split
          · next q4 => exact w2
          · next q4 =>
            rw [if_neg q4] at g
            split
            · next q5 =>
              rw [if_pos q5] at g
              obtain ⟨g1, -⟩ := num_ok (show (numT B n 0 _ (knS fr B n (advS B n s))).2.1 = 0 from g)
              obtain ⟨g2, o0, o1⟩ := othe_ok g1
              obtain ⟨-, f0, f1⟩ := folk_ok g2
              show WPQ (knG fr B n (advS B n s))
              unfold knG
              rw [if_pos g]
              refine WPQ_upd w2 ?_
              have e1 : knF fr (advS B n s) = folkR fr (advS B n s) := rfl
              have e2 : knO fr B n (advS B n s) = (otheR fr (knF fr (advS B n s)) (folkT B n fr (advS B n s))).toNat := rfl
              unfold knJ
              omega
            · next q5 =>
              rw [if_neg q5] at g
              split
              · next q6 =>
                rw [if_pos q6] at g
                split
                · exact w2
                · next q7 =>
                  rw [if_neg q7] at g
                  exact WPQ_says w2 g
              · next q6 =>
                rw [if_neg q6] at g
                split
                · next q7 =>
                  rw [if_pos q7] at g
                  obtain ⟨g2, o0, o1⟩ := othe_ok g
                  show WPQ (foF fr B n (advS B n s))
                  unfold foF
                  rw [if_pos g]
                  refine WPQ_upd w2 ?_
                  have e2 : foO fr B n (advS B n s) = (otheR fr (folkR fr (advS B n s)) (folkT B n fr (advS B n s))).toNat := rfl
                  omega
                · exact w2
theorem WPQ_linS {B : Nat → Int} {n : Nat} {x : TS × (Nat → Int) × (Nat → Int)} (h : WR x.2.1) (w2 : WPQ x.2.1) (g : (linS B n x).1.2.1 = 0) : WPQ (linS B n x).2.1 := by
  have g0 : (linW B n x.2.1 x.2.2 x.1).1.2.1 = 0 := by
    have gs : (signS (linW B n x.2.1 x.2.2 x.1).1).2.1 = 0 := by
      unfold linS at g
      by_cases e : (signS (linW B n x.2.1 x.2.2 x.1).1).2.1 = 0
      · exact e
      · rw [if_neg e] at g
        exact absurd g e
    exact (sign_ok gs).1
  have wr := WR_lin (td := x.2.2) h g0
  have w := WPQ_lin (td := x.2.2) h w2 g0
  show WPQ (updI (linW B n x.2.1 x.2.2 x.1).2.1 5 ((linW B n x.2.1 x.2.2 x.1).2.1 5 + 1))
  have e55 : updI (linW B n x.2.1 x.2.2 x.1).2.1 5 ((linW B n x.2.1 x.2.2 x.1).2.1 5 + 1) 5 = (linW B n x.2.1 x.2.2 x.1).2.1 5 + 1 := if_pos rfl
  obtain ⟨⟨-, -, c⟩, -, -⟩ := wr
  refine ⟨fun q => ?_, WP_same w.2 (fun i hi => updI_ne (by omega))⟩
  rw [e55] at q
  omega
theorem WPQ_linA {B : Nat → Int} {n : Nat} : ∀ (f : Nat) (x : TS × (Nat → Int) × (Nat → Int)), (x.1.2.1 = 0 → WR x.2.1 ∧ WPQ x.2.1) → (linA B n f x).1.2.1 = 0 → WPQ (linA B n f x).2.1
  | 0, x, h, g => (h g).2
  | f + 1, x, h, g => by
    unfold linA at g ⊢
    split
    · next q =>
      rw [if_pos q] at g
      exact WPQ_linA f _ (fun g1 => ⟨WR_linS (h q.1).1 g1, WPQ_linS (h q.1).1 (h q.1).2 g1⟩) g
    · next q =>
      rw [if_neg q] at g
      exact (h g).2
theorem WP_hill {B : Nat → Int} {n : Nat} {v0 : Int} (g : (hillX B n v0).1.2.1 = 0) : WP (endG (hillX B n v0)) := by
  have w := WPQ_linA 1402 (hill0 B n v0) (fun _ => ⟨⟨⟨⟨by show (0 : Int) ≤ 0; omega, by show (0 : Int) ≤ 6; omega⟩, ⟨by show (0 : Int) ≤ 0; omega, by show (0 : Int) ≤ 12; omega⟩, by show (0 : Int) ≤ 0; omega⟩, fun _ => rfl, fun s hs => by
    have hs : (s : Int) < 0 := hs
    omega⟩, fun _ => rfl, fun s _ hs => by
    have hs : (s : Int) < 0 := hs
    omega⟩) g
  exact WP_same w.2 (fun i hi => if_neg (by omega))
end XWA
