section XPU
/-- a token of the text; and how readers go on -/
noncomputable def TKA (B : Nat → Int) (n : Nat) (s : TS) : Prop := ∃ e, e ≤ n ∧ s.1.1 = tkK B n e ∧ s.1.2.1 = tkI B n e ∧ s.1.2.2.1 = tkE B n e
noncomputable def lS (B : Nat → Int) (n : Nat) (s t : TS) : Prop := tsOK n s → tsOK n t ∧ s.1.2.1 ≤ t.1.2.1 ∧ (TKA B n s → TKA B n t)
theorem lS_rf {B : Nat → Int} {n : Nat} {s : TS} : lS B n s s := fun h => ⟨h, Nat.le_refl _, fun q => q⟩
theorem lS_tr {B : Nat → Int} {n : Nat} {s t u : TS} (h : lS B n s t) (k : lS B n t u) : lS B n s u := fun o => by
  obtain ⟨a, b, c⟩ := h o
  obtain ⟨d, e, f⟩ := k a
  exact ⟨d, Nat.le_trans b e, fun q => f (c q)⟩
theorem lS_adv {B : Nat → Int} {n : Nat} {s : TS} : lS B n s (advS B n s) := fun o => by
  obtain ⟨h1, h2, h3, h4⟩ := id o
  obtain ⟨t1, t2, t3⟩ := tk_bd (B := B) (n := n) (a := s.1.2.2.1) (v := s.1.2.2.2) h2.2 h3.1 h3.2
  exact ⟨adv_OK o, Nat.le_trans h2.1 t2.1, fun _ => ⟨s.1.2.2.1, h2.2, rfl, rfl, rfl⟩⟩
theorem lS_err {B : Nat → Int} {n : Nat} {e : Int} {s : TS} (e1 : 1 ≤ e) (e3 : e ≤ 3) : lS B n s (errS e s) := fun o => by
  refine ⟨err_OK o e1 e3, ?_, fun q => ?_⟩
  · unfold errS
    split <;> exact Nat.le_refl _
  · unfold errS
    split
    · exact q
    · exact q
theorem lS_num2 {B : Nat → Int} {n : Nat} {lo hi : Int} {s : TS} : lS B n s (num2 lo hi s) := by
  unfold num2
  have h1 : lS B n s (num1 s) := by
    unfold num1
    split
    · exact lS_err (by omega) (by omega)
    · exact lS_rf
  split
  · exact lS_tr h1 (lS_err (by omega) (by omega))
  · exact h1
theorem lS_num {B : Nat → Int} {n : Nat} {lo hi : Int} {s : TS} : lS B n s (numT B n lo hi s) := by
  rw [numT_2]
  split
  · exact lS_tr lS_num2 lS_adv
  · exact lS_num2
theorem lS_need {B : Nat → Int} {n : Nat} {cs : List Int32} {s : TS} : lS B n s (needS B n cs s) := by
  unfold needS
  split
  · exact lS_adv
  · exact lS_err (by omega) (by omega)
theorem lS_oth {B : Nat → Int} {n : Nat} {fr : Nat → Int} {f : Int} {s : TS} : lS B n s (otheT B n fr f s) := by
  unfold otheT folkT
  refine lS_tr (t := otheP f s) ?_ lS_num
  unfold otheP
  split
  · exact lS_err (by omega) (by omega)
  · exact lS_rf
theorem lS_nam1 {B : Nat → Int} {n : Nat} {y : Int} {k : Nat} {s : TS} : lS B n s (nam1 y k s) := by
  unfold nam1
  split
  · exact lS_err (by omega) (by omega)
  · exact lS_rf
theorem lS_namW {B : Nat → Int} {n : Nat} {y : Int} {F : Nat} : ∀ {f k : Nat} {s : TS} {g : Nat → Int}, lS B n s (namW B n y F f k s g).1
  | 0, k, s, g => lS_rf
  | f + 1, k, s, g => by
    have h : lS B n s (namN B n y k s) := lS_tr lS_nam1 lS_num
    unfold namW
    split
    · split
      · exact h
      · exact lS_tr h lS_namW
    · exact h
theorem lS_lin {B : Nat → Int} {n : Nat} {fr td : Nat → Int} {s : TS} : lS B n s (linW B n fr td s).1 := by
  unfold linW
  split
  · show lS B n s (firT B n s)
    exact lS_tr lS_need (lS_tr (lS_tr lS_need lS_num) (lS_tr (lS_tr lS_need lS_num) (lS_tr lS_need lS_num)))
  · unfold linN
    split
    · split
      · exact lS_err (by omega) (by omega)
      · exact lS_tr lS_adv lS_namW
    · split
      · exact lS_tr lS_adv (lS_tr lS_num lS_num)
      · split
        · exact lS_tr lS_adv (lS_tr lS_num lS_num)
        · split
          · exact lS_tr lS_adv (lS_tr lS_num (lS_tr lS_num (lS_tr lS_need lS_num)))
          · split
            · exact lS_tr lS_adv (lS_tr lS_num (lS_tr lS_oth lS_num))
            · split
              · split
                · exact lS_err (by omega) (by omega)
                · exact lS_tr lS_adv (lS_tr lS_num (lS_tr lS_num (lS_tr lS_num (lS_tr lS_need lS_num))))
              · split
                · exact lS_tr lS_adv (lS_tr lS_num lS_oth)
                · exact lS_err (by omega) (by omega)
theorem tka_lt {B : Nat → Int} {n : Nat} {s : TS} (h : TKA B n s) (hn : n ≤ 1400) (k : ¬ s.1.1 = 0) : s.1.2.1 < s.1.2.2.1 ∧ s.1.2.1 < n := by
  obtain ⟨e, he, e1, e2, e3⟩ := h
  have i2 : tkI B n e ≤ n := run_le (by decide) he
  rw [e1] at k
  rw [e2, e3]
  unfold tkK at k
  unfold tkE
  by_cases hC : tkC B n e = -1
  · rw [if_pos hC] at k
    exact absurd rfl k
  · have iI : tkI B n e < n := see_lt hC
    rw [if_neg hC]
    by_cases hL : leB (tkC B n e) = true
    · rw [if_pos hL, run_step (by decide) hn i2 hL]
      exact ⟨run_ge, iI⟩
    · rw [if_neg hL]
      by_cases hD : diB (tkC B n e) = true
      · rw [if_pos hD, run_step (by decide) hn i2 hD]
        exact ⟨run_ge, iI⟩
      · rw [if_neg hD]
        exact ⟨by omega, iI⟩
theorem sign_ok {s : TS} (h : (signS s).2.1 = 0) : s.2.1 = 0 ∧ s.1.1 = 3 ∧ signS s = s := by
  unfold signS at h ⊢
  split at h
  · exact absurd h (err_ok (by decide))
  · next q =>
    rw [if_neg q]
    refine ⟨h, ?_, rfl⟩
    by_cases e : s.1.1 = 3
    · exact e
    · exact absurd ⟨h, e⟩ q
/-- a whole line goes on in the text, unless there is a fault -/
theorem lin_up {B : Nat → Int} {n : Nat} {x : TS × (Nat → Int) × (Nat → Int)} (o : tsOK n x.1) (a : TKA B n x.1) (hn : n ≤ 1400) (h : (linS B n x).1.2.1 = 0) : tsOK n (linS B n x).1 ∧ TKA B n (linS B n x).1 ∧ x.1.1.2.1 < (linS B n x).1.1.2.1 := by
  obtain ⟨o1, s1, a1⟩ := lS_lin (B := B) (n := n) (fr := x.2.1) (td := x.2.2) (s := x.1) o
  have g : (signS (linW B n x.2.1 x.2.2 x.1).1).2.1 = 0 := by
    unfold linS at h
    by_cases q : (signS (linW B n x.2.1 x.2.2 x.1).1).2.1 = 0
    · exact q
    · rw [if_neg q] at h
      exact h
  obtain ⟨g1, g2, g3⟩ := sign_ok g
  have e : (linS B n x).1 = advS B n (linW B n x.2.1 x.2.2 x.1).1 := by
    unfold linS
    rw [if_pos g, g3]
  obtain ⟨t1, t2⟩ := tka_lt (a1 a) hn (by rw [g2]; decide)
  obtain ⟨o2, s2, a2⟩ := lS_adv (B := B) (n := n) (s := (linW B n x.2.1 x.2.2 x.1).1) o1
  rw [e]
  refine ⟨o2, a2 (a1 a), ?_⟩
  have i1 : (linW B n x.2.1 x.2.2 x.1).1.1.2.2.1 ≤ (advS B n (linW B n x.2.1 x.2.2 x.1).1).1.2.1 := run_ge
  omega
theorem updI_ne {g : Nat → Int} {i j : Nat} {z : Int} (h : i ≠ j) : updI g j z i = g i := by
  show (if i = j then z else g i) = _
  rw [if_neg h]
theorem namW_5 {B : Nat → Int} {n : Nat} {y : Int} {F : Nat} : ∀ {f k : Nat} {s : TS} {g : Nat → Int}, (namW B n y F f k s g).2.2 5 = g 5
  | 0, k, s, g => rfl
  | f + 1, k, s, g => by
    unfold namW
    split
    · split
      · exact updI_ne (by omega)
      · rw [namW_5]
        exact updI_ne (by omega)
    · rfl
/-- a line doesn't touch the number of lines, until its end -/
theorem lin_5 {B : Nat → Int} {n : Nat} {fr td : Nat → Int} {s : TS} : (linW B n fr td s).2.1 5 = fr 5 := by
  unfold linW
  split
  · show firF B n fr s 5 = fr 5
    unfold firF
    rw [updI_ne (by omega), updI_ne (by omega), updI_ne (by omega)]
  · unfold linN
    split
    · split
      · rfl
      · show namZ _ _ 5 = fr 5
        unfold namZ
        split
        · rw [updI_ne (by omega), updI_ne (by omega), updI_ne (by omega), namW_5]
        · rw [namW_5]
    · split
      · show stF fr B n _ 5 = fr 5
        unfold stF
        split
        · rw [updI_ne (by omega)]
        · rfl
      · split
        · show deF fr B n _ 5 = fr 5
          unfold deF
          split
          · rw [updI_ne (by omega)]
          · rfl
        · split
          · rfl
          · split
            · show knG fr B n _ 5 = fr 5
              unfold knG
              split
              · rw [updI_ne (by unfold knJ; omega)]
              · rfl
            · split
              · split
                · rfl
                · show saG fr B n _ 5 = fr 5
                  unfold saG
                  split
                  · have : ∀ r, 5 ≠ saK fr + r := fun r => by unfold saK; omega
                    rw [updI_ne (by omega), updI_ne (this 3), updI_ne (this 2), updI_ne (this 1)]
                    exact updI_ne (this 0)
                  · rfl
              · split
                · show foF fr B n _ 5 = fr 5
                  unfold foF
                  split
                  · rw [updI_ne (by omega)]
                  · rfl
                · rfl
theorem linS_5 {B : Nat → Int} {n : Nat} {x : TS × (Nat → Int) × (Nat → Int)} : (linS B n x).2.1 5 = x.2.1 5 + 1 := by
  have e : ∀ (g : Nat → Int) (z : Int), updI g 5 z 5 = z := fun g z => if_pos rfl
  show updI (linW B n x.2.1 x.2.2 x.1).2.1 5 ((linW B n x.2.1 x.2.2 x.1).2.1 5 + 1) 5 = _
  rw [e, lin_5]
/-- the stays, spread: where one is told to be, and from then on -/
noncomputable def sprV (td : Nat → Int) (f : Nat) : Nat → Int
  | 0 => 0
  | h + 1 => if td (24 * f + h) = -1 then sprV td f h else td (24 * f + h)
noncomputable def sprT (td : Nat → Int) (j : Nat) : Int := sprV td (j / 24) (j % 24 + 1)
/-- all that is kept at the end -/
noncomputable def endG (x : TS × (Nat → Int) × (Nat → Int)) : Nat → Int := fx x.2.1 (sprT x.2.2)
end XPU
section XMQ
variable {l : Launch} {D : va_G} {tys : List (ClassId × FieldType)} {A : Nat → Prop} {ad : Nat → Nat} {ws : va_W}
theorem ln_40 {n : Nat} {B fr td : Nat → Int} {s : TS} {w0 : va_W} (f5 : fr 5 ≤ 4000) (f0 : 0 ≤ fr 5) (h : MSF ad tys n B fr td w0 s ws) : V l D tys A 232 9 0 0 (fun r w => r = none ∧ MSF ad tys n B (updI fr 5 (fr 5 + 1)) td w0 (if s.2.1 = 0 then advS B n s else s) w) 0 0 40 (lv_args 0 [.ref (ad 90)]) [] ws := by
  obtain ⟨s96, e96, gN, gD, s3, s0, s4, s5⟩ := g96n
  refine V_aload (v := ad 90) mi_232_40 (by simp [stL, lv_args, Value.category]) ?_
  refine V_callM (As := []) (st := []) mi_232_41 (by omega) (by decide +kernel) (by decide +kernel) h.1 (goodF_ct h) (by omega) (show 0 = mN 214 by decide +kernel) (by simp [Value.category]) ?_
  rintro r w1 ⟨rfl, rfl⟩
  refine V_beq mi_232_44  (fun c => ?_) (fun c => ?_)
  · rw [if_neg (of_decide_eq_false c)]
    refine V_aload (v := ad 90) mi_232_51 (by simp [stL, lv_args, Value.category]) ?_
    refine V_getI mi_232_52 h.1 (rref gr14 (by omega) h.1) ?_
    refine V_ipush mi_232_55 ?_
    refine V_dup2 mi_232_56 (by simp [Value.category]) (by simp [Value.category]) ?_
    refine V_fresh (a := 0) (x := 0) h (j := 5) (by omega) rfl mi_232_57 ?_
    refine V_ipush mi_232_58 ?_
    refine V_ibin mi_232_59 (by omega) ?_
    rw [ib0]
    refine V_fst (z := fr 5 + 1) h e96 (j := 5) (by omega) rfl mi_232_60 s5 (by omega) (by omega) (by omega) (by omega) (fun w h => ?_)
    exact V_retV mi_232_61 ⟨rfl, h⟩
  · rw [if_pos (of_decide_eq_true c)]
    refine V_aload (v := ad 90) mi_232_47 (by simp [stL, lv_args, Value.category]) ?_
    refine V_callM (As := []) (st := []) mi_232_48 (by omega) (by decide +kernel) (by decide +kernel) h.1 (advF_ct h) (by omega) (show 0 = mN 213 by decide +kernel) (by simp [Value.category]) ?_
    rintro r w ⟨rfl, h⟩
    refine V_aload (v := ad 90) mi_232_51 (by simp [stL, lv_args, Value.category]) ?_
    refine V_getI mi_232_52 h.1 (rref gr14 (by omega) h.1) ?_
    refine V_ipush mi_232_55 ?_
    refine V_dup2 mi_232_56 (by simp [Value.category]) (by simp [Value.category]) ?_
    refine V_fresh (a := 0) (x := 0) h (j := 5) (by omega) rfl mi_232_57 ?_
    refine V_ipush mi_232_58 ?_
    refine V_ibin mi_232_59 (by omega) ?_
    rw [ib0]
    refine V_fst (z := fr 5 + 1) h e96 (j := 5) (by omega) rfl mi_232_60 s5 (by omega) (by omega) (by omega) (by omega) (fun w h => ?_)
    exact V_retV mi_232_61 ⟨rfl, h⟩
theorem ln_20 {n : Nat} {B fr td : Nat → Int} {s : TS} {w0 : va_W} (f5 : fr 5 ≤ 4000) (f0 : 0 ≤ fr 5) (h : MSF ad tys n B fr td w0 s ws) : V l D tys A 232 9 0 0 (fun r w => r = none ∧ MSF ad tys n B (updI fr 5 (fr 5 + 1)) td w0 (if (signS s).2.1 = 0 then advS B n (signS s) else signS s) w) 0 0 20 (lv_args 0 [.ref (ad 90)]) [] ws := by
  refine V_aload (v := ad 90) mi_232_20 (by simp [stL, lv_args, Value.category]) ?_
  refine V_callM (As := []) (st := []) mi_232_21 (by omega) (by decide +kernel) (by decide +kernel) h.1 (goodF_ct h) (by omega) (show 0 = mN 214 by decide +kernel) (by simp [Value.category]) ?_
  rintro r w1 ⟨rfl, rfl⟩
  refine V_beq mi_232_24  (fun c => ?_) (fun c => ?_)
  · have e : signS s = s := by
      unfold signS
      rw [if_neg (fun q => of_decide_eq_false c q.1)]
    rw [e]
    exact ln_40 f5 f0 h
  · obtain ⟨hG, ⟨T, ok, h10, h9, h8, h11, h12, h13⟩, f12, O⟩ := id h
    obtain ⟨b1, b2, b3, b4⟩ := ok
    refine V_aload (v := ad 90) mi_232_27 (by simp [stL, lv_args, Value.category]) ?_
    refine V_getI mi_232_28 h.1 (h10) ?_
    refine V_ipush mi_232_31 ?_
    refine V_ceq mi_232_32 ⟨by omega, by omega⟩ ⟨by omega, by omega⟩ (fun q => ?_) (fun q => ?_)
    · have e : signS s = s := by
        unfold signS
        rw [if_neg (fun q2 => q2.2 q)]
      rw [e]
      exact ln_40 f5 f0 h
    · refine V_aload (v := ad 90) mi_232_35 (by simp [stL, lv_args, Value.category]) ?_
      refine V_ipush mi_232_36 ?_
      refine V_callM (As := [.int (Int32.ofInt (1))]) (st := []) mi_232_37 (by omega) (by decide +kernel) (by decide +kernel) h.1 (errF_ct h (by omega) (by omega)) (by omega) (show 1 = mN 215 by decide +kernel) (by simp [Value.category]) ?_
      rintro r w ⟨rfl, h⟩
      have e : signS s = errS 1 s := by
        unfold signS
        rw [if_pos ⟨of_decide_eq_true c, q⟩]
      rw [e]
      exact ln_40 f5 f0 h
theorem lim_ct {n : Nat} {B fr td : Nat → Int} {s : TS} {w0 : va_W} (g : s.2.1 = 0) (f5 : fr 5 ≤ 4000) (f0 : 0 ≤ fr 5) (h : MSF ad tys n B fr td w0 s ws) : CT l D tys A 232 9 0 0 [.ref (ad 90)] ws (fun r w => r = none ∧ MSF ad tys n B (linS B n (s, fr, td)).2.1 (linS B n (s, fr, td)).2.2 w0 (linS B n (s, fr, td)).1 w) := by
  refine CT_of_V (by omega) (show (1 : Nat) ≤ mML 232 by decide +kernel) ?_
  refine V_aload (v := ad 90) mi_232_0 (by simp [stL, lv_args, Value.category]) ?_
  refine V_getI mi_232_1 h.1 (rref gr14 (by omega) h.1) ?_
  refine V_ipush mi_232_4 ?_
  refine V_fresh (a := 0) (x := 0) h (j := 5) (by omega) rfl mi_232_5 ?_
  refine V_zne mi_232_6 ⟨by omega, by omega⟩ (fun q => ?_) (fun q => ?_)
  · refine V_aload (v := ad 90) mi_232_16 (by simp [stL, lv_args, Value.category]) ?_
    refine V_callM (As := []) (st := []) mi_232_17 (by omega) (by decide +kernel) (by decide +kernel) h.1 (nxm_ct g h) (by omega) (show 0 = mN 231 by decide +kernel) (by simp [Value.category]) ?_
    rintro r w ⟨rfl, h⟩
    have e : linW B n fr td s = linN B n fr td s := by
      unfold linW
      rw [if_neg q]
    unfold linS
    rw [← e] at h
    exact ln_20 (by rw [lin_5]; omega) (by rw [lin_5]; omega) h
  · refine V_aload (v := ad 90) mi_232_9 (by simp [stL, lv_args, Value.category]) ?_
    refine V_callM (As := []) (st := []) mi_232_10 (by omega) (by decide +kernel) (by decide +kernel) h.1 (firm_ct h) (by omega) (show 0 = mN 225 by decide +kernel) (by simp [Value.category]) ?_
    rintro r w ⟨rfl, h⟩
    refine V_goto mi_232_13 ?_
    have e : linW B n fr td s = (firT B n s, firF B n fr s, td) := by
      unfold linW
      rw [if_pos q]
    unfold linS
    replace h : MSF ad tys n B (linW B n fr td s).2.1 (linW B n fr td s).2.2 w0 (linW B n fr td s).1 w := by rw [e]; exact h
    exact ln_20 (by rw [lin_5]; omega) (by rw [lin_5]; omega) h
theorem goD_td {B : Nat → Int} {n : Nat} {fr td : Nat → Int} {s : TS} (h : tdOK td) (f1 : fr 1 ≤ 4) : tdOK (goD fr td B n s) := by
  unfold goD
  split
  · intro j hj
    show -1 ≤ (if j = _ then _ else td j) ∧ (if j = _ then _ else td j) ≤ 3
    split
    · rcases numR_bd (lo := 0) (hi := fr 1 - 1) (s := folkT B n fr s) with e | e <;> omega
    · exact h j hj
  · exact h
theorem lin_td {B : Nat → Int} {n : Nat} {fr td : Nat → Int} {s : TS} (h : tdOK td) (f1 : fr 1 ≤ 4) : tdOK (linW B n fr td s).2.2 := by
  unfold linW
  split
  · exact h
  · unfold linN
    split
    · split <;> exact h
    · split
      · exact h
      · split
        · exact h
        · split
          · exact goD_td h f1
          · split
            · exact h
            · split
              · split <;> exact h
              · split <;> exact h
theorem hl_78 {n : Nat} {B : Nat → Int} {w0 : va_W} {post : Option Value → va_W → Prop} : ∀ (f : Nat) (x : TS × (Nat → Int) × (Nat → Int)) (w : va_W), (∀ w' : va_W, MSF ad tys n B (linA B n f x).2.1 (linA B n f x).2.2 w0 (linA B n f x).1 w' → tdOK (linA B n f x).2.2 → V l D tys A 233 10 0 0 post 0 0 99 [(0, .ref (ad 90))] [] w') → MSF ad tys n B x.2.1 x.2.2 w0 x.1 w → tdOK x.2.2 → (x.1.2.1 = 0 → TKA B n x.1 ∧ n - x.1.1.2.1 < f ∧ x.2.1 5 ≤ (x.1.1.2.1 : Int)) → V l D tys A 233 10 0 0 post 0 0 78 [(0, .ref (ad 90))] [] w
  | f, x, w, kk, h, t, hm => by
    refine V_aload (v := ad 90) mi_233_78 (by simp [stL, lv_args, Value.category]) ?_
    refine V_callM (As := []) (st := []) mi_233_79 (by omega) (by decide +kernel) (by decide +kernel) h.1 (goodF_ct h) (by omega) (show 0 = mN 214 by decide +kernel) (by simp [Value.category]) ?_
    rintro r w1 ⟨e1, rfl⟩
    subst e1
    refine V_beq mi_233_82  (fun c => ?_) (fun c => ?_)
    · have e : linA B n f x = x := by
        cases f with
        | zero => rfl
        | succ f => unfold linA; rw [if_neg (fun q => of_decide_eq_false c q.1)]
      rw [e] at kk
      exact kk _ h t
    · have g : x.1.2.1 = 0 := of_decide_eq_true c
      obtain ⟨hG, ⟨T, ok, h10, h9, h8, h11, h12, h13⟩, f12, O⟩ := id h
      obtain ⟨b1, b2, b3, b4⟩ := id ok
      obtain ⟨m1, m2, m3⟩ := hm g
      have n14 := T.2.1
      refine V_aload (v := ad 90) mi_233_85 (by simp [stL, lv_args, Value.category]) ?_
      refine V_getI mi_233_86 h.1 (h10) ?_
      refine V_zeq mi_233_89 ⟨by omega, by omega⟩ (fun q => ?_) (fun q => ?_)
      · have e : linA B n f x = x := by
          cases f with
          | zero => rfl
          | succ f => unfold linA; rw [if_neg (fun q2 => q2.2 q)]
        rw [e] at kk
        exact kk _ h t
      · obtain ⟨l1, l2⟩ := tka_lt m1 n14 q
        refine V_aload (v := ad 90) mi_233_92 (by simp [stL, lv_args, Value.category]) ?_
        refine V_callM (As := []) (st := []) mi_233_93 (by omega) (by decide +kernel) (by decide +kernel) h.1 (lim_ct g (by omega) (f12.1 5 (by omega)).2.1 h) (by omega) (show 0 = mN 232 by decide +kernel) (by simp [Value.category]) ?_
        rintro r w2 ⟨rfl, h2⟩
        refine V_goto mi_233_96 ?_
        obtain ⟨s96, e96, -, b96, -⟩ := gf96b
        have f4 := fr_seg h e96 (by omega) b96 (by omega) (by omega)
        cases f with
        | zero => exact absurd m2 (by omega)
        | succ f =>
          have e : linA B n (f + 1) x = linA B n f (linS B n x) := by
            show (if _ then _ else _) = _
            rw [if_pos ⟨g, q⟩]
          rw [e] at kk
          refine hl_78 f (linS B n x) w2 kk h2 (lin_td t f4.2) (fun g2 => ?_)
          obtain ⟨o2, a2, u2⟩ := lin_up (x := x) ok m1 n14 g2
          refine ⟨a2, by omega, ?_⟩
          rw [linS_5]
          omega
end XMQ
section XMH
variable {l : Launch} {D : va_G} {tys : List (ClassId × FieldType)} {A : Nat → Prop} {ad : Nat → Nat} {ws : va_W}
theorem g96t : ∃ s, GG[96]? = some ((1, 0, 294), s) ∧ ∀ j, j < 144 → segAt s (102 + j) = some (0, -1, 3) := by
  refine ⟨_, rfl, fun j hj => ?_⟩
  exact (show ∀ j : Fin 144, segAt _ (102 + j.1) = some (0, -1, 3) by decide +kernel) ⟨j, hj⟩
theorem g96z : ∃ s, GG[96]? = some ((1, 0, 294), s) ∧ ∀ j, j < 294 → ∃ lo hi, segAt s j = some (0, lo, hi) ∧ lo ≤ 0 ∧ 0 ≤ hi := by
  refine ⟨_, rfl, fun j hj => ?_⟩
  have h : ∀ j : Fin 294, (match segAt ((GG.getD 96 ((0, 0, 0), [])).2) j.1 with | some (0, lo, hi) => decide (lo ≤ 0) && decide (0 ≤ hi) | _ => false) = true := by decide +kernel
  have h := h ⟨j, hj⟩
  revert h
  show (match segAt ((GG.getD 96 ((0, 0, 0), [])).2) j with | some (0, lo, hi) => decide (lo ≤ 0) && decide (0 ≤ hi) | _ => false) = true → ∃ lo hi, segAt ((GG.getD 96 ((0, 0, 0), [])).2) j = some (0, lo, hi) ∧ lo ≤ 0 ∧ 0 ≤ hi
  cases segAt ((GG.getD 96 ((0, 0, 0), [])).2) j with
  | none => exact fun h => absurd h Bool.false_ne_true
  | some q =>
    obtain ⟨a, lo, hi⟩ := q
    cases a with
    | zero =>
      intro h
      have h : (decide (lo ≤ 0) && decide (0 ≤ hi)) = true := h
      rw [Bool.and_eq_true, decide_eq_true_eq, decide_eq_true_eq] at h
      exact ⟨lo, hi, rfl, h.1, h.2⟩
    | succ a => exact fun h => absurd h Bool.false_ne_true
theorem sprV_bd {td : Nat → Int} (h : tdOK td) {f : Nat} (hf : f < 6) : ∀ {m : Nat}, m ≤ 24 → 0 ≤ sprV td f m ∧ sprV td f m ≤ 3
  | 0, _ => ⟨by show (0 : Int) ≤ 0; omega, by show (0 : Int) ≤ 3; omega⟩
  | m + 1, hm => by
    have b := h (24 * f + m) (by omega)
    unfold sprV
    split
    · exact sprV_bd h hf (by omega)
    · omega
/-- the stays written so far -/
noncomputable def sg (fr td : Nat → Int) (m j : Nat) : Int := if 102 ≤ j ∧ j < 102 + m then sprT td (j - 102) else fr j
theorem sg_step {fr td : Nat → Int} {f h : Nat} (hh : h < 24) : updI (sg fr td (24 * f + h)) (102 + 24 * f + h) (sprV td f (h + 1)) = sg fr td (24 * f + (h + 1)) := by
  funext i
  show (if i = 102 + 24 * f + h then _ else (if 102 ≤ i ∧ i < 102 + (24 * f + h) then _ else fr i)) = (if 102 ≤ i ∧ i < 102 + (24 * f + (h + 1)) then sprT td (i - 102) else fr i)
  by_cases e : i = 102 + 24 * f + h
  · rw [if_pos e, if_pos (by omega), e]
    unfold sprT
    rw [show (102 + 24 * f + h - 102) / 24 = f by omega, show (102 + 24 * f + h - 102) % 24 = h by omega]
  · rw [if_neg e]
    by_cases q : 102 ≤ i ∧ i < 102 + (24 * f + h)
    · rw [if_pos q, if_pos (by omega)]
    · rw [if_neg q, if_neg (by omega)]
theorem sg_0 {fr td : Nat → Int} : sg fr td 0 = fr := by
  funext i
  unfold sg
  rw [if_neg (by omega)]
theorem sg_end {fr td : Nat → Int} : sg fr td 144 = fx fr (sprT td) := by
  funext i
  rfl
theorem hs_121 {n : Nat} {B fr td : Nat → Int} {s : TS} {w0 : va_W} {post : Option Value → va_W → Prop} (ht : tdOK td) {f : Nat} (hf : f < 6) : ∀ (m h : Nat) (w : va_W), h + m = 24 → MSF ad tys n B (sg fr td (24 * f + h)) td w0 s w → (∀ w' : va_W, MSF ad tys n B (sg fr td (24 * f + 24)) td w0 s w' → V l D tys A 233 10 0 0 post 0 0 179 [(0, .ref (ad 90)), (1, .int (Int32.ofInt (f : Int)))] [] w') → V l D tys A 233 10 0 0 post 0 0 121 [(0, .ref (ad 90)), (1, .int (Int32.ofInt (f : Int))), (2, .int (Int32.ofInt (sprV td f h))), (3, .int (Int32.ofInt (h : Int)))] [] w
  | 0, h, w, hm, hM, kk => by
    have e : h = 24 := by omega
    subst e
    refine V_iload (v := Int32.ofInt ((24 : Nat) : Int)) mi_233_121 (by simp [stL, lv_args, Value.category]) ?_
    refine V_ipush mi_233_122 ?_
    refine V_cge mi_233_124 ⟨by omega, by omega⟩ ⟨by omega, by omega⟩ (fun _ => ?_) (fun q => absurd q (by omega))
    refine V_sub (lv' := [(0, .ref (ad 90)), (1, .int (Int32.ofInt (f : Int)))]) (fun q hq => ?_) (kk w hM)
    simp only [List.mem_cons, List.not_mem_nil, or_false] at hq
    rcases hq with rfl | rfl <;> simp [stL, lv_args, Value.category]
  | m + 1, h, w, hm, hM, kk => by
    obtain ⟨s97, e97, f97⟩ := gf97
    obtain ⟨s96, e96, f96⟩ := g96t
    refine V_iload (v := Int32.ofInt ((h : Int))) mi_233_121 (by simp [stL, lv_args, Value.category]) ?_
    refine V_ipush mi_233_122 ?_
    refine V_cge mi_233_124 ⟨by omega, by omega⟩ ⟨by omega, by omega⟩ (fun q => ?_) (fun q => ?_)
    · exact absurd q (by omega)
    · refine V_aload (v := ad 90) mi_233_127 (by simp [stL, lv_args, Value.category]) ?_
      refine V_getI mi_233_128 hM.1 (rref gr15 (by omega) hM.1) ?_
      refine V_ipush mi_233_131 ?_
      refine V_iload (v := Int32.ofInt ((f : Int))) mi_233_133 (by simp [stL, lv_args, Value.category]) ?_
      refine V_ibin mi_233_134 (by omega) ?_
      rw [ib2]
      refine V_iload (v := Int32.ofInt ((h : Int))) mi_233_135 (by simp [stL, lv_args, Value.category]) ?_
      refine V_ibin mi_233_136 (by omega) ?_
      rw [ib0]
      have hj : 24 * f + h < 144 := by omega
      have bd := ht (24 * f + h) hj
      refine V_aldX (j := 24 * f + h) mi_233_137 (by rw [show ((24) * ((f : Int))) + ((h : Int)) = ((24 * f + h : Nat) : Int) by omega]) hM.1 e97 hj (by omega) (hM.2.2.1.2 _ hj) ?_
      refine V_ipush mi_233_138 ?_
      have st : ∀ v : Int, v = sprV td f (h + 1) → V l D tys A 233 10 0 0 post 0 0 157 [(0, .ref (ad 90)), (1, .int (Int32.ofInt (f : Int))), (2, .int (Int32.ofInt (sprV td f h))), (3, .int (Int32.ofInt (h : Int)))] [.int (Int32.ofInt v)] w := fun v hv => by
        subst hv
        refine V_istore mi_233_157 ?_
        refine V_aload (v := ad 90) mi_233_158 (by simp [stL, lv_args, Value.category]) ?_
        refine V_getI mi_233_159 hM.1 (rref gr14 (by omega) hM.1) ?_
        refine V_ipush mi_233_162 ?_
        refine V_ipush mi_233_164 ?_
        refine V_iload (v := Int32.ofInt ((f : Int))) mi_233_166 (by simp [stL, lv_args, Value.category]) ?_
        refine V_ibin mi_233_167 (by omega) ?_
        rw [ib2]
        refine V_ibin mi_233_168 (by omega) ?_
        rw [ib0]
        refine V_iload (v := Int32.ofInt ((h : Int))) mi_233_169 (by simp [stL, lv_args, Value.category]) ?_
        refine V_ibin mi_233_170 (by omega) ?_
        rw [ib0]
        refine V_iload (v := Int32.ofInt (sprV td f (h + 1))) mi_233_171 (by simp [stL, lv_args, Value.category]) ?_
        have b3 := sprV_bd ht hf (m := h + 1) (by omega)
        refine V_fst (z := sprV td f (h + 1)) hM e96 (j := 102 + 24 * f + h) (by omega) (by rw [show ((102) + ((24) * ((f : Int)))) + ((h : Int)) = ((102 + 24 * f + h : Nat) : Int) by omega]) mi_233_172 (by rw [show 102 + 24 * f + h = 102 + (24 * f + h) by omega]; exact f96 _ hj) (by omega) (by omega) (by omega) (by omega) (fun w2 hM2 => ?_)
        refine V_iinc (v := Int32.ofInt ((h : Int))) mi_233_173 (by simp [stL, lv_args, Value.category]) ?_
        rw [ia2]
        refine V_goto mi_233_176 ?_
        rw [sg_step (by omega)] at hM2
        refine V_sub (lv' := [(0, .ref (ad 90)), (1, .int (Int32.ofInt (f : Int))), (2, .int (Int32.ofInt (sprV td f (h + 1)))), (3, .int (Int32.ofInt ((h + 1 : Nat) : Int)))]) (fun q hq => ?_) ?_
        · simp only [List.mem_cons, List.not_mem_nil, or_false] at hq
          rcases hq with rfl | rfl | rfl | rfl <;> simp [stL, lv_args, Value.category]
        · exact hs_121 ht hf m (h + 1) w2 (by omega) hM2 kk
      refine V_cne mi_233_139 ⟨by omega, by omega⟩ ⟨by omega, by omega⟩ (fun q2 => ?_) (fun q2 => ?_)
      · refine V_aload (v := ad 90) mi_233_146 (by simp [stL, lv_args, Value.category]) ?_
        refine V_getI mi_233_147 hM.1 (rref gr15 (by omega) hM.1) ?_
        refine V_ipush mi_233_150 ?_
        refine V_iload (v := Int32.ofInt ((f : Int))) mi_233_152 (by simp [stL, lv_args, Value.category]) ?_
        refine V_ibin mi_233_153 (by omega) ?_
        rw [ib2]
        refine V_iload (v := Int32.ofInt ((h : Int))) mi_233_154 (by simp [stL, lv_args, Value.category]) ?_
        refine V_ibin mi_233_155 (by omega) ?_
        rw [ib0]
        refine V_aldX (j := 24 * f + h) mi_233_156 (by rw [show ((24) * ((f : Int))) + ((h : Int)) = ((24 * f + h : Nat) : Int) by omega]) hM.1 e97 hj (by omega) (hM.2.2.1.2 _ hj) ?_
        refine st _ ?_
        show td (24 * f + h) = (if _ then _ else _)
        rw [if_neg q2]
      · refine V_iload (v := Int32.ofInt (sprV td f h)) mi_233_142 (by simp [stL, lv_args, Value.category]) ?_
        refine V_goto mi_233_143 ?_
        refine st _ ?_
        show sprV td f h = (if _ then _ else _)
        rw [if_pos q2]
theorem hs_111 {n : Nat} {B fr td : Nat → Int} {s : TS} {w0 : va_W} {post : Option Value → va_W → Prop} (ht : tdOK td) : ∀ (m f : Nat) (w : va_W), f + m = 6 → MSF ad tys n B (sg fr td (24 * f)) td w0 s w → (∀ w' : va_W, MSF ad tys n B (fx fr (sprT td)) td w0 s w' → V l D tys A 233 10 0 0 post 0 0 185 [(0, .ref (ad 90))] [] w') → V l D tys A 233 10 0 0 post 0 0 111 [(0, .ref (ad 90)), (1, .int (Int32.ofInt (f : Int)))] [] w
  | 0, f, w, hm, hM, kk => by
    have e : f = 6 := by omega
    subst e
    refine V_iload (v := Int32.ofInt ((6 : Nat) : Int)) mi_233_111 (by simp [stL, lv_args, Value.category]) ?_
    refine V_ipush mi_233_112 ?_
    refine V_cge mi_233_114 ⟨by omega, by omega⟩ ⟨by omega, by omega⟩ (fun _ => ?_) (fun q => absurd q (by omega))
    rw [show 24 * 6 = 144 from rfl, sg_end] at hM
    refine V_sub (lv' := [(0, .ref (ad 90))]) (fun q hq => ?_) (kk w hM)
    simp only [List.mem_cons, List.not_mem_nil, or_false] at hq
    rcases hq with rfl
    simp [stL, lv_args, Value.category]
  | m + 1, f, w, hm, hM, kk => by
    refine V_iload (v := Int32.ofInt ((f : Int))) mi_233_111 (by simp [stL, lv_args, Value.category]) ?_
    refine V_ipush mi_233_112 ?_
    refine V_cge mi_233_114 ⟨by omega, by omega⟩ ⟨by omega, by omega⟩ (fun q => ?_) (fun q => ?_)
    · exact absurd q (by omega)
    · refine V_ipush mi_233_117 ?_
      refine V_istore mi_233_118 ?_
      refine V_ipush mi_233_119 ?_
      refine V_istore mi_233_120 ?_
      refine V_sub (lv' := [(0, .ref (ad 90)), (1, .int (Int32.ofInt (f : Int))), (2, .int (Int32.ofInt (sprV td f 0))), (3, .int (Int32.ofInt ((0 : Nat) : Int)))]) (fun q hq => ?_) ?_
      · simp only [List.mem_cons, List.not_mem_nil, or_false] at hq
        rcases hq with rfl | rfl | rfl | rfl
        · simp [stL, lv_args, Value.category]
        · simp [stL, lv_args, Value.category]
        · simp [stL, lv_args, Value.category, sprV]
        · simp [stL, lv_args, Value.category]
      refine hs_121 ht (by omega) 24 0 w (by omega) hM (fun w' hM' => ?_)
      refine V_iinc (v := Int32.ofInt ((f : Int))) mi_233_179 (by simp [stL, lv_args, Value.category]) ?_
      rw [ia2]
      refine V_goto mi_233_182 ?_
      refine V_sub (lv' := [(0, .ref (ad 90)), (1, .int (Int32.ofInt ((f + 1 : Nat) : Int)))]) (fun q hq => ?_) ?_
      · simp only [List.mem_cons, List.not_mem_nil, or_false] at hq
        rcases hq with rfl | rfl <;> simp [stL, lv_args, Value.category]
      · exact hs_111 ht m (f + 1) w' (by omega) hM' kk
theorem gw91 : ∃ s s2, GG[91]? = some ((1, 0, 294), s) ∧ GG[96]? = some ((1, 0, 294), s2) ∧ ∀ j, j < 294 → ∃ lo hi, segAt s j = some (0, lo, hi) ∧ segAt s2 j = some (0, lo, hi) ∧ -2147483648 ≤ lo ∧ hi ≤ 2147483647 := by
  refine ⟨_, _, rfl, rfl, fun j hj => ?_⟩
  have h : ∀ j : Fin 294, (match segAt ((GG.getD 91 ((0, 0, 0), [])).2) j.1, segAt ((GG.getD 96 ((0, 0, 0), [])).2) j.1 with | some (0, lo, hi), some (0, lo2, hi2) => decide (lo = lo2) && decide (hi = hi2) && decide (-2147483648 ≤ lo) && decide (hi ≤ 2147483647) | _, _ => false) = true := by decide +kernel
  have h := h ⟨j, hj⟩
  revert h
  show (match segAt ((GG.getD 91 ((0, 0, 0), [])).2) j, segAt ((GG.getD 96 ((0, 0, 0), [])).2) j with | some (0, lo, hi), some (0, lo2, hi2) => decide (lo = lo2) && decide (hi = hi2) && decide (-2147483648 ≤ lo) && decide (hi ≤ 2147483647) | _, _ => false) = true → ∃ lo hi, segAt ((GG.getD 91 ((0, 0, 0), [])).2) j = some (0, lo, hi) ∧ segAt ((GG.getD 96 ((0, 0, 0), [])).2) j = some (0, lo, hi) ∧ -2147483648 ≤ lo ∧ hi ≤ 2147483647
  cases segAt ((GG.getD 91 ((0, 0, 0), [])).2) j with
  | none => exact fun h => absurd h Bool.false_ne_true
  | some q =>
    obtain ⟨a, lo, hi⟩ := q
    cases segAt ((GG.getD 96 ((0, 0, 0), [])).2) j with
    | none =>
      cases a with
      | zero => exact fun h => absurd h Bool.false_ne_true
      | succ a => exact fun h => absurd h Bool.false_ne_true
    | some q2 =>
      obtain ⟨b, lo2, hi2⟩ := q2
      cases a with
      | succ a => exact fun h => absurd h Bool.false_ne_true
      | zero =>
        cases b with
        | succ b => exact fun h => absurd h Bool.false_ne_true
        | zero =>
          intro h
          have h : (decide (lo = lo2) && decide (hi = hi2) && decide (-2147483648 ≤ lo) && decide (hi ≤ 2147483647)) = true := h
          simp only [Bool.and_eq_true, decide_eq_true_eq] at h
          obtain ⟨⟨⟨rfl, rfl⟩, h3⟩, h4⟩ := h
          exact ⟨lo, hi, rfl, rfl, h3, h4⟩
theorem gr1m : ∃ g, GG[90]? = some ((0, 11, 36), g) ∧ segAt g 1 = some (2, ((91 : Nat) : Int), ((91 : Nat) : Int)) := ⟨_, rfl, by decide +kernel⟩
theorem hw_187 {w0 : va_W} {post : Option Value → va_W → Prop} : ∀ (m k : Nat) (w : va_W), k + m = 294 → GOK ad tys GG w → (∀ c j, c ≠ 91 → rd w c j = rd w0 c j) → (∀ j, j < k → rd w 91 j = rd w0 96 j) → (∀ w' : va_W, GOK ad tys GG w' → (∀ c j, c ≠ 91 → rd w' c j = rd w0 c j) → (∀ j, j < 294 → rd w' 91 j = rd w0 96 j) → V l D tys A 233 10 0 0 post 0 0 212 [(0, .ref (ad 90))] [] w') → V l D tys A 233 10 0 0 post 0 0 187 [(0, .ref (ad 90)), (1, .int (Int32.ofInt (k : Int)))] [] w
  | 0, k, w, hm, hG, ho, hd, kk => by
    have e : k = 294 := by omega
    subst e
    refine V_iload (v := Int32.ofInt ((294 : Nat) : Int)) mi_233_187 (by simp [stL, lv_args, Value.category]) ?_
    refine V_ipush mi_233_188 ?_
    refine V_cge mi_233_191 ⟨by omega, by omega⟩ ⟨by omega, by omega⟩ (fun _ => ?_) (fun q => absurd q (by omega))
    refine V_sub (lv' := [(0, .ref (ad 90))]) (fun q hq => ?_) (kk w hG ho hd)
    simp only [List.mem_cons, List.not_mem_nil, or_false] at hq
    rcases hq with rfl
    simp [stL, lv_args, Value.category]
  | m + 1, k, w, hm, hG, ho, hd, kk => by
    obtain ⟨s91, s96, e91, e96, hsg⟩ := gw91
    obtain ⟨lo, hi, q1, q2, l0, h0⟩ := hsg k (by omega)
    obtain ⟨z, hz, z0, z1⟩ := cel hG e96 (by omega) q2
    refine V_iload (v := Int32.ofInt ((k : Int))) mi_233_187 (by simp [stL, lv_args, Value.category]) ?_
    refine V_ipush mi_233_188 ?_
    refine V_cge mi_233_191 ⟨by omega, by omega⟩ ⟨by omega, by omega⟩ (fun q => ?_) (fun q => ?_)
    · exact absurd q (by omega)
    · refine V_aload (v := ad 90) mi_233_194 (by simp [stL, lv_args, Value.category]) ?_
      refine V_getI mi_233_195 hG (rref gr1m (by omega) hG) ?_
      refine V_iload (v := Int32.ofInt ((k : Int))) mi_233_198 (by simp [stL, lv_args, Value.category]) ?_
      refine V_aload (v := ad 90) mi_233_199 (by simp [stL, lv_args, Value.category]) ?_
      refine V_getI mi_233_200 hG (rref gr14 (by omega) hG) ?_
      refine V_iload (v := Int32.ofInt ((k : Int))) mi_233_203 (by simp [stL, lv_args, Value.category]) ?_
      refine V_aldX (j := k) mi_233_204 rfl hG e96 (by omega) (by omega) hz ?_
      refine V_astX (j := k) mi_233_205 rfl hG e91 (by omega) (by omega) q1 (by rw [Int32.toInt_ofInt_of_le (by omega) (by omega)]; omega) (by rw [Int32.toInt_ofInt_of_le (by omega) (by omega)]; omega) (fun w2 G2 U => ?_)
      refine V_iinc (v := Int32.ofInt ((k : Int))) mi_233_206 (by simp [stL, lv_args, Value.category]) ?_
      rw [ia2]
      refine V_goto mi_233_209 ?_
      refine V_sub (lv' := [(0, .ref (ad 90)), (1, .int (Int32.ofInt ((k + 1 : Nat) : Int)))]) (fun q hq => ?_) ?_
      · simp only [List.mem_cons, List.not_mem_nil, or_false] at hq
        rcases hq with rfl | rfl <;> simp [stL, lv_args, Value.category]
      · refine hw_187 m (k + 1) w2 (by omega) G2 (fun c j hc => (upd_ne U (fun e => hc e.1)).trans (ho c j hc)) (fun j hj => ?_) kk
        by_cases e : j = k
        · subst e
          rw [upd_eq U, ← ho 96 j (by omega), hz]
        · exact (upd_ne U (fun q => e q.2)).trans (hd j (by omega))
theorem hz_30 {w0 : va_W} {post : Option Value → va_W → Prop} : ∀ (m k : Nat) (w : va_W), k + m = 294 → GOK ad tys GG w → (∀ c j, c ≠ 96 → rd w c j = rd w0 c j) → (∀ j, j < k → rd w 96 j = some (.int (Int32.ofInt (0)))) → (∀ w' : va_W, GOK ad tys GG w' → (∀ c j, c ≠ 96 → rd w' c j = rd w0 c j) → (∀ j, j < 294 → rd w' 96 j = some (.int (Int32.ofInt (0)))) → V l D tys A 233 10 0 0 post 0 0 50 [(0, .ref (ad 90))] [] w') → V l D tys A 233 10 0 0 post 0 0 30 [(0, .ref (ad 90)), (1, .int (Int32.ofInt (k : Int)))] [] w
  | 0, k, w, hm, hG, ho, hd, kk => by
    have e : k = 294 := by omega
    subst e
    refine V_iload (v := Int32.ofInt (((294 : Nat) : Int))) mi_233_30 (by simp [stL, lv_args, Value.category]) ?_
    refine V_ipush mi_233_31 ?_
    refine V_cge mi_233_34 ⟨by omega, by omega⟩ ⟨by omega, by omega⟩ (fun q => ?_) (fun q => ?_)
    · refine V_sub (lv' := [(0, .ref (ad 90))]) (fun q hq => ?_) (kk w hG ho hd)
      simp only [List.mem_cons, List.not_mem_nil, or_false] at hq
      rcases hq with rfl
      simp [stL, lv_args, Value.category]
    · exact absurd q (by omega)
  | m + 1, k, w, hm, hG, ho, hd, kk => by
    obtain ⟨s96, e96, hsg⟩ := g96z
    obtain ⟨lo, hi, q1, q2, q3⟩ := hsg k (by omega)
    refine V_iload (v := Int32.ofInt ((k : Int))) mi_233_30 (by simp [stL, lv_args, Value.category]) ?_
    refine V_ipush mi_233_31 ?_
    refine V_cge mi_233_34 ⟨by omega, by omega⟩ ⟨by omega, by omega⟩ (fun q => ?_) (fun q => ?_)
    · exact absurd q (by omega)
    · refine V_aload (v := ad 90) mi_233_37 (by simp [stL, lv_args, Value.category]) ?_
      refine V_getI mi_233_38 hG (rref gr14 (by omega) hG) ?_
      refine V_iload (v := Int32.ofInt ((k : Int))) mi_233_41 (by simp [stL, lv_args, Value.category]) ?_
      refine V_ipush mi_233_42 ?_
      refine V_astX (j := k) mi_233_43 rfl hG e96 (by omega) (by omega) q1 (by rw [Int32.toInt_ofInt_of_le (by omega) (by omega)]; omega) (by rw [Int32.toInt_ofInt_of_le (by omega) (by omega)]; omega) (fun w2 G2 U => ?_)
      refine V_iinc (v := Int32.ofInt ((k : Int))) mi_233_44 (by simp [stL, lv_args, Value.category]) ?_
      rw [ia2]
      refine V_goto mi_233_47 ?_
      refine V_sub (lv' := [(0, .ref (ad 90)), (1, .int (Int32.ofInt ((k + 1 : Nat) : Int)))]) (fun q hq => ?_) ?_
      · simp only [List.mem_cons, List.not_mem_nil, or_false] at hq
        rcases hq with rfl | rfl <;> simp [stL, lv_args, Value.category]
      · refine hz_30 m (k + 1) w2 (by omega) G2 (fun c j hc => (upd_ne U (fun e => hc e.1)).trans (ho c j hc)) (fun j hj => ?_) kk
        by_cases e : j = k
        · subst e
          exact upd_eq U
        · exact (upd_ne U (fun q => e q.2)).trans (hd j (by omega))
theorem hz_52 {w0 : va_W} {post : Option Value → va_W → Prop} : ∀ (m k : Nat) (w : va_W), k + m = 144 → GOK ad tys GG w → (∀ c j, c ≠ 97 → rd w c j = rd w0 c j) → (∀ j, j < k → rd w 97 j = some (.int (Int32.ofInt (-1)))) → (∀ w' : va_W, GOK ad tys GG w' → (∀ c j, c ≠ 97 → rd w' c j = rd w0 c j) → (∀ j, j < 144 → rd w' 97 j = some (.int (Int32.ofInt (-1)))) → V l D tys A 233 10 0 0 post 0 0 74 [(0, .ref (ad 90))] [] w') → V l D tys A 233 10 0 0 post 0 0 52 [(0, .ref (ad 90)), (1, .int (Int32.ofInt (k : Int)))] [] w
  | 0, k, w, hm, hG, ho, hd, kk => by
    have e : k = 144 := by omega
    subst e
    obtain ⟨s97, e97, f97⟩ := gf97
    refine V_iload (v := Int32.ofInt (((144 : Nat) : Int))) mi_233_52 (by simp [stL, lv_args, Value.category]) ?_
    refine V_aload (v := ad 90) mi_233_53 (by simp [stL, lv_args, Value.category]) ?_
    refine V_getI mi_233_54 hG (rref gr15 (by omega) hG) ?_
    refine V_lenA mi_233_57 hG e97 ?_
    refine V_cge mi_233_58 ⟨by omega, by omega⟩ ⟨by omega, by omega⟩ (fun q => ?_) (fun q => ?_)
    · refine V_sub (lv' := [(0, .ref (ad 90))]) (fun q hq => ?_) (kk w hG ho hd)
      simp only [List.mem_cons, List.not_mem_nil, or_false] at hq
      rcases hq with rfl
      simp [stL, lv_args, Value.category]
    · exact absurd q (by omega)
  | m + 1, k, w, hm, hG, ho, hd, kk => by
    obtain ⟨s97, e97, f97⟩ := gf97
    refine V_iload (v := Int32.ofInt ((k : Int))) mi_233_52 (by simp [stL, lv_args, Value.category]) ?_
    refine V_aload (v := ad 90) mi_233_53 (by simp [stL, lv_args, Value.category]) ?_
    refine V_getI mi_233_54 hG (rref gr15 (by omega) hG) ?_
    refine V_lenA mi_233_57 hG e97 ?_
    refine V_cge mi_233_58 ⟨by omega, by omega⟩ ⟨by omega, by omega⟩ (fun q => ?_) (fun q => ?_)
    · exact absurd q (by omega)
    · refine V_aload (v := ad 90) mi_233_61 (by simp [stL, lv_args, Value.category]) ?_
      refine V_getI mi_233_62 hG (rref gr15 (by omega) hG) ?_
      refine V_iload (v := Int32.ofInt ((k : Int))) mi_233_65 (by simp [stL, lv_args, Value.category]) ?_
      refine V_ipush mi_233_66 ?_
      refine V_astX (j := k) mi_233_67 rfl hG e97 (by omega) (by omega) (f97 k (by omega)) (by rw [Int32.toInt_ofInt_of_le (by omega) (by omega)]; omega) (by rw [Int32.toInt_ofInt_of_le (by omega) (by omega)]; omega) (fun w2 G2 U => ?_)
      refine V_iinc (v := Int32.ofInt ((k : Int))) mi_233_68 (by simp [stL, lv_args, Value.category]) ?_
      rw [ia2]
      refine V_goto mi_233_71 ?_
      refine V_sub (lv' := [(0, .ref (ad 90)), (1, .int (Int32.ofInt ((k + 1 : Nat) : Int)))]) (fun q hq => ?_) ?_
      · simp only [List.mem_cons, List.not_mem_nil, or_false] at hq
        rcases hq with rfl | rfl <;> simp [stL, lv_args, Value.category]
      · refine hz_52 m (k + 1) w2 (by omega) G2 (fun c j hc => (upd_ne U (fun e => hc e.1)).trans (ho c j hc)) (fun j hj => ?_) kk
        by_cases e : j = k
        · subst e
          exact upd_eq U
        · exact (upd_ne U (fun q => e q.2)).trans (hd j (by omega))
noncomputable def frB (fr : Nat → Int) : Prop := ∀ j, j < 294 → 0 ≤ fr j ∧ fr j ≤ 4095
/-- a text read: from its first token; as the reference's number then stood (it counts only with a number looked at) -/
noncomputable def hill0 (B : Nat → Int) (n : Nat) (v0 : Int) : TS × (Nat → Int) × (Nat → Int) := (((tkK B n 0, tkI B n 0, tkE B n 0, tkV B n 0 v0), (0, -1)), fun _ => 0, fun _ => -1)
noncomputable def hillX (B : Nat → Int) (n : Nat) (v0 : Int) : TS × (Nat → Int) × (Nat → Int) := linA B n 1402 (hill0 B n v0)
noncomputable def HMo (w0 w : va_W) : Prop := ∀ c j, c ≠ 91 → c ≠ 96 → c ≠ 97 → ¬ (c = 90 ∧ (j = 5 ∨ (7 ≤ j ∧ j ≤ 13))) → rd w c j = rd w0 c j
noncomputable def HMP (ad : Nat → Nat) (tys : List (ClassId × FieldType)) (x : TS × (Nat → Int) × (Nat → Int)) (w0 : va_W) (r : Option Value) (w : va_W) : Prop := GOK ad tys GG w ∧ HMo w0 w ∧ rd w 90 5 = some (.int (Int32.ofInt 0)) ∧ rd w 90 12 = some (.int (Int32.ofInt x.1.2.1)) ∧ rd w 90 13 = some (.int (Int32.ofInt x.1.2.2)) ∧ (x.1.2.1 = 0 → r = some (.int (Int32.ofInt (x.2.1 5))) ∧ frB x.2.1 ∧ tdOK x.2.2 ∧ ∀ j, j < 294 → rd w 91 j = some (.int (Int32.ofInt (endG x j)))) ∧ (¬ x.1.2.1 = 0 → r = some (.int (Int32.ofInt (-4))) ∧ ∀ j, rd w 91 j = rd w0 91 j)
theorem hx_99 {n : Nat} {B : Nat → Int} {x : TS × (Nat → Int) × (Nat → Int)} {w0 w : va_W} (ho : ∀ c j, c ≠ 96 → c ≠ 97 → ¬ (c = 90 ∧ (j = 5 ∨ (7 ≤ j ∧ j ≤ 13))) → rd w0 c j = rd ws c j) (h5 : rd w0 90 5 = some (.int (Int32.ofInt 0))) (h : MSF ad tys n B x.2.1 x.2.2 w0 x.1 w) (t : tdOK x.2.2) : V l D tys A 233 10 0 0 (HMP ad tys x ws) 0 0 99 (lv_args 0 [.ref (ad 90)]) [] w := by
  refine V_aload (v := ad 90) mi_233_99 (by simp [stL, lv_args, Value.category]) ?_
  refine V_callM (As := []) (st := []) mi_233_100 (by omega) (by decide +kernel) (by decide +kernel) h.1 (goodF_ct h) (by omega) (show 0 = mN 214 by decide +kernel) (by simp [Value.category]) ?_
  rintro r w1 ⟨e1, rfl⟩
  subst e1
  obtain ⟨hG, ⟨T, ok, h10, h9, h8, h11, h12, h13⟩, f12, O⟩ := id h
  refine V_bne mi_233_103  (fun c => ?_) (fun c => ?_)
  · have g : x.1.2.1 = 0 := of_decide_eq_true c
    refine V_ipush mi_233_109 ?_
    refine V_istore mi_233_110 ?_
    refine V_sub (lv' := [(0, .ref (ad 90)), (1, .int (Int32.ofInt ((0 : Nat) : Int)))]) (fun q hq => ?_) ?_
    · simp only [List.mem_cons, List.not_mem_nil, or_false] at hq
      rcases hq with rfl | rfl <;> simp [stL, lv_args, Value.category]
    refine hs_111 (fr := x.2.1) t 6 0 _ (by omega) (by rw [show 24 * 0 = 0 from rfl, sg_0]; exact h) (fun w2 h2 => ?_)
    refine V_ipush mi_233_185 ?_
    refine V_istore mi_233_186 ?_
    refine V_sub (lv' := [(0, .ref (ad 90)), (1, .int (Int32.ofInt ((0 : Nat) : Int)))]) (fun q hq => ?_) ?_
    · simp only [List.mem_cons, List.not_mem_nil, or_false] at hq
      rcases hq with rfl | rfl <;> simp [stL, lv_args, Value.category]
    refine hw_187 (w0 := w2) 294 0 w2 (by omega) h2.1 (fun _ _ _ => rfl) (fun j hj => by omega) (fun w3 G3 o3 d3 => ?_)
    obtain ⟨s91, s96, e91, e96, hsg⟩ := gw91
    have hc : ∀ j, j < 294 → rd w3 91 j = some (.int (Int32.ofInt (endG x j))) := fun j hj => by
      rw [d3 j hj]
      exact (h2.2.2.1.1 j hj).1
    refine V_aload (v := ad 90) mi_233_212 (by simp [stL, lv_args, Value.category]) ?_
    refine V_getI mi_233_213 G3 (rref gr1m (by omega) G3) ?_
    refine V_ipush mi_233_216 ?_
    refine V_aldX (j := 5) mi_233_217 rfl G3 e91 (by omega) (by omega) (hc 5 (by omega)) ?_
    obtain ⟨-, ⟨-, -, -, -, -, -, k12, k13⟩, -, O2⟩ := h2
    refine V_retI mi_233_218 (fun q => absurd q (by decide +kernel)) ⟨G3, fun c j c1 c2 c3 c4 => ?_, ?_, ?_, ?_, fun _ => ⟨rfl, fun j hj => (f12.1 j hj).2, t, hc⟩, fun q => absurd g q⟩
    · rw [o3 c j c1, O2 c j (by omega)]
      exact ho c j (by omega) (by omega) (fun q => c4 (by omega))
    · rw [o3 _ _ (by omega), O2 _ _ (by omega)]
      exact h5
    · rw [o3 _ _ (by omega)]
      exact k12
    · rw [o3 _ _ (by omega)]
      exact k13
  · have g : ¬ x.1.2.1 = 0 := of_decide_eq_false c
    refine V_ipush mi_233_106 ?_
    refine V_retI mi_233_108 (fun q => absurd q (by decide +kernel)) ⟨hG, fun c j c1 c2 c3 c4 => ?_, ?_, h12, h13, fun q => absurd q g, fun _ => ⟨rfl, fun j => ?_⟩⟩
    · rw [O c j (by omega)]
      exact ho c j (by omega) (by omega) (fun q => c4 (by omega))
    · rw [O _ _ (by omega)]
      exact h5
    · rw [O _ _ (by omega)]
      exact ho _ _ (by omega) (by omega) (by omega)
theorem himx_ct {n : Nat} {B : Nat → Int} {v0 : Int} (hG : GOK ad tys GG ws) (n14 : n ≤ 1400) (h5 : rd ws 90 5 = some (.int (Int32.ofInt (n : Int)))) (hB : TB ws 94 n B) (h11 : rd ws 90 11 = some (.int (Int32.ofInt v0))) (v0I : I32 v0) : CT l D tys A 233 10 0 0 [.ref (ad 90)] ws (HMP ad tys (hillX B n v0) ws) := by
  refine CT_of_V (by omega) (show (1 : Nat) ≤ mML 233 by decide +kernel) ?_
  refine V_aload (v := ad 90) mi_233_0 (by simp [stL, lv_args, Value.category]) ?_
  refine V_aload (v := ad 90) mi_233_1 (by simp [stL, lv_args, Value.category]) ?_
  refine V_getI mi_233_2 hG (h5) ?_
  refine V_putI mi_233_5 hG f7 (by omega) rfl (by decide +kernel) (by rw [Int32.toInt_ofInt_of_le (by omega) (by omega)]; omega) (by rw [Int32.toInt_ofInt_of_le (by omega) (by omega)]; omega) (fun w0 G0 U0 => ?_)
  refine V_aload (v := ad 90) mi_233_8 (by simp [stL, lv_args, Value.category]) ?_
  refine V_ipush mi_233_9 ?_
  refine V_putI mi_233_10 G0 f5 (by omega) rfl (by decide +kernel) (by rw [Int32.toInt_ofInt_of_le (by omega) (by omega)]; omega) (by rw [Int32.toInt_ofInt_of_le (by omega) (by omega)]; omega) (fun w1 G1 U1 => ?_)
  refine V_aload (v := ad 90) mi_233_13 (by simp [stL, lv_args, Value.category]) ?_
  refine V_ipush mi_233_14 ?_
  refine V_putI mi_233_15 G1 f8 (by omega) rfl (by decide +kernel) (by rw [Int32.toInt_ofInt_of_le (by omega) (by omega)]; omega) (by rw [Int32.toInt_ofInt_of_le (by omega) (by omega)]; omega) (fun w2 G2 U2 => ?_)
  refine V_aload (v := ad 90) mi_233_18 (by simp [stL, lv_args, Value.category]) ?_
  refine V_ipush mi_233_19 ?_
  refine V_putI mi_233_20 G2 f12 (by omega) rfl (by decide +kernel) (by rw [Int32.toInt_ofInt_of_le (by omega) (by omega)]; omega) (by rw [Int32.toInt_ofInt_of_le (by omega) (by omega)]; omega) (fun w3 G3 U3 => ?_)
  refine V_aload (v := ad 90) mi_233_23 (by simp [stL, lv_args, Value.category]) ?_
  refine V_ipush mi_233_24 ?_
  refine V_putI mi_233_25 G3 f13 (by omega) rfl (by decide +kernel) (by rw [Int32.toInt_ofInt_of_le (by omega) (by omega)]; omega) (by rw [Int32.toInt_ofInt_of_le (by omega) (by omega)]; omega) (fun w4 G4 U4 => ?_)
  refine V_ipush mi_233_28 ?_
  refine V_istore mi_233_29 ?_
  have o5 : ∀ c j, ¬ (c = 90 ∧ (j = 5 ∨ j = 7 ∨ j = 8 ∨ j = 12 ∨ j = 13)) → rd w4 c j = rd ws c j := fun c j hn => (upd_ne U4 (by omega)).trans ((upd_ne U3 (by omega)).trans ((upd_ne U2 (by omega)).trans ((upd_ne U1 (by omega)).trans (upd_ne U0 (by omega)))))
  have k7 : rd w4 90 7 = some (.int (Int32.ofInt (n : Int))) := (upd_ne U4 (by omega)).trans ((upd_ne U3 (by omega)).trans ((upd_ne U2 (by omega)).trans ((upd_ne U1 (by omega)).trans (upd_eq U0))))
  have k5 : rd w4 90 5 = some (.int (Int32.ofInt 0)) := (upd_ne U4 (by omega)).trans ((upd_ne U3 (by omega)).trans ((upd_ne U2 (by omega)).trans (upd_eq U1)))
  have k8 : rd w4 90 8 = some (.int (Int32.ofInt 0)) := (upd_ne U4 (by omega)).trans ((upd_ne U3 (by omega)).trans (upd_eq U2))
  have k12 : rd w4 90 12 = some (.int (Int32.ofInt 0)) := (upd_ne U4 (by omega)).trans (upd_eq U3)
  have k13 : rd w4 90 13 = some (.int (Int32.ofInt (-1))) := upd_eq U4
  refine V_sub (lv' := [(0, .ref (ad 90)), (1, .int (Int32.ofInt ((0 : Nat) : Int)))]) (fun q hq => ?_) ?_
  · simp only [List.mem_cons, List.not_mem_nil, or_false] at hq
    rcases hq with rfl | rfl <;> simp [stL, lv_args, Value.category]
  refine hz_30 (w0 := w4) 294 0 w4 (by omega) G4 (fun _ _ _ => rfl) (fun j hj => by omega) (fun w5 G5 o6 d6 => ?_)
  refine V_ipush mi_233_50 ?_
  refine V_istore mi_233_51 ?_
  refine V_sub (lv' := [(0, .ref (ad 90)), (1, .int (Int32.ofInt ((0 : Nat) : Int)))]) (fun q hq => ?_) ?_
  · simp only [List.mem_cons, List.not_mem_nil, or_false] at hq
    rcases hq with rfl | rfl <;> simp [stL, lv_args, Value.category]
  refine hz_52 (w0 := w5) 144 0 w5 (by omega) G5 (fun _ _ _ => rfl) (fun j hj => by omega) (fun w6 G6 o7 d7 => ?_)
  have oo : ∀ c j, c ≠ 96 → c ≠ 97 → rd w6 c j = rd w4 c j := fun c j c1 c2 => (o7 c j c2).trans (o6 c j c1)
  have T : TXM w6 n B := ⟨(oo _ _ (by omega) (by omega)).trans k7, n14, fun k hk => ⟨(oo _ _ (by omega) (by omega)).trans ((o5 _ _ (by omega)).trans (hB k hk).1), (hB k hk).2⟩⟩
  refine V_aload (v := ad 90) mi_233_74 (by simp [stL, lv_args, Value.category]) ?_
  refine V_callM (As := []) (st := []) mi_233_75 (by omega) (by decide +kernel) (by decide +kernel) G6 (adm_ct (a := 0) (v0 := v0) G6 T (Nat.zero_le _) ((oo _ _ (by omega) (by omega)).trans k8) ((oo _ _ (by omega) (by omega)).trans ((o5 _ _ (by omega)).trans h11))) (by omega) (show 0 = mN 213 by decide +kernel) (by simp [Value.category]) ?_
  rintro r w7 ⟨rfl, G7, O7, m8, m9, m10, m11⟩
  obtain ⟨t1, t2, t3⟩ := tk_bd (B := B) (n := n) (a := 0) (v := v0) (Nat.zero_le _) v0I.1 v0I.2
  refine V_sub (lv' := [(0, .ref (ad 90))]) (fun q hq => ?_) ?_
  · simp only [List.mem_cons, List.not_mem_nil, or_false] at hq
    subst hq
    simp [stL, lv_args, Value.category]
  refine hl_78 (w0 := w4) 1402 (hill0 B n v0) w7 (fun w8 h8 t8 => hx_99 (fun c j c1 c2 c3 => o5 c j (by omega)) k5 h8 t8) ⟨G7, ⟨⟨(O7 _ _ (by omega)).trans T.1, T.2.1, fun k hk => ⟨(O7 _ _ (by omega)).trans (T.2.2 k hk).1, (T.2.2 k hk).2⟩⟩, ⟨t1, t2.2, t3, by show (0 : Int) ≤ 0; omega, by show (0 : Int) ≤ 3; omega⟩, m10, m9, m8, m11, ?_, ?_⟩, ⟨fun j hj => ⟨?_, by show (0 : Int) ≤ 0; omega, by show (0 : Int) ≤ 4095; omega⟩, fun j hj => ?_⟩, fun c j hn => ?_⟩ (fun j hj => ⟨by show (-1 : Int) ≤ -1; omega, by show (-1 : Int) ≤ 3; omega⟩) (fun _ => ⟨⟨0, Nat.zero_le _, rfl, rfl, rfl⟩, by omega, ?_⟩)
  · exact (O7 _ _ (by omega)).trans ((oo _ _ (by omega) (by omega)).trans k12)
  · exact (O7 _ _ (by omega)).trans ((oo _ _ (by omega) (by omega)).trans k13)
  · exact (O7 _ _ (by omega)).trans ((o7 _ _ (by omega)).trans (d6 j hj))
  · exact (O7 _ _ (by omega)).trans (d7 j hj)
  · exact (O7 _ _ (by omega)).trans (oo _ _ (by omega) (by omega))
  · show (0 : Int) ≤ _
    omega
end XMH
