section RUO
variable {l : Launch} {D : va_G} {tys : List (ClassId × FieldType)} {A : Nat → Prop} {k d : Nat} {post : Option Value → va_W → Prop} {ad : Nat → Nat} {G : List GC} {mods : List Nat} {w0 : va_W}
/-- what a call's outcomes say -/
noncomputable def PO (ad : Nat → Nat) (tys : List (ClassId × FieldType)) (G : List GC) (mods : List Nat) (w0 : va_W) (n : Nat) (σ : Nat → Int) (outs : List OUT) : Option Value → va_W → Prop := fun r ws' => ∃ o ∈ outs, ∃ σ' : Nat → Int, ext n σ σ' ∧ n ≤ o.1.length ∧ inE σ' o.1 ∧ r = o.2.1.map (conc ad σ') ∧ HK ad tys G mods w0 σ' o.2.2 ws'
noncomputable def CALok (l : Launch) (D : va_G) (tys : List (ClassId × FieldType)) (A : Nat → Prop) (ad : Nat → Nat) (G : List GC) (mods : List Nat) (w0 : va_W) (cal : CAL) (d : Nat) : Prop := ∀ (y : Nat) (avs : List AV) (E : EV) (ov : OV) (outs : List OUT) (σ : Nat → Int) (ws : va_W), cal y avs E ov = some outs → inE σ E → HK ad tys G mods w0 σ ov ws → y < 352 →
  ∃ d', d' < d ∧ CT l D tys A y d' 0 0 (avs.map (conc ad σ)) ws (PO ad tys G mods w0 E.length σ outs)
theorem exL_mem {f : ST → Option (List OUT)} : ∀ {sts : List ST} {outs : List OUT} {s : ST}, exL f sts = some outs → s ∈ sts → ∃ a, f s = some a ∧ ∀ o ∈ a, o ∈ outs
  | [], outs, s, _, hs => by cases hs
  | t :: r, outs, s, h, hs => by
    have h : exS (f t) (exL f r) = some outs := h
    unfold exS at h
    cases h1 : f t with
    | none => rw [h1] at h; cases h
    | some a =>
      cases h2 : exL f r with
      | none => rw [h1, h2] at h; cases h
      | some b =>
        rw [h1, h2] at h
        cases h
        rcases List.mem_cons.mp hs with rfl | hs
        · exact ⟨a, h1, fun o ho => List.mem_append_left _ ho⟩
        · obtain ⟨c, c1, c2⟩ := exL_mem h2 hs
          exact ⟨c, c1, fun o ho => List.mem_append_right _ (c2 o ho)⟩
noncomputable def MB (m0 : Option LF) (n : Nat) (σ : Nat → Int) (B : Int → Prop) : Prop := (m0 = none ∧ ∀ x, B x) ∨ ∃ q, m0 = some q ∧ wfT n q.2 = true ∧ ∀ x, x < ev σ q → B x
theorem MB_ext {m0 : Option LF} {n m : Nat} {σ σ' : Nat → Int} {B : Int → Prop} (h : MB m0 n σ B) (hn : n ≤ m) (he : ext n σ σ') : MB m0 m σ' B := by
  rcases h with h | ⟨q, h1, h2, h3⟩
  · exact Or.inl h
  · refine Or.inr ⟨q, h1, wfT_le hn h2, fun x hx => h3 x ?_⟩
    have e : ev σ' q = ev σ q := by unfold ev; rw [wfT_ev he h2]
    omega
theorem ci_at {y : Nat} (hy : y < 352) (hk : mKind y = 0) (hne : mCi y < 99) : ∃ T N, vwCl[mCi y]? = some ((mY y).cls, T, N) := by
  have h := List.all_eq_true.mp ci_all y (List.mem_range.mpr hy)
  unfold ciOK at h
  rw [hk, Bool.or_eq_true, Bool.or_eq_true] at h
  rcases h with (h | h) | h
  · exact absurd h (by decide)
  · exact absurd (Nat.eq_of_beq_eq_true h) (by omega)
  · cases h1 : vwCl[mCi y]? with
    | none => rw [h1] at h; cases h
    | some q =>
      obtain ⟨C, T, N⟩ := q
      rw [h1] at h
      have h := of_decide_eq_true h
      dsimp only at h
      subst h
      exact ⟨T, N, rfl⟩
theorem cat_sum : ∀ st : List Value, (st.map fun v => v.category).sum ≤ 2 * st.length
  | [] => by simp
  | v :: t => by
    have h := cat_sum t
    rw [List.map_cons, List.sum_cons, List.length_cons]
    rcases lv_cat v with c | c <;> omega
theorem exC_ok {cuts : List (Nat × CUT)} {m0 : Option LF} {cal : CAL} {ih : ST → Option (List OUT)} {a : Int} {x y z : Nat} {s : ST} {outs : List OUT} {σ : Nat → Int} {ws : va_W} (hAD : ∀ i : Nat, ad (1000 + i) = D.2 1000 i) (hcal : CALok l D tys A ad G mods w0 cal d) (hi : mI k s.1 = (26, a, x, y, z)) (h : exC G cuts m0 cal ih y z s = some outs) (hσ : inE σ s.2.1) (hH : HK ad tys G mods w0 σ s.2.2.2.2 ws)
    (kk : ∀ s' a', atS cuts m0 ih s' = some a' → (∀ o ∈ a', o ∈ outs) → ∀ σ' ws', ext s.2.1.length σ σ' → s.2.1.length ≤ s'.2.1.length → inE σ' s'.2.1 → HK ad tys G mods w0 σ' s'.2.2.2.2 ws' → VS l D tys A k d post ad σ' s' ws') : VS l D tys A k d post ad σ s ws := by
  obtain ⟨pc, E, als, ast, ov⟩ := s
  unfold exC at h
  dsimp only at h hi hσ hH kk
  cases hc : (Nat.blt y 352 && (Nat.ble z 1 && (Nat.ble (mN y + (1 - z)) ast.length && (Nat.ble (wsum (ast.drop (mN y + (1 - z)))) 8 && (wfS E.length als (ast.drop (mN y + (1 - z))) [] && okRc G y z (ast.take (mN y + (1 - z))).reverse))))) with
  | false => rw [hc] at h; cases h
  | true =>
    rw [hc, cond_true] at h
    simp only [Bool.and_eq_true] at hc
    obtain ⟨b1, b2, b3, b4, b5, b6⟩ := hc
    have hy := Nat.blt_eq.mp b1
    have hz := Nat.le_of_ble_eq_true b2
    have hn := Nat.le_of_ble_eq_true b3
    have hl := Nat.le_of_ble_eq_true b4
    cases h1 : cal y (ast.take (mN y + (1 - z))).reverse E ov with
    | none => rw [h1] at h; cases h
    | some os =>
      rw [h1] at h
      dsimp only at h
      obtain ⟨d', hd, hct⟩ := hcal y _ E ov os σ ws h1 hσ hH hy
      have hsum : ((ast.drop (mN y + (1 - z))).map (conc ad σ) |>.map fun v => v.category).sum ≤ 8 := by
        rw [wsum_ok]
        exact hl
      have goOn : ∀ (r : Option Value) (ws' : va_W), PO ad tys G mods w0 E.length σ os r ws' → V l D tys A k d 0 0 post 0 0 (pc + 3) (als.map (cvp ad σ)) (r.toList ++ (ast.drop (mN y + (1 - z))).map (conc ad σ)) ws' := by
        rintro r ws' ⟨o, ho, σ', e1, e2, e3, rfl, e5⟩
        obtain ⟨a', a1, a2⟩ := exL_mem h (List.mem_map.mpr ⟨o, ho, rfl⟩)
        have K := kk _ a' a1 a2 σ' ws' e1 e2 e3 e5
        obtain ⟨w1, w2, -⟩ := wfS_ok (ad := ad) b5 e1
        have K : V l D tys A k d 0 0 post 0 0 (pc + 3) (als.map (cvp ad σ')) ((o.2.1.toList ++ ast.drop (mN y + (1 - z))).map (conc ad σ')) ws' := K
        rw [w1, List.map_append, w2] at K
        cases hr : o.2.1 with
        | none => rw [hr] at K; exact K
        | some v => rw [hr] at K; exact K
      have split : ast.map (conc ad σ) = (ast.take (mN y + (1 - z))).map (conc ad σ) ++ (ast.drop (mN y + (1 - z))).map (conc ad σ) := by
        rw [← List.map_append, List.take_append_drop]
      show V l D tys A k d 0 0 post 0 0 pc (als.map (cvp ad σ)) (ast.map (conc ad σ)) ws
      rw [split]
      rcases (show z = 0 ∨ z = 1 by omega) with rfl | rfl
      · have tk : (ast.take (mN y + (1 - 0))).length = mN y + 1 := by rw [List.length_take]; omega
        cases hrv : (ast.take (mN y + (1 - 0))).reverse with
        | nil => have := congrArg List.length hrv; rw [List.length_reverse, tk] at this; simp at this
        | cons r As =>
          rw [hrv] at b6 hct
          unfold okRc at b6
          rw [bif_f (by rfl)] at b6
          dsimp only at b6
          rw [Bool.and_eq_true] at b6
          obtain ⟨r1, r2⟩ := b6
          cases hg : G[r.2.1.1.toNat]? with
          | none =>
            rw [hg] at r2
            dsimp only at r2
            rw [Bool.and_eq_true, Bool.and_eq_true, decide_eq_true_eq] at r2
            obtain ⟨⟨x1, x2⟩, x3⟩ := r2
            have x1 := Nat.le_of_ble_eq_true x1
            have x2 := Nat.blt_eq.mp x2
            obtain ⟨w, hw⟩ := xs_at (i := r.2.1.1.toNat - 1000) (by omega)
            have hAs : As.length = mN y := by have := congrArg List.length hrv; rw [List.length_reverse, tk] at this; simp at this; omega
            have hae : ad r.2.1.1.toNat = D.2 1000 (r.2.1.1.toNat - 1000) := by
              have q := hAD (r.2.1.1.toNat - 1000)
              rw [show 1000 + (r.2.1.1.toNat - 1000) = r.2.1.1.toNat by omega] at q
              exact q
            have tkm : (ast.take (mN y + (1 - 0))).map (conc ad σ) = (As.map (conc ad σ)).reverse ++ [.ref (D.2 1000 (r.2.1.1.toNat - 1000))] := by
              have e := congrArg List.reverse hrv
              rw [List.reverse_reverse] at e
              rw [e, List.map_reverse, List.map_cons, List.reverse_cons, conc2 r1, hae]
            rw [tkm, List.append_assoc]
            rw [List.map_cons, conc2 r1, hae] at hct
            exact V_virtX hi hy hct hd (by rw [List.length_map]; exact hAs) hw x3 hsum ⟨Nat.le_refl _, Nat.le_refl _⟩ goOn
          | some g =>
            rw [hg] at r2
            dsimp only at r2
            rw [Bool.and_eq_true, Bool.and_eq_true] at r2
            have g1 := Nat.eq_of_beq_eq_true r2.1
            have g2 := Nat.eq_of_beq_eq_true r2.2.1
            have g3 := Nat.blt_eq.mp r2.2.2
            obtain ⟨e, q1, q2, q3⟩ := hH.1 _ g hg
            obtain ⟨⟨kd, ty, n⟩, segs⟩ := g
            dsimp only at g1 g2
            subst g1; subst g2
            obtain ⟨fs, rfl, hlen⟩ := q2
            have t26 : ok26 k pc a x y 0 = true := by have t := tabOK k pc; rw [hi] at t; exact t
            have t26 : (Nat.beq (mKind y) 0 && wAt a (Cond.methodLink (mOwn k) x (mY y)) && dec k pc (.invokevirtual x) 3) = true := t26
            rw [Bool.and_eq_true, Bool.and_eq_true] at t26
            obtain ⟨T, N, hcl⟩ := ci_at hy (Nat.eq_of_beq_eq_true t26.1.1) g3
            have hAs : As.length = mN y := by have := congrArg List.length hrv; rw [List.length_reverse, tk] at this; simp at this; omega
            have tkm : (ast.take (mN y + (1 - 0))).map (conc ad σ) = (As.map (conc ad σ)).reverse ++ [.ref (ad r.2.1.1.toNat)] := by
              have e := congrArg List.reverse hrv
              rw [List.reverse_reverse] at e
              rw [e, List.map_reverse, List.map_cons, List.reverse_cons, conc2 r1]
            rw [tkm, List.append_assoc]
            rw [List.map_cons, conc2 r1] at hct
            exact V_virt hi hy hct hd (by rw [List.length_map]; exact hAs) q1 hcl hsum ⟨Nat.le_refl _, Nat.le_refl _⟩ goOn
      · have tkm : (ast.take (mN y + (1 - 1))).map (conc ad σ) = ((ast.take (mN y + (1 - 1))).reverse.map (conc ad σ)).reverse := by rw [List.map_reverse, List.reverse_reverse]
        rw [tkm]
        refine V_stat hi hy hct hd ?_ hsum ⟨Nat.le_refl _, Nat.le_refl _⟩ goOn
        rw [List.length_map, List.length_reverse, List.length_take]
        omega
theorem exB_ok {cuts : List (Nat × CUT)} {m0 : Option LF} {cal : CAL} {ih : ST → Option (List OUT)} {s : ST} {outs : List OUT} {σ : Nat → Int} {ws : va_W} (hAD : ∀ i : Nat, ad (1000 + i) = D.2 1000 i) (hcal : CALok l D tys A ad G mods w0 cal d) (h : exB G mods k cuts m0 cal ih s = some outs) (hσ : inE σ s.2.1) (hH : HK ad tys G mods w0 σ s.2.2.2.2 ws)
    (hp : ∀ o ∈ outs, ∀ (σ' : Nat → Int) (ws' : va_W), ext s.2.1.length σ σ' → s.2.1.length ≤ o.1.length → inE σ' o.1 → HK ad tys G mods w0 σ' o.2.2 ws' → post (o.2.1.map (conc ad σ')) ws')
    (key : ∀ s' a', atS cuts m0 ih s' = some a' → (∀ o ∈ a', o ∈ outs) → ∀ σ' ws', ext s.2.1.length σ σ' → s.2.1.length ≤ s'.2.1.length → inE σ' s'.2.1 → HK ad tys G mods w0 σ' s'.2.2.2.2 ws' → VS l D tys A k d post ad σ' s' ws') : VS l D tys A k d post ad σ s ws := by
  unfold exB at h
  cases hi : mI k s.1 with
  | mk op q =>
    obtain ⟨a, x, y, z⟩ := q
    rw [hi] at h
    dsimp only at h
    cases h26 : Nat.beq op 26 with
    | true =>
      rw [h26, cond_true] at h
      have e := Nat.eq_of_beq_eq_true h26
      subst e
      exact exC_ok hAD hcal hi h hσ hH key
    | false =>
      rw [h26, cond_false, stpF_eq] at h
      cases hs : stp G mods k s.1 (op, a, x, y, z) s.2.1 s.2.2.1 s.2.2.2.1 s.2.2.2.2 with
      | none =>
        rw [hs] at h
        dsimp only at h
        cases hs2 : stp2 G mods (op, a, x, y, z) s.1 s.2.1 s.2.2.1 s.2.2.2.1 s.2.2.2.2 with
        | none => rw [hs2] at h; cases h
        | some r =>
          rw [hs2] at h
          refine stp2_ok (post := post) hAD hi hs2 hσ hH ?_
          cases r with
          | inl o =>
            cases h
            exact fun σ' ws' e1 e2 e3 e4 => hp o (List.mem_singleton.mpr rfl) σ' ws' e1 e2 e3 e4
          | inr sts =>
            dsimp only at h
            intro s' hs' σ' ws' e1 e2 e3 e4
            obtain ⟨a', a1, a2⟩ := exL_mem h hs'
            exact key s' a' a1 a2 σ' ws' e1 e2 e3 e4
      | some r =>
        rw [hs] at h
        refine stp_ok (post := post) hi hs hσ hH ?_
        cases r with
        | inl o =>
          cases h
          exact fun σ' ws' e1 e2 e3 e4 => hp o (List.mem_singleton.mpr rfl) σ' ws' e1 e2 e3 e4
        | inr sts =>
          dsimp only at h
          intro s' hs' σ' ws' e1 e2 e3 e4
          obtain ⟨a', a1, a2⟩ := exL_mem h hs'
          exact key s' a' a1 a2 σ' ws' e1 e2 e3 e4
theorem exN_ok {cuts : List (Nat × CUT)} {m0 : Option LF} {cal : CAL} {B : Int → Prop} (hAD : ∀ i : Nat, ad (1000 + i) = D.2 1000 i) (hcal : CALok l D tys A ad G mods w0 cal d)
    (hcut : ∀ (pc : Nat) (C : CUT), (pc, C) ∈ cuts → ∀ (τ : Nat → Int) (ws : va_W), inE τ C.1 → HK ad tys G mods w0 τ C.2.2.2.1 ws → 0 ≤ ev τ C.2.2.2.2 → B (ev τ C.2.2.2.2) → V l D tys A k d 0 0 post 0 0 pc (C.2.1.map (cvp ad τ)) (C.2.2.1.map (conc ad τ)) ws) :
    ∀ (n : Nat) (s : ST) (outs : List OUT) (σ : Nat → Int) (ws : va_W), exN G mods k cuts m0 cal n s = some outs → inE σ s.2.1 → HK ad tys G mods w0 σ s.2.2.2.2 ws → MB m0 s.2.1.length σ B →
      (∀ o ∈ outs, ∀ (σ' : Nat → Int) (ws' : va_W), ext s.2.1.length σ σ' → s.2.1.length ≤ o.1.length → inE σ' o.1 → HK ad tys G mods w0 σ' o.2.2 ws' → post (o.2.1.map (conc ad σ')) ws') → VS l D tys A k d post ad σ s ws
  | 0, s, outs, σ, ws, h, _, _, _, _ => by cases h
  | n + 1, s, outs, σ, ws, h, hσ, hH, hM, hp => by
    have h : exL (exB G mods k cuts m0 cal (exN G mods k cuts m0 cal n)) (prpF G (mI k s.1) s) = some outs := h
    rw [prpF_eq] at h
    obtain ⟨t, ht, ρ, r1, r2, r3, r4, r5, r6, r7⟩ := prp_ok (xi := mI k s.1) σ ws hσ hH
    obtain ⟨a0, b1, b2⟩ := exL_mem h ht
    have hM2 := MB_ext hM r2 r1
    have key : ∀ s' a', atS cuts m0 (exN G mods k cuts m0 cal n) s' = some a' → (∀ o ∈ a', o ∈ a0) → ∀ σ' ws', ext t.2.1.length ρ σ' → t.2.1.length ≤ s'.2.1.length → inE σ' s'.2.1 → HK ad tys G mods w0 σ' s'.2.2.2.2 ws' → VS l D tys A k d post ad σ' s' ws' := by
      intro s' a' ha hsub σ' ws' he hle hσ' hH'
      unfold atS at ha
      have hM' := MB_ext hM2 hle he
      cases hk : anyCut m0 s' cuts with
      | true =>
        obtain ⟨C, hc, hk⟩ := anyCut_ok hk
        obtain ⟨τ, t1, t2, t3, t4, t5, t6⟩ := chkCut_ok hk hσ' hH'
        have K := hcut _ C hc τ ws' t1 t2 t5 (by
          rcases hM' with ⟨-, hB⟩ | ⟨q, q1, q2, q3⟩
          · exact hB _
          · exact q3 _ (t6 q q1))
        rw [t4] at K
        exact V_sub t3 K
      | false =>
        rw [hk] at ha
        have ha : exN G mods k cuts m0 cal n s' = some a' := ha
        refine exN_ok hAD hcal hcut n s' a' σ' ws' ha hσ' hH' hM' (fun o ho σ2 ws2 e1 e2 e3 e4 => ?_)
        exact hp o (b2 o (hsub o ho)) σ2 ws2 (ext_tr r2 r1 (ext_tr hle he e1)) (Nat.le_trans r2 (Nat.le_trans hle e2)) e3 e4
    have K := exB_ok hAD hcal b1 r3 r4 (fun o ho σ' ws' e1 e2 e3 e4 => hp o (b2 o ho) σ' ws' (ext_tr r2 r1 e1) (Nat.le_trans r2 e2) e3 e4) key
    unfold VS at K ⊢
    rw [r5, r6, r7] at K
    exact K
end RUO
