section SNG
variable {l : Launch} {D : va_G} {tys : List (ClassId × FieldType)} {A : Nat → Prop} {k d : Nat} {post : Option Value → va_W → Prop} {ad : Nat → Nat} {G : List GC} {mods : List Nat} {w0 : va_W}
variable {σ : Nat → Int} {E : EV} {als : AL} {ast : List AV} {ov : OV} {ws : va_W} {pc : Nat} {r : OUT ⊕ List ST}
/-- what a step leaves to be shown -/
noncomputable def GO (l : Launch) (D : va_G) (tys : List (ClassId × FieldType)) (A : Nat → Prop) (k d : Nat) (post : Option Value → va_W → Prop) (ad : Nat → Nat) (G : List GC) (mods : List Nat) (w0 : va_W) (n : Nat) (σ : Nat → Int) (r : OUT ⊕ List ST) : Prop := match r with
  | .inl o => ∀ (σ' : Nat → Int) (ws' : va_W), ext n σ σ' → n ≤ o.1.length → inE σ' o.1 → HK ad tys G mods w0 σ' o.2.2 ws' → post (o.2.1.map (conc ad σ')) ws'
  | .inr sts => KN l D tys A k d post ad G mods w0 n σ sts
theorem map_inr {o : Option (List ST)} (h : o.map (fun q => (Sum.inr q : OUT ⊕ List ST)) = some r) : ∃ sts, o = some sts ∧ r = .inr sts := by
  cases o with
  | none => cases h
  | some q => exact ⟨q, rfl, (Option.some.inj h).symm⟩
theorem ret_go {o : OUT} (hσ : inE σ o.1) (hH : HK ad tys G mods w0 σ o.2.2 ws) (kk : GO l D tys A k d post ad G mods w0 o.1.length σ (.inl o)) : post (o.2.1.map (conc ad σ)) ws := kk σ ws ext_rf (Nat.le_refl _) hσ hH
theorem stp_ok {xi : XI} (hx : mI k pc = xi) (h : stp G mods k pc xi E als ast ov = some r) (hσ : inE σ E) (hH : HK ad tys G mods w0 σ ov ws) (kk : GO l D tys A k d post ad G mods w0 E.length σ r) : V l D tys A k d 0 0 post 0 0 pc (als.map (cvp ad σ)) (ast.map (conc ad σ)) ws := by
  obtain ⟨op, a, x, y, z⟩ := xi
  unfold stp at h
  dsimp only at h
  cases c5 : Nat.beq op 5 with
  | true =>
    rw [c5, cond_true] at h
    have e := Nat.eq_of_beq_eq_true c5
    subst e
    cases h1 : lkA x als with
    | none => rw [h1] at h; cases h
    | some v =>
      rw [h1] at h
      dsimp only at h
      cases h2 : (Nat.beq v.1 2 || Nat.beq v.1 3) with
      | false => rw [h2] at h; cases h
      | true =>
        rw [h2] at h
        cases h
        have m := lk_in (ad := ad) (σ := σ) h1
        have K := one_ok (ws' := ws) kk hσ hH
        rw [Bool.or_eq_true] at h2
        rcases h2 with h2 | h2
        · rw [conc2 h2] at m
          rw [List.map_cons, conc2 h2] at K
          exact V_aload hx m K
        · rw [conc3 h2] at m
          rw [List.map_cons, conc3 h2] at K
          exact V_aloadN hx m K
  | false =>
  rw [c5, cond_false] at h
  cases c3 : Nat.beq op 3 with
  | true =>
    rw [c3, cond_true] at h
    have e := Nat.eq_of_beq_eq_true c3
    subst e
    cases h1 : lkA x als with
    | none => rw [h1] at h; cases h
    | some v =>
      rw [h1] at h
      dsimp only at h
      cases h2 : Nat.beq v.1 0 with
      | false => rw [h2] at h; cases h
      | true =>
        rw [h2] at h
        cases h
        have m := lk_in (ad := ad) (σ := σ) h1
        rw [conc0 h2] at m
        have K := one_ok (ws' := ws) kk hσ hH
        rw [List.map_cons, conc0 h2] at K
        exact V_iload hx m K
  | false =>
  rw [c3, cond_false] at h
  cases c17 : Nat.beq op 17 with
  | true =>
    rw [c17, cond_true] at h
    have e := Nat.eq_of_beq_eq_true c17
    subst e
    cases ast with
    | nil => cases h
    | cons v t =>
      dsimp only at h
      cases h1 : Nat.beq v.1 2 with
      | false => rw [h1] at h; cases h
      | true =>
        rw [h1, cond_true] at h
        cases h2 : G[v.2.1.1.toNat]? with
        | none => rw [h2] at h; cases h
        | some g =>
          rw [h2] at h
          dsimp only at h
          cases h3 : (Nat.beq g.1.1 0 && Nat.beq g.1.2.1 y && Nat.blt z g.1.2.2) with
          | false => rw [h3] at h; cases h
          | true =>
            rw [h3, cond_true] at h
            obtain ⟨sts, e1, rfl⟩ := map_inr h
            exact getf_ok hx h1 h2 h3 e1 hσ hH kk
  | false =>
  rw [c17, cond_false] at h
  cases c1 : Nat.beq op 1 with
  | true =>
    rw [c1, cond_true] at h
    have e := Nat.eq_of_beq_eq_true c1
    subst e
    cases h
    have K := one_ok (ws' := ws) kk hσ hH
    refine V_ipush hx ?_
    rw [List.map_cons, show conc ad σ (iA (lfC a)) = .int (Int32.ofInt a) by show Value.int (Int32.ofInt (ev σ (lfC a))) = _; rw [lfC_ev]] at K
    exact K
  | false =>
  rw [c1, cond_false] at h
  cases c10 : Nat.beq op 10 with
  | true =>
    rw [c10, cond_true] at h
    have e := Nat.eq_of_beq_eq_true c10
    subst e
    cases ast with
    | nil => cases h
    | cons v t0 =>
    cases t0 with
    | nil => cases h
    | cons u t =>
      dsimp only at h
      cases h1 : (Nat.beq u.1 0 && Nat.beq v.1 0) with
      | false => rw [h1] at h; cases h
      | true =>
        rw [h1, cond_true] at h
        rw [Bool.and_eq_true] at h1
        cases h2 : ibA x E u.2.1 v.2.1 with
        | none => rw [h2] at h; cases h
        | some w =>
          rw [h2] at h
          obtain ⟨sts, e1, rfl⟩ := map_inr h
          obtain ⟨b1, b2⟩ := ibA_ok hσ h2
          rw [List.map_cons, List.map_cons, conc0 h1.1, conc0 h1.2]
          exact V_ibin hx b1 (pushR_ok e1 hσ hH b2 kk)
  | false =>
  rw [c10, cond_false] at h
  cases c14 : Nat.beq op 14 with
  | true =>
    rw [c14, cond_true] at h
    have e := Nat.eq_of_beq_eq_true c14
    subst e
    cases ast with
    | nil => cases h
    | cons v t =>
      dsimp only at h
      cases h1 : cmpQ E v with
      | none => rw [h1] at h; cases h
      | some f =>
        rw [h1] at h
        cases h
        obtain ⟨u, e1, e2⟩ := cmpQ_ok (ad := ad) hσ h1
        rw [List.map_cons, e1]
        obtain ⟨k1, k2⟩ := br2_ok (ws := ws) hσ hH (e2 x) kk
        exact V_if hx k1 k2
  | false =>
  rw [c14, cond_false] at h
  cases c15 : Nat.beq op 15 with
  | true =>
    rw [c15, cond_true] at h
    have e := Nat.eq_of_beq_eq_true c15
    subst e
    cases ast with
    | nil => cases h
    | cons v t0 =>
    cases t0 with
    | nil => cases h
    | cons u t =>
      dsimp only at h
      cases h1 : cmpI E u v with
      | none => rw [h1] at h; cases h
      | some f =>
        rw [h1] at h
        cases h
        obtain ⟨p, q, e0, e1, e2⟩ := cmpI_ok (ad := ad) hσ h1
        rw [List.map_cons, List.map_cons, e0, e1]
        obtain ⟨k1, k2⟩ := br2_ok (ws := ws) hσ hH (e2 x) kk
        exact V_icmp hx k1 k2
  | false =>
  rw [c15, cond_false] at h
  cases c19 : Nat.beq op 19 with
  | true =>
    rw [c19, cond_true] at h
    have e := Nat.eq_of_beq_eq_true c19
    subst e
    obtain ⟨sts, e1, rfl⟩ := map_inr h
    exact aload_ok hx e1 hσ hH kk
  | false =>
  rw [c19, cond_false] at h
  cases c16 : Nat.beq op 16 with
  | true =>
    rw [c16, cond_true] at h
    have e := Nat.eq_of_beq_eq_true c16
    subst e
    cases h
    exact V_goto hx (one_ok kk hσ hH)
  | false =>
  rw [c16, cond_false] at h
  cases c6 : Nat.beq op 6 with
  | true =>
    rw [c6, cond_true] at h
    have e := Nat.eq_of_beq_eq_true c6
    subst e
    cases ast with
    | nil => cases h
    | cons v t =>
      dsimp only at h
      cases h1 : Nat.beq v.1 0 with
      | false => rw [h1] at h; cases h
      | true =>
        rw [h1] at h
        cases h
        have K := one_ok (ws' := ws) kk hσ hH
        rw [stA_map, conc0 h1] at K
        rw [List.map_cons, conc0 h1]
        exact V_istore hx K
  | false =>
  rw [c6, cond_false] at h
  cases c27 : Nat.beq op 27 with
  | true =>
    rw [c27, cond_true] at h
    have e := Nat.eq_of_beq_eq_true c27
    subst e
    cases x2 : Nat.beq x 2 with
    | true =>
      rw [x2, cond_true] at h
      have e := Nat.eq_of_beq_eq_true x2
      subst e
      cases ast with
      | nil => cases h; exact V_retV hx (ret_go (o := (E, none, ov)) hσ hH kk)
      | cons _ _ => cases h
    | false =>
      rw [x2, cond_false] at h
      cases ast with
      | nil => cases h
      | cons v t0 =>
      cases t0 with
      | cons _ _ => cases h
      | nil =>
        dsimp only at h
        cases x0 : Nat.beq x 0 with
        | true =>
          rw [x0, cond_true] at h
          have e := Nat.eq_of_beq_eq_true x0
          subst e
          cases h1 : iv E v.2.1 with
          | none => rw [h1] at h; cases h
          | some u =>
            rw [h1] at h
            dsimp only at h
            cases h2 : (Nat.beq v.1 0 && (!(isBol k) || (leI 0 u.1 && leI u.2 1))) with
            | false => rw [h2] at h; cases h
            | true =>
              rw [h2] at h
              cases h
              rw [Bool.and_eq_true, Bool.or_eq_true, Bool.and_eq_true, leI_iff, leI_iff] at h2
              have p := iv_ok hσ h1
              have P := ret_go (o := (E, some v, ov)) hσ hH kk
              have P : post (some (conc ad σ v)) ws := P
              rw [conc0 h2.1] at P
              show V _ _ _ _ _ _ _ _ _ _ _ _ _ [conc ad σ v] _
              rw [conc0 h2.1]
              refine V_retI hx (fun hb => ?_) P
              rcases h2.2 with q | q
              · unfold isBol at q
                rw [hb] at q
                exact absurd q (by decide)
              · exact (bool_nar (by omega) (by omega)).1
        | false =>
          rw [x0, cond_false] at h
          cases x1 : Nat.beq x 1 with
          | true =>
            rw [x1, cond_true] at h
            have e := Nat.eq_of_beq_eq_true x1
            subst e
            cases h1 : Nat.beq v.1 1 with
            | false => rw [h1] at h; cases h
            | true =>
              rw [h1] at h
              cases h
              have P := ret_go (o := (E, some v, ov)) hσ hH kk
              have P : post (some (conc ad σ v)) ws := P
              rw [conc1 h1] at P
              show V _ _ _ _ _ _ _ _ _ _ _ _ _ [conc ad σ v] _
              rw [conc1 h1]
              exact V_retL hx P
          | false =>
            rw [x1, cond_false] at h
            cases h1 : (Nat.beq v.1 2 || Nat.beq v.1 3) with
            | false => rw [h1] at h; cases h
            | true =>
              rw [h1] at h
              cases h
              have P := ret_go (o := (E, some v, ov)) hσ hH kk
              have P : post (some (conc ad σ v)) ws := P
              have hv : conc ad σ v = .null ∨ ∃ q, conc ad σ v = .ref q := by
                rw [Bool.or_eq_true] at h1
                rcases h1 with q | q
                · exact Or.inr ⟨_, conc2 q⟩
                · exact Or.inl (conc3 q)
              have t27 : ok27 k pc a x y z = true := by have t := tabOK k pc; rw [hx] at t; exact t
              unfold ok27 at t27
              rw [bif_f x0, bif_f x1, bif_f x2, Bool.and_eq_true] at t27
              exact V_ret (r := some (conc ad σ v)) (Or.inr (Or.inr (Or.inr ⟨_, _, rfl, hv, dec_of t27.1, of_decide_eq_true t27.2⟩))) P
  | false =>
  rw [c27, cond_false] at h
  cases c9 : Nat.beq op 9 with
  | true =>
    rw [c9, cond_true] at h
    have e := Nat.eq_of_beq_eq_true c9
    subst e
    cases h1 : lkA x als with
    | none => rw [h1] at h; cases h
    | some v =>
      rw [h1] at h
      dsimp only at h
      cases h2 : Nat.beq v.1 0 with
      | false => rw [h2] at h; cases h
      | true =>
        rw [h2, cond_true] at h
        have m := lk_in (ad := ad) (σ := σ) h1
        rw [conc0 h2] at m
        refine V_iinc hx m ?_
        have gm : gR σ (mkI E (lfAdd v.2.1 (lfC a))) (Int32.ofInt (ev σ v.2.1) + Int32.ofInt a) := mkI_ok hσ (by rw [lfAdd_ev, lfC_ev, Int32.ofInt_add])
        cases h3 : mkI E (lfAdd v.2.1 (lfC a)) with
        | inl f =>
          rw [h3] at h gm
          cases h
          have gm : _ = Int32.ofInt (ev σ f) := gm
          rw [gm]
          have K := one_ok (ws' := ws) kk hσ hH
          rw [stA_map] at K
          exact K
        | inr u =>
          rw [h3] at h gm
          dsimp only at h
          obtain ⟨w, gw, g1, g2⟩ := gm
          cases h4 : wfS E.length als ast ov with
          | false => rw [h4] at h; cases h
          | true =>
            rw [h4] at h
            cases h
            rw [gw]
            obtain ⟨e1, e2, e3⟩ := wfS_ok (ad := ad) h4 (up_ext (σ := σ) (z := w))
            have K : V l D tys A k d 0 0 post 0 0 (pc + 3) ((stA x (iA (lfS E.length)) als).map (cvp ad (upS σ E.length w))) (ast.map (conc ad (upS σ E.length w))) ws := kk _ (List.mem_singleton.mpr rfl) (upS σ E.length w) ws up_ext (by simp) (inE_push hσ g1 g2) ⟨hH.1, e3 _ hH.2.1, hH.2.2⟩
            rw [stA_map, e1, e2, show conc ad (upS σ E.length w) (iA (lfS E.length)) = .int (Int32.ofInt w) by show Value.int (Int32.ofInt (ev _ (lfS _))) = _; rw [lfS_ev, up_self]] at K
            exact K
  | false =>
  rw [c9, cond_false] at h
  cases c20 : Nat.beq op 20 with
  | true =>
    rw [c20, cond_true] at h
    have e := Nat.eq_of_beq_eq_true c20
    subst e
    obtain ⟨sts, e1, rfl⟩ := map_inr h
    exact astore_ok hx e1 hσ hH kk
  | false =>
  rw [c20, cond_false] at h
  cases c18 : Nat.beq op 18 with
  | true =>
    rw [c18, cond_true] at h
    have e := Nat.eq_of_beq_eq_true c18
    subst e
    cases ast with
    | nil => cases h
    | cons v t0 =>
    cases t0 with
    | nil => cases h
    | cons q t =>
      dsimp only at h
      cases h1 : Nat.beq q.1 2 with
      | false => rw [h1] at h; cases h
      | true =>
        rw [h1, cond_true] at h
        cases h2 : G[q.2.1.1.toNat]? with
        | none => rw [h2] at h; cases h
        | some g =>
          rw [h2] at h
          dsimp only at h
          cases h3 : (Nat.beq g.1.1 0 && Nat.beq g.1.2.1 y && Nat.blt z g.1.2.2 && memN q.2.1.1.toNat mods && nfin y z && !(Nat.beq q.2.1.1.toNat mnC && spX mods z)) with
          | false => rw [h3] at h; cases h
          | true =>
            rw [h3, cond_true] at h
            cases h4 : segAt g.2 z with
            | none => rw [h4] at h; cases h
            | some sp =>
              rw [h4] at h
              dsimp only at h
              cases h5 : (stOK E v sp && tyOK (clTy y z) sp) with
              | false => rw [h5] at h; cases h
              | true =>
                rw [h5] at h
                cases h
                exact putf_ok hx h1 h2 h3 h4 h5 hσ hH kk
  | false =>
  rw [c18, cond_false] at h
  cases c21 : Nat.beq op 21 with
  | true =>
    rw [c21, cond_true] at h
    have e := Nat.eq_of_beq_eq_true c21
    subst e
    cases ast with
    | nil => cases h
    | cons v t =>
      dsimp only at h
      cases h1 : Nat.beq v.1 2 with
      | false => rw [h1] at h; cases h
      | true =>
        rw [h1, cond_true] at h
        cases h2 : G[v.2.1.1.toNat]? with
        | none => rw [h2] at h; cases h
        | some g =>
          rw [h2] at h
          dsimp only at h
          cases h3 : Nat.blt 0 g.1.1 with
          | false => rw [h3] at h; cases h
          | true =>
            rw [h3] at h
            cases h
            obtain ⟨e, g1, g2, g3⟩ := hH.1 _ g h2
            have K := one_ok (ws' := ws) kk hσ hH
            rw [List.map_cons, show conc ad σ (iA (lfC (g.1.2.2 : Int))) = .int (Int32.ofNat g.1.2.2) by show Value.int (Int32.ofInt (ev σ (lfC _))) = _; rw [lfC_ev]; rfl] at K
            rw [List.map_cons, conc2 h1]
            obtain ⟨⟨kd, ty, n⟩, segs⟩ := g
            match kd, h3, g2 with
            | 0, h3, _ => cases h3
            | 1, _, g2 => obtain ⟨cA, f, rfl, q1, q2⟩ := g2; exact V_alen hx g1 q1 K
            | 2, _, g2 => obtain ⟨cA, f, rfl, q1⟩ := g2; exact V_alen hx g1 q1 K
            | kd + 3, _, g2 => obtain ⟨cA, f, rfl, q1⟩ := g2; exact V_alen hx g1 q1 K
  | false =>
  rw [c21, cond_false] at h
  cases c12 : Nat.beq op 12 with
  | true =>
    rw [c12, cond_true] at h
    have e := Nat.eq_of_beq_eq_true c12
    subst e
    cases ast with
    | nil => cases h
    | cons v t =>
      dsimp only at h
      cases x1 : Nat.beq x 1 with
      | true =>
        rw [x1, cond_true] at h
        have e := Nat.eq_of_beq_eq_true x1
        subst e
        cases h1 : Nat.beq v.1 0 with
        | false => rw [h1] at h; cases h
        | true =>
          rw [h1, cond_true] at h
          cases h2 : iv E v.2.1 with
          | none => rw [h2] at h; cases h
          | some u =>
            rw [h2] at h
            dsimp only at h
            cases h3 : inI u with
            | false => rw [h3] at h; cases h
            | true =>
              rw [h3] at h
              cases h
              have p := iv_ok hσ h2
              have q := inI_of h3
              have K := one_ok (ws' := ws) kk hσ hH
              rw [List.map_cons, show conc ad σ (lA v.2.1) = .long (Int32.ofInt (ev σ v.2.1)).toInt64 by
                show Value.long (Int64.ofInt (ev σ v.2.1)) = _
                rw [Int32.toInt64_ofInt (by show -2147483648 ≤ _; omega) (by show _ ≤ 2147483647; omega)]] at K
              rw [List.map_cons, conc0 h1]
              exact V_i2l hx K
      | false =>
        rw [x1, cond_false] at h
        cases h1 : Nat.beq v.1 (bif Nat.beq x 2 then 1 else 0) with
        | false => rw [h1] at h; cases h
        | true =>
          rw [h1, cond_true] at h
          cases h2 : unA x E v.2.1 with
          | none => rw [h2] at h; cases h
          | some w =>
            rw [h2] at h
            obtain ⟨sts, e1, rfl⟩ := map_inr h
            obtain ⟨u0, u2, u3, u4, u5⟩ := unA_ok hσ h2
            rw [List.map_cons]
            rcases u5 with rfl | rfl | rfl | rfl
            · rw [conc0 h1]; exact V_ineg hx (pushR_ok e1 hσ hH (u0 rfl) kk)
            · rw [conc1 h1]; exact V_l2i hx (pushR_ok e1 hσ hH (u2 rfl) kk)
            · rw [conc0 h1]; exact V_i2b hx (pushR_ok e1 hσ hH (u3 rfl) kk)
            · rw [conc0 h1]; exact V_i2s hx (pushR_ok e1 hσ hH (u4 rfl) kk)
  | false =>
  rw [c12, cond_false] at h
  cases c4 : Nat.beq op 4 with
  | true =>
    rw [c4, cond_true] at h
    have e := Nat.eq_of_beq_eq_true c4
    subst e
    cases h1 : lkA x als with
    | none => rw [h1] at h; cases h
    | some v =>
      rw [h1] at h
      dsimp only at h
      cases h2 : Nat.beq v.1 1 with
      | false => rw [h2] at h; cases h
      | true =>
        rw [h2] at h
        cases h
        have m := lk_in (ad := ad) (σ := σ) h1
        rw [conc1 h2] at m
        have K := one_ok (ws' := ws) kk hσ hH
        rw [List.map_cons, conc1 h2] at K
        exact V_lload hx m K
  | false =>
  rw [c4, cond_false] at h
  cases c7 : Nat.beq op 7 with
  | true =>
    rw [c7, cond_true] at h
    have e := Nat.eq_of_beq_eq_true c7
    subst e
    cases ast with
    | nil => cases h
    | cons v t =>
      dsimp only at h
      cases h1 : Nat.beq v.1 1 with
      | false => rw [h1] at h; cases h
      | true =>
        rw [h1] at h
        cases h
        have K := one_ok (ws' := ws) kk hσ hH
        rw [stA2_map, conc1 h1] at K
        rw [List.map_cons, conc1 h1]
        exact V_lstore hx K
  | false =>
  rw [c7, cond_false] at h
  cases c8 : Nat.beq op 8 with
  | true =>
    rw [c8, cond_true] at h
    have e := Nat.eq_of_beq_eq_true c8
    subst e
    cases ast with
    | nil => cases h
    | cons v t =>
      dsimp only at h
      cases h1 : (Nat.beq v.1 2 || Nat.beq v.1 3) with
      | false => rw [h1] at h; cases h
      | true =>
        rw [h1] at h
        cases h
        have K := one_ok (ws' := ws) kk hσ hH
        rw [Bool.or_eq_true] at h1
        rcases h1 with h1 | h1
        · rw [stA_map, conc2 h1] at K
          rw [List.map_cons, conc2 h1]
          exact V_astore hx K
        · rw [stA_map, conc3 h1] at K
          rw [List.map_cons, conc3 h1]
          exact V_astoreN hx K
  | false =>
  rw [c8, cond_false] at h
  cases c2 : Nat.beq op 2 with
  | true =>
    rw [c2, cond_true] at h
    have e := Nat.eq_of_beq_eq_true c2
    subst e
    cases h
    have K := one_ok (ws' := ws) kk hσ hH
    refine V_lpush hx ?_
    rw [List.map_cons, show conc ad σ (lA (lfC a)) = .long (Int64.ofInt a) by show Value.long (Int64.ofInt (ev σ (lfC a))) = _; rw [lfC_ev]] at K
    exact K
  | false =>
  rw [c2, cond_false] at h
  cases c11 : Nat.beq op 11 with
  | true =>
    rw [c11, cond_true] at h
    have e := Nat.eq_of_beq_eq_true c11
    subst e
    cases ast with
    | nil => cases h
    | cons v t0 =>
    cases t0 with
    | nil => cases h
    | cons u t =>
      dsimp only at h
      cases h1 : (Nat.beq u.1 1 && Nat.beq v.1 1) with
      | false => rw [h1] at h; cases h
      | true =>
        rw [h1, cond_true] at h
        rw [Bool.and_eq_true] at h1
        cases h2 : lbA x E u.2.1 v.2.1 with
        | none => rw [h2] at h; cases h
        | some w =>
          rw [h2] at h
          obtain ⟨sts, e1, rfl⟩ := map_inr h
          obtain ⟨b1, b2⟩ := lbA_ok hσ h2
          rw [List.map_cons, List.map_cons, conc1 h1.1, conc1 h1.2]
          exact V_lbin hx b1 (pushL_ok e1 hσ hH b2 kk)
  | false =>
  rw [c11, cond_false] at h
  cases c13 : Nat.beq op 13 with
  | true =>
    rw [c13, cond_true] at h
    have e := Nat.eq_of_beq_eq_true c13
    subst e
    cases ast with
    | nil => cases h
    | cons v t0 =>
    cases t0 with
    | nil => cases h
    | cons u t =>
      dsimp only at h
      cases h1 : (Nat.beq u.1 1 && Nat.beq v.1 1) with
      | false => rw [h1] at h; cases h
      | true =>
        rw [h1] at h
        cases h
        rw [Bool.and_eq_true] at h1
        have K := one_ok (ws' := ws) kk hσ hH
        rw [List.map_cons, List.map_cons, conc1 h1.1, conc1 h1.2]
        exact V_lcmp hx K
  | false =>
  rw [c13, cond_false] at h
  cases c22 : Nat.beq op 22 with
  | true =>
    rw [c22, cond_true] at h
    have e := Nat.eq_of_beq_eq_true c22
    subst e
    cases ast with
    | nil => cases h
    | cons v t =>
      dsimp only at h
      have cat : ∀ v : AV, Nat.beq v.1 1 = false → (conc ad σ v).category = 1 := fun v h => by
        have q := conc_cat (ad := ad) (σ := σ) v
        rw [h] at q
        rcases lv_cat (conc ad σ v) with c | c
        · exact c
        · rw [c] at q; exact absurd q (by decide)
      cases h1 : Nat.beq v.1 1 with
      | true => rw [h1] at h; cases h
      | false =>
        rw [h1, cond_false] at h
        cases x0 : Nat.beq x 0 with
        | true =>
          rw [x0] at h
          have e := Nat.eq_of_beq_eq_true x0
          subst e
          cases h
          exact V_dup hx (cat v h1) (one_ok (ast' := v :: v :: t) kk hσ hH)
        | false =>
          rw [x0, cond_false] at h
          cases x2 : Nat.beq x 2 with
          | true =>
            rw [x2] at h
            have e := Nat.eq_of_beq_eq_true x2
            subst e
            cases h
            exact V_pop hx (cat v h1) (one_ok kk hσ hH)
          | false =>
            rw [x2, cond_false] at h
            cases x1 : Nat.beq x 1 with
            | false => rw [x1] at h; cases h
            | true =>
              rw [x1, cond_true] at h
              have e := Nat.eq_of_beq_eq_true x1
              subst e
              cases t with
              | nil => cases h
              | cons w t2 =>
                dsimp only at h
                cases h2 : Nat.beq w.1 1 with
                | true => rw [h2] at h; cases h
                | false =>
                  rw [h2] at h
                  cases h
                  exact V_dup2 hx (cat v h1) (cat w h2) (one_ok (ast' := v :: w :: v :: w :: t2) kk hσ hH)
  | false =>
  rw [c22, cond_false] at h
  cases c25 : Nat.beq op 25 with
  | true =>
    rw [c25, cond_true] at h
    have e := Nat.eq_of_beq_eq_true c25
    subst e
    cases ast with
    | nil => cases h
    | cons v t0 =>
    cases t0 with
    | nil => cases h
    | cons u t =>
      dsimp only at h
      cases h1 : (Nat.beq v.1 0 && Nat.beq u.1 1) with
      | false => rw [h1] at h; cases h
      | true =>
        rw [h1, cond_true] at h
        rw [Bool.and_eq_true] at h1
        obtain ⟨sts, e1, rfl⟩ := map_inr h
        rw [List.map_cons, List.map_cons, conc0 h1.1, conc1 h1.2]
        exact V_lsh hx (pushL_ok e1 hσ hH (fullL_ok σ _) kk)
  | false =>
  rw [c25, cond_false] at h
  cases c28 : (Nat.beq op 28 || Nat.beq op 36) with
  | true =>
    rw [c28, cond_true] at h
    have hop : op = 28 ∨ op = 36 := by
      rw [Bool.or_eq_true] at c28
      exact c28.imp Nat.eq_of_beq_eq_true Nat.eq_of_beq_eq_true
    cases ast with
    | nil => cases h
    | cons v t =>
      dsimp only at h
      cases h1 : cmpQ E v with
      | none => rw [h1] at h; cases h
      | some f =>
        rw [h1] at h
        dsimp only at h
        cases h2 : Nat.beq v.1 0 with
        | false => rw [h2] at h; cases h
        | true =>
          rw [h2, cond_true] at h
          refine sw_ok hop hx h1 h2 hσ hH (fun d0 lo ts hm => ?_)
          rw [hm] at h
          cases h
          exact kk
  | false =>
  rw [c28, cond_false] at h
  cases c30 : Nat.beq op 30 with
  | true =>
    rw [c30, cond_true] at h
    have e := Nat.eq_of_beq_eq_true c30
    subst e
    cases ast with
    | nil => cases h
    | cons v t =>
      dsimp only at h
      cases x1 : Nat.beq x 1 with
      | false => rw [x1] at h; cases h
      | true =>
        rw [x1, cond_true] at h
        have e := Nat.eq_of_beq_eq_true x1
        subst e
        cases h1 : Nat.beq v.1 2 with
        | true =>
          rw [h1] at h
          cases h
          rw [List.map_cons, conc2 h1]
          exact V_nnR hx (one_ok kk hσ hH)
        | false =>
          rw [h1, cond_false] at h
          cases h2 : Nat.beq v.1 3 with
          | false => rw [h2] at h; cases h
          | true =>
            rw [h2] at h
            cases h
            rw [List.map_cons, conc3 h2]
            exact V_nnN hx (one_ok kk hσ hH)
  | false =>
  rw [c30, cond_false] at h
  cases c31 : Nat.beq op 31 with
  | true =>
    rw [c31, cond_true] at h
    have e := Nat.eq_of_beq_eq_true c31
    subst e
    cases h
    exact V_null hx (one_ok (ast' := nA :: ast) kk hσ hH)
  | false =>
  rw [c31, cond_false] at h
  cases h
end SNG
