section
section SNG
variable {l : Launch} {D : va_G} {tys : List (ClassId × FieldType)} {A : Nat → Prop} {k d : Nat} {post : Option Value → va_W → Prop} {ad : Nat → Nat} {G : List GC} {mods : List Nat} {w0 : va_W}
variable {σ : Nat → Int} {E : EV} {als : AL} {ast : List AV} {ov : OV} {ws : va_W} {pc : Nat} {r : OUT ⊕ List ST}
/-- what a step leaves to be shown -/
noncomputable def GO (l : Launch) (D : va_G) (tys : List (ClassId × FieldType)) (A : Nat → Prop) (k d : Nat) (post : Option Value → va_W → Prop) (ad : Nat → Nat) (G : List GC) (mods : List Nat) (w0 : va_W) (n : Nat) (σ : Nat → Int) (r : OUT ⊕ List ST) : Prop := match r with
  | .inl o => ∀ (σ' : Nat → Int) (ws' : va_W), ext n σ σ' → n ≤ o.1.length → inE σ' o.1 → HK ad tys G mods w0 σ' o.2.2 ws' → post (o.2.1.map (conc ad σ')) ws'
  | .inr sts => KN l D tys A k d post ad G mods w0 n σ sts
theorem map_inr {o : Option (List ST)} (h : o.map (fun q => (Sum.inr q : OUT ⊕ List ST)) = some r) : ∃ sts, o = some sts ∧ r = .inr sts := by
  cases o with
  | none => cases h
  | some q => exact ⟨q, rfl, (Option.some.inj h).symm⟩
theorem ret_go {o : OUT} (hσ : inE σ o.1) (hH : HK ad tys G mods w0 σ o.2.2 ws) (kk : GO l D tys A k d post ad G mods w0 o.1.length σ (.inl o)) : post (o.2.1.map (conc ad σ)) ws := kk σ ws ext_rf (Nat.le_refl _) hσ hH
theorem stp_ok {xi : XI} (hx : mI k pc = xi) (h : stp G mods k pc xi E als ast ov = some r) (hσ : inE σ E) (hH : HK ad tys G mods w0 σ ov ws) (kk : GO l D tys A k d post ad G mods w0 E.length σ r) : V l D tys A k d 0 0 post 0 0 pc (als.map (cvp ad σ)) (ast.map (conc ad σ)) ws := by
  obtain ⟨op, a, x, y, z⟩ := xi
  rw [← stpF_eq] at h
  unfold stpF at h
  cases c5 : Nat.beq op 5 with
  | true =>
    rw [c5, cond_true] at h
    unfold stp_b5 at h
    have e := Nat.eq_of_beq_eq_true c5
    subst e
    cases h1 : lkA x als with
    | none => rw [h1] at h; cases h
    | some v =>
      rw [h1] at h
      dsimp only at h
      cases h2 : (Nat.beq v.1 2 || Nat.beq v.1 3) with
      | false => rw [h2] at h; cases h
      | true =>
        rw [h2] at h
        cases h
        have m := lk_in (ad := ad) (σ := σ) h1
        have K := one_ok (ws' := ws) kk hσ hH
        rw [Bool.or_eq_true] at h2
        rcases h2 with h2 | h2
        · rw [conc2 h2] at m
          rw [List.map_cons, conc2 h2] at K
          exact V_aload hx m K
        · rw [conc3 h2] at m
          rw [List.map_cons, conc3 h2] at K
          exact V_aloadN hx m K
  | false =>
  rw [c5, cond_false] at h
  cases c3 : Nat.beq op 3 with
  | true =>
    rw [c3, cond_true] at h
    unfold stp_b3 at h
    have e := Nat.eq_of_beq_eq_true c3
    subst e
    cases h1 : lkA x als with
    | none => rw [h1] at h; cases h
    | some v =>
      rw [h1] at h
      dsimp only at h
      cases h2 : Nat.beq v.1 0 with
      | false => rw [h2] at h; cases h
      | true =>
        rw [h2] at h
        cases h
        have m := lk_in (ad := ad) (σ := σ) h1
        rw [conc0 h2] at m
        have K := one_ok (ws' := ws) kk hσ hH
        rw [List.map_cons, conc0 h2] at K
        exact V_iload hx m K
  | false =>
  rw [c3, cond_false] at h
  cases c17 : Nat.beq op 17 with
  | true =>
    rw [c17, cond_true] at h
    unfold stp_b17 at h
    have e := Nat.eq_of_beq_eq_true c17
    subst e
    cases ast with
    | nil => cases h
    | cons v t =>
      dsimp only at h
      cases h1 : Nat.beq v.1 2 with
      | false => rw [h1] at h; cases h
      | true =>
        rw [h1, cond_true] at h
        cases h2 : G[v.2.1.1.toNat]? with
        | none => rw [h2] at h; cases h
        | some g =>
          rw [h2] at h
          dsimp only at h
          cases h3 : (Nat.beq g.1.1 0 && Nat.beq g.1.2.1 y && Nat.blt z g.1.2.2) with
          | false => rw [h3] at h; cases h
          | true =>
            rw [h3, cond_true] at h
            obtain ⟨sts, e1, rfl⟩ := map_inr h
            exact getf_ok hx h1 h2 h3 e1 hσ hH kk
  | false =>
  rw [c17, cond_false] at h
  cases c1 : Nat.beq op 1 with
  | true =>
    rw [c1, cond_true] at h
    unfold stp_b1 at h
    have e := Nat.eq_of_beq_eq_true c1
    subst e
    cases h
    have K := one_ok (ws' := ws) kk hσ hH
    refine V_ipush hx ?_
    rw [List.map_cons, show conc ad σ (iA (lfC a)) = .int (Int32.ofInt a) by show Value.int (Int32.ofInt (ev σ (lfC a))) = _; rw [lfC_ev]] at K
    exact K
  | false =>
  rw [c1, cond_false] at h
  cases c10 : Nat.beq op 10 with
  | true =>
    rw [c10, cond_true] at h
    unfold stp_b10 at h
    have e := Nat.eq_of_beq_eq_true c10
    subst e
    cases ast with
    | nil => cases h
    | cons v t0 =>
    cases t0 with
    | nil => cases h
    | cons u t =>
      dsimp only at h
      cases h1 : (Nat.beq u.1 0 && Nat.beq v.1 0) with
      | false => rw [h1] at h; cases h
      | true =>
        rw [h1, cond_true] at h
        rw [Bool.and_eq_true] at h1
        cases h2 : ibA x E u.2.1 v.2.1 with
        | none => rw [h2] at h; cases h
        | some w =>
          rw [h2] at h
          obtain ⟨sts, e1, rfl⟩ := map_inr h
          obtain ⟨b1, b2⟩ := ibA_ok hσ h2
          rw [List.map_cons, List.map_cons, conc0 h1.1, conc0 h1.2]
          exact V_ibin hx b1 (pushR_ok e1 hσ hH b2 kk)
  | false =>
  rw [c10, cond_false] at h
  cases c14 : Nat.beq op 14 with
  | true =>
    rw [c14, cond_true] at h
    unfold stp_b14 at h
    have e := Nat.eq_of_beq_eq_true c14
    subst e
    cases ast with
    | nil => cases h
    | cons v t =>
      dsimp only at h
      cases h1 : cmpQ E v with
      | none => rw [h1] at h; cases h
      | some f =>
        rw [h1] at h
        cases h
        obtain ⟨u, e1, e2⟩ := cmpQ_ok (ad := ad) hσ h1
        rw [List.map_cons, e1]
        obtain ⟨k1, k2⟩ := br2_ok (ws := ws) hσ hH (e2 x) kk
        exact V_if hx k1 k2
  | false =>
  rw [c14, cond_false] at h
  cases c15 : Nat.beq op 15 with
  | true =>
    rw [c15, cond_true] at h
    unfold stp_b15 at h
    have e := Nat.eq_of_beq_eq_true c15
    subst e
    cases ast with
    | nil => cases h
    | cons v t0 =>
    cases t0 with
    | nil => cases h
    | cons u t =>
      dsimp only at h
      cases h1 : cmpI E u v with
      | none => rw [h1] at h; cases h
      | some f =>
        rw [h1] at h
        cases h
        obtain ⟨p, q, e0, e1, e2⟩ := cmpI_ok (ad := ad) hσ h1
        rw [List.map_cons, List.map_cons, e0, e1]
        obtain ⟨k1, k2⟩ := br2_ok (ws := ws) hσ hH (e2 x) kk
        exact V_icmp hx k1 k2
  | false =>
  rw [c15, cond_false] at h
  cases c19 : Nat.beq op 19 with
  | true =>
    rw [c19, cond_true] at h
    unfold stp_b19 at h
    have e := Nat.eq_of_beq_eq_true c19
    subst e
    obtain ⟨sts, e1, rfl⟩ := map_inr h
    exact aload_ok hx e1 hσ hH kk
  | false =>
  rw [c19, cond_false] at h
  cases c16 : Nat.beq op 16 with
  | true =>
    rw [c16, cond_true] at h
    unfold stp_b16 at h
    have e := Nat.eq_of_beq_eq_true c16
    subst e
    cases h
    exact V_goto hx (one_ok kk hσ hH)
  | false =>
  rw [c16, cond_false] at h
  cases c6 : Nat.beq op 6 with
  | true =>
    rw [c6, cond_true] at h
    unfold stp_b6 at h
    have e := Nat.eq_of_beq_eq_true c6
    subst e
    cases ast with
    | nil => cases h
    | cons v t =>
      dsimp only at h
      cases h1 : Nat.beq v.1 0 with
      | false => rw [h1] at h; cases h
      | true =>
        rw [h1] at h
        cases h
        have K := one_ok (ws' := ws) kk hσ hH
        rw [stA_map, conc0 h1] at K
        rw [List.map_cons, conc0 h1]
        exact V_istore hx K
  | false =>
  rw [c6, cond_false] at h
  unfold stp_r1 at h
  cases c27 : Nat.beq op 27 with
  | true =>
    rw [c27, cond_true] at h
    unfold stp_b27 at h
    have e := Nat.eq_of_beq_eq_true c27
    subst e
    cases x2 : Nat.beq x 2 with
    | true =>
      rw [x2, cond_true] at h
      have e := Nat.eq_of_beq_eq_true x2
      subst e
      cases ast with
      | nil => cases h; exact V_retV hx (ret_go (o := (E, none, ov)) hσ hH kk)
      | cons _ _ => cases h
    | false =>
      rw [x2, cond_false] at h
      cases ast with
      | nil => cases h
      | cons v t0 =>
      cases t0 with
      | cons _ _ => cases h
      | nil =>
        dsimp only at h
        cases x0 : Nat.beq x 0 with
        | true =>
          rw [x0, cond_true] at h
          have e := Nat.eq_of_beq_eq_true x0
          subst e
          cases h1 : iv E v.2.1 with
          | none => rw [h1] at h; cases h
          | some u =>
            rw [h1] at h
            dsimp only at h
            cases h2 : (Nat.beq v.1 0 && (!(isBol k) || (leI 0 u.1 && leI u.2 1))) with
            | false => rw [h2] at h; cases h
            | true =>
              rw [h2] at h
              cases h
              rw [Bool.and_eq_true, Bool.or_eq_true, Bool.and_eq_true, leI_iff, leI_iff] at h2
              have p := iv_ok hσ h1
              have P := ret_go (o := (E, some v, ov)) hσ hH kk
              have P : post (some (conc ad σ v)) ws := P
              rw [conc0 h2.1] at P
              show V _ _ _ _ _ _ _ _ _ _ _ _ _ [conc ad σ v] _
              rw [conc0 h2.1]
              refine V_retI hx (fun hb => ?_) P
              rcases h2.2 with q | q
              · unfold isBol at q
                rw [hb] at q
                exact absurd q (by decide)
              · exact (bool_nar (by omega) (by omega)).1
        | false =>
          rw [x0, cond_false] at h
          cases x1 : Nat.beq x 1 with
          | true =>
            rw [x1, cond_true] at h
            have e := Nat.eq_of_beq_eq_true x1
            subst e
            cases h1 : Nat.beq v.1 1 with
            | false => rw [h1] at h; cases h
            | true =>
              rw [h1] at h
              cases h
              have P := ret_go (o := (E, some v, ov)) hσ hH kk
              have P : post (some (conc ad σ v)) ws := P
              rw [conc1 h1] at P
              show V _ _ _ _ _ _ _ _ _ _ _ _ _ [conc ad σ v] _
              rw [conc1 h1]
              exact V_retL hx P
          | false =>
            rw [x1, cond_false] at h
            cases h1 : (Nat.beq v.1 2 || Nat.beq v.1 3) with
            | false => rw [h1] at h; cases h
            | true =>
              rw [h1] at h
              cases h
              have P := ret_go (o := (E, some v, ov)) hσ hH kk
              have P : post (some (conc ad σ v)) ws := P
              have hv : conc ad σ v = .null ∨ ∃ q, conc ad σ v = .ref q := by
                rw [Bool.or_eq_true] at h1
                rcases h1 with q | q
                · exact Or.inr ⟨_, conc2 q⟩
                · exact Or.inl (conc3 q)
              have t27 : ok27 k pc a x y z = true := by have t := tabOK k pc; rw [hx] at t; exact t
              unfold ok27 at t27
              rw [bif_f x0, bif_f x1, bif_f x2, Bool.and_eq_true] at t27
              exact V_ret (r := some (conc ad σ v)) (Or.inr (Or.inr (Or.inr ⟨_, _, rfl, hv, dec_of t27.1, of_decide_eq_true t27.2⟩))) P
  | false =>
  rw [c27, cond_false] at h
  cases c9 : Nat.beq op 9 with
  | true =>
    rw [c9, cond_true] at h
    unfold stp_b9 at h
    have e := Nat.eq_of_beq_eq_true c9
    subst e
    cases h1 : lkA x als with
    | none => rw [h1] at h; cases h
    | some v =>
      rw [h1] at h
      dsimp only at h
      cases h2 : Nat.beq v.1 0 with
      | false => rw [h2] at h; cases h
      | true =>
        rw [h2, cond_true] at h
        have m := lk_in (ad := ad) (σ := σ) h1
        rw [conc0 h2] at m
        refine V_iinc hx m ?_
        have gm : gR σ (mkI E (lfAdd v.2.1 (lfC a))) (Int32.ofInt (ev σ v.2.1) + Int32.ofInt a) := mkI_ok hσ (by rw [lfAdd_ev, lfC_ev, Int32.ofInt_add])
        cases h3 : mkI E (lfAdd v.2.1 (lfC a)) with
        | inl f =>
          rw [h3] at h gm
          cases h
          have gm : _ = Int32.ofInt (ev σ f) := gm
          rw [gm]
          have K := one_ok (ws' := ws) kk hσ hH
          rw [stA_map] at K
          exact K
        | inr u =>
          rw [h3] at h gm
          dsimp only at h
          obtain ⟨w, gw, g1, g2⟩ := gm
          cases h4 : wfS E.length als ast ov with
          | false => rw [h4] at h; cases h
          | true =>
            rw [h4] at h
            cases h
            rw [gw]
            obtain ⟨e1, e2, e3⟩ := wfS_ok (ad := ad) h4 (up_ext (σ := σ) (z := w))
            have K : V l D tys A k d 0 0 post 0 0 (pc + 3) ((stA x (iA (lfS E.length)) als).map (cvp ad (upS σ E.length w))) (ast.map (conc ad (upS σ E.length w))) ws := kk _ (List.mem_singleton.mpr rfl) (upS σ E.length w) ws up_ext (by simp) (inE_push hσ g1 g2) ⟨hH.1, e3 _ hH.2.1, hH.2.2⟩
            rw [stA_map, e1, e2, show conc ad (upS σ E.length w) (iA (lfS E.length)) = .int (Int32.ofInt w) by show Value.int (Int32.ofInt (ev _ (lfS _))) = _; rw [lfS_ev, up_self]] at K
            exact K
  | false =>
  rw [c9, cond_false] at h
  cases c20 : Nat.beq op 20 with
  | true =>
    rw [c20, cond_true] at h
    unfold stp_b20 at h
    have e := Nat.eq_of_beq_eq_true c20
    subst e
    obtain ⟨sts, e1, rfl⟩ := map_inr h
    exact astore_ok hx e1 hσ hH kk
  | false =>
  rw [c20, cond_false] at h
  cases c18 : Nat.beq op 18 with
  | true =>
    rw [c18, cond_true] at h
    unfold stp_b18 at h
    have e := Nat.eq_of_beq_eq_true c18
    subst e
    cases ast with
    | nil => cases h
    | cons v t0 =>
    cases t0 with
    | nil => cases h
    | cons q t =>
      dsimp only at h
      cases h1 : Nat.beq q.1 2 with
      | false => rw [h1] at h; cases h
      | true =>
        rw [h1, cond_true] at h
        cases h2 : G[q.2.1.1.toNat]? with
        | none => rw [h2] at h; cases h
        | some g =>
          rw [h2] at h
          dsimp only at h
          cases h3 : (Nat.beq g.1.1 0 && Nat.beq g.1.2.1 y && Nat.blt z g.1.2.2 && memN q.2.1.1.toNat mods && nfin y z && !(Nat.beq q.2.1.1.toNat mnC && spX mods z)) with
          | false => rw [h3] at h; cases h
          | true =>
            rw [h3, cond_true] at h
            cases h4 : segAt g.2 z with
            | none => rw [h4] at h; cases h
            | some sp =>
              rw [h4] at h
              dsimp only at h
              cases h5 : (stOK E v sp && tyOK (clTy y z) sp) with
              | false => rw [h5] at h; cases h
              | true =>
                rw [h5] at h
                cases h
                exact putf_ok hx h1 h2 h3 h4 h5 hσ hH kk
  | false =>
  rw [c18, cond_false] at h
  cases c21 : Nat.beq op 21 with
  | true =>
    rw [c21, cond_true] at h
    unfold stp_b21 at h
    have e := Nat.eq_of_beq_eq_true c21
    subst e
    cases ast with
    | nil => cases h
    | cons v t =>
      dsimp only at h
      cases h1 : Nat.beq v.1 2 with
      | false => rw [h1] at h; cases h
      | true =>
        rw [h1, cond_true] at h
        cases h2 : G[v.2.1.1.toNat]? with
        | none => rw [h2] at h; cases h
        | some g =>
          rw [h2] at h
          dsimp only at h
          cases h3 : Nat.blt 0 g.1.1 with
          | false => rw [h3] at h; cases h
          | true =>
            rw [h3] at h
            cases h
            obtain ⟨e, g1, g2, g3⟩ := hH.1 _ g h2
            have K := one_ok (ws' := ws) kk hσ hH
            rw [List.map_cons, show conc ad σ (iA (lfC (g.1.2.2 : Int))) = .int (Int32.ofNat g.1.2.2) by show Value.int (Int32.ofInt (ev σ (lfC _))) = _; rw [lfC_ev]; rfl] at K
            rw [List.map_cons, conc2 h1]
            obtain ⟨⟨kd, ty, n⟩, segs⟩ := g
            match kd, h3, g2 with
            | 0, h3, _ => cases h3
            | 1, _, g2 => obtain ⟨cA, f, rfl, q1, q2⟩ := g2; exact V_alen hx g1 q1 K
            | 2, _, g2 => obtain ⟨cA, f, rfl, q1⟩ := g2; exact V_alen hx g1 q1 K
            | kd + 3, _, g2 => obtain ⟨cA, f, rfl, q1⟩ := g2; exact V_alen hx g1 q1 K
  | false =>
  rw [c21, cond_false] at h
  cases c12 : Nat.beq op 12 with
  | true =>
    rw [c12, cond_true] at h
    unfold stp_b12 at h
    have e := Nat.eq_of_beq_eq_true c12
    subst e
    cases ast with
    | nil => cases h
    | cons v t =>
      dsimp only at h
      cases x1 : Nat.beq x 1 with
      | true =>
        rw [x1, cond_true] at h
        have e := Nat.eq_of_beq_eq_true x1
        subst e
        cases h1 : Nat.beq v.1 0 with
        | false => rw [h1] at h; cases h
        | true =>
          rw [h1, cond_true] at h
          cases h2 : iv E v.2.1 with
          | none => rw [h2] at h; cases h
          | some u =>
            rw [h2] at h
            dsimp only at h
            cases h3 : inI u with
            | false => rw [h3] at h; cases h
            | true =>
              rw [h3] at h
              cases h
              have p := iv_ok hσ h2
              have q := inI_of h3
              have K := one_ok (ws' := ws) kk hσ hH
              rw [List.map_cons, show conc ad σ (lA v.2.1) = .long (Int32.ofInt (ev σ v.2.1)).toInt64 by
                show Value.long (Int64.ofInt (ev σ v.2.1)) = _
                rw [Int32.toInt64_ofInt (by show -2147483648 ≤ _; omega) (by show _ ≤ 2147483647; omega)]] at K
              rw [List.map_cons, conc0 h1]
              exact V_i2l hx K
      | false =>
        rw [x1, cond_false] at h
        cases h1 : Nat.beq v.1 (bif Nat.beq x 2 then 1 else 0) with
        | false => rw [h1] at h; cases h
        | true =>
          rw [h1, cond_true] at h
          cases h2 : unA x E v.2.1 with
          | none => rw [h2] at h; cases h
          | some w =>
            rw [h2] at h
            obtain ⟨sts, e1, rfl⟩ := map_inr h
            obtain ⟨u0, u2, u3, u4, u5⟩ := unA_ok hσ h2
            rw [List.map_cons]
            rcases u5 with rfl | rfl | rfl | rfl
            · rw [conc0 h1]; exact V_ineg hx (pushR_ok e1 hσ hH (u0 rfl) kk)
            · rw [conc1 h1]; exact V_l2i hx (pushR_ok e1 hσ hH (u2 rfl) kk)
            · rw [conc0 h1]; exact V_i2b hx (pushR_ok e1 hσ hH (u3 rfl) kk)
            · rw [conc0 h1]; exact V_i2s hx (pushR_ok e1 hσ hH (u4 rfl) kk)
  | false =>
  rw [c12, cond_false] at h
  cases c4 : Nat.beq op 4 with
  | true =>
    rw [c4, cond_true] at h
    unfold stp_b4 at h
    have e := Nat.eq_of_beq_eq_true c4
    subst e
    cases h1 : lkA x als with
    | none => rw [h1] at h; cases h
    | some v =>
      rw [h1] at h
      dsimp only at h
      cases h2 : Nat.beq v.1 1 with
      | false => rw [h2] at h; cases h
      | true =>
        rw [h2] at h
        cases h
        have m := lk_in (ad := ad) (σ := σ) h1
        rw [conc1 h2] at m
        have K := one_ok (ws' := ws) kk hσ hH
        rw [List.map_cons, conc1 h2] at K
        exact V_lload hx m K
  | false =>
  rw [c4, cond_false] at h
  cases c7 : Nat.beq op 7 with
  | true =>
    rw [c7, cond_true] at h
    unfold stp_b7 at h
    have e := Nat.eq_of_beq_eq_true c7
    subst e
    cases ast with
    | nil => cases h
    | cons v t =>
      dsimp only at h
      cases h1 : Nat.beq v.1 1 with
      | false => rw [h1] at h; cases h
      | true =>
        rw [h1] at h
        cases h
        have K := one_ok (ws' := ws) kk hσ hH
        rw [stA2_map, conc1 h1] at K
        rw [List.map_cons, conc1 h1]
        exact V_lstore hx K
  | false =>
  rw [c7, cond_false] at h
  cases c8 : Nat.beq op 8 with
  | true =>
    rw [c8, cond_true] at h
    unfold stp_b8 at h
    have e := Nat.eq_of_beq_eq_true c8
    subst e
    cases ast with
    | nil => cases h
    | cons v t =>
      dsimp only at h
      cases h1 : (Nat.beq v.1 2 || Nat.beq v.1 3) with
      | false => rw [h1] at h; cases h
      | true =>
        rw [h1] at h
        cases h
        have K := one_ok (ws' := ws) kk hσ hH
        rw [Bool.or_eq_true] at h1
        rcases h1 with h1 | h1
        · rw [stA_map, conc2 h1] at K
          rw [List.map_cons, conc2 h1]
          exact V_astore hx K
        · rw [stA_map, conc3 h1] at K
          rw [List.map_cons, conc3 h1]
          exact V_astoreN hx K
  | false =>
  rw [c8, cond_false] at h
  unfold stp_r2 at h
  cases c2 : Nat.beq op 2 with
  | true =>
    rw [c2, cond_true] at h
    unfold stp_b2 at h
    have e := Nat.eq_of_beq_eq_true c2
    subst e
    cases h
    have K := one_ok (ws' := ws) kk hσ hH
    refine V_lpush hx ?_
    rw [List.map_cons, show conc ad σ (lA (lfC a)) = .long (Int64.ofInt a) by show Value.long (Int64.ofInt (ev σ (lfC a))) = _; rw [lfC_ev]] at K
    exact K
  | false =>
  rw [c2, cond_false] at h
  cases c11 : Nat.beq op 11 with
  | true =>
    rw [c11, cond_true] at h
    unfold stp_b11 at h
    have e := Nat.eq_of_beq_eq_true c11
    subst e
    cases ast with
    | nil => cases h
    | cons v t0 =>
    cases t0 with
    | nil => cases h
    | cons u t =>
      dsimp only at h
      cases h1 : (Nat.beq u.1 1 && Nat.beq v.1 1) with
      | false => rw [h1] at h; cases h
      | true =>
        rw [h1, cond_true] at h
        rw [Bool.and_eq_true] at h1
        cases h2 : lbA x E u.2.1 v.2.1 with
        | none => rw [h2] at h; cases h
        | some w =>
          rw [h2] at h
          obtain ⟨sts, e1, rfl⟩ := map_inr h
          obtain ⟨b1, b2⟩ := lbA_ok hσ h2
          rw [List.map_cons, List.map_cons, conc1 h1.1, conc1 h1.2]
          exact V_lbin hx b1 (pushL_ok e1 hσ hH b2 kk)
  | false =>
  rw [c11, cond_false] at h
  cases c13 : Nat.beq op 13 with
  | true =>
    rw [c13, cond_true] at h
    unfold stp_b13 at h
    have e := Nat.eq_of_beq_eq_true c13
    subst e
    cases ast with
    | nil => cases h
    | cons v t0 =>
    cases t0 with
    | nil => cases h
    | cons u t =>
      dsimp only at h
      cases h1 : (Nat.beq u.1 1 && Nat.beq v.1 1) with
      | false => rw [h1] at h; cases h
      | true =>
        rw [h1] at h
        cases h
        rw [Bool.and_eq_true] at h1
        have K := one_ok (ws' := ws) kk hσ hH
        rw [List.map_cons, List.map_cons, conc1 h1.1, conc1 h1.2]
        exact V_lcmp hx K
  | false =>
  rw [c13, cond_false] at h
  cases c22 : Nat.beq op 22 with
  | true =>
    rw [c22, cond_true] at h
    unfold stp_b22 at h
    have e := Nat.eq_of_beq_eq_true c22
    subst e
    cases ast with
    | nil => cases h
    | cons v t =>
      dsimp only at h
      have cat : ∀ v : AV, Nat.beq v.1 1 = false → (conc ad σ v).category = 1 := fun v h => by
        have q := conc_cat (ad := ad) (σ := σ) v
        rw [h] at q
        rcases lv_cat (conc ad σ v) with c | c
        · exact c
        · rw [c] at q; exact absurd q (by decide)
      cases h1 : Nat.beq v.1 1 with
      | true => rw [h1] at h; cases h
      | false =>
        rw [h1, cond_false] at h
        cases x0 : Nat.beq x 0 with
        | true =>
          rw [x0] at h
          have e := Nat.eq_of_beq_eq_true x0
          subst e
          cases h
          exact V_dup hx (cat v h1) (one_ok (ast' := v :: v :: t) kk hσ hH)
        | false =>
          rw [x0, cond_false] at h
          cases x2 : Nat.beq x 2 with
          | true =>
            rw [x2] at h
            have e := Nat.eq_of_beq_eq_true x2
            subst e
            cases h
            exact V_pop hx (cat v h1) (one_ok kk hσ hH)
          | false =>
            rw [x2, cond_false] at h
            cases x1 : Nat.beq x 1 with
            | false => rw [x1] at h; cases h
            | true =>
              rw [x1, cond_true] at h
              have e := Nat.eq_of_beq_eq_true x1
              subst e
              cases t with
              | nil => cases h
              | cons w t2 =>
                dsimp only at h
                cases h2 : Nat.beq w.1 1 with
                | true => rw [h2] at h; cases h
                | false =>
                  rw [h2] at h
                  cases h
                  exact V_dup2 hx (cat v h1) (cat w h2) (one_ok (ast' := v :: w :: v :: w :: t2) kk hσ hH)
  | false =>
  rw [c22, cond_false] at h
  cases c25 : Nat.beq op 25 with
  | true =>
    rw [c25, cond_true] at h
    unfold stp_b25 at h
    have e := Nat.eq_of_beq_eq_true c25
    subst e
    cases ast with
    | nil => cases h
    | cons v t0 =>
    cases t0 with
    | nil => cases h
    | cons u t =>
      dsimp only at h
      cases h1 : (Nat.beq v.1 0 && Nat.beq u.1 1) with
      | false => rw [h1] at h; cases h
      | true =>
        rw [h1, cond_true] at h
        rw [Bool.and_eq_true] at h1
        obtain ⟨sts, e1, rfl⟩ := map_inr h
        rw [List.map_cons, List.map_cons, conc0 h1.1, conc1 h1.2]
        exact V_lsh hx (pushL_ok e1 hσ hH (fullL_ok σ _) kk)
  | false =>
  rw [c25, cond_false] at h
  cases c28 : (Nat.beq op 28 || Nat.beq op 36) with
  | true =>
    rw [c28, cond_true] at h
    unfold stp_b28 at h
    have hop : op = 28 ∨ op = 36 := by
      rw [Bool.or_eq_true] at c28
      exact c28.imp Nat.eq_of_beq_eq_true Nat.eq_of_beq_eq_true
    cases ast with
    | nil => cases h
    | cons v t =>
      dsimp only at h
      cases h1 : cmpQ E v with
      | none => rw [h1] at h; cases h
      | some f =>
        rw [h1] at h
        dsimp only at h
        cases h2 : Nat.beq v.1 0 with
        | false => rw [h2] at h; cases h
        | true =>
          rw [h2, cond_true] at h
          refine sw_ok hop hx h1 h2 hσ hH (fun d0 lo ts hm => ?_)
          rw [hm] at h
          cases h
          exact kk
  | false =>
  rw [c28, cond_false] at h
  cases c30 : Nat.beq op 30 with
  | true =>
    rw [c30, cond_true] at h
    unfold stp_b30 at h
    have e := Nat.eq_of_beq_eq_true c30
    subst e
    cases ast with
    | nil => cases h
    | cons v t =>
      dsimp only at h
      cases x1 : Nat.beq x 1 with
      | false => rw [x1] at h; cases h
      | true =>
        rw [x1, cond_true] at h
        have e := Nat.eq_of_beq_eq_true x1
        subst e
        cases h1 : Nat.beq v.1 2 with
        | true =>
          rw [h1] at h
          cases h
          rw [List.map_cons, conc2 h1]
          exact V_nnR hx (one_ok kk hσ hH)
        | false =>
          rw [h1, cond_false] at h
          cases h2 : Nat.beq v.1 3 with
          | false => rw [h2] at h; cases h
          | true =>
            rw [h2] at h
            cases h
            rw [List.map_cons, conc3 h2]
            exact V_nnN hx (one_ok kk hσ hH)
  | false =>
  rw [c30, cond_false] at h
  cases c31 : Nat.beq op 31 with
  | true =>
    rw [c31, cond_true] at h
    unfold stp_b31 at h
    have e := Nat.eq_of_beq_eq_true c31
    subst e
    cases h
    exact V_null hx (one_ok (ast' := nA :: ast) kk hσ hH)
  | false =>
  rw [c31, cond_false] at h
  cases h
end SNG
end
section
/-! further steps: what lies outside the object's own cells, and the place that only grows -/
theorem xs_len : xsT.length = 24 := by decide +kernel
theorem xs_byt : xsT.all (fun q => q.2.2.2.all (fun b => decide (97 ≤ b.toInt) && decide (b.toInt ≤ 122))) = true := by decide +kernel
theorem xs_at {i : Nat} (h : i < 24) : ∃ q, xsT[i]? = some q := ⟨_, List.getElem?_eq_getElem (by rw [xs_len]; exact h)⟩
theorem xs_bd {i j : Nat} {q : String × Nat × String × List Int32} (hq : xsT[i]? = some q) (hj : j < q.2.2.2.length) : 97 ≤ (q.2.2.2.getD j 0).toInt ∧ (q.2.2.2.getD j 0).toInt ≤ 122 := by
  have h := List.all_eq_true.mp (List.all_eq_true.mp xs_byt q (List.mem_of_getElem? hq)) (q.2.2.2.getD j 0) (by rw [List.getD_eq_getElem?_getD, List.getElem?_eq_getElem hj]; exact List.getElem_mem hj)
  rw [Bool.and_eq_true, decide_eq_true_eq, decide_eq_true_eq] at h
  exact h
noncomputable def mono1 (E : EV) (ov : OV) (v : AV) : Bool := match ovAt mnC mnJ ov with
  | some o => Nat.beq o.1 0 && (match iv E o.2.1, iv E v.2.1, iv E (lfSub v.2.1 o.2.1) with
    | some u, some w, some r => inI u && inI w && leI 0 r.1
    | _, _, _ => false)
  | none => false
noncomputable def stp2 (G : List GC) (mods : List Nat) (xi : XI) (pc : Nat) (E : EV) (als : AL) (ast : List AV) (ov : OV) : Option (OUT ⊕ List ST) := match xi with
  | (op, a, x, y, z) =>
    bif Nat.beq op 23 then (bif Nat.beq y 0 then some (.inr [(pc + 3, E, als, iA (lfC 1) :: ast, ov)]) else some (.inr [(pc + 3, E, als, rA 1200 :: ast, ov), (pc + 3, E, als, nA :: ast, ov)]))
    else bif Nat.beq op 35 then some (.inr [(pc + 2, E, als, rA ((1000 + y : Nat) : Int) :: ast, ov)])
    else bif Nat.beq op 39 then (match ast with
      | r :: t => bif Nat.beq r.1 2 && (Nat.ble 1000 r.2.1.1.toNat && Nat.blt r.2.1.1.toNat 1024) then some (.inr [(pc + 3, E, als, (bif Nat.beq y 0 then rA ((r.2.1.1.toNat + 100 : Nat) : Int) else iA (lfC 0)) :: t, ov)]) else none
      | [] => none)
    else bif Nat.beq op 21 then (match ast with
      | r :: t => bif Nat.beq r.1 2 && Nat.ble 1100 r.2.1.1.toNat then (match xsT[r.2.1.1.toNat - 1100]? with
        | some q => some (.inr [(pc + 1, E, als, iA (lfC (q.2.2.2.length : Int)) :: t, ov)])
        | none => none) else none
      | [] => none)
    else bif Nat.beq op 19 then (match ast with
      | i :: r :: t => bif Nat.beq x 1 && (Nat.beq i.1 0 && (Nat.beq r.1 2 && Nat.ble 1100 r.2.1.1.toNat)) then (match xsT[r.2.1.1.toNat - 1100]?, iv E i.2.1 with
        | some q, some u => bif leI 0 u.1 && (leI (u.2 + 1) (q.2.2.2.length : Int) && inI u) then (pushR (.inr (97, 122)) (pc + 1) E als t ov).map .inr else none
        | _, _ => none) else none
      | _ => none)
    else bif Nat.beq op 38 then (match ast with
      | [v] => (match iv E v.2.1 with
        | some u => bif Nat.beq v.1 0 && (leI 0 u.1 && leI u.2 127) then some (.inl (E, some v, ov)) else none
        | none => none)
      | _ => none)
    else bif Nat.beq op 12 then (match ast with
      | v :: t => bif Nat.beq x 5 && Nat.beq v.1 0 then (match iv E v.2.1 with
        | some u => bif leI 0 u.1 && leI u.2 65535 then some (.inr [(pc + 1, E, als, v :: t, ov)]) else none
        | none => none) else none
      | [] => none)
    else bif Nat.beq op 22 then (match ast with
      | v :: u :: t => bif Nat.beq v.1 1 || Nat.beq u.1 1 then none else bif Nat.beq x 3 then some (.inr [(pc + 1, E, als, v :: u :: v :: t, ov)])
        else bif Nat.beq x 4 then (match t with
          | w :: t2 => bif Nat.beq w.1 1 then none else some (.inr [(pc + 1, E, als, v :: u :: w :: v :: t2, ov)])
          | [] => none) else none
      | _ => none)
    else bif Nat.beq op 18 then (match ast with
      | v :: r :: t => bif Nat.beq r.1 2 && (Nat.beq r.2.1.1.toNat mnC && (Nat.beq z mnJ && memN mnC mods)) then (match G[mnC]? with
        | some g => bif Nat.beq g.1.1 0 && Nat.beq g.1.2.1 y && Nat.blt mnJ g.1.2.2 && nfin y mnJ then (match segAt g.2 mnJ with
            | some sp => bif stOK E v sp && tyOK (clTy y mnJ) sp && (Nat.beq v.1 0 && mono1 E ov v) then some (.inr [(pc + 3, E, als, t, ((mnC, mnJ), v) :: ovDel mnC mnJ ov)]) else none
            | none => none) else none
        | none => none) else none
      | _ => none)
    else none
section SNX
variable {l : Launch} {D : va_G} {tys : List (ClassId × FieldType)} {A : Nat → Prop} {k d : Nat} {post : Option Value → va_W → Prop} {ad : Nat → Nat} {G : List GC} {mods : List Nat} {w0 : va_W}
variable {σ : Nat → Int} {E : EV} {als : AL} {ast : List AV} {ov : OV} {ws : va_W} {pc : Nat} {r : OUT ⊕ List ST}
theorem cat_ne {v : AV} (h : Nat.beq v.1 1 = false) : (conc ad σ v).category = 1 := by
  have q := conc_cat (ad := ad) (σ := σ) v
  rw [h] at q
  rcases lv_cat (conc ad σ v) with c | c
  · exact c
  · rw [c] at q; exact absurd q (by decide)
theorem small_char {z : Int} (h0 : 0 ≤ z) (h1 : z ≤ 127) : (Int32.ofInt z).toUInt32.toUInt16.toUInt32.toInt32 = Int32.ofInt z ∧ (Int32.ofInt z).toInt8.toInt32 = Int32.ofInt z := by
  have : ∀ n : Nat, n < 128 → (Int32.ofInt (n : Int)).toUInt32.toUInt16.toUInt32.toInt32 = Int32.ofInt (n : Int) ∧ (Int32.ofInt (n : Int)).toInt8.toInt32 = Int32.ofInt (n : Int) := by decide +kernel
  have h := this z.toNat (by omega)
  rw [Int.toNat_of_nonneg h0] at h
  exact h
theorem i2c_id {z : Int} (h0 : 0 ≤ z) (h1 : z ≤ 65535) : ((Int32.ofInt z).toUInt32 % 65536).toInt32 = Int32.ofInt z := by
  obtain ⟨n, rfl⟩ := Int.eq_ofNat_of_zero_le h0
  have hn : n < 65536 := by omega
  have e : (Int32.ofInt (n : Int)).toUInt32 = UInt32.ofNat n := rfl
  rw [e]
  have e2 : UInt32.ofNat n % 65536 = UInt32.ofNat n := by
    apply UInt32.toNat_inj.mp
    rw [UInt32.toNat_mod]
    simp only [UInt32.toNat_ofNat']
    show n % 4294967296 % 65536 = n % 4294967296
    omega
  rw [e2]
  rfl
theorem stp2_ok (hAD : ∀ i : Nat, ad (1000 + i) = D.2 1000 i) {xi : XI} (hx : mI k pc = xi) (h : stp2 G mods xi pc E als ast ov = some r) (hσ : inE σ E) (hH : HK ad tys G mods w0 σ ov ws) (kk : GO l D tys A k d post ad G mods w0 E.length σ r) : V l D tys A k d 0 0 post 0 0 pc (als.map (cvp ad σ)) (ast.map (conc ad σ)) ws := by
  obtain ⟨op, a, x, y, z⟩ := xi
  unfold stp2 at h
  dsimp only at h
  have hAE : ∀ c : Nat, 1000 ≤ c → ad c = D.2 1000 (c - 1000) := fun c hc => by
    have q := hAD (c - 1000)
    rw [show 1000 + (c - 1000) = c by omega] at q
    exact q
  cases c23 : Nat.beq op 23 with
  | true =>
    rw [c23, cond_true] at h
    have e := Nat.eq_of_beq_eq_true c23
    subst e
    cases y0 : Nat.beq y 0 with
    | true =>
      rw [y0, cond_true] at h
      have ey := Nat.eq_of_beq_eq_true y0
      cases h
      have K := one_ok (ws' := ws) kk hσ hH
      rw [List.map_cons, show conc ad σ (iA (lfC 1)) = .int 1 by show Value.int (Int32.ofInt (ev σ (lfC 1))) = _; rw [lfC_ev]; rfl] at K
      exact V_gets hx (fun _ => K) (fun hy => absurd ey hy) (fun hy => absurd ey hy)
    | false =>
      rw [y0, cond_false] at h
      cases h
      have K1 : V l D tys A k d 0 0 post 0 0 (pc + 3) (als.map (cvp ad σ)) (conc ad σ (rA 1200) :: ast.map (conc ad σ)) ws := kk _ List.mem_cons_self σ ws ext_rf (Nat.le_refl _) hσ hH
      have K2 : V l D tys A k d 0 0 post 0 0 (pc + 3) (als.map (cvp ad σ)) (conc ad σ nA :: ast.map (conc ad σ)) ws := kk _ (List.mem_cons_of_mem _ List.mem_cons_self) σ ws ext_rf (Nat.le_refl _) hσ hH
      rw [show conc ad σ (rA 1200) = .ref (D.2 1000 200) by rw [← hAD]; rfl] at K1
      exact V_gets hx (fun hy => absurd (show Nat.beq y 0 = true by rw [hy]; rfl) (by rw [y0]; exact Bool.false_ne_true)) (fun _ => K1) (fun _ => K2)
  | false =>
  rw [c23, cond_false] at h
  cases c35 : Nat.beq op 35 with
  | true =>
    rw [c35, cond_true] at h
    have e := Nat.eq_of_beq_eq_true c35
    subst e
    cases h
    have K := one_ok (ws' := ws) kk hσ hH
    rw [List.map_cons, show conc ad σ (rA ((1000 + y : Nat) : Int)) = .ref (D.2 1000 y) by rw [← hAD]; rfl] at K
    exact V_ldcS hx K
  | false =>
  rw [c35, cond_false] at h
  cases c39 : Nat.beq op 39 with
  | true =>
    rw [c39, cond_true] at h
    have e := Nat.eq_of_beq_eq_true c39
    subst e
    cases ast with
    | nil => cases h
    | cons q t =>
      dsimp only at h
      cases h1 : (Nat.beq q.1 2 && (Nat.ble 1000 q.2.1.1.toNat && Nat.blt q.2.1.1.toNat 1024)) with
      | false => rw [h1] at h; cases h
      | true =>
        rw [h1] at h
        cases h
        rw [Bool.and_eq_true, Bool.and_eq_true] at h1
        obtain ⟨b1, b2, b3⟩ := h1
        have b2 := Nat.le_of_ble_eq_true b2
        have b3 := Nat.blt_eq.mp b3
        obtain ⟨w, hw⟩ := xs_at (i := q.2.1.1.toNat - 1000) (by omega)
        have K := one_ok (ws' := ws) kk hσ hH
        rw [List.map_cons] at K
        rw [List.map_cons, conc2 b1, hAE _ b2]
        refine V_getX hx hw (fun hy => ?_) (fun hy => ?_)
        · subst hy
          have K : V l D tys A k d 0 0 post 0 0 (pc + 3) (als.map (cvp ad σ)) (conc ad σ (rA ((q.2.1.1.toNat + 100 : Nat) : Int)) :: t.map (conc ad σ)) ws := K
          rw [show conc ad σ (rA ((q.2.1.1.toNat + 100 : Nat) : Int)) = .ref (D.2 1000 (100 + (q.2.1.1.toNat - 1000))) by
            show Value.ref (ad (q.2.1.1.toNat + 100)) = _
            rw [hAE _ (by omega), show q.2.1.1.toNat + 100 - 1000 = 100 + (q.2.1.1.toNat - 1000) by omega]] at K
          exact K
        · rw [bif_f (by cases hb : Nat.beq y 0 with | false => rfl | true => exact absurd (Nat.eq_of_beq_eq_true hb) hy)] at K
          rw [show conc ad σ (iA (lfC 0)) = .int 0 by show Value.int (Int32.ofInt (ev σ (lfC 0))) = _; rw [lfC_ev]; rfl] at K
          exact K
  | false =>
  rw [c39, cond_false] at h
  cases c21 : Nat.beq op 21 with
  | true =>
    rw [c21, cond_true] at h
    have e := Nat.eq_of_beq_eq_true c21
    subst e
    cases ast with
    | nil => cases h
    | cons q t =>
      dsimp only at h
      cases h1 : (Nat.beq q.1 2 && Nat.ble 1100 q.2.1.1.toNat) with
      | false => rw [h1] at h; cases h
      | true =>
        rw [h1, cond_true] at h
        rw [Bool.and_eq_true] at h1
        have b2 := Nat.le_of_ble_eq_true h1.2
        cases hw : xsT[q.2.1.1.toNat - 1100]? with
        | none => rw [hw] at h; cases h
        | some w =>
          rw [hw] at h
          cases h
          have K := one_ok (ws' := ws) kk hσ hH
          rw [List.map_cons, show conc ad σ (iA (lfC (w.2.2.2.length : Int))) = .int (Int32.ofNat w.2.2.2.length) by show Value.int (Int32.ofInt (ev σ (lfC _))) = _; rw [lfC_ev]; rfl] at K
          rw [List.map_cons, conc2 h1.1, hAE _ (by omega), show q.2.1.1.toNat - 1000 = 100 + (q.2.1.1.toNat - 1100) by omega]
          exact V_lenX hx hw K
  | false =>
  rw [c21, cond_false] at h
  cases c19 : Nat.beq op 19 with
  | true =>
    rw [c19, cond_true] at h
    have e := Nat.eq_of_beq_eq_true c19
    subst e
    cases ast with
    | nil => cases h
    | cons i t0 =>
    cases t0 with
    | nil => cases h
    | cons q t =>
      dsimp only at h
      cases h1 : (Nat.beq x 1 && (Nat.beq i.1 0 && (Nat.beq q.1 2 && Nat.ble 1100 q.2.1.1.toNat))) with
      | false => rw [h1] at h; cases h
      | true =>
        rw [h1, cond_true] at h
        rw [Bool.and_eq_true, Bool.and_eq_true, Bool.and_eq_true] at h1
        obtain ⟨b1, b2, b3, b4⟩ := h1
        have b1 := Nat.eq_of_beq_eq_true b1
        have b4 := Nat.le_of_ble_eq_true b4
        subst b1
        cases hw : xsT[q.2.1.1.toNat - 1100]? with
        | none => rw [hw] at h; cases h
        | some w =>
          cases hu : iv E i.2.1 with
          | none => rw [hw, hu] at h; cases h
          | some u =>
            rw [hw, hu] at h
            dsimp only at h
            cases h2 : (leI 0 u.1 && (leI (u.2 + 1) (w.2.2.2.length : Int) && inI u)) with
            | false => rw [h2] at h; cases h
            | true =>
              rw [h2, cond_true] at h
              rw [Bool.and_eq_true, Bool.and_eq_true, leI_iff, leI_iff] at h2
              obtain ⟨g1, g2, g3⟩ := h2
              have g3 := inI_of g3
              have p := iv_ok hσ hu
              obtain ⟨sts, e1, rfl⟩ := map_inr h
              obtain ⟨j1, j2⟩ := idx_ok (z := ev σ i.2.1) (n := w.2.2.2.length) (by omega) (by omega) (by omega)
              rw [List.map_cons, List.map_cons, conc0 b2, conc2 b3, hAE _ (by omega), show q.2.1.1.toNat - 1000 = 100 + (q.2.1.1.toNat - 1100) by omega]
              have bd := xs_bd (j := (Int32.ofInt (ev σ i.2.1)).toNatClampNeg) hw (by rw [j2]; omega)
              exact V_bldX hx hw j1 (pushR_ok e1 hσ hH ⟨(w.2.2.2.getD (Int32.ofInt (ev σ i.2.1)).toNatClampNeg 0).toInt, by rw [Int32.ofInt_toInt], bd.1, bd.2⟩ kk)
  | false =>
  rw [c19, cond_false] at h
  cases c38 : Nat.beq op 38 with
  | true =>
    rw [c38, cond_true] at h
    have e := Nat.eq_of_beq_eq_true c38
    subst e
    cases ast with
    | nil => cases h
    | cons v t =>
    cases t with
    | cons _ _ => cases h
    | nil =>
      dsimp only at h
      cases hu : iv E v.2.1 with
      | none => rw [hu] at h; cases h
      | some u =>
        rw [hu] at h
        dsimp only at h
        cases h1 : (Nat.beq v.1 0 && (leI 0 u.1 && leI u.2 127)) with
        | false => rw [h1] at h; cases h
        | true =>
          rw [h1] at h
          cases h
          rw [Bool.and_eq_true, Bool.and_eq_true, leI_iff, leI_iff] at h1
          have p := iv_ok hσ hu
          have R := ret_go (o := (E, some v, ov)) hσ hH kk
          obtain ⟨s1, s2⟩ := small_char (z := ev σ v.2.1) (by omega) (by omega)
          have R : post (some (conc ad σ v)) ws := R
          rw [conc0 h1.1] at R
          rw [List.map_cons, List.map_nil, conc0 h1.1]
          exact V_retX hx s1 s2 R
  | false =>
  rw [c38, cond_false] at h
  cases c12 : Nat.beq op 12 with
  | true =>
    rw [c12, cond_true] at h
    have e := Nat.eq_of_beq_eq_true c12
    subst e
    cases ast with
    | nil => cases h
    | cons v t =>
      dsimp only at h
      cases h1 : (Nat.beq x 5 && Nat.beq v.1 0) with
      | false => rw [h1] at h; cases h
      | true =>
        rw [h1, cond_true] at h
        rw [Bool.and_eq_true] at h1
        have b1 := Nat.eq_of_beq_eq_true h1.1
        subst b1
        cases hu : iv E v.2.1 with
        | none => rw [hu] at h; cases h
        | some u =>
          rw [hu] at h
          dsimp only at h
          cases h2 : (leI 0 u.1 && leI u.2 65535) with
          | false => rw [h2] at h; cases h
          | true =>
            rw [h2] at h
            cases h
            rw [Bool.and_eq_true, leI_iff, leI_iff] at h2
            have p := iv_ok hσ hu
            have K := one_ok (ws' := ws) kk hσ hH
            rw [List.map_cons, conc0 h1.2] at K
            rw [List.map_cons, conc0 h1.2]
            refine V_i2c hx ?_
            rw [i2c_id (by omega) (by omega)]
            exact K
  | false =>
  rw [c12, cond_false] at h
  cases c22 : Nat.beq op 22 with
  | true =>
    rw [c22, cond_true] at h
    have e := Nat.eq_of_beq_eq_true c22
    subst e
    cases ast with
    | nil => cases h
    | cons v t0 =>
    cases t0 with
    | nil => cases h
    | cons u t =>
      dsimp only at h
      cases h1 : (Nat.beq v.1 1 || Nat.beq u.1 1) with
      | true => rw [h1] at h; cases h
      | false =>
        rw [h1, cond_false] at h
        rw [Bool.or_eq_false_iff] at h1
        cases x3 : Nat.beq x 3 with
        | true =>
          rw [x3] at h
          have e := Nat.eq_of_beq_eq_true x3
          subst e
          cases h
          exact V_dupx1 hx (cat_ne h1.1) (cat_ne h1.2) (one_ok (ast' := v :: u :: v :: t) kk hσ hH)
        | false =>
          rw [x3, cond_false] at h
          cases x4 : Nat.beq x 4 with
          | false => rw [x4] at h; cases h
          | true =>
            rw [x4, cond_true] at h
            have e := Nat.eq_of_beq_eq_true x4
            subst e
            cases t with
            | nil => cases h
            | cons w t2 =>
              dsimp only at h
              cases h2 : Nat.beq w.1 1 with
              | true => rw [h2] at h; cases h
              | false =>
                rw [h2] at h
                cases h
                exact V_dupx2 hx (cat_ne h1.1) (cat_ne h1.2) (cat_ne h2) (one_ok (ast' := v :: u :: w :: v :: t2) kk hσ hH)
  | false =>
  rw [c22, cond_false] at h
  cases c18 : Nat.beq op 18 with
  | false => rw [c18] at h; cases h
  | true =>
    rw [c18, cond_true] at h
    have e := Nat.eq_of_beq_eq_true c18
    subst e
    cases ast with
    | nil => cases h
    | cons v t0 =>
    cases t0 with
    | nil => cases h
    | cons q t =>
      dsimp only at h
      cases h1 : (Nat.beq q.1 2 && (Nat.beq q.2.1.1.toNat mnC && (Nat.beq z mnJ && memN mnC mods))) with
      | false => rw [h1] at h; cases h
      | true =>
        rw [h1, cond_true] at h
        rw [Bool.and_eq_true, Bool.and_eq_true, Bool.and_eq_true] at h1
        obtain ⟨a1, a2, a3, a4⟩ := h1
        have a2 := Nat.eq_of_beq_eq_true a2
        have a3 := Nat.eq_of_beq_eq_true a3
        have a4 := memN_in a4
        subst a3
        cases h2 : G[mnC]? with
        | none => rw [h2] at h; cases h
        | some g =>
          rw [h2] at h
          dsimp only at h
          cases h3 : (Nat.beq g.1.1 0 && Nat.beq g.1.2.1 y && Nat.blt mnJ g.1.2.2 && nfin y mnJ) with
          | false => rw [h3] at h; cases h
          | true =>
            rw [h3, cond_true] at h
            rw [Bool.and_eq_true, Bool.and_eq_true, Bool.and_eq_true] at h3
            obtain ⟨⟨⟨b1, b2⟩, b3⟩, b5⟩ := h3
            replace b1 := Nat.eq_of_beq_eq_true b1
            replace b2 := Nat.eq_of_beq_eq_true b2
            replace b3 := Nat.blt_eq.mp b3
            cases h4 : segAt g.2 mnJ with
            | none => rw [h4] at h; cases h
            | some sp =>
              rw [h4] at h
              dsimp only at h
              cases h5 : (stOK E v sp && tyOK (clTy y mnJ) sp && (Nat.beq v.1 0 && mono1 E ov v)) with
              | false => rw [h5] at h; cases h
              | true =>
                rw [h5] at h
                cases h
                rw [Bool.and_eq_true, Bool.and_eq_true, Bool.and_eq_true] at h5
                obtain ⟨⟨s1, s2⟩, s3, s4⟩ := h5
                obtain ⟨o1, o2, o3, o4, o5⟩ := stOK_ok (ad := ad) s1 hσ
                obtain ⟨n1, n2⟩ := tyOK_ok (ad := ad) (v := v) s2 o2 o4 o5
                unfold mono1 at s4
                cases hov : ovAt mnC mnJ ov with
                | none => rw [hov] at s4; cases s4
                | some o =>
                  rw [hov] at s4
                  dsimp only at s4
                  rw [Bool.and_eq_true] at s4
                  obtain ⟨s4, s5⟩ := s4
                  have rdo := hH.2.1 _ (ovAt_mem hov)
                  rw [conc0 s4] at rdo
                  cases u1 : iv E o.2.1 with
                  | none => rw [u1] at s5; cases s5
                  | some u =>
                  cases u2 : iv E v.2.1 with
                  | none => rw [u1, u2] at s5; cases s5
                  | some w =>
                  cases u3 : iv E (lfSub v.2.1 o.2.1) with
                  | none => rw [u1, u2, u3] at s5; cases s5
                  | some rr =>
                  rw [u1, u2, u3] at s5
                  dsimp only at s5
                  rw [Bool.and_eq_true, Bool.and_eq_true, leI_iff] at s5
                  have p1 := iv_ok hσ u1
                  have p2 := iv_ok hσ u2
                  have p3 := iv_ok hσ u3
                  rw [lfSub_ev] at p3
                  have i1 := inI_of s5.1.1
                  have i2 := inI_of s5.1.2
                  have hle : (Int32.ofInt (ev σ o.2.1)).toInt ≤ (Int32.ofInt (ev σ v.2.1)).toInt := by
                    rw [Int32.toInt_ofInt_of_le (by omega) (by omega), Int32.toInt_ofInt_of_le (by omega) (by omega)]
                    omega
                  obtain ⟨e, g1, g2, g3⟩ := hH.1 _ g h2
                  obtain ⟨⟨kd, ty, n⟩, segs⟩ := g
                  dsimp only at b1 b2 b3
                  subst b1; subst b2
                  obtain ⟨fs, rfl, hl⟩ := g2
                  have hn : mnJ < fs.length := by rw [hl]; exact b3
                  rw [List.map_cons, List.map_cons, conc2 a1, a2]
                  refine V_put hx g1 hn (fun C T N hc => ?_) n1 n2 ?_
                  · unfold nfin at b5
                    rw [hc] at b5
                    simpa using b5
                  · obtain ⟨z1, z2⟩ := GOK_upd (e' := .inr (ty, fs.set mnJ (conc ad σ v))) hH.1 h2 g1 ⟨_, rfl, by rw [List.length_set]; exact hl⟩ (rdE_obj hn _) h4 o1
                    refine one_ok kk hσ ⟨z1, OV_put hH.2.1 z2, ?_⟩
                    rw [conc0 s3] at z2
                    rw [conc0 s3]
                    exact FRm_updM hH.2.2 z2 a4 rdo hle
end SNX
end
section
/-! ahead of a step: long forms are named anew, a state is parted by what a number may be -/
noncomputable def mulT (v : AV) : Bool := Nat.ble v.1 1 && (match v.2.1.2 with | _ :: _ :: _ => true | _ => false)
noncomputable def cmA (E : EV) (v : AV) : EV × AV := bif mulT v then (match iv E v.2.1 with | some u => (E ++ [u], (v.1, lfS E.length, lf0)) | none => (E, v)) else (E, v)
noncomputable def cmL : EV → List AV → EV × List AV
  | E, [] => (E, [])
  | E, v :: t => ((cmL (cmA E v).1 t).1, (cmA E v).2 :: (cmL (cmA E v).1 t).2)
noncomputable def cov : List (Int × Int) → Int → Int → Bool
  | [], a, b => leI (b + 1) a
  | p :: t, a, b => leI p.1 a && cov t (maxI a (p.2 + 1)) b
theorem cov_ok : ∀ {pts : List (Int × Int)} {a b z : Int}, cov pts a b = true → a ≤ z → z ≤ b → ∃ p ∈ pts, p.1 ≤ z ∧ z ≤ p.2
  | [], a, b, z, h, h1, h2 => by have h := leI_iff.mp h; omega
  | p :: t, a, b, z, h, h1, h2 => by
    unfold cov at h
    rw [Bool.and_eq_true, leI_iff] at h
    by_cases hz : z ≤ p.2
    · exact ⟨p, List.mem_cons_self, by omega, hz⟩
    · obtain ⟨q, q1, q2⟩ := cov_ok (z := z) h.2 (by
        rcases maxI_or (a := a) (b := p.2 + 1) with e | e
        · rw [e]; exact h1
        · rw [e]; omega) h2
      exact ⟨q, List.mem_cons_of_mem _ q1, q2⟩
noncomputable def rf2 (E : EV) (f : LF) (p : Int × Int) : Option EV := (brT E 3 (lfSub f (lfC p.1))).bind (fun e => brT e 5 (lfSub f (lfC p.2)))
noncomputable def frk (f : LF) (s : ST) : List (Int × Int) → List ST
  | [] => []
  | p :: t => match rf2 s.2.1 f p with
    | some E => (s.1, E, s.2.2) :: frk f s t
    | none => frk f s t
noncomputable def frkC (pts : List (Int × Int)) (f : LF) (s : ST) : List ST := match iv s.2.1 f with
  | some u => bif cov pts u.1 u.2 then frk f s pts else [s]
  | none => [s]
noncomputable def nePts : List (Int × Int) := [(-9223372036854775808, -1), (0, 0), (1, 9223372036854775807)]
/-- unlike, within a few numbers: below, alike or above -/
noncomputable def nsp (f : LF) (s : ST) : List ST := match iv s.2.1 f with
  | some u => bif leI u.1 (-1) && (leI 1 u.2 && leI (u.2 - u.1) 6) then frkC nePts f s else [s]
  | none => [s]
noncomputable def cmS (n : Nat) (s : ST) : ST := bif (s.2.2.2.1.take n).any mulT && wfS s.2.1.length s.2.2.1 s.2.2.2.1 s.2.2.2.2 then (s.1, (cmL s.2.1 (s.2.2.2.1.take n)).1, s.2.2.1, (cmL s.2.1 (s.2.2.2.1.take n)).2 ++ s.2.2.2.1.drop n, s.2.2.2.2) else s
/-- what is known of a place is told, if it isn't yet -/
noncomputable def ldS (G : List GC) (c j : Nat) (s : ST) : ST × Option LF := match ovAt c j s.2.2.2.2 with
  | some v => (s, bif Nat.beq v.1 0 then some v.2.1 else none)
  | none => match G[c]? with
    | some g => (match segAt g.2 j with
      | some sp => bif Nat.beq g.1.1 1 && (Nat.blt j g.1.2.2 && (Nat.beq sp.1 0 && wfS s.2.1.length s.2.2.1 s.2.2.2.1 s.2.2.2.2)) then ((s.1, s.2.1 ++ [sp.2], s.2.2.1, s.2.2.2.1, ((c, j), iA (lfS s.2.1.length)) :: s.2.2.2.2), some (lfS s.2.1.length)) else (s, none)
      | none => (s, none))
    | none => (s, none)
noncomputable abbrev SPD : Type := Nat × Nat × Nat × List (Int × Int)
noncomputable def spD (G : List GC) (n : Nat) (q : SPD) (s : ST) : List ST := match s.2.2.2.1[n - 1 - q.2.1]? with
  | some v => bif Nat.beq v.1 0 then (bif Nat.beq q.1 0 then frkC q.2.2.2 v.2.1 s else match iv s.2.1 v.2.1 with
      | some u => bif eqI u.1 u.2 && leI 0 u.1 then (match ldS G q.2.2.1 u.1.toNat s with
          | (s', some f) => frkC q.2.2.2 f s'
          | (_, none) => [s]) else [s]
      | none => [s]) else [s]
  | none => [s]
noncomputable def spA (G : List GC) (n : Nat) : List SPD → List ST → List ST
  | [], l => l
  | q :: t, l => spA G n t (l.flatMap (spD G n q))
noncomputable def prp (G : List GC) (xi : XI) (s : ST) : List ST := match xi with
  | (op, _, x, y, z) =>
    bif Nat.beq op 6 || Nat.beq op 7 then [cmS 1 s]
    else bif Nat.beq op 26 then spA G (mN y + (1 - z)) (spH y) [cmS (mN y + (1 - z)) s]
    else bif Nat.beq op 9 && Nat.blt 0 y then (match lkA x s.2.2.1 with
      | some v => (bif Nat.beq v.1 0 then frkC (spI y) v.2.1 s else [s])
      | none => [s])
    else bif Nat.beq op 14 && Nat.ble x 1 then (match s.2.2.2.1 with
      | v :: _ => (match cmpQ s.2.1 v with | some f => (bif Nat.beq v.1 4 then frkC nePts f s else nsp f s) | none => [s])
      | [] => [s])
    else bif Nat.beq op 15 && Nat.ble x 1 then (match s.2.2.2.1 with
      | v :: u :: _ => (match cmpI s.2.1 u v with | some f => nsp f s | none => [s])
      | _ => [s])
    else [s]
noncomputable def prpF (G : List GC) (xi : XI) (s : ST) : List ST := bif Nat.blt xi.1 6 then [s]
    else bif Nat.beq xi.1 26 then spA G (mN xi.2.2.2.1 + (1 - xi.2.2.2.2)) (spH xi.2.2.2.1) [cmS (mN xi.2.2.2.1 + (1 - xi.2.2.2.2)) s]
    else bif Nat.blt 15 xi.1 then [s] else prp G xi s
theorem nbq {a n : Nat} (h : n < a) : Nat.beq a n = false := by
  cases hb : Nat.beq a n with
  | false => rfl
  | true => have := Nat.eq_of_beq_eq_true hb; omega
theorem prpF_eq (G : List GC) (xi : XI) (s : ST) : prpF G xi s = prp G xi s := by
  obtain ⟨op, a, x, y, z⟩ := xi
  cases h1 : Nat.blt op 6 with
  | true =>
    have h := Nat.blt_eq.mp h1
    have q : op = 0 ∨ op = 1 ∨ op = 2 ∨ op = 3 ∨ op = 4 ∨ op = 5 := by omega
    rcases q with q | q | q | q | q | q <;> (rw [q]; rfl)
  | false =>
    cases h2 : Nat.beq op 26 with
    | true =>
      rw [Nat.eq_of_beq_eq_true h2]
      rfl
    | false =>
      have e : prpF G (op, a, x, y, z) s = (bif Nat.blt 15 op then [s] else prp G (op, a, x, y, z) s) := by
        show (bif Nat.blt op 6 then [s] else bif Nat.beq op 26 then spA G (mN y + (1 - z)) (spH y) [cmS (mN y + (1 - z)) s] else bif Nat.blt 15 op then [s] else prp G (op, a, x, y, z) s) = _
        rw [h1, cond_false, h2, cond_false]
      rw [e]
      cases h3 : Nat.blt 15 op with
      | false => rfl
      | true =>
        have h := Nat.blt_eq.mp h3
        unfold prp
        dsimp only
        rw [nbq (n := 6) (by omega), nbq (n := 7) (by omega), h2, nbq (n := 9) (by omega), nbq (n := 14) (by omega), nbq (n := 15) (by omega)]
        all_goals rfl
section PRP
variable {ad : Nat → Nat} {tys : List (ClassId × FieldType)} {G : List GC} {mods : List Nat} {w0 : va_W}
/-- some state of these stands for the same -/
noncomputable def PR (ad : Nat → Nat) (tys : List (ClassId × FieldType)) (G : List GC) (mods : List Nat) (w0 : va_W) (s : ST) (l : List ST) : Prop :=
  ∀ (σ : Nat → Int) (ws : va_W), inE σ s.2.1 → HK ad tys G mods w0 σ s.2.2.2.2 ws → ∃ s' ∈ l, ∃ σ' : Nat → Int, ext s.2.1.length σ σ' ∧ s.2.1.length ≤ s'.2.1.length ∧ inE σ' s'.2.1 ∧ HK ad tys G mods w0 σ' s'.2.2.2.2 ws ∧ s'.1 = s.1 ∧ s'.2.2.1.map (cvp ad σ') = s.2.2.1.map (cvp ad σ) ∧ s'.2.2.2.1.map (conc ad σ') = s.2.2.2.1.map (conc ad σ)
theorem PR_self {s : ST} : PR ad tys G mods w0 s [s] := fun σ ws hσ hH => ⟨s, List.mem_singleton.mpr rfl, σ, ext_rf, Nat.le_refl _, hσ, hH, rfl, rfl, rfl⟩
theorem PR_bind {s : ST} {l : List ST} {f : ST → List ST} (h : PR ad tys G mods w0 s l) (hf : ∀ t, PR ad tys G mods w0 t (f t)) : PR ad tys G mods w0 s (l.flatMap f) := by
  intro σ ws hσ hH
  obtain ⟨t, ht, τ, a1, a2, a3, a4, a5, a6, a7⟩ := h σ ws hσ hH
  obtain ⟨u, hu, ρ, b1, b2, b3, b4, b5, b6, b7⟩ := hf t τ ws a3 a4
  exact ⟨u, List.mem_flatMap.mpr ⟨t, ht, hu⟩, ρ, ext_tr a2 a1 b1, Nat.le_trans a2 b2, b3, b4, b5.trans a5, b6.trans a6, b7.trans a7⟩
theorem PR_one {s t : ST} {l : List ST} (h : PR ad tys G mods w0 s [t]) (hf : PR ad tys G mods w0 t l) : PR ad tys G mods w0 s l := by
  intro σ ws hσ hH
  obtain ⟨t', ht, τ, a1, a2, a3, a4, a5, a6, a7⟩ := h σ ws hσ hH
  have e := List.mem_singleton.mp ht
  subst e
  obtain ⟨u, hu, ρ, b1, b2, b3, b4, b5, b6, b7⟩ := hf τ ws a3 a4
  exact ⟨u, hu, ρ, ext_tr a2 a1 b1, Nat.le_trans a2 b2, b3, b4, b5.trans a5, b6.trans a6, b7.trans a7⟩
theorem wfA_le {n m : Nat} (h : n ≤ m) {v : AV} (hw : wfA n v = true) : wfA m v = true := by
  unfold wfA at hw ⊢
  rw [Bool.and_eq_true] at hw ⊢
  exact ⟨wfT_le h hw.1, wfT_le h hw.2⟩
theorem cmA_ok {σ : Nat → Int} {E : EV} {v : AV} (hσ : inE σ E) (hw : wfA E.length v = true) : ∃ σ', ext E.length σ σ' ∧ E.length ≤ (cmA E v).1.length ∧ inE σ' (cmA E v).1 ∧ conc ad σ' (cmA E v).2 = conc ad σ v ∧ wfA (cmA E v).1.length (cmA E v).2 = true := by
  unfold cmA
  cases hm : mulT v with
  | false => exact ⟨σ, ext_rf, Nat.le_refl _, hσ, rfl, hw⟩
  | true =>
    rw [cond_true]
    cases hi : iv E v.2.1 with
    | none => exact ⟨σ, ext_rf, Nat.le_refl _, hσ, rfl, hw⟩
    | some u =>
      have p := iv_ok hσ hi
      unfold mulT at hm
      rw [Bool.and_eq_true] at hm
      have ht := Nat.le_of_ble_eq_true hm.1
      refine ⟨upS σ E.length (ev σ v.2.1), up_ext, by simp, inE_push hσ p.1 p.2, ?_, ?_⟩
      · have e : ev (upS σ E.length (ev σ v.2.1)) (lfS E.length) = ev σ v.2.1 := by rw [lfS_ev, up_self]
        rcases (show v.1 = 0 ∨ v.1 = 1 by omega) with q | q
        · rw [conc0 (v := (v.1, lfS E.length, lf0)) (by rw [q]; rfl), conc0 (v := v) (by rw [q]; rfl), e]
        · rw [conc1 (v := (v.1, lfS E.length, lf0)) (by rw [q]; rfl), conc1 (v := v) (by rw [q]; rfl), e]
      · show wfA (E ++ [u]).length (v.1, lfS E.length, lf0) = true
        unfold wfA lfS lf0
        simp [wfT_cons, wfT_nil]
theorem cmL_ok : ∀ {l : List AV} {σ : Nat → Int} {E : EV}, inE σ E → l.all (fun v => wfA E.length v) = true → ∃ σ', ext E.length σ σ' ∧ E.length ≤ (cmL E l).1.length ∧ inE σ' (cmL E l).1 ∧ (cmL E l).2.map (conc ad σ') = l.map (conc ad σ)
  | [], σ, E, hσ, _ => ⟨σ, ext_rf, Nat.le_refl _, hσ, by unfold cmL; rfl⟩
  | v :: t, σ, E, hσ, hw => by
    rw [List.all_cons, Bool.and_eq_true] at hw
    obtain ⟨σ1, a1, a2, a3, a4, a5⟩ := cmA_ok (ad := ad) hσ hw.1
    obtain ⟨σ2, b1, b2, b3, b4⟩ := cmL_ok (l := t) a3 (List.all_eq_true.mpr fun x hx => wfA_le a2 (List.all_eq_true.mp hw.2 x hx))
    unfold cmL
    refine ⟨σ2, ext_tr a2 a1 b1, Nat.le_trans a2 b2, b3, ?_⟩
    rw [List.map_cons, List.map_cons, conc_ext b1 a5, a4, b4]
    rw [List.map_congr_left (f := conc ad σ1) (g := conc ad σ) (fun x hx => conc_ext a1 (List.all_eq_true.mp hw.2 x hx))]
theorem cmS_ok {n : Nat} {s : ST} : PR ad tys G mods w0 s [cmS n s] := by
  intro σ ws hσ hH
  refine ⟨_, List.mem_singleton.mpr rfl, ?_⟩
  unfold cmS
  cases hc : ((s.2.2.2.1.take n).any mulT && wfS s.2.1.length s.2.2.1 s.2.2.2.1 s.2.2.2.2) with
  | false => exact ⟨σ, ext_rf, Nat.le_refl _, hσ, hH, rfl, rfl, rfl⟩
  | true =>
    rw [cond_true]
    rw [Bool.and_eq_true] at hc
    have hw := hc.2
    have hw2 := hw
    rw [wfS_def] at hw2
    rw [Bool.and_eq_true, Bool.and_eq_true] at hw2
    obtain ⟨σ1, a1, a2, a3, a4⟩ := cmL_ok (ad := ad) (l := s.2.2.2.1.take n) hσ (List.all_eq_true.mpr fun x hx => List.all_eq_true.mp hw2.2.1 x (List.mem_of_mem_take hx))
    obtain ⟨e1, -, e3⟩ := wfS_ok (ad := ad) hw a1
    refine ⟨σ1, a1, a2, a3, ⟨hH.1, e3 ws hH.2.1, hH.2.2⟩, rfl, e1, ?_⟩
    show ((cmL s.2.1 (s.2.2.2.1.take n)).2 ++ s.2.2.2.1.drop n).map (conc ad σ1) = s.2.2.2.1.map (conc ad σ)
    rw [List.map_append, a4, List.map_congr_left (f := conc ad σ1) (g := conc ad σ) (fun x hx => conc_ext a1 (List.all_eq_true.mp hw2.2.1 x (List.mem_of_mem_drop hx))), ← List.map_append, List.take_append_drop]
theorem rf2_ok {σ : Nat → Int} {E : EV} {f : LF} {p : Int × Int} (hσ : inE σ E) (h1 : p.1 ≤ ev σ f) (h2 : ev σ f ≤ p.2) : ∃ E', rf2 E f p = some E' ∧ inE σ E' ∧ E'.length = E.length := by
  obtain ⟨E1, a1, a2, a3⟩ := brT_ok hσ (x := 3) (d := lfSub f (lfC p.1)) (by show 0 ≤ ev σ _; rw [lfSub_ev, lfC_ev]; omega)
  obtain ⟨E2, b1, b2, b3⟩ := brT_ok a2 (x := 5) (d := lfSub f (lfC p.2)) (by show ev σ _ ≤ 0; rw [lfSub_ev, lfC_ev]; omega)
  exact ⟨E2, by unfold rf2; rw [a1]; exact b1, b2, b3.trans a3⟩
theorem frk_ok {σ : Nat → Int} {f : LF} {s : ST} (hσ : inE σ s.2.1) : ∀ {pts : List (Int × Int)} {p : Int × Int}, p ∈ pts → p.1 ≤ ev σ f → ev σ f ≤ p.2 → ∃ E', (s.1, E', s.2.2) ∈ frk f s pts ∧ inE σ E' ∧ E'.length = s.2.1.length
  | q :: t, p, hp, h1, h2 => by
    unfold frk
    rcases List.mem_cons.mp hp with rfl | hp
    · obtain ⟨E', a1, a2, a3⟩ := rf2_ok hσ h1 h2
      rw [a1]
      exact ⟨E', List.mem_cons_self, a2, a3⟩
    · obtain ⟨E', a1, a2, a3⟩ := frk_ok hσ hp h1 h2
      cases rf2 s.2.1 f q with
      | none => exact ⟨E', a1, a2, a3⟩
      | some _ => exact ⟨E', List.mem_cons_of_mem _ a1, a2, a3⟩
theorem frkC_ok {pts : List (Int × Int)} {f : LF} {s : ST} : PR ad tys G mods w0 s (frkC pts f s) := by
  unfold frkC
  cases hi : iv s.2.1 f with
  | none => exact PR_self
  | some u =>
    dsimp only
    cases hc : cov pts u.1 u.2 with
    | false => exact PR_self
    | true =>
      rw [cond_true]
      intro σ ws hσ hH
      have b := iv_ok hσ hi
      obtain ⟨p, p1, p2, p3⟩ := cov_ok hc b.1 b.2
      obtain ⟨E', a1, a2, a3⟩ := frk_ok (f := f) hσ p1 p2 p3
      exact ⟨_, a1, σ, ext_rf, Nat.le_of_eq a3.symm, a2, hH, rfl, rfl, rfl⟩
theorem nsp_ok {f : LF} {s : ST} : PR ad tys G mods w0 s (nsp f s) := by
  unfold nsp
  cases iv s.2.1 f with
  | none => exact PR_self
  | some u =>
    dsimp only
    cases (leI u.1 (-1) && (leI 1 u.2 && leI (u.2 - u.1) 6)) with
    | false => exact PR_self
    | true => exact frkC_ok
theorem ldS_ok {c j : Nat} {s s' : ST} {o : Option LF} (h : ldS G c j s = (s', o)) : PR ad tys G mods w0 s [s'] := by
  unfold ldS at h
  cases hv : ovAt c j s.2.2.2.2 with
  | some v => rw [hv] at h; cases h; exact PR_self
  | none =>
    rw [hv] at h
    dsimp only at h
    cases hg : G[c]? with
    | none => rw [hg] at h; cases h; exact PR_self
    | some g =>
      rw [hg] at h
      dsimp only at h
      cases hs : segAt g.2 j with
      | none => rw [hs] at h; cases h; exact PR_self
      | some sp =>
        rw [hs] at h
        dsimp only at h
        cases hc : (Nat.beq g.1.1 1 && (Nat.blt j g.1.2.2 && (Nat.beq sp.1 0 && wfS s.2.1.length s.2.2.1 s.2.2.2.1 s.2.2.2.2))) with
        | false => rw [hc] at h; cases h; exact PR_self
        | true =>
          rw [hc, cond_true] at h
          cases h
          rw [Bool.and_eq_true, Bool.and_eq_true, Bool.and_eq_true] at hc
          obtain ⟨c1, c2, c3, c4⟩ := hc
          intro σ ws hσ hH
          obtain ⟨e, g1, g2, g3⟩ := hH.1 c g hg
          obtain ⟨⟨kd, ty, n⟩, segs⟩ := g
          have c1 : kd = 1 := Nat.eq_of_beq_eq_true c1
          have hjn : j < n := Nat.blt_eq.mp c2
          subst c1
          obtain ⟨cA, f, rfl, q1, q2⟩ := g2
          have hr : rdE (.inl (cA, n, .inl f)) j = some (.int (f j)) := by show (if j < n then _ else _) = _; rw [if_pos hjn]
          obtain ⟨sp', t1, t2⟩ := g3 j _ hr
          rw [hs] at t1
          cases t1
          unfold okv at t2
          rw [Nat.eq_of_beq_eq_true c3] at t2
          obtain ⟨z, z1, z2, z3⟩ := t2
          obtain ⟨e1, e2, e3⟩ := wfS_ok (ad := ad) c4 (up_ext (σ := σ) (z := z))
          refine ⟨_, List.mem_singleton.mpr rfl, upS σ s.2.1.length z, up_ext, by simp, inE_push hσ z2 z3, ⟨hH.1, ?_, hH.2.2⟩, rfl, e1, e2⟩
          intro q hq
          rcases List.mem_cons.mp hq with rfl | hq
          · rw [rd_at g1, hr, z1]
            show some (Value.int (Int32.ofInt z)) = some (Value.int (Int32.ofInt (ev _ (lfS _))))
            rw [lfS_ev, up_self]
          · exact e3 ws hH.2.1 q hq
theorem spD_ok {n : Nat} {q : SPD} {s : ST} : PR ad tys G mods w0 s (spD G n q s) := by
  unfold spD
  cases s.2.2.2.1[n - 1 - q.2.1]? with
  | none => exact PR_self
  | some v =>
    dsimp only
    cases Nat.beq v.1 0 with
    | false => exact PR_self
    | true =>
      rw [cond_true]
      cases Nat.beq q.1 0 with
      | true => exact frkC_ok
      | false =>
        rw [cond_false]
        cases iv s.2.1 v.2.1 with
        | none => exact PR_self
        | some u =>
          dsimp only
          cases (eqI u.1 u.2 && leI 0 u.1) with
          | false => exact PR_self
          | true =>
            rw [cond_true]
            cases hl : ldS G q.2.2.1 u.1.toNat s with
            | mk s' o =>
              cases o with
              | none => exact PR_self
              | some f => exact PR_one (ldS_ok hl) frkC_ok
theorem spA_ok {n : Nat} {s : ST} : ∀ {qs : List SPD} {l : List ST}, PR ad tys G mods w0 s l → PR ad tys G mods w0 s (spA G n qs l)
  | [], l, h => h
  | q :: t, l, h => spA_ok (qs := t) (PR_bind h (fun _ => spD_ok))
theorem prp_ok {xi : XI} {s : ST} : PR ad tys G mods w0 s (prp G xi s) := by
  obtain ⟨op, a, x, y, z⟩ := xi
  unfold prp
  dsimp only
  cases (Nat.beq op 6 || Nat.beq op 7) with
  | true => exact cmS_ok
  | false =>
  rw [cond_false]
  cases Nat.beq op 26 with
  | true => exact spA_ok cmS_ok
  | false =>
  rw [cond_false]
  cases (Nat.beq op 9 && Nat.blt 0 y) with
  | true =>
    rw [cond_true]
    cases lkA x s.2.2.1 with
    | none => exact PR_self
    | some v =>
      dsimp only
      cases Nat.beq v.1 0 with
      | true => exact frkC_ok
      | false => exact PR_self
  | false =>
  rw [cond_false]
  cases (Nat.beq op 14 && Nat.ble x 1) with
  | true =>
    rw [cond_true]
    cases s.2.2.2.1 with
    | nil => exact PR_self
    | cons v t =>
      dsimp only
      cases cmpQ s.2.1 v with
      | none => exact PR_self
      | some f =>
        dsimp only
        cases Nat.beq v.1 4 with
        | true => exact frkC_ok
        | false => exact nsp_ok
  | false =>
  rw [cond_false]
  cases (Nat.beq op 15 && Nat.ble x 1) with
  | true =>
    rw [cond_true]
    cases s.2.2.2.1 with
    | nil => exact PR_self
    | cons v t =>
    cases t with
    | nil => exact PR_self
    | cons u t2 =>
      dsimp only
      cases cmpI s.2.1 u v with
      | none => exact PR_self
      | some f => exact nsp_ok
  | false => exact PR_self
end PRP
end
section
noncomputable def lkT (s : Nat) : List (Nat × LF) → Option LF
  | [] => none
  | q :: t => bif Nat.beq q.1 s then some q.2 else lkT s t
noncomputable def eq0 (E : EV) (f g : LF) : Bool := match iv E (lfSub f g) with
  | some u => eqI u.1 0 && eqI u.2 0
  | none => false
noncomputable def mAV (E : EV) (θ : List (Nat × LF)) (cv v : AV) : Option (List (Nat × LF)) := bif Nat.beq cv.1 v.1 then
    (bif Nat.beq cv.1 2 then (bif eqI cv.2.1.1 v.2.1.1 then some θ else none)
    else bif Nat.beq cv.1 3 then some θ
    else bif Nat.ble cv.1 1 then (match cv.2.1.2 with
      | [] => (match iv E v.2.1 with
        | some u => bif eqI u.1 cv.2.1.1 && eqI u.2 cv.2.1.1 then some θ else none
        | none => none)
      | [q] => bif eqI cv.2.1.1 0 && eqI q.1 1 then (match lkT q.2 θ with
        | none => some ((q.2, v.2.1) :: θ)
        | some f => bif eq0 E f v.2.1 then some θ else none) else none
      | _ => none)
    else none)
  else none
noncomputable def mAL (E : EV) (als : AL) : AL → List (Nat × LF) → Option (List (Nat × LF))
  | [], θ => some θ
  | q :: t, θ => match lkA q.1 als with
    | some v => match mAV E θ q.2 v with
      | some θ' => mAL E als t θ'
      | none => none
    | none => none
noncomputable def mSt (E : EV) : List AV → List AV → List (Nat × LF) → Option (List (Nat × LF))
  | [], v, θ => match v with
    | [] => some θ
    | _ => none
  | c :: t, v, θ => match v with
    | [] => none
    | w :: r => match mAV E θ c w with
      | some θ' => mSt E t r θ'
      | none => none
noncomputable def mOv (E : EV) (ov : OV) : OV → List (Nat × LF) → Option (List (Nat × LF))
  | [], θ => some θ
  | q :: t, θ => match ovAt q.1.1 q.1.2 ov with
    | some v => match mAV E θ q.2 v with
      | some θ' => mOv E ov t θ'
      | none => none
    | none => none
noncomputable def sbT (θ : List (Nat × LF)) : List (Int × Nat) → Option LF
  | [] => some (0, [])
  | q :: t => match lkT q.2 θ, sbT θ t with
    | some f, some g => some (lfAdd (lfSc q.1 f) g)
    | _, _ => none
noncomputable def okIv (θ : List (Nat × LF)) (E : EV) : Nat → EV → Bool
  | _, [] => true
  | s, u :: t => (match lkT s θ with
    | some f => (match iv E f with
      | some w => leI u.1 w.1 && leI w.2 u.2
      | none => false)
    | none => false) && okIv θ E (s + 1) t
noncomputable def chkM1 (m0 : Option LF) (E : EV) (m : LF) : Bool := (match iv E m with
    | some u => leI 0 u.1
    | none => false) && (match m0 with
    | none => true
    | some q => match iv E (lfSub m q) with
      | some w => leI w.2 (-1)
      | none => false)
noncomputable def chkCut (m0 : Option LF) (E : EV) (als : AL) (ast : List AV) (ov : OV) (C : CUT) : Bool := match mAL E als C.2.1 [] with
  | none => false
  | some t1 => match mSt E C.2.2.1 ast t1 with
    | none => false
    | some t2 => match mOv E ov C.2.2.2.1 t2 with
      | none => false
      | some θ => okIv θ E 0 C.1 && (match sbT θ C.2.2.2.2.2 with
        | some g => chkM1 m0 E (lfAdd (lfC C.2.2.2.2.1) g)
        | none => false)
noncomputable def sgc (θ : List (Nat × LF)) (σ : Nat → Int) : Nat → Int := fun s => match lkT s θ with
  | some f => ev σ f
  | none => 0
noncomputable def subT (θ θ' : List (Nat × LF)) : Prop := ∀ s f, lkT s θ = some f → lkT s θ' = some f
theorem subT_rf {θ : List (Nat × LF)} : subT θ θ := fun _ _ h => h
theorem subT_tr {a b c : List (Nat × LF)} (h1 : subT a b) (h2 : subT b c) : subT a c := fun s f h => h2 s f (h1 s f h)
theorem eq0_ok {σ : Nat → Int} {E : EV} (hσ : inE σ E) {f g : LF} (h : eq0 E f g = true) : ev σ f = ev σ g := by
  unfold eq0 at h
  cases h1 : iv E (lfSub f g) with
  | none => rw [h1] at h; cases h
  | some u =>
    rw [h1] at h
    dsimp only at h
    rw [Bool.and_eq_true, eqI_iff, eqI_iff] at h
    have p := iv_ok hσ h1
    rw [lfSub_ev] at p
    omega
theorem conc_tag {ad : Nat → Nat} {σ σ' : Nat → Int} {c v : AV} (ht : Nat.beq c.1 v.1 = true) (h1 : Nat.ble c.1 1 = true) (he : ev σ' c.2.1 = ev σ v.2.1) : conc ad σ' c = conc ad σ v := by
  have e := Nat.eq_of_beq_eq_true ht
  have b := Nat.le_of_ble_eq_true h1
  rcases (show c.1 = 0 ∨ c.1 = 1 by omega) with q | q
  · rw [conc0 (v := c) (by rw [q]; rfl), conc0 (v := v) (by rw [← e, q]; rfl), he]
  · rw [conc1 (v := c) (by rw [q]; rfl), conc1 (v := v) (by rw [← e, q]; rfl), he]
theorem mAV_ok {ad : Nat → Nat} {σ : Nat → Int} {E : EV} (hσ : inE σ E) {θ θ' : List (Nat × LF)} {c v : AV} (h : mAV E θ c v = some θ') : subT θ θ' ∧ ∀ θF, subT θ' θF → conc ad (sgc θF σ) c = conc ad σ v := by
  unfold mAV at h
  cases ht : Nat.beq c.1 v.1 with
  | false => rw [ht] at h; cases h
  | true =>
    rw [ht, cond_true] at h
    have et := Nat.eq_of_beq_eq_true ht
    cases c2 : Nat.beq c.1 2 with
    | true =>
      rw [c2, cond_true] at h
      cases h1 : eqI c.2.1.1 v.2.1.1 with
      | false => rw [h1] at h; cases h
      | true =>
        rw [h1] at h
        cases h
        have h1 := eqI_iff.mp h1
        refine ⟨subT_rf, fun θF _ => ?_⟩
        rw [conc2 c2, conc2 (by rw [← et]; exact c2), h1]
    | false =>
      rw [c2, cond_false] at h
      cases c3 : Nat.beq c.1 3 with
      | true =>
        rw [c3] at h
        cases h
        refine ⟨subT_rf, fun θF _ => ?_⟩
        rw [conc3 c3, conc3 (by rw [← et]; exact c3)]
      | false =>
        rw [c3, cond_false] at h
        cases c1 : Nat.ble c.1 1 with
        | false => rw [c1] at h; cases h
        | true =>
          rw [c1, cond_true] at h
          cases hl : c.2.1.2 with
          | nil =>
            rw [hl] at h
            dsimp only at h
            cases h1 : iv E v.2.1 with
            | none => rw [h1] at h; cases h
            | some u =>
              rw [h1] at h
              dsimp only at h
              cases h2 : (eqI u.1 c.2.1.1 && eqI u.2 c.2.1.1) with
              | false => rw [h2] at h; cases h
              | true =>
                rw [h2] at h
                cases h
                rw [Bool.and_eq_true, eqI_iff, eqI_iff] at h2
                have p := iv_ok hσ h1
                exact ⟨subT_rf, fun θF _ => conc_tag ht c1 (by rw [lfnil_ev hl]; omega)⟩
          | cons q t =>
            rw [hl] at h
            cases t with
            | cons _ _ => cases h
            | nil =>
              dsimp only at h
              cases h2 : (eqI c.2.1.1 0 && eqI q.1 1) with
              | false => rw [h2] at h; cases h
              | true =>
                rw [h2, cond_true] at h
                rw [Bool.and_eq_true, eqI_iff, eqI_iff] at h2
                have evc : ∀ τ : Nat → Int, ev τ c.2.1 = τ q.2 := fun τ => by
                  unfold ev
                  rw [hl, h2.1]
                  simp only [evT]
                  rw [h2.2]
                  omega
                cases h3 : lkT q.2 θ with
                | none =>
                  rw [h3] at h
                  cases h
                  refine ⟨fun s f hs => ?_, fun θF hF => conc_tag ht c1 ?_⟩
                  · unfold lkT
                    by_cases e : q.2 = s
                    · rw [e] at h3; rw [h3] at hs; cases hs
                    · rw [bif_f (by cases hb : Nat.beq q.2 s with | false => rfl | true => exact absurd (Nat.eq_of_beq_eq_true hb) e)]
                      exact hs
                  · rw [evc]
                    have := hF q.2 v.2.1 (by unfold lkT; rw [bif_t (by exact Nat.beq_refl q.2)])
                    unfold sgc
                    rw [this]
                | some f =>
                  rw [h3] at h
                  dsimp only at h
                  cases h4 : eq0 E f v.2.1 with
                  | false => rw [h4] at h; cases h
                  | true =>
                    rw [h4] at h
                    cases h
                    refine ⟨subT_rf, fun θF hF => conc_tag ht c1 ?_⟩
                    rw [evc]
                    have := hF _ _ h3
                    unfold sgc
                    rw [this]
                    exact eq0_ok hσ h4
theorem mAL_ok {ad : Nat → Nat} {σ : Nat → Int} {E : EV} (hσ : inE σ E) {als : AL} : ∀ {c : AL} {θ θ' : List (Nat × LF)}, mAL E als c θ = some θ' → subT θ θ' ∧ ∀ θF, subT θ' θF → ∀ q ∈ c, cvp ad (sgc θF σ) q ∈ als.map (cvp ad σ)
  | [], θ, θ', h => by cases h; exact ⟨subT_rf, fun _ _ q hq => by cases hq⟩
  | q :: t, θ, θ', h => by
    unfold mAL at h
    cases h1 : lkA q.1 als with
    | none => rw [h1] at h; cases h
    | some v =>
      rw [h1] at h
      dsimp only at h
      cases h2 : mAV E θ q.2 v with
      | none => rw [h2] at h; cases h
      | some θ1 =>
        rw [h2] at h
        obtain ⟨a1, a2⟩ := mAV_ok (ad := ad) hσ h2
        obtain ⟨b1, b2⟩ := mAL_ok hσ h
        refine ⟨subT_tr a1 b1, fun θF hF p hp => ?_⟩
        rcases List.mem_cons.mp hp with rfl | hp
        · have m := lk_in (ad := ad) (σ := σ) h1
          unfold cvp
          rw [a2 θF (subT_tr b1 hF)]
          exact m
        · exact b2 θF hF p hp
theorem mSt_nc {E : EV} {w : AV} {r : List AV} {θ : List (Nat × LF)} : mSt E [] (w :: r) θ = none := by unfold mSt; rfl
theorem mSt_nn {E : EV} {θ : List (Nat × LF)} : mSt E [] [] θ = some θ := by unfold mSt; rfl
theorem mSt_cn {E : EV} {c : AV} {t : List AV} {θ : List (Nat × LF)} : mSt E (c :: t) [] θ = none := by unfold mSt; rfl
theorem mSt_cc {E : EV} {c w : AV} {t r : List AV} {θ : List (Nat × LF)} : mSt E (c :: t) (w :: r) θ = (match mAV E θ c w with
        | some θ' => mSt E t r θ'
        | none => none) := by
  conv => lhs; unfold mSt
theorem map_cc {f g : AV → Value} {c w : AV} {t r : List AV} (h1 : f c = g w) (h2 : t.map f = r.map g) : (c :: t).map f = (w :: r).map g := by
  rw [List.map_cons, List.map_cons, h1, h2]
noncomputable def MSP (ad : Nat → Nat) (σ : Nat → Int) (E : EV) (c : List AV) : Prop := ∀ (v : List AV) (θ θ' : List (Nat × LF)), mSt E c v θ = some θ' → subT θ θ' ∧ ∀ θF, subT θ' θF → c.map (conc ad (sgc θF σ)) = v.map (conc ad σ)
theorem msp_nil {ad : Nat → Nat} {σ : Nat → Int} {E : EV} : MSP ad σ E [] := by
  intro v θ θ' h
  cases v with
  | nil => rw [mSt_nn] at h; have e : θ = θ' := Option.some.inj h; rw [e]; exact ⟨subT_rf, fun _ _ => by rw [List.map_nil, List.map_nil]⟩
  | cons w r => rw [mSt_nc] at h; cases h
theorem msp_cons {ad : Nat → Nat} {σ : Nat → Int} {E : EV} (hσ : inE σ E) {c : AV} {t : List AV} (ih : MSP ad σ E t) : MSP ad σ E (c :: t) := by
  intro v θ θ' h
  cases v with
  | nil => rw [mSt_cn] at h; cases h
  | cons w r =>
    rw [mSt_cc] at h
    cases h2 : mAV E θ c w with
    | none => rw [h2] at h; cases h
    | some θ1 =>
      rw [h2] at h
      obtain ⟨a1, a2⟩ := mAV_ok (ad := ad) hσ h2
      obtain ⟨b1, b2⟩ := ih r θ1 θ' h
      exact ⟨subT_tr a1 b1, fun θF hF => map_cc (a2 θF (subT_tr b1 hF)) (b2 θF hF)⟩
theorem mSt_ok {ad : Nat → Nat} {σ : Nat → Int} {E : EV} (hσ : inE σ E) : ∀ (c : List AV), MSP ad σ E c
  | [] => msp_nil
  | _ :: t => msp_cons hσ (mSt_ok hσ t)
theorem mOv_ok {ad : Nat → Nat} {σ : Nat → Int} {E : EV} (hσ : inE σ E) {ov : OV} : ∀ {c : OV} {θ θ' : List (Nat × LF)}, mOv E ov c θ = some θ' → subT θ θ' ∧ ∀ θF, subT θ' θF → ∀ ws, OVok ad σ ov ws → OVok ad (sgc θF σ) c ws
  | [], θ, θ', h => by cases h; exact ⟨subT_rf, fun _ _ _ _ q hq => by cases hq⟩
  | q :: t, θ, θ', h => by
    unfold mOv at h
    cases h1 : ovAt q.1.1 q.1.2 ov with
    | none => rw [h1] at h; cases h
    | some v =>
      rw [h1] at h
      dsimp only at h
      cases h2 : mAV E θ q.2 v with
      | none => rw [h2] at h; cases h
      | some θ1 =>
        rw [h2] at h
        obtain ⟨a1, a2⟩ := mAV_ok (ad := ad) hσ h2
        obtain ⟨b1, b2⟩ := mOv_ok (ad := ad) hσ h
        refine ⟨subT_tr a1 b1, fun θF hF ws hw p hp => ?_⟩
        rcases List.mem_cons.mp hp with rfl | hp
        · rw [a2 θF (subT_tr b1 hF)]
          exact hw _ (ovAt_mem h1)
        · exact b2 θF hF ws hw p hp
theorem sbT_ok {σ : Nat → Int} {θ : List (Nat × LF)} : ∀ {t : List (Int × Nat)} {g : LF}, sbT θ t = some g → evT (sgc θ σ) t = ev σ g
  | [], g, h => by cases h; simp [evT, ev]
  | q :: t, g, h => by
    unfold sbT at h
    cases h1 : lkT q.2 θ with
    | none => rw [h1] at h; cases h
    | some f =>
      cases h2 : sbT θ t with
      | none => rw [h1, h2] at h; cases h
      | some w =>
        rw [h1, h2] at h
        cases h
        have e := sbT_ok (σ := σ) h2
        unfold evT
        rw [e, lfAdd_ev, lfSc_ev]
        have : sgc θ σ q.2 = ev σ f := by unfold sgc; rw [h1]
        rw [this]
theorem okIv_ok {σ : Nat → Int} {θ : List (Nat × LF)} {E : EV} (hσ : inE σ E) : ∀ {C : EV} {n : Nat}, okIv θ E n C = true → ∀ (s : Nat) (q : Int × Int), C[s]? = some q → q.1 ≤ sgc θ σ (n + s) ∧ sgc θ σ (n + s) ≤ q.2
  | [], n, _, s, q, hq => by simp at hq
  | u :: t, n, h, s, q, hq => by
    unfold okIv at h
    rw [Bool.and_eq_true] at h
    cases s with
    | zero =>
      rw [List.getElem?_cons_zero] at hq
      cases hq
      have h := h.1
      cases h1 : lkT n θ with
      | none => rw [h1] at h; cases h
      | some f =>
        rw [h1] at h
        dsimp only at h
        cases h2 : iv E f with
        | none => rw [h2] at h; cases h
        | some w =>
          rw [h2] at h
          dsimp only at h
          rw [Bool.and_eq_true, leI_iff, leI_iff] at h
          have p := iv_ok hσ h2
          have e : sgc θ σ (n + 0) = ev σ f := by unfold sgc; rw [Nat.add_zero, h1]
          rw [e]
          omega
    | succ s =>
      rw [List.getElem?_cons_succ] at hq
      have r := okIv_ok hσ h.2 s q hq
      rw [show n + (s + 1) = n + 1 + s by omega]
      exact r
section RUN
variable {l : Launch} {D : va_G} {tys : List (ClassId × FieldType)} {A : Nat → Prop} {k d : Nat} {post : Option Value → va_W → Prop} {ad : Nat → Nat} {G : List GC} {mods : List Nat} {w0 : va_W}
theorem chkCut_ok {σ : Nat → Int} {E : EV} {als : AL} {ast : List AV} {ov : OV} {ws : va_W} {C : CUT} {m0 : Option LF} (h : chkCut m0 E als ast ov C = true) (hσ : inE σ E) (hH : HK ad tys G mods w0 σ ov ws) :
    ∃ τ : Nat → Int, inE τ C.1 ∧ HK ad tys G mods w0 τ C.2.2.2.1 ws ∧ (∀ q ∈ C.2.1.map (cvp ad τ), q ∈ als.map (cvp ad σ)) ∧ C.2.2.1.map (conc ad τ) = ast.map (conc ad σ) ∧ 0 ≤ ev τ C.2.2.2.2 ∧ ∀ q, m0 = some q → ev τ C.2.2.2.2 < ev σ q := by
  unfold chkCut at h
  cases h1 : mAL E als C.2.1 [] with
  | none => rw [h1] at h; cases h
  | some t1 =>
    rw [h1] at h
    dsimp only at h
    cases h2 : mSt E C.2.2.1 ast t1 with
    | none => rw [h2] at h; cases h
    | some t2 =>
      rw [h2] at h
      dsimp only at h
      cases h3 : mOv E ov C.2.2.2.1 t2 with
      | none => rw [h3] at h; cases h
      | some θ =>
        rw [h3] at h
        dsimp only at h
        rw [Bool.and_eq_true] at h
        obtain ⟨a1, a2⟩ := mAL_ok (ad := ad) hσ h1
        obtain ⟨b1, b2⟩ := mSt_ok (ad := ad) hσ _ _ _ _ h2
        obtain ⟨c1, c2⟩ := mOv_ok (ad := ad) hσ h3
        have I := okIv_ok hσ h.1
        have M := h.2
        cases h4 : sbT θ C.2.2.2.2.2 with
        | none => rw [h4] at M; cases M
        | some g =>
          rw [h4] at M
          dsimp only at M
          unfold chkM1 at M
          rw [Bool.and_eq_true] at M
          have em : ev (sgc θ σ) C.2.2.2.2 = ev σ (lfAdd (lfC C.2.2.2.2.1) g) := by
            rw [lfAdd_ev, lfC_ev, ← sbT_ok (σ := σ) h4]
            rfl
          refine ⟨sgc θ σ, fun s q hq => by have := I s q hq; rw [Nat.zero_add] at this; exact this, ⟨hH.1, c2 θ subT_rf ws hH.2.1, hH.2.2⟩, ?_, b2 θ c1, ?_, ?_⟩
          · intro q hq
            obtain ⟨p, hp, rfl⟩ := List.mem_map.mp hq
            exact a2 θ (subT_tr b1 c1) p hp
          · rw [em]
            have M1 := M.1
            cases h5 : iv E (lfAdd (lfC C.2.2.2.2.1) g) with
            | none => rw [h5] at M1; cases M1
            | some u =>
              rw [h5] at M1
              have p := iv_ok hσ h5
              have := leI_iff.mp M1
              omega
          · intro q hq
            rw [em]
            have M2 := M.2
            rw [hq] at M2
            dsimp only at M2
            cases h5 : iv E (lfSub (lfAdd (lfC C.2.2.2.2.1) g) q) with
            | none => rw [h5] at M2; cases M2
            | some u =>
              rw [h5] at M2
              have p := iv_ok hσ h5
              rw [lfSub_ev] at p
              have := leI_iff.mp M2
              omega
noncomputable abbrev CAL : Type := Nat → List AV → EV → OV → Option (List OUT)
noncomputable def exS0 (a b : Option (List OUT)) : Option (List OUT) := match a, b with
    | some a, some b => some (a ++ b)
    | _, _ => none
noncomputable def kapp (a b : List OUT) : List OUT := List.rec (motive := fun _ => List OUT) b (fun x _ ih => x :: ih) a
theorem kapp_eq (b : List OUT) : ∀ a : List OUT, kapp a b = a ++ b
  | [] => rfl
  | x :: t => by
    show x :: kapp t b = x :: (t ++ b)
    rw [kapp_eq b t]
noncomputable def exS (a b : Option (List OUT)) : Option (List OUT) := Option.rec (motive := fun _ => Option (List OUT)) none (fun a => Option.rec (motive := fun _ => Option (List OUT)) none (fun b => some (kapp a b)) b) a
theorem exS_def (a b : Option (List OUT)) : exS a b = exS0 a b := by
  cases a with
  | none => cases b <;> rfl
  | some a =>
    cases b with
    | none => rfl
    | some b => show some (kapp a b) = some (a ++ b); rw [kapp_eq]
noncomputable def exL (f : ST → Option (List OUT)) (l : List ST) : Option (List OUT) := List.rec (motive := fun _ => Option (List OUT)) (some []) (fun s t ih => List.rec (motive := fun _ => Option (List OUT)) (f s) (fun _ _ _ => exS (f s) ih) t) l
theorem exL_cons (f : ST → Option (List OUT)) (s : ST) (t : List ST) : exL f (s :: t) = exS (f s) (exL f t) := by
  cases t with
  | nil =>
    show f s = exS (f s) (some [])
    rw [exS_def]
    cases f s with
    | none => rfl
    | some a => show some a = some (a ++ []); rw [List.append_nil]
  | cons _ _ => rfl
noncomputable def kany (m0 : Option LF) (s : ST) (l : List (Nat × CUT)) : Bool := List.rec (motive := fun _ => Bool) false (fun q _ ih => Bool.rec (motive := fun _ => Bool) ih (Bool.rec (motive := fun _ => Bool) ih true (chkCut m0 s.2.1 s.2.2.1 s.2.2.2.1 s.2.2.2.2 q.2)) (Nat.beq q.1 s.1)) l
theorem kany_cons (m0 : Option LF) (s : ST) (q : Nat × CUT) (t : List (Nat × CUT)) : kany m0 s (q :: t) = ((Nat.beq q.1 s.1 && chkCut m0 s.2.1 s.2.2.1 s.2.2.2.1 s.2.2.2.2 q.2) || kany m0 s t) := by
  show (Bool.rec (motive := fun _ => Bool) (kany m0 s t) (Bool.rec (motive := fun _ => Bool) (kany m0 s t) true (chkCut m0 s.2.1 s.2.2.1 s.2.2.2.1 s.2.2.2.2 q.2)) (Nat.beq q.1 s.1) : Bool) = _
  cases Nat.beq q.1 s.1 <;> cases chkCut m0 s.2.1 s.2.2.1 s.2.2.2.1 s.2.2.2.2 q.2 <;> rfl
theorem kany_ok {m0 : Option LF} {s : ST} : ∀ {cuts : List (Nat × CUT)}, kany m0 s cuts = true → ∃ C, (s.1, C) ∈ cuts ∧ chkCut m0 s.2.1 s.2.2.1 s.2.2.2.1 s.2.2.2.2 C = true
  | [], h => by cases h
  | q :: t, h => by
    rw [kany_cons] at h
    rw [Bool.or_eq_true, Bool.and_eq_true] at h
    rcases h with h | h
    · refine ⟨q.2, ?_, h.2⟩
      rw [← Nat.eq_of_beq_eq_true h.1]
      exact List.mem_cons_self
    · obtain ⟨C, h1, h2⟩ := kany_ok h
      exact ⟨C, List.mem_cons_of_mem _ h1, h2⟩
noncomputable def kmask (l : List (Nat × CUT)) : Nat := List.rec (motive := fun _ => Nat) 0 (fun q _ ih => Nat.lor (Nat.shiftLeft 1 q.1) ih) l
noncomputable def anyCut (m0 : Option LF) (s : ST) (l : List (Nat × CUT)) : Bool := bif Nat.beq (Nat.land (Nat.shiftRight (kmask l) s.1) 1) 0 then false else kany m0 s l
theorem anyCut_ok {m0 : Option LF} {s : ST} {cuts : List (Nat × CUT)} (h : anyCut m0 s cuts = true) : ∃ C, (s.1, C) ∈ cuts ∧ chkCut m0 s.2.1 s.2.2.1 s.2.2.2.1 s.2.2.2.2 C = true := by
  unfold anyCut at h
  cases hb : Nat.beq (Nat.land (Nat.shiftRight (kmask cuts) s.1) 1) 0 with
  | true => rw [hb] at h; cases h
  | false => rw [hb] at h; exact kany_ok h
noncomputable def atS (cuts : List (Nat × CUT)) (m0 : Option LF) (go : ST → Option (List OUT)) (s : ST) : Option (List OUT) := bif anyCut m0 s cuts then some [] else go s
noncomputable def wsum : List AV → Nat
  | [] => 0
  | v :: vs => (bif Nat.beq v.1 1 then 2 else 1) + wsum vs
theorem wsum_ok {ad : Nat → Nat} {σ : Nat → Int} : ∀ {avs : List AV}, ((avs.map (conc ad σ)).map fun v => v.category).sum = wsum avs
  | [] => rfl
  | v :: vs => by
    rw [List.map_cons, List.map_cons, List.sum_cons, wsum_ok]
    show _ = (bif Nat.beq v.1 1 then 2 else 1) + wsum vs
    have c := conc_cat (ad := ad) (σ := σ) v
    rcases lv_cat (conc ad σ v) with q | q
    · rw [q] at c
      rw [q, ← c]
      rfl
    · rw [q] at c
      rw [q, ← c]
      rfl
noncomputable def okRc (G : List GC) (y z : Nat) (avs : List AV) : Bool := bif Nat.beq z 1 then true else match avs with
  | r :: _ => Nat.beq r.1 2 && (match G[r.2.1.1.toNat]? with
    | some g => Nat.beq g.1.1 0 && (Nat.beq g.1.2.1 (mCi y) && Nat.blt (mCi y) 99)
    | none => Nat.ble 1000 r.2.1.1.toNat && Nat.blt r.2.1.1.toNat 1024 && decide ((mY y).cls = "java/lang/String"))
  | [] => false
noncomputable def exC (G : List GC) (cuts : List (Nat × CUT)) (m0 : Option LF) (cal : CAL) (ih : ST → Option (List OUT)) (y z : Nat) (s : ST) : Option (List OUT) :=
  bif Nat.blt y 352 && (Nat.ble z 1 && (Nat.ble (mN y + (1 - z)) s.2.2.2.1.length && (Nat.ble (wsum (s.2.2.2.1.drop (mN y + (1 - z)))) 8 && (wfS s.2.1.length s.2.2.1 (s.2.2.2.1.drop (mN y + (1 - z))) [] && okRc G y z (s.2.2.2.1.take (mN y + (1 - z))).reverse)))) then
    (match cal y (s.2.2.2.1.take (mN y + (1 - z))).reverse s.2.1 s.2.2.2.2 with
    | some outs => exL (atS cuts m0 ih) (outs.map (fun o => (s.1 + 3, o.1, s.2.2.1, o.2.1.toList ++ s.2.2.2.1.drop (mN y + (1 - z)), o.2.2)))
    | none => none)
  else none
noncomputable def exB (G : List GC) (mods : List Nat) (k : Nat) (cuts : List (Nat × CUT)) (m0 : Option LF) (cal : CAL) (ih : ST → Option (List OUT)) (s : ST) : Option (List OUT) := match mI k s.1 with
  | (op, a, x, y, z) => bif Nat.beq op 26 then exC G cuts m0 cal ih y z s else match stpF op G mods k s.1 a x y z s.2.1 s.2.2.1 s.2.2.2.1 s.2.2.2.2 with
    | some (.inl o) => some [o]
    | some (.inr sts) => exL (atS cuts m0 ih) sts
    | none => match stp2 G mods (op, a, x, y, z) s.1 s.2.1 s.2.2.1 s.2.2.2.1 s.2.2.2.2 with
      | some (.inl o) => some [o]
      | some (.inr sts) => exL (atS cuts m0 ih) sts
      | none => none
noncomputable def exN (G : List GC) (mods : List Nat) (k : Nat) (cuts : List (Nat × CUT)) (m0 : Option LF) (cal : CAL) (n : Nat) : ST → Option (List OUT) := Nat.rec (motive := fun _ => ST → Option (List OUT)) (fun _ => none) (fun _ ih s => exL (exB G mods k cuts m0 cal ih) (prpF G (mI k s.1) s)) n
end RUN
end
section
section RUO
variable {l : Launch} {D : va_G} {tys : List (ClassId × FieldType)} {A : Nat → Prop} {k d : Nat} {post : Option Value → va_W → Prop} {ad : Nat → Nat} {G : List GC} {mods : List Nat} {w0 : va_W}
/-- what a call's outcomes say -/
noncomputable def PO (ad : Nat → Nat) (tys : List (ClassId × FieldType)) (G : List GC) (mods : List Nat) (w0 : va_W) (n : Nat) (σ : Nat → Int) (outs : List OUT) : Option Value → va_W → Prop := fun r ws' => ∃ o ∈ outs, ∃ σ' : Nat → Int, ext n σ σ' ∧ n ≤ o.1.length ∧ inE σ' o.1 ∧ r = o.2.1.map (conc ad σ') ∧ HK ad tys G mods w0 σ' o.2.2 ws'
noncomputable def CALok (l : Launch) (D : va_G) (tys : List (ClassId × FieldType)) (A : Nat → Prop) (ad : Nat → Nat) (G : List GC) (mods : List Nat) (w0 : va_W) (cal : CAL) (d : Nat) : Prop := ∀ (y : Nat) (avs : List AV) (E : EV) (ov : OV) (outs : List OUT) (σ : Nat → Int) (ws : va_W), cal y avs E ov = some outs → inE σ E → HK ad tys G mods w0 σ ov ws → y < 352 →
  ∃ d', d' < d ∧ CT l D tys A y d' 0 0 (avs.map (conc ad σ)) ws (PO ad tys G mods w0 E.length σ outs)
theorem exL_mem {f : ST → Option (List OUT)} : ∀ {sts : List ST} {outs : List OUT} {s : ST}, exL f sts = some outs → s ∈ sts → ∃ a, f s = some a ∧ ∀ o ∈ a, o ∈ outs
  | [], outs, s, _, hs => by cases hs
  | t :: r, outs, s, h, hs => by
    have h : exS (f t) (exL f r) = some outs := (exL_cons f t r).symm.trans h
    rw [exS_def] at h
    unfold exS0 at h
    cases h1 : f t with
    | none => rw [h1] at h; cases h
    | some a =>
      cases h2 : exL f r with
      | none => rw [h1, h2] at h; cases h
      | some b =>
        rw [h1, h2] at h
        cases h
        rcases List.mem_cons.mp hs with rfl | hs
        · exact ⟨a, h1, fun o ho => List.mem_append_left _ ho⟩
        · obtain ⟨c, c1, c2⟩ := exL_mem h2 hs
          exact ⟨c, c1, fun o ho => List.mem_append_right _ (c2 o ho)⟩
noncomputable def MB (m0 : Option LF) (n : Nat) (σ : Nat → Int) (B : Int → Prop) : Prop := (m0 = none ∧ ∀ x, B x) ∨ ∃ q, m0 = some q ∧ wfT n q.2 = true ∧ ∀ x, x < ev σ q → B x
theorem MB_ext {m0 : Option LF} {n m : Nat} {σ σ' : Nat → Int} {B : Int → Prop} (h : MB m0 n σ B) (hn : n ≤ m) (he : ext n σ σ') : MB m0 m σ' B := by
  rcases h with h | ⟨q, h1, h2, h3⟩
  · exact Or.inl h
  · refine Or.inr ⟨q, h1, wfT_le hn h2, fun x hx => h3 x ?_⟩
    have e : ev σ' q = ev σ q := by unfold ev; rw [wfT_ev he h2]
    omega
theorem ci_at {y : Nat} (hy : y < 352) (hk : mKind y = 0) (hne : mCi y < 99) : ∃ T N, vwCl[mCi y]? = some ((mY y).cls, T, N) := by
  have h := List.all_eq_true.mp ci_all y (List.mem_range.mpr hy)
  unfold ciOK at h
  rw [hk, Bool.or_eq_true, Bool.or_eq_true] at h
  rcases h with (h | h) | h
  · exact absurd h (by decide)
  · exact absurd (Nat.eq_of_beq_eq_true h) (by omega)
  · cases h1 : vwCl[mCi y]? with
    | none => rw [h1] at h; cases h
    | some q =>
      obtain ⟨C, T, N⟩ := q
      rw [h1] at h
      have h := of_decide_eq_true h
      dsimp only at h
      subst h
      exact ⟨T, N, rfl⟩
theorem cat_sum : ∀ st : List Value, (st.map fun v => v.category).sum ≤ 2 * st.length
  | [] => by simp
  | v :: t => by
    have h := cat_sum t
    rw [List.map_cons, List.sum_cons, List.length_cons]
    rcases lv_cat v with c | c <;> omega
theorem exC_ok {cuts : List (Nat × CUT)} {m0 : Option LF} {cal : CAL} {ih : ST → Option (List OUT)} {a : Int} {x y z : Nat} {s : ST} {outs : List OUT} {σ : Nat → Int} {ws : va_W} (hAD : ∀ i : Nat, ad (1000 + i) = D.2 1000 i) (hcal : CALok l D tys A ad G mods w0 cal d) (hi : mI k s.1 = (26, a, x, y, z)) (h : exC G cuts m0 cal ih y z s = some outs) (hσ : inE σ s.2.1) (hH : HK ad tys G mods w0 σ s.2.2.2.2 ws)
    (kk : ∀ s' a', atS cuts m0 ih s' = some a' → (∀ o ∈ a', o ∈ outs) → ∀ σ' ws', ext s.2.1.length σ σ' → s.2.1.length ≤ s'.2.1.length → inE σ' s'.2.1 → HK ad tys G mods w0 σ' s'.2.2.2.2 ws' → VS l D tys A k d post ad σ' s' ws') : VS l D tys A k d post ad σ s ws := by
  obtain ⟨pc, E, als, ast, ov⟩ := s
  unfold exC at h
  dsimp only at h hi hσ hH kk
  cases hc : (Nat.blt y 352 && (Nat.ble z 1 && (Nat.ble (mN y + (1 - z)) ast.length && (Nat.ble (wsum (ast.drop (mN y + (1 - z)))) 8 && (wfS E.length als (ast.drop (mN y + (1 - z))) [] && okRc G y z (ast.take (mN y + (1 - z))).reverse))))) with
  | false => rw [hc] at h; cases h
  | true =>
    rw [hc, cond_true] at h
    simp only [Bool.and_eq_true] at hc
    obtain ⟨b1, b2, b3, b4, b5, b6⟩ := hc
    have hy := Nat.blt_eq.mp b1
    have hz := Nat.le_of_ble_eq_true b2
    have hn := Nat.le_of_ble_eq_true b3
    have hl := Nat.le_of_ble_eq_true b4
    cases h1 : cal y (ast.take (mN y + (1 - z))).reverse E ov with
    | none => rw [h1] at h; cases h
    | some os =>
      rw [h1] at h
      dsimp only at h
      obtain ⟨d', hd, hct⟩ := hcal y _ E ov os σ ws h1 hσ hH hy
      have hsum : ((ast.drop (mN y + (1 - z))).map (conc ad σ) |>.map fun v => v.category).sum ≤ 8 := by
        rw [wsum_ok]
        exact hl
      have goOn : ∀ (r : Option Value) (ws' : va_W), PO ad tys G mods w0 E.length σ os r ws' → V l D tys A k d 0 0 post 0 0 (pc + 3) (als.map (cvp ad σ)) (r.toList ++ (ast.drop (mN y + (1 - z))).map (conc ad σ)) ws' := by
        rintro r ws' ⟨o, ho, σ', e1, e2, e3, rfl, e5⟩
        obtain ⟨a', a1, a2⟩ := exL_mem h (List.mem_map.mpr ⟨o, ho, rfl⟩)
        have K := kk _ a' a1 a2 σ' ws' e1 e2 e3 e5
        obtain ⟨w1, w2, -⟩ := wfS_ok (ad := ad) b5 e1
        have K : V l D tys A k d 0 0 post 0 0 (pc + 3) (als.map (cvp ad σ')) ((o.2.1.toList ++ ast.drop (mN y + (1 - z))).map (conc ad σ')) ws' := K
        rw [w1, List.map_append, w2] at K
        cases hr : o.2.1 with
        | none => rw [hr] at K; exact K
        | some v => rw [hr] at K; exact K
      have split : ast.map (conc ad σ) = (ast.take (mN y + (1 - z))).map (conc ad σ) ++ (ast.drop (mN y + (1 - z))).map (conc ad σ) := by
        rw [← List.map_append, List.take_append_drop]
      show V l D tys A k d 0 0 post 0 0 pc (als.map (cvp ad σ)) (ast.map (conc ad σ)) ws
      rw [split]
      rcases (show z = 0 ∨ z = 1 by omega) with rfl | rfl
      · have tk : (ast.take (mN y + (1 - 0))).length = mN y + 1 := by rw [List.length_take]; omega
        cases hrv : (ast.take (mN y + (1 - 0))).reverse with
        | nil => have := congrArg List.length hrv; rw [List.length_reverse, tk] at this; simp at this
        | cons r As =>
          rw [hrv] at b6 hct
          unfold okRc at b6
          rw [bif_f (by rfl)] at b6
          dsimp only at b6
          rw [Bool.and_eq_true] at b6
          obtain ⟨r1, r2⟩ := b6
          cases hg : G[r.2.1.1.toNat]? with
          | none =>
            rw [hg] at r2
            dsimp only at r2
            rw [Bool.and_eq_true, Bool.and_eq_true, decide_eq_true_eq] at r2
            obtain ⟨⟨x1, x2⟩, x3⟩ := r2
            have x1 := Nat.le_of_ble_eq_true x1
            have x2 := Nat.blt_eq.mp x2
            obtain ⟨w, hw⟩ := xs_at (i := r.2.1.1.toNat - 1000) (by omega)
            have hAs : As.length = mN y := by have := congrArg List.length hrv; rw [List.length_reverse, tk] at this; simp at this; omega
            have hae : ad r.2.1.1.toNat = D.2 1000 (r.2.1.1.toNat - 1000) := by
              have q := hAD (r.2.1.1.toNat - 1000)
              rw [show 1000 + (r.2.1.1.toNat - 1000) = r.2.1.1.toNat by omega] at q
              exact q
            have tkm : (ast.take (mN y + (1 - 0))).map (conc ad σ) = (As.map (conc ad σ)).reverse ++ [.ref (D.2 1000 (r.2.1.1.toNat - 1000))] := by
              have e := congrArg List.reverse hrv
              rw [List.reverse_reverse] at e
              rw [e, List.map_reverse, List.map_cons, List.reverse_cons, conc2 r1, hae]
            rw [tkm, List.append_assoc]
            rw [List.map_cons, conc2 r1, hae] at hct
            exact V_virtX hi hy hct hd (by rw [List.length_map]; exact hAs) hw x3 hsum ⟨Nat.le_refl _, Nat.le_refl _⟩ goOn
          | some g =>
            rw [hg] at r2
            dsimp only at r2
            rw [Bool.and_eq_true, Bool.and_eq_true] at r2
            have g1 := Nat.eq_of_beq_eq_true r2.1
            have g2 := Nat.eq_of_beq_eq_true r2.2.1
            have g3 := Nat.blt_eq.mp r2.2.2
            obtain ⟨e, q1, q2, q3⟩ := hH.1 _ g hg
            obtain ⟨⟨kd, ty, n⟩, segs⟩ := g
            dsimp only at g1 g2
            subst g1; subst g2
            obtain ⟨fs, rfl, hlen⟩ := q2
            have t26 : ok26 k pc a x y 0 = true := by have t := tabOK k pc; rw [hi] at t; exact t
            have t26 : (Nat.beq (mKind y) 0 && wAt a (Cond.methodLink (mOwn k) x (mY y)) && dec k pc (.invokevirtual x) 3) = true := t26
            rw [Bool.and_eq_true, Bool.and_eq_true] at t26
            obtain ⟨T, N, hcl⟩ := ci_at hy (Nat.eq_of_beq_eq_true t26.1.1) g3
            have hAs : As.length = mN y := by have := congrArg List.length hrv; rw [List.length_reverse, tk] at this; simp at this; omega
            have tkm : (ast.take (mN y + (1 - 0))).map (conc ad σ) = (As.map (conc ad σ)).reverse ++ [.ref (ad r.2.1.1.toNat)] := by
              have e := congrArg List.reverse hrv
              rw [List.reverse_reverse] at e
              rw [e, List.map_reverse, List.map_cons, List.reverse_cons, conc2 r1]
            rw [tkm, List.append_assoc]
            rw [List.map_cons, conc2 r1] at hct
            exact V_virt hi hy hct hd (by rw [List.length_map]; exact hAs) q1 hcl hsum ⟨Nat.le_refl _, Nat.le_refl _⟩ goOn
      · have tkm : (ast.take (mN y + (1 - 1))).map (conc ad σ) = ((ast.take (mN y + (1 - 1))).reverse.map (conc ad σ)).reverse := by rw [List.map_reverse, List.reverse_reverse]
        rw [tkm]
        refine V_stat hi hy hct hd ?_ hsum ⟨Nat.le_refl _, Nat.le_refl _⟩ goOn
        rw [List.length_map, List.length_reverse, List.length_take]
        omega
theorem exB_ok {cuts : List (Nat × CUT)} {m0 : Option LF} {cal : CAL} {ih : ST → Option (List OUT)} {s : ST} {outs : List OUT} {σ : Nat → Int} {ws : va_W} (hAD : ∀ i : Nat, ad (1000 + i) = D.2 1000 i) (hcal : CALok l D tys A ad G mods w0 cal d) (h : exB G mods k cuts m0 cal ih s = some outs) (hσ : inE σ s.2.1) (hH : HK ad tys G mods w0 σ s.2.2.2.2 ws)
    (hp : ∀ o ∈ outs, ∀ (σ' : Nat → Int) (ws' : va_W), ext s.2.1.length σ σ' → s.2.1.length ≤ o.1.length → inE σ' o.1 → HK ad tys G mods w0 σ' o.2.2 ws' → post (o.2.1.map (conc ad σ')) ws')
    (key : ∀ s' a', atS cuts m0 ih s' = some a' → (∀ o ∈ a', o ∈ outs) → ∀ σ' ws', ext s.2.1.length σ σ' → s.2.1.length ≤ s'.2.1.length → inE σ' s'.2.1 → HK ad tys G mods w0 σ' s'.2.2.2.2 ws' → VS l D tys A k d post ad σ' s' ws') : VS l D tys A k d post ad σ s ws := by
  unfold exB at h
  cases hi : mI k s.1 with
  | mk op q =>
    obtain ⟨a, x, y, z⟩ := q
    rw [hi] at h
    dsimp only at h
    cases h26 : Nat.beq op 26 with
    | true =>
      rw [h26, cond_true] at h
      have e := Nat.eq_of_beq_eq_true h26
      subst e
      exact exC_ok hAD hcal hi h hσ hH key
    | false =>
      rw [h26, cond_false, stpF_eq] at h
      cases hs : stp G mods k s.1 (op, a, x, y, z) s.2.1 s.2.2.1 s.2.2.2.1 s.2.2.2.2 with
      | none =>
        rw [hs] at h
        dsimp only at h
        cases hs2 : stp2 G mods (op, a, x, y, z) s.1 s.2.1 s.2.2.1 s.2.2.2.1 s.2.2.2.2 with
        | none => rw [hs2] at h; cases h
        | some r =>
          rw [hs2] at h
          refine stp2_ok (post := post) hAD hi hs2 hσ hH ?_
          cases r with
          | inl o =>
            cases h
            exact fun σ' ws' e1 e2 e3 e4 => hp o (List.mem_singleton.mpr rfl) σ' ws' e1 e2 e3 e4
          | inr sts =>
            dsimp only at h
            intro s' hs' σ' ws' e1 e2 e3 e4
            obtain ⟨a', a1, a2⟩ := exL_mem h hs'
            exact key s' a' a1 a2 σ' ws' e1 e2 e3 e4
      | some r =>
        rw [hs] at h
        refine stp_ok (post := post) hi hs hσ hH ?_
        cases r with
        | inl o =>
          cases h
          exact fun σ' ws' e1 e2 e3 e4 => hp o (List.mem_singleton.mpr rfl) σ' ws' e1 e2 e3 e4
        | inr sts =>
          dsimp only at h
          intro s' hs' σ' ws' e1 e2 e3 e4
          obtain ⟨a', a1, a2⟩ := exL_mem h hs'
          exact key s' a' a1 a2 σ' ws' e1 e2 e3 e4
theorem exN_ok {cuts : List (Nat × CUT)} {m0 : Option LF} {cal : CAL} {B : Int → Prop} (hAD : ∀ i : Nat, ad (1000 + i) = D.2 1000 i) (hcal : CALok l D tys A ad G mods w0 cal d)
    (hcut : ∀ (pc : Nat) (C : CUT), (pc, C) ∈ cuts → ∀ (τ : Nat → Int) (ws : va_W), inE τ C.1 → HK ad tys G mods w0 τ C.2.2.2.1 ws → 0 ≤ ev τ C.2.2.2.2 → B (ev τ C.2.2.2.2) → V l D tys A k d 0 0 post 0 0 pc (C.2.1.map (cvp ad τ)) (C.2.2.1.map (conc ad τ)) ws) :
    ∀ (n : Nat) (s : ST) (outs : List OUT) (σ : Nat → Int) (ws : va_W), exN G mods k cuts m0 cal n s = some outs → inE σ s.2.1 → HK ad tys G mods w0 σ s.2.2.2.2 ws → MB m0 s.2.1.length σ B →
      (∀ o ∈ outs, ∀ (σ' : Nat → Int) (ws' : va_W), ext s.2.1.length σ σ' → s.2.1.length ≤ o.1.length → inE σ' o.1 → HK ad tys G mods w0 σ' o.2.2 ws' → post (o.2.1.map (conc ad σ')) ws') → VS l D tys A k d post ad σ s ws
  | 0, s, outs, σ, ws, h, _, _, _, _ => by cases h
  | n + 1, s, outs, σ, ws, h, hσ, hH, hM, hp => by
    have h : exL (exB G mods k cuts m0 cal (exN G mods k cuts m0 cal n)) (prpF G (mI k s.1) s) = some outs := h
    rw [prpF_eq] at h
    obtain ⟨t, ht, ρ, r1, r2, r3, r4, r5, r6, r7⟩ := prp_ok (xi := mI k s.1) σ ws hσ hH
    obtain ⟨a0, b1, b2⟩ := exL_mem h ht
    have hM2 := MB_ext hM r2 r1
    have key : ∀ s' a', atS cuts m0 (exN G mods k cuts m0 cal n) s' = some a' → (∀ o ∈ a', o ∈ a0) → ∀ σ' ws', ext t.2.1.length ρ σ' → t.2.1.length ≤ s'.2.1.length → inE σ' s'.2.1 → HK ad tys G mods w0 σ' s'.2.2.2.2 ws' → VS l D tys A k d post ad σ' s' ws' := by
      intro s' a' ha hsub σ' ws' he hle hσ' hH'
      unfold atS at ha
      have hM' := MB_ext hM2 hle he
      cases hk : anyCut m0 s' cuts with
      | true =>
        obtain ⟨C, hc, hk⟩ := anyCut_ok hk
        obtain ⟨τ, t1, t2, t3, t4, t5, t6⟩ := chkCut_ok hk hσ' hH'
        have K := hcut _ C hc τ ws' t1 t2 t5 (by
          rcases hM' with ⟨-, hB⟩ | ⟨q, q1, q2, q3⟩
          · exact hB _
          · exact q3 _ (t6 q q1))
        rw [t4] at K
        exact V_sub t3 K
      | false =>
        rw [hk] at ha
        have ha : exN G mods k cuts m0 cal n s' = some a' := ha
        refine exN_ok hAD hcal hcut n s' a' σ' ws' ha hσ' hH' hM' (fun o ho σ2 ws2 e1 e2 e3 e4 => ?_)
        exact hp o (b2 o (hsub o ho)) σ2 ws2 (ext_tr r2 r1 (ext_tr hle he e1)) (Nat.le_trans r2 (Nat.le_trans hle e2)) e3 e4
    have K := exB_ok hAD hcal b1 r3 r4 (fun o ho σ' ws' e1 e2 e3 e4 => hp o (b2 o ho) σ' ws' (ext_tr r2 r1 e1) (Nat.le_trans r2 e2) e3 e4) key
    unfold VS at K ⊢
    rw [r5, r6, r7] at K
    exact K
end RUO
end
section
noncomputable abbrev SP3 : Type := Nat × Int × Int
/-- a contract: method, arguments, what must lie where, the answer, what lies where behind it, which cells it may write -/
noncomputable abbrev CR : Type := Nat × List SP3 × List ((Nat × Nat) × SP3) × Option SP3 × List ((Nat × Nat) × SP3) × List Nat
noncomputable def mk1 (E : EV) (sp : SP3) : EV × AV := bif Nat.ble sp.1 1 then (bif eqI sp.2.1 sp.2.2 then (E, (sp.1, lfC sp.2.1, lf0)) else (E ++ [sp.2], (sp.1, lfS E.length, lf0))) else (E, rA sp.2.1)
noncomputable def mkAs : EV → List SP3 → EV × List AV
  | E, [] => (E, [])
  | E, sp :: t => ((mkAs (mk1 E sp).1 t).1, (mk1 E sp).2 :: (mkAs (mk1 E sp).1 t).2)
noncomputable def mkOv : EV → List ((Nat × Nat) × SP3) → EV × OV
  | E, [] => (E, [])
  | E, q :: t => ((mkOv (mk1 E q.2).1 t).1, (q.1, (mk1 E q.2).2) :: (mkOv (mk1 E q.2).1 t).2)
noncomputable def okvs (ad : Nat → Nat) : List SP3 → List Value → Prop
  | [], [] => True
  | sp :: t, v :: r => okv ad sp v ∧ okvs ad t r
  | _, _ => False
noncomputable def preOK (ad : Nat → Nat) (pre : List ((Nat × Nat) × SP3)) (ws : va_W) : Prop := ∀ q ∈ pre, ∃ v, rd ws q.1.1 q.1.2 = some v ∧ okv ad q.2 v
noncomputable def rtOK (ad : Nat → Nat) : Option SP3 → Option Value → Prop
  | none, none => True
  | some sp, some v => okv ad sp v
  | _, _ => False
theorem mk1_ok {ad : Nat → Nat} {σ : Nat → Int} {E : EV} {sp : SP3} {v : Value} (hσ : inE σ E) (h : okv ad sp v) : ∃ σ', ext E.length σ σ' ∧ E.length ≤ (mk1 E sp).1.length ∧ inE σ' (mk1 E sp).1 ∧ conc ad σ' (mk1 E sp).2 = v ∧ wfA (mk1 E sp).1.length (mk1 E sp).2 = true := by
  obtain ⟨t, lo, hi⟩ := sp
  unfold mk1
  dsimp only
  match t, h with
  | 0, h =>
    obtain ⟨z, rfl, z1, z2⟩ := h
    have z1 : lo ≤ z := z1
    have z2 : z ≤ hi := z2
    cases he : eqI lo hi with
    | true =>
      have he' := eqI_iff.mp he
      refine ⟨σ, ext_rf, Nat.le_refl _, hσ, ?_, rfl⟩
      show Value.int (Int32.ofInt (ev σ (lfC lo))) = _
      rw [lfC_ev]
      congr 2
      omega
    | false =>
      refine ⟨upS σ E.length z, up_ext, by show E.length ≤ (E ++ [(lo, hi)]).length; simp, inE_push hσ z1 z2, ?_, ?_⟩
      · show Value.int (Int32.ofInt (ev _ (lfS E.length))) = _
        rw [lfS_ev, up_self]
      · show (wfT (E ++ [(lo, hi)]).length [(1, E.length)] && wfT (E ++ [(lo, hi)]).length []) = true
        simp [wfT_cons, wfT_nil, Nat.blt_eq]
  | 1, h =>
    obtain ⟨z, rfl, z1, z2⟩ := h
    have z1 : lo ≤ z := z1
    have z2 : z ≤ hi := z2
    cases he : eqI lo hi with
    | true =>
      have he' := eqI_iff.mp he
      refine ⟨σ, ext_rf, Nat.le_refl _, hσ, ?_, rfl⟩
      show Value.long (Int64.ofInt (ev σ (lfC lo))) = _
      rw [lfC_ev]
      congr 2
      omega
    | false =>
      refine ⟨upS σ E.length z, up_ext, by show E.length ≤ (E ++ [(lo, hi)]).length; simp, inE_push hσ z1 z2, ?_, ?_⟩
      · show Value.long (Int64.ofInt (ev _ (lfS E.length))) = _
        rw [lfS_ev, up_self]
      · show (wfT (E ++ [(lo, hi)]).length [(1, E.length)] && wfT (E ++ [(lo, hi)]).length []) = true
        simp [wfT_cons, wfT_nil, Nat.blt_eq]
  | 2, h =>
    have h : v = .ref (ad lo.toNat) := h
    subst h
    exact ⟨σ, ext_rf, Nat.le_refl _, hσ, rfl, rfl⟩
  | n + 3, h => exact h.elim
theorem mkAs_ok {ad : Nat → Nat} : ∀ {sps : List SP3} {vs : List Value} {E : EV} {σ : Nat → Int}, inE σ E → okvs ad sps vs → ∃ σ', ext E.length σ σ' ∧ E.length ≤ (mkAs E sps).1.length ∧ inE σ' (mkAs E sps).1 ∧ (mkAs E sps).2.map (conc ad σ') = vs
  | [], [], E, σ, hσ, _ => ⟨σ, ext_rf, Nat.le_refl _, hσ, by unfold mkAs; rw [List.map_nil]⟩
  | [], _ :: _, E, σ, _, h => h.elim
  | _ :: _, [], E, σ, _, h => h.elim
  | sp :: t, v :: r, E, σ, hσ, h => by
    obtain ⟨σ1, a1, a2, a3, a4, a5⟩ := mk1_ok hσ h.1
    obtain ⟨σ2, b1, b2, b3, b4⟩ := mkAs_ok a3 h.2
    refine ⟨σ2, ext_tr a2 a1 b1, Nat.le_trans a2 b2, b3, ?_⟩
    show ((mk1 E sp).2 :: (mkAs (mk1 E sp).1 t).2).map (conc ad σ2) = v :: r
    rw [List.map_cons, b4, conc_ext b1 a5, a4]
theorem mkOv_ok {ad : Nat → Nat} {ws : va_W} : ∀ {pre : List ((Nat × Nat) × SP3)} {E : EV} {σ : Nat → Int}, inE σ E → preOK ad pre ws → ∃ σ', ext E.length σ σ' ∧ E.length ≤ (mkOv E pre).1.length ∧ inE σ' (mkOv E pre).1 ∧ OVok ad σ' (mkOv E pre).2 ws
  | [], E, σ, hσ, _ => ⟨σ, ext_rf, Nat.le_refl _, hσ, fun q hq => by unfold mkOv at hq; cases hq⟩
  | q :: t, E, σ, hσ, h => by
    obtain ⟨v, v1, v2⟩ := h q List.mem_cons_self
    obtain ⟨σ1, a1, a2, a3, a4, a5⟩ := mk1_ok hσ v2
    obtain ⟨σ2, b1, b2, b3, b4⟩ := mkOv_ok (pre := t) a3 (fun p hp => h p (List.mem_cons_of_mem _ hp))
    refine ⟨σ2, ext_tr a2 a1 b1, Nat.le_trans a2 b2, b3, fun p hp => ?_⟩
    have hp : p ∈ (q.1, (mk1 E q.2).2) :: (mkOv (mk1 E q.2).1 t).2 := hp
    rcases List.mem_cons.mp hp with rfl | hp
    · show rd ws q.1.1 q.1.2 = some (conc ad σ2 (mk1 E q.2).2)
      rw [conc_ext b1 a5, a4]
      exact v1
    · exact b4 p hp
noncomputable def spOK (E : EV) (v : AV) (sp : SP3) : Bool := bif Nat.beq sp.1 2 then Nat.beq v.1 2 && eqI v.2.1.1 sp.2.1 else stOK E v sp
theorem spOK_ok {ad : Nat → Nat} {σ : Nat → Int} {E : EV} {v : AV} {sp : SP3} (hσ : inE σ E) (h : spOK E v sp = true) : okv ad sp (conc ad σ v) := by
  unfold spOK at h
  cases h2 : Nat.beq sp.1 2 with
  | true =>
    rw [h2, cond_true, Bool.and_eq_true] at h
    have e := eqI_iff.mp h.2
    rw [conc2 h.1, e]
    have e2 := Nat.eq_of_beq_eq_true h2
    unfold okv
    rw [e2]
    exact rfl
  | false =>
    rw [h2, cond_false] at h
    exact (stOK_ok h hσ).1
noncomputable def argM (E : EV) : List SP3 → List AV → Bool
  | [], avs => match avs with
    | [] => true
    | _ => false
  | sp :: t, avs => match avs with
    | [] => false
    | v :: r => spOK E v sp && argM E t r
noncomputable def preM (E : EV) (ov : OV) : List ((Nat × Nat) × SP3) → Bool
  | [] => true
  | q :: t => (match ovAt q.1.1 q.1.2 ov with
    | some v => spOK E v q.2
    | none => false) && preM E ov t
noncomputable def allN (l : List Nat) : List Nat → Bool
  | [] => true
  | c :: t => memN c l && allN l t
theorem allN_in {l : List Nat} : ∀ {c : List Nat}, allN l c = true → ∀ x ∈ c, x ∈ l
  | [], _, x, hx => by cases hx
  | c :: t, h, x, hx => by
    unfold allN at h
    rw [Bool.and_eq_true] at h
    rcases List.mem_cons.mp hx with rfl | hx
    · exact memN_in h.1
    · exact allN_in h.2 x hx
theorem argM_ok {ad : Nat → Nat} {σ : Nat → Int} {E : EV} (hσ : inE σ E) : ∀ {sps : List SP3} {avs : List AV}, argM E sps avs = true → okvs ad sps (avs.map (conc ad σ))
  | [], [], _ => trivial
  | [], _ :: _, h => by unfold argM at h; cases h
  | _ :: _, [], h => by unfold argM at h; cases h
  | sp :: t, v :: r, h => by
    unfold argM at h
    dsimp only at h
    rw [Bool.and_eq_true] at h
    exact ⟨spOK_ok hσ h.1, argM_ok hσ h.2⟩
theorem preM_ok {ad : Nat → Nat} {σ : Nat → Int} {E : EV} {ov : OV} {ws : va_W} (hσ : inE σ E) (ho : OVok ad σ ov ws) : ∀ {pre : List ((Nat × Nat) × SP3)}, preM E ov pre = true → preOK ad pre ws
  | [], _, q, hq => by cases hq
  | p :: t, h, q, hq => by
    unfold preM at h
    rw [Bool.and_eq_true] at h
    rcases List.mem_cons.mp hq with rfl | hq
    · have h := h.1
      cases h1 : ovAt q.1.1 q.1.2 ov with
      | none => rw [h1] at h; cases h
      | some v =>
        rw [h1] at h
        exact ⟨_, ho _ (ovAt_mem h1), spOK_ok hσ h⟩
    · exact preM_ok hσ ho h.2 q hq
noncomputable def tabG (B : Nat) (mods : List Nat) (E : EV) (ov : OV) (y : Nat) (avs : List AV) (T : List (Nat × CR)) : Option CR := List.rec (motive := fun _ => Option CR) none (fun c _ ih => bif Nat.beq c.2.1 y then (bif Nat.ble c.1 B && (argM E c.2.2.1 avs && (allN mods c.2.2.2.2.2.2 && preM E ov c.2.2.2.1)) then some c.2 else ih) else ih) T
theorem tabG_cons (B : Nat) (mods : List Nat) (E : EV) (ov : OV) (y : Nat) (avs : List AV) (c : Nat × CR) (t : List (Nat × CR)) : tabG B mods E ov y avs (c :: t) = bif Nat.beq c.2.1 y && (Nat.ble c.1 B && (argM E c.2.2.1 avs && (allN mods c.2.2.2.2.2.2 && preM E ov c.2.2.2.1))) then some c.2 else tabG B mods E ov y avs t := by
  show (bif Nat.beq c.2.1 y then (bif Nat.ble c.1 B && (argM E c.2.2.1 avs && (allN mods c.2.2.2.2.2.2 && preM E ov c.2.2.2.1)) then some c.2 else tabG B mods E ov y avs t) else tabG B mods E ov y avs t) = _
  cases Nat.beq c.2.1 y <;> rfl
theorem tabG_ok {B : Nat} {mods : List Nat} {E : EV} {ov : OV} {y : Nat} {avs : List AV} : ∀ {T : List (Nat × CR)} {c : CR}, tabG B mods E ov y avs T = some c → (∃ d, (d, c) ∈ T ∧ d ≤ B) ∧ c.1 = y ∧ argM E c.2.1 avs = true ∧ allN mods c.2.2.2.2.2 = true ∧ preM E ov c.2.2.1 = true
  | [], c, h => by cases h
  | b :: t, c, h => by
    rw [tabG_cons] at h
    cases hb : (Nat.beq b.2.1 y && (Nat.ble b.1 B && (argM E b.2.2.1 avs && (allN mods b.2.2.2.2.2.2 && preM E ov b.2.2.2.1)))) with
    | true =>
      rw [hb] at h
      cases h
      rw [Bool.and_eq_true, Bool.and_eq_true, Bool.and_eq_true, Bool.and_eq_true] at hb
      exact ⟨⟨b.1, List.mem_cons_self, Nat.le_of_ble_eq_true hb.2.1⟩, Nat.eq_of_beq_eq_true hb.1, hb.2.2.1, hb.2.2.2.1, hb.2.2.2.2⟩
    | false =>
      rw [hb] at h
      obtain ⟨⟨d, a, e⟩, b⟩ := tabG_ok h
      exact ⟨⟨d, List.mem_cons_of_mem _ a, e⟩, b⟩
noncomputable def retA (E : EV) : Option SP3 → EV × Option AV
  | none => (E, none)
  | some sp => ((mk1 E sp).1, some (mk1 E sp).2)
noncomputable def spP (ms : List Nat) (q : Nat × Nat) : Bool := Nat.beq q.1 90 && ((Nat.beq q.2 22 && !(memN 1022 ms)) || (Nat.beq q.2 24 && !(memN 1024 ms)))
theorem spP_ok {ms : List Nat} {q : Nat × Nat} (h : spP ms q = true) : q.1 = mnC ∧ spM ms q.2 := by
  unfold spP at h
  rw [Bool.and_eq_true, Bool.or_eq_true, Bool.and_eq_true, Bool.and_eq_true] at h
  refine ⟨Nat.eq_of_beq_eq_true h.1, ?_⟩
  rcases h.2 with ⟨a, b⟩ | ⟨a, b⟩
  · exact Or.inr (Or.inl ⟨Nat.eq_of_beq_eq_true a, memN_not (by simpa using b)⟩)
  · exact Or.inr (Or.inr ⟨Nat.eq_of_beq_eq_true a, memN_not (by simpa using b)⟩)
noncomputable def tabF (B : Nat) (mods : List Nat) (T : List (Nat × CR)) : CAL := fun y avs E ov => match tabG B mods E ov y avs T with
  | some c => bif wfS E.length [] [] ov then some [((mkOv (retA E c.2.2.2.1).1 c.2.2.2.2.1).1, (retA E c.2.2.2.1).2, (mkOv (retA E c.2.2.2.1).1 c.2.2.2.2.1).2 ++ ov.filter (fun q => !(memN q.1.1 c.2.2.2.2.2) || spP c.2.2.2.2.2 q.1))] else none
  | none => none
section TAB
variable {l : Launch} {D : va_G} {tys : List (ClassId × FieldType)} {A : Nat → Prop} {ad : Nat → Nat} {G : List GC}
noncomputable def CRpost (ad : Nat → Nat) (tys : List (ClassId × FieldType)) (G : List GC) (c : CR) (ws : va_W) : Option Value → va_W → Prop := fun r ws' => GOK ad tys G ws' ∧ FRm c.2.2.2.2.2 ws ws' ∧ rtOK ad c.2.2.2.1 r ∧ preOK ad c.2.2.2.2.1 ws'
noncomputable def CRok (l : Launch) (D : va_G) (tys : List (ClassId × FieldType)) (A : Nat → Prop) (ad : Nat → Nat) (G : List GC) (d : Nat) (c : CR) : Prop := ∀ (vs : List Value) (ws : va_W), okvs ad c.2.1 vs → GOK ad tys G ws → preOK ad c.2.2.1 ws → ∃ d', d' < d ∧ CT l D tys A c.1 d' 0 0 vs ws (CRpost ad tys G c ws)
/-- what the contracts of a table say, in the worlds that keep the rest of w0 -/
noncomputable def TOK (l : Launch) (D : va_G) (tys : List (ClassId × FieldType)) (A : Nat → Prop) (ad : Nat → Nat) (G : List GC) (mods : List Nat) (w0 : va_W) (T : List (Nat × CR)) : Prop := ∀ q ∈ T, ∀ (vs : List Value) (ws : va_W), okvs ad q.2.2.1 vs → GOK ad tys G ws → preOK ad q.2.2.2.1 ws → FRm mods w0 ws → ∃ d', d' < q.1 ∧ CT l D tys A q.2.1 d' 0 0 vs ws (CRpost ad tys G q.2 ws)
theorem TOK_of {mods : List Nat} {w0 : va_W} {T : List (Nat × CR)} (hT : ∀ q ∈ T, CRok l D tys A ad G q.1 q.2) : TOK l D tys A ad G mods w0 T := fun c hc vs ws h1 h2 h3 _ => hT c hc vs ws h1 h2 h3
theorem tab_ok {mods : List Nat} {w0 : va_W} {T : List (Nat × CR)} {d : Nat} (hT : TOK l D tys A ad G mods w0 T) : CALok l D tys A ad G mods w0 (tabF d mods T) d := by
  intro y avs E ov outs σ ws h hσ hH hy
  unfold tabF at h
  cases h1 : tabG d mods E ov y avs T with
  | none => rw [h1] at h; cases h
  | some c =>
    rw [h1] at h
    dsimp only at h
    cases hw : wfS E.length [] [] ov with
    | false => rw [hw] at h; cases h
    | true =>
      rw [hw] at h
      cases h
      obtain ⟨⟨dc, c1, cB⟩, rfl, c3, c4, c5⟩ := tabG_ok h1
      obtain ⟨d', hd, hct⟩ := hT (dc, c) c1 (avs.map (conc ad σ)) ws (argM_ok hσ c3) hH.1 (preM_ok hσ hH.2.1 c5) hH.2.2
      refine ⟨d', Nat.lt_of_lt_of_le hd cB, CT_post hct ?_⟩
      rintro r ws' ⟨q1, q2, q3, q4⟩
      have hR : ∃ σ1, ext E.length σ σ1 ∧ E.length ≤ (retA E c.2.2.2.1).1.length ∧ inE σ1 (retA E c.2.2.2.1).1 ∧ r = (retA E c.2.2.2.1).2.map (conc ad σ1) ∧ ∀ v, (retA E c.2.2.2.1).2 = some v → wfA (retA E c.2.2.2.1).1.length v = true := by
        cases hr : c.2.2.2.1 with
        | none =>
          rw [hr] at q3
          cases r with
          | some _ => exact q3.elim
          | none => exact ⟨σ, ext_rf, Nat.le_refl _, hσ, by show none = Option.map _ none; rw [Option.map_none], fun v hv => by cases hv⟩
        | some sp =>
          rw [hr] at q3
          cases r with
          | none => exact q3.elim
          | some v =>
            obtain ⟨σ1, a1, a2, a3, a4, a5⟩ := mk1_ok hσ q3
            exact ⟨σ1, a1, a2, a3, by show some v = some (conc ad σ1 (mk1 E sp).2); rw [a4], fun w hw => by cases hw; exact a5⟩
      obtain ⟨σ1, a1, a2, a3, a4, a5⟩ := hR
      obtain ⟨σ2, b1, b2, b3, b4⟩ := mkOv_ok (pre := c.2.2.2.2.1) a3 q4
      refine ⟨_, List.mem_singleton.mpr rfl, σ2, ext_tr a2 a1 b1, Nat.le_trans a2 b2, b3, ?_, q1, ?_, ?_⟩
      · rw [a4]
        dsimp only
        cases hr : (retA E c.2.2.2.1).2 with
        | none => rw [Option.map_none, Option.map_none]
        | some v => show some _ = some _; rw [conc_ext b1 (a5 v hr)]
      · intro p hp
        rcases List.mem_append.mp hp with hp | hp
        · exact b4 p hp
        · obtain ⟨p1, p2⟩ := List.mem_filter.mp hp
          obtain ⟨-, -, e3⟩ := wfS_ok (ad := ad) hw (ext_tr a2 a1 b1)
          have p2 : (!(memN p.1.1 c.2.2.2.2.2) || spP c.2.2.2.2.2 p.1) = true := p2
          rw [Bool.or_eq_true] at p2
          have e4 := e3 ws hH.2.1 p p1
          rcases p2 with p2 | p2
          · have hm : memN p.1.1 c.2.2.2.2.2 = false := by simpa using p2
            rw [q2.1 p.1.1 (memN_not hm)]
            exact e4
          · obtain ⟨t1, t2⟩ := spP_ok p2
            rw [t1] at e4 ⊢
            rw [q2.2.2.2 _ t2]
            exact e4
      · exact FRm_tr hH.2.2 q2 (fun x hx => allN_in c4 x hx)
/-- contracts whose answer lies in one of two ranges, and that write nothing -/
noncomputable abbrev CR2 : Type := Nat × List SP3 × SP3 × SP3
noncomputable def alt2 (B : Nat) (E : EV) (y : Nat) (avs : List AV) : List (Nat × CR2) → Option CR2
  | [] => none
  | c :: t => bif Nat.beq c.2.1 y && (Nat.ble c.1 B && argM E c.2.2.1 avs) then some c.2 else alt2 B E y avs t
theorem alt2_ok {B : Nat} {E : EV} {y : Nat} {avs : List AV} : ∀ {T : List (Nat × CR2)} {c : CR2}, alt2 B E y avs T = some c → (∃ d, (d, c) ∈ T ∧ d ≤ B) ∧ c.1 = y ∧ argM E c.2.1 avs = true
  | [], c, h => by cases h
  | b :: t, c, h => by
    unfold alt2 at h
    cases hb : (Nat.beq b.2.1 y && (Nat.ble b.1 B && argM E b.2.2.1 avs)) with
    | true =>
      rw [hb] at h
      cases h
      rw [Bool.and_eq_true, Bool.and_eq_true] at hb
      exact ⟨⟨b.1, List.mem_cons_self, Nat.le_of_ble_eq_true hb.2.1⟩, Nat.eq_of_beq_eq_true hb.1, hb.2.2⟩
    | false =>
      rw [hb] at h
      obtain ⟨⟨d, a, e⟩, b⟩ := alt2_ok h
      exact ⟨⟨d, List.mem_cons_of_mem _ a, e⟩, b⟩
noncomputable def tabX (B : Nat) (mods : List Nat) (T : List (Nat × CR)) (T2 : List (Nat × CR2)) : CAL := fun y avs E ov => match tabF B mods T y avs E ov with
  | some o => some o
  | none => match alt2 B E y avs T2 with
    | some c => bif wfS E.length [] [] ov then some [((mk1 E c.2.2.1).1, some (mk1 E c.2.2.1).2, ov), ((mk1 E c.2.2.2).1, some (mk1 E c.2.2.2).2, ov)] else none
    | none => none
noncomputable def T2OK (l : Launch) (D : va_G) (tys : List (ClassId × FieldType)) (A : Nat → Prop) (ad : Nat → Nat) (T2 : List (Nat × CR2)) : Prop := ∀ q ∈ T2, ∀ (vs : List Value) (ws : va_W), okvs ad q.2.2.1 vs → ∃ d', d' < q.1 ∧ CT l D tys A q.2.1 d' 0 0 vs ws (fun r ws' => ws' = ws ∧ (rtOK ad (some q.2.2.2.1) r ∨ rtOK ad (some q.2.2.2.2) r))
theorem T2OK_nil : T2OK l D tys A ad [] := fun c hc => by cases hc
theorem tabX_ok {mods : List Nat} {w0 : va_W} {T : List (Nat × CR)} {T2 : List (Nat × CR2)} {d : Nat} (hT : TOK l D tys A ad G mods w0 T) (hT2 : T2OK l D tys A ad T2) : CALok l D tys A ad G mods w0 (tabX d mods T T2) d := by
  intro y avs E ov outs σ ws h hσ hH hy
  unfold tabX at h
  cases h1 : tabF d mods T y avs E ov with
  | some o =>
    rw [h1] at h
    cases h
    exact tab_ok hT y avs E ov outs σ ws h1 hσ hH hy
  | none =>
    rw [h1] at h
    dsimp only at h
    cases h2 : alt2 d E y avs T2 with
    | none => rw [h2] at h; cases h
    | some c =>
      rw [h2] at h
      dsimp only at h
      cases hw : wfS E.length [] [] ov with
      | false => rw [hw] at h; cases h
      | true =>
        rw [hw] at h
        cases h
        obtain ⟨⟨dc, c1, cB⟩, rfl, c3⟩ := alt2_ok h2
        obtain ⟨d', hd, hct⟩ := hT2 (dc, c) c1 (avs.map (conc ad σ)) ws (argM_ok hσ c3)
        refine ⟨d', Nat.lt_of_lt_of_le hd cB, CT_post hct ?_⟩
        rintro r ws' ⟨rfl, q⟩
        have one : ∀ sp : SP3, rtOK ad (some sp) r → ∀ L : List OUT, ((mk1 E sp).1, some (mk1 E sp).2, ov) ∈ L → PO ad tys G mods w0 E.length σ L r ws' := by
          intro sp hr L hL
          cases r with
          | none => exact hr.elim
          | some v =>
            obtain ⟨σ1, a1, a2, a3, a4, a5⟩ := mk1_ok hσ hr
            obtain ⟨-, -, e3⟩ := wfS_ok (ad := ad) hw a1
            exact ⟨_, hL, σ1, a1, a2, a3, by show some v = some (conc ad σ1 (mk1 E sp).2); rw [a4], hH.1, e3 _ hH.2.1, hH.2.2⟩
        rcases q with q | q
        · exact one _ q _ List.mem_cons_self
        · exact one _ q _ (List.mem_cons_of_mem _ List.mem_cons_self)
end TAB
end
section
noncomputable def argsA : Nat → List AV → AL
  | _, [] => []
  | i, v :: vs => (i, v) :: argsA (bif Nat.beq v.1 1 then i + 2 else i + 1) vs
theorem argsA_map {ad : Nat → Nat} {σ : Nat → Int} : ∀ {avs : List AV} {i : Nat}, (argsA i avs).map (cvp ad σ) = lv_args i (avs.map (conc ad σ))
  | [], i => by unfold argsA; rw [List.map_nil, List.map_nil]; rfl
  | v :: vs, i => by
    unfold argsA
    rw [List.map_cons, argsA_map, List.map_cons]
    show _ = (i, conc ad σ v) :: lv_args (if (conc ad σ v).category = 2 then i + 2 else i + 1) (vs.map (conc ad σ))
    have c := conc_cat (ad := ad) (σ := σ) v
    cases h : Nat.beq v.1 1 with
    | true => rw [h] at c; rw [if_pos (beq_iff_eq.mp c)]; rfl
    | false => rw [h] at c; rw [if_neg (fun e => by rw [e] at c; exact absurd c (by decide))]; rfl
noncomputable def wrds : List AV → Nat
  | [] => 0
  | v :: vs => (bif Nat.beq v.1 1 then 2 else 1) + wrds vs
theorem wrds_len {ad : Nat → Nat} {σ : Nat → Int} : ∀ {avs : List AV}, (lg_sl (avs.map (conc ad σ))).length = wrds avs
  | [] => by rw [List.map_nil]; rfl
  | v :: vs => by
    have ih := wrds_len (ad := ad) (σ := σ) (avs := vs)
    rw [List.map_cons]
    have e : lg_sl (conc ad σ v :: vs.map (conc ad σ)) = (if (conc ad σ v).category = 2 then [Slot.val (conc ad σ v), .second] else [.val (conc ad σ v)]) ++ lg_sl (vs.map (conc ad σ)) := by
      unfold lg_sl
      rw [List.flatMap_cons]
    rw [e, List.length_append, ih]
    show _ + wrds vs = (bif Nat.beq v.1 1 then 2 else 1) + wrds vs
    have c := conc_cat (ad := ad) (σ := σ) v
    cases h : Nat.beq v.1 1 with
    | true => rw [h] at c; rw [if_pos (beq_iff_eq.mp c)]; rfl
    | false => rw [h] at c; rw [if_neg (fun e => by rw [e] at c; exact absurd c (by decide))]; rfl
noncomputable def inl (G : List GC) (mods : List Nat) (T : List (Nat × CR)) (T2 : List (Nat × CR2)) (fuel : Nat) : Nat → CAL
  | 0 => tabX 0 mods T T2
  | n + 1 => fun y avs E ov => match tabX (n + 1) mods T T2 y avs E ov with
    | some o => some o
    | none => bif Nat.ble (wrds avs) (mML y) then exN G mods y [] none (inl G mods T T2 fuel n) fuel (0, E, argsA 0 avs, [], ov) else none
noncomputable def okO (c : CR) (o : OUT) : Bool := (match c.2.2.2.1 with
  | none => (match o.2.1 with
    | none => true
    | some _ => false)
  | some sp => (match o.2.1 with
    | some v => spOK o.1 v sp
    | none => false)) && preM o.1 o.2.2 c.2.2.2.2.1
noncomputable def vr1 (G : List GC) (T : List (Nat × CR)) (T2 : List (Nat × CR2)) (fuel dep : Nat) (c : CR) (cuts : List (Nat × CUT)) (m0 : Option LF) (s : ST) : Bool := match exN G c.2.2.2.2.2 c.1 cuts m0 (inl G c.2.2.2.2.2 T T2 fuel dep) fuel s with
  | some outs => outs.all (okO c)
  | none => false
noncomputable def vrf (G : List GC) (T : List (Nat × CR)) (T2 : List (Nat × CR2)) (fuel dep : Nat) (c : CR) (cuts : List (Nat × CUT)) : Bool := Nat.blt c.1 352 && (Nat.ble (wrds (mkAs [] c.2.1).2) (mML c.1) && (vr1 G T T2 fuel dep c cuts none (0, (mkOv (mkAs [] c.2.1).1 c.2.2.1).1, argsA 0 (mkAs [] c.2.1).2, [], (mkOv (mkAs [] c.2.1).1 c.2.2.1).2)
  && (wfS (mkAs [] c.2.1).1.length [] (mkAs [] c.2.1).2 [] && cuts.all (fun p => wfT p.2.1.length p.2.2.2.2.2.2 && vr1 G T T2 fuel dep c cuts (some p.2.2.2.2.2) (p.1, p.2.1, p.2.2.1, p.2.2.2.1, p.2.2.2.2.1)))))
section VRF
variable {l : Launch} {D : va_G} {tys : List (ClassId × FieldType)} {A : Nat → Prop} {ad : Nat → Nat} {G : List GC}
theorem inl_ok {mods : List Nat} {w0 : va_W} {T : List (Nat × CR)} {T2 : List (Nat × CR2)} {fuel : Nat} (hAD : ∀ i : Nat, ad (1000 + i) = D.2 1000 i) (hT : TOK l D tys A ad G mods w0 T) (hT2 : T2OK l D tys A ad T2) : ∀ n : Nat, CALok l D tys A ad G mods w0 (inl G mods T T2 fuel n) n
  | 0 => tabX_ok hT hT2
  | n + 1 => by
    intro y avs E ov outs σ ws h hσ hH hy
    have h : (match tabX (n + 1) mods T T2 y avs E ov with
      | some o => some o
      | none => bif Nat.ble (wrds avs) (mML y) then exN G mods y [] none (inl G mods T T2 fuel n) fuel (0, E, argsA 0 avs, [], ov) else none) = some outs := h
    cases h1 : tabX (n + 1) mods T T2 y avs E ov with
    | some o =>
      rw [h1] at h
      cases h
      obtain ⟨d', a, b⟩ := tabX_ok (w0 := w0) hT hT2 y avs E ov outs σ ws h1 hσ hH hy
      exact ⟨d', by omega, b⟩
    | none =>
      rw [h1] at h
      dsimp only at h
      cases h2 : Nat.ble (wrds avs) (mML y) with
      | false => rw [h2] at h; cases h
      | true =>
        rw [h2, cond_true] at h
        refine ⟨n, by omega, CT_of_V hy (by rw [wrds_len]; exact Nat.le_of_ble_eq_true h2) ?_⟩
        have K := exN_ok (k := y) (d := n) (post := PO ad tys G mods w0 E.length σ outs) (B := fun _ => True) (hAD := hAD) (inl_ok (fuel := fuel) hAD hT hT2 n) (fun pc C hc => by cases hc) fuel _ outs σ ws h hσ hH (Or.inl ⟨rfl, fun _ => trivial⟩) (fun o ho σ' ws' e1 e2 e3 e4 => ⟨o, ho, σ', e1, e2, e3, rfl, e4⟩)
        unfold VS at K
        dsimp only at K
        rw [argsA_map, List.map_nil] at K
        exact K
theorem okO_ok {c : CR} {o : OUT} {σ : Nat → Int} {ws w0 : va_W} (h : okO c o = true) (hσ : inE σ o.1) (hH : HK ad tys G c.2.2.2.2.2 w0 σ o.2.2 ws) : CRpost ad tys G c w0 (o.2.1.map (conc ad σ)) ws := by
  unfold okO at h
  rw [Bool.and_eq_true] at h
  refine ⟨hH.1, hH.2.2, ?_, preM_ok hσ hH.2.1 h.2⟩
  have h := h.1
  cases hr : c.2.2.2.1 with
  | none =>
    rw [hr] at h
    cases ho : o.2.1 with
    | none => rw [Option.map_none]; exact trivial
    | some v => rw [ho] at h; cases h
  | some sp =>
    rw [hr] at h
    cases ho : o.2.1 with
    | none => rw [ho] at h; cases h
    | some v => rw [ho] at h; exact spOK_ok hσ h
theorem vr1_ok {T : List (Nat × CR)} {T2 : List (Nat × CR2)} {fuel dep : Nat} {c : CR} {cuts : List (Nat × CUT)} {m0 : Option LF} {s : ST} {B : Int → Prop} {w0 ws : va_W} {σ : Nat → Int} (hAD : ∀ i : Nat, ad (1000 + i) = D.2 1000 i) (hT : TOK l D tys A ad G c.2.2.2.2.2 w0 T) (hT2 : T2OK l D tys A ad T2) (h : vr1 G T T2 fuel dep c cuts m0 s = true) (hσ : inE σ s.2.1) (hH : HK ad tys G c.2.2.2.2.2 w0 σ s.2.2.2.2 ws) (hM : MB m0 s.2.1.length σ B)
    (hcut : ∀ (pc : Nat) (C : CUT), (pc, C) ∈ cuts → ∀ (τ : Nat → Int) (ws : va_W), inE τ C.1 → HK ad tys G c.2.2.2.2.2 w0 τ C.2.2.2.1 ws → 0 ≤ ev τ C.2.2.2.2 → B (ev τ C.2.2.2.2) → V l D tys A c.1 dep 0 0 (CRpost ad tys G c w0) 0 0 pc (C.2.1.map (cvp ad τ)) (C.2.2.1.map (conc ad τ)) ws) : VS l D tys A c.1 dep (CRpost ad tys G c w0) ad σ s ws := by
  unfold vr1 at h
  cases h1 : exN G c.2.2.2.2.2 c.1 cuts m0 (inl G c.2.2.2.2.2 T T2 fuel dep) fuel s with
  | none => rw [h1] at h; cases h
  | some outs =>
    rw [h1] at h
    dsimp only at h
    exact exN_ok hAD (inl_ok hAD hT hT2 dep) hcut fuel s outs σ ws h1 hσ hH hM (fun o ho σ' ws' e1 e2 e3 e4 => okO_ok (List.all_eq_true.mp h o ho) e3 e4)
noncomputable def CRokK (l : Launch) (D : va_G) (tys : List (ClassId × FieldType)) (A : Nat → Prop) (ad : Nat → Nat) (G : List GC) (K0 : va_W → Prop) (d : Nat) (c : CR) : Prop := ∀ (vs : List Value) (ws : va_W), okvs ad c.2.1 vs → GOK ad tys G ws → preOK ad c.2.2.1 ws → K0 ws → ∃ d', d' < d ∧ CT l D tys A c.1 d' 0 0 vs ws (CRpost ad tys G c ws)
theorem CRK_of_vrf {K0 : va_W → Prop} {T : List (Nat × CR)} {T2 : List (Nat × CR2)} {fuel dep : Nat} {c : CR} {cuts : List (Nat × CUT)} (hAD : ∀ i : Nat, ad (1000 + i) = D.2 1000 i) (hTK : ∀ w0, K0 w0 → TOK l D tys A ad G c.2.2.2.2.2 w0 T) (hT2 : T2OK l D tys A ad T2) (h : vrf G T T2 fuel dep c cuts = true) : CRokK l D tys A ad G K0 (dep + 1) c := by
  intro vs ws hv hG hp hK0
  have hT := hTK ws hK0
  unfold vrf at h
  rw [Bool.and_eq_true, Bool.and_eq_true, Bool.and_eq_true, Bool.and_eq_true] at h
  obtain ⟨h1, h2, h3, h4, h5⟩ := h
  have loop : ∀ (N : Nat) (pc : Nat) (C : CUT), (pc, C) ∈ cuts → ∀ (τ : Nat → Int) (ws2 : va_W), inE τ C.1 → HK ad tys G c.2.2.2.2.2 ws τ C.2.2.2.1 ws2 → 0 ≤ ev τ C.2.2.2.2 → ev τ C.2.2.2.2 < (N : Int) → V l D tys A c.1 dep 0 0 (CRpost ad tys G c ws) 0 0 pc (C.2.1.map (cvp ad τ)) (C.2.2.1.map (conc ad τ)) ws2 := by
    intro N
    induction N with
    | zero => intro pc C _ τ ws2 _ _ h0 hN; exact absurd h0 (by omega)
    | succ N ih =>
      intro pc C hc τ ws2 hτ hH h0 hN
      have m := List.all_eq_true.mp h5 _ hc
      rw [Bool.and_eq_true] at m
      refine vr1_ok (s := (pc, C.1, C.2.1, C.2.2.1, C.2.2.2.1)) (B := fun x => x < ev τ C.2.2.2.2) hAD hT hT2 m.2 hτ hH (Or.inr ⟨_, rfl, m.1, fun x hx => hx⟩) ?_
      intro pc' C' hc' τ' ws3 a1 a2 a3 a4
      exact ih pc' C' hc' τ' ws3 a1 a2 a3 (by omega)
  refine ⟨dep, by omega, CT_of_V (Nat.blt_eq.mp h1) ?_ ?_⟩
  · obtain ⟨σ1, -, -, -, a4⟩ := mkAs_ok (ad := ad) (E := []) (σ := fun _ => 0) (fun s q hq => by simp at hq) hv
    rw [← a4, wrds_len]
    exact Nat.le_of_ble_eq_true h2
  · obtain ⟨σ1, a1, a2, a3, a4⟩ := mkAs_ok (ad := ad) (E := []) (σ := fun _ => 0) (fun s q hq => by simp at hq) hv
    obtain ⟨σ2, b1, b2, b3, b4⟩ := mkOv_ok (ad := ad) a3 hp
    obtain ⟨-, e2, -⟩ := wfS_ok (ad := ad) h4 b1
    have K := vr1_ok (w0 := ws) (ws := ws) (σ := σ2) (B := fun _ => True) hAD hT hT2 h3 b3 ⟨hG, b4, FRm_rf⟩ (Or.inl ⟨rfl, fun _ => trivial⟩) (fun pc C hc τ ws2 q1 q2 q3 _ => loop (ev τ C.2.2.2.2 + 1).toNat pc C hc τ ws2 q1 q2 q3 (by omega))
    unfold VS at K
    dsimp only at K
    rw [argsA_map, e2, a4, List.map_nil] at K
    exact K
theorem CR_of_vrf {T : List (Nat × CR)} {T2 : List (Nat × CR2)} {fuel dep : Nat} {c : CR} {cuts : List (Nat × CUT)} (hAD : ∀ i : Nat, ad (1000 + i) = D.2 1000 i) (hT : ∀ q ∈ T, CRok l D tys A ad G q.1 q.2) (hT2 : T2OK l D tys A ad T2) (h : vrf G T T2 fuel dep c cuts = true) : CRok l D tys A ad G (dep + 1) c :=
  fun vs ws h1 h2 h3 => CRK_of_vrf (K0 := fun _ => True) hAD (fun _ _ => TOK_of hT) hT2 h vs ws h1 h2 h3 trivial
end VRF
end
section
noncomputable def GG : List GC := [((0, 10, 13), [(1, 2, 1, 1), (1, 2, 2, 2), (1, 2, 4, 4), (1, 2, 16, 16), (1, 2, 28, 28), (1, 2, 32, 32), (1, 2, 36, 36), (1, 2, 39, 39), (1, 2, 43, 43), (1, 2, 47, 47), (1, 2, 50, 50), (1, 2, 53, 53), (1, 0, 0, 7)]),
  ((0, 5, 3), [(1, 2, 2, 2), (1, 0, 0, 3), (1, 0, (-1), 1401)]),
  ((0, 9, 6), [(1, 2, 3, 3), (1, 0, 0, 1400), (1, 0, 0, 4), (1, 0, 0, 1401), (1, 0, 0, 1401), (1, 0, (-2147483648), 2147483647)]),
  ((1, 1, 1400), [(1400, 0, (-128), 127)]),
  ((0, 2, 17), [(1, 0, (-2147483648), 2147483647), (1, 0, 0, 9), (1, 0, 0, 4), (1, 0, 0, 24), (1, 0, 0, 6), (1, 0, 0, 12), (1, 2, 5, 5), (1, 2, 6, 6), (1, 2, 7, 7), (1, 2, 8, 8), (1, 2, 9, 9), (1, 2, 10, 10), (1, 2, 11, 11), (1, 2, 12, 12), (1, 2, 13, 13), (1, 2, 14, 14), (1, 2, 15, 15)]),
  ((1, 0, 6), [(6, 0, 0, 7)]),
  ((1, 0, 36), [(36, 0, (-2147483648), 2147483647)]),
  ((1, 0, 6), [(6, 0, (-2147483648), 2147483647)]),
  ((1, 0, 6), [(6, 0, (-2147483648), 2147483647)]),
  ((1, 0, 6), [(6, 0, (-2147483648), 2147483647)]),
  ((1, 0, 144), [(144, 0, (-2147483648), 2147483647)]),
  ((1, 0, 36), [(36, 0, (-2147483648), 2147483647)]),
  ((1, 0, 12), [(12, 0, (-2147483648), 2147483647)]),
  ((1, 0, 12), [(12, 0, (-2147483648), 2147483647)]),
  ((1, 0, 12), [(12, 0, (-2147483648), 2147483647)]),
  ((1, 0, 12), [(12, 0, (-2147483648), 2147483647)]),
  ((0, 2, 17), [(1, 0, (-2147483648), 2147483647), (1, 0, 0, 9), (1, 0, 0, 4), (1, 0, 0, 24), (1, 0, 0, 6), (1, 0, 0, 12), (1, 2, 17, 17), (1, 2, 18, 18), (1, 2, 19, 19), (1, 2, 20, 20), (1, 2, 21, 21), (1, 2, 22, 22), (1, 2, 23, 23), (1, 2, 24, 24), (1, 2, 25, 25), (1, 2, 26, 26), (1, 2, 27, 27)]),
  ((1, 0, 6), [(6, 0, 0, 7)]),
  ((1, 0, 36), [(36, 0, (-2147483648), 2147483647)]),
  ((1, 0, 6), [(6, 0, (-2147483648), 2147483647)]),
  ((1, 0, 6), [(6, 0, (-2147483648), 2147483647)]),
  ((1, 0, 6), [(6, 0, (-2147483648), 2147483647)]),
  ((1, 0, 144), [(144, 0, (-2147483648), 2147483647)]),
  ((1, 0, 36), [(36, 0, (-2147483648), 2147483647)]),
  ((1, 0, 12), [(12, 0, (-2147483648), 2147483647)]),
  ((1, 0, 12), [(12, 0, (-2147483648), 2147483647)]),
  ((1, 0, 12), [(12, 0, (-2147483648), 2147483647)]),
  ((1, 0, 12), [(12, 0, (-2147483648), 2147483647)]),
  ((0, 1, 3), [(1, 2, 29, 29), (1, 2, 30, 30), (1, 2, 31, 31)]),
  ((1, 0, 12), [(12, 0, (-2147483648), 2147483647)]),
  ((1, 0, 12), [(12, 0, (-2147483648), 2147483647)]),
  ((1, 0, 36), [(36, 0, (-2147483648), 2147483647)]),
  ((0, 8, 4), [(1, 2, 33, 33), (1, 2, 34, 34), (1, 2, 35, 35), (1, 0, (-2147483648), 2147483647)]),
  ((1, 0, 900), [(900, 0, (-2147483648), 2147483647)]),
  ((1, 0, 12), [(12, 0, (-2147483648), 2147483647)]),
  ((1, 0, 12), [(12, 0, (-2147483648), 2147483647)]),
  ((0, 0, 2), [(1, 2, 37, 37), (1, 2, 38, 38)]),
  ((1, 0, 6), [(6, 0, (-2147483648), 2147483647)]),
  ((1, 0, 6), [(6, 0, (-2147483648), 2147483647)]),
  ((0, 7, 3), [(1, 2, 40, 40), (1, 2, 41, 41), (1, 2, 42, 42)]),
  ((2, 3, 240), [(240, 1, (-9223372036854775808), 9223372036854775807)]),
  ((1, 0, 4), [(4, 0, 0, 3)]),
  ((1, 0, 4), [(4, 0, (-1), 60)]),
  ((0, 6, 3), [(1, 2, 44, 44), (1, 2, 45, 45), (1, 2, 46, 46)]),
  ((1, 0, 64), [(64, 0, (-2147483648), 2147483647)]),
  ((1, 0, 1792), [(1792, 0, (-2147483648), 2147483647)]),
  ((1, 0, 6), [(6, 0, (-2147483648), 2147483647)]),
  ((0, 3, 2), [(1, 2, 48, 48), (1, 2, 49, 49)]),
  ((1, 0, 7), [(7, 0, (-2147483648), 2147483647)]),
  ((1, 0, 7), [(7, 0, (-2147483648), 2147483647)]),
  ((0, 4, 2), [(1, 2, 51, 51), (1, 2, 52, 52)]),
  ((1, 0, 6), [(6, 0, (-2147483648), 2147483647)]),
  ((1, 0, 7), [(7, 0, (-2147483648), 2147483647)]),
  ((3, 4, 3), [(1, 2, 54, 54), (1, 2, 66, 66), (1, 2, 78, 78)]),
  ((0, 2, 17), [(1, 0, (-2147483648), 2147483647), (1, 0, 0, 9), (1, 0, 0, 4), (1, 0, 0, 24), (1, 0, 0, 6), (1, 0, 0, 12), (1, 2, 55, 55), (1, 2, 56, 56), (1, 2, 57, 57), (1, 2, 58, 58), (1, 2, 59, 59), (1, 2, 60, 60), (1, 2, 61, 61), (1, 2, 62, 62), (1, 2, 63, 63), (1, 2, 64, 64), (1, 2, 65, 65)]),
  ((1, 0, 6), [(6, 0, 0, 7)]),
  ((1, 0, 36), [(36, 0, (-2147483648), 2147483647)]),
  ((1, 0, 6), [(6, 0, (-2147483648), 2147483647)]),
  ((1, 0, 6), [(6, 0, (-2147483648), 2147483647)]),
  ((1, 0, 6), [(6, 0, (-2147483648), 2147483647)]),
  ((1, 0, 144), [(144, 0, (-2147483648), 2147483647)]),
  ((1, 0, 36), [(36, 0, (-2147483648), 2147483647)]),
  ((1, 0, 12), [(12, 0, (-2147483648), 2147483647)]),
  ((1, 0, 12), [(12, 0, (-2147483648), 2147483647)]),
  ((1, 0, 12), [(12, 0, (-2147483648), 2147483647)]),
  ((1, 0, 12), [(12, 0, (-2147483648), 2147483647)]),
  ((0, 2, 17), [(1, 0, (-2147483648), 2147483647), (1, 0, 0, 9), (1, 0, 0, 4), (1, 0, 0, 24), (1, 0, 0, 6), (1, 0, 0, 12), (1, 2, 67, 67), (1, 2, 68, 68), (1, 2, 69, 69), (1, 2, 70, 70), (1, 2, 71, 71), (1, 2, 72, 72), (1, 2, 73, 73), (1, 2, 74, 74), (1, 2, 75, 75), (1, 2, 76, 76), (1, 2, 77, 77)]),
  ((1, 0, 6), [(6, 0, 0, 7)]),
  ((1, 0, 36), [(36, 0, (-2147483648), 2147483647)]),
  ((1, 0, 6), [(6, 0, (-2147483648), 2147483647)]),
  ((1, 0, 6), [(6, 0, (-2147483648), 2147483647)]),
  ((1, 0, 6), [(6, 0, (-2147483648), 2147483647)]),
  ((1, 0, 144), [(144, 0, (-2147483648), 2147483647)]),
  ((1, 0, 36), [(36, 0, (-2147483648), 2147483647)]),
  ((1, 0, 12), [(12, 0, (-2147483648), 2147483647)]),
  ((1, 0, 12), [(12, 0, (-2147483648), 2147483647)]),
  ((1, 0, 12), [(12, 0, (-2147483648), 2147483647)]),
  ((1, 0, 12), [(12, 0, (-2147483648), 2147483647)]),
  ((0, 2, 17), [(1, 0, (-2147483648), 2147483647), (1, 0, 0, 9), (1, 0, 0, 4), (1, 0, 0, 24), (1, 0, 0, 6), (1, 0, 0, 12), (1, 2, 79, 79), (1, 2, 80, 80), (1, 2, 81, 81), (1, 2, 82, 82), (1, 2, 83, 83), (1, 2, 84, 84), (1, 2, 85, 85), (1, 2, 86, 86), (1, 2, 87, 87), (1, 2, 88, 88), (1, 2, 89, 89)]),
  ((1, 0, 6), [(6, 0, 0, 7)]),
  ((1, 0, 36), [(36, 0, (-2147483648), 2147483647)]),
  ((1, 0, 6), [(6, 0, (-2147483648), 2147483647)]),
  ((1, 0, 6), [(6, 0, (-2147483648), 2147483647)]),
  ((1, 0, 6), [(6, 0, (-2147483648), 2147483647)]),
  ((1, 0, 144), [(144, 0, (-2147483648), 2147483647)]),
  ((1, 0, 36), [(36, 0, (-2147483648), 2147483647)]),
  ((1, 0, 12), [(12, 0, (-2147483648), 2147483647)]),
  ((1, 0, 12), [(12, 0, (-2147483648), 2147483647)]),
  ((1, 0, 12), [(12, 0, (-2147483648), 2147483647)]),
  ((1, 0, 12), [(12, 0, (-2147483648), 2147483647)]),
  ((0, 11, 36), [(1, 0, (-2147483648), 2147483647), (1, 2, 91, 91), (1, 2, 92, 92), (1, 2, 93, 93), (1, 2, 94, 94), (1, 0, 0, 1400), (1, 2, 95, 95), (1, 0, 0, 1400), (1, 0, 0, 1400), (1, 0, 0, 1400), (1, 0, 0, 4), (1, 0, (-2147483648), 2147483647), (1, 0, 0, 3), (1, 0, (-1), 1400), (1, 2, 96, 96), (1, 2, 97, 97), (1, 2, 98, 98), (1, 2, 99, 99), (1, 0, (-2147483648), 2147483647), (1, 2, 100, 100), (1, 2, 101, 101), (1, 0, (-2147483648), 2147483647), (1, 0, (-2147483648), 2147483647), (1, 0, (-2147483648), 2147483647), (1, 0, 0, 1), (1, 1, (-9223372036854775808), 9223372036854775807), (1, 2, 102, 102), (1, 2, 103, 103), (1, 2, 104, 104), (1, 2, 105, 105), (1, 0, 0, 6), (1, 2, 106, 106), (1, 2, 107, 107), (1, 2, 108, 108), (1, 2, 109, 109), (1, 2, 110, 110)]),
  ((1, 0, 294), [(1, 0, 0, 9), (1, 0, 0, 4), (1, 0, 0, 24), (1, 0, 0, 6), (1, 0, 0, 12), (1, 0, (-2147483648), 2147483647), (1, 0, 0, 6), (6, 0, 0, 8), (1, 0, 0, 6), (6, 0, 0, 8), (1, 0, 0, 6), (6, 0, 0, 8), (1, 0, 0, 6), (6, 0, 0, 8), (1, 0, 0, 6), (6, 0, 0, 8), (1, 0, 0, 6), (6, 0, 0, 8), (6, 0, 0, 4), (6, 0, 0, 100), (6, 0, 0, 63), (36, 0, 0, 63), (144, 0, (-1), 3), (3, 0, 0, 5), (1, 0, 0, 23), (3, 0, 0, 5), (1, 0, 0, 23), (3, 0, 0, 5), (1, 0, 0, 23), (3, 0, 0, 5), (1, 0, 0, 23), (3, 0, 0, 5), (1, 0, 0, 23), (3, 0, 0, 5), (1, 0, 0, 23), (3, 0, 0, 5), (1, 0, 0, 23), (3, 0, 0, 5), (1, 0, 0, 23), (3, 0, 0, 5), (1, 0, 0, 23), (3, 0, 0, 5), (1, 0, 0, 23), (3, 0, 0, 5), (1, 0, 0, 23), (3, 0, 0, 5), (1, 0, 0, 23)]),
  ((1, 0, 882), [(1, 0, 0, 9), (1, 0, 0, 4), (1, 0, 0, 24), (1, 0, 0, 6), (1, 0, 0, 12), (1, 0, (-2147483648), 2147483647), (1, 0, 0, 6), (6, 0, 0, 8), (1, 0, 0, 6), (6, 0, 0, 8), (1, 0, 0, 6), (6, 0, 0, 8), (1, 0, 0, 6), (6, 0, 0, 8), (1, 0, 0, 6), (6, 0, 0, 8), (1, 0, 0, 6), (6, 0, 0, 8), (6, 0, 0, 4), (6, 0, 0, 100), (6, 0, 0, 63), (36, 0, 0, 63), (144, 0, (-1), 3), (3, 0, 0, 5), (1, 0, 0, 23), (3, 0, 0, 5), (1, 0, 0, 23), (3, 0, 0, 5), (1, 0, 0, 23), (3, 0, 0, 5), (1, 0, 0, 23), (3, 0, 0, 5), (1, 0, 0, 23), (3, 0, 0, 5), (1, 0, 0, 23), (3, 0, 0, 5), (1, 0, 0, 23), (3, 0, 0, 5), (1, 0, 0, 23), (3, 0, 0, 5), (1, 0, 0, 23), (3, 0, 0, 5), (1, 0, 0, 23), (3, 0, 0, 5), (1, 0, 0, 23), (3, 0, 0, 5), (1, 0, 0, 23), (1, 0, 0, 9), (1, 0, 0, 4), (1, 0, 0, 24), (1, 0, 0, 6), (1, 0, 0, 12), (1, 0, (-2147483648), 2147483647), (1, 0, 0, 6), (6, 0, 0, 8), (1, 0, 0, 6), (6, 0, 0, 8), (1, 0, 0, 6), (6, 0, 0, 8), (1, 0, 0, 6), (6, 0, 0, 8), (1, 0, 0, 6), (6, 0, 0, 8), (1, 0, 0, 6), (6, 0, 0, 8), (6, 0, 0, 4), (6, 0, 0, 100), (6, 0, 0, 63), (36, 0, 0, 63), (144, 0, (-1), 3), (3, 0, 0, 5), (1, 0, 0, 23), (3, 0, 0, 5), (1, 0, 0, 23), (3, 0, 0, 5), (1, 0, 0, 23), (3, 0, 0, 5), (1, 0, 0, 23), (3, 0, 0, 5), (1, 0, 0, 23), (3, 0, 0, 5), (1, 0, 0, 23), (3, 0, 0, 5), (1, 0, 0, 23), (3, 0, 0, 5), (1, 0, 0, 23), (3, 0, 0, 5), (1, 0, 0, 23), (3, 0, 0, 5), (1, 0, 0, 23), (3, 0, 0, 5), (1, 0, 0, 23), (3, 0, 0, 5), (1, 0, 0, 23), (1, 0, 0, 9), (1, 0, 0, 4), (1, 0, 0, 24), (1, 0, 0, 6), (1, 0, 0, 12), (1, 0, (-2147483648), 2147483647), (1, 0, 0, 6), (6, 0, 0, 8), (1, 0, 0, 6), (6, 0, 0, 8), (1, 0, 0, 6), (6, 0, 0, 8), (1, 0, 0, 6), (6, 0, 0, 8), (1, 0, 0, 6), (6, 0, 0, 8), (1, 0, 0, 6), (6, 0, 0, 8), (6, 0, 0, 4), (6, 0, 0, 100), (6, 0, 0, 63), (36, 0, 0, 63), (144, 0, (-1), 3), (3, 0, 0, 5), (1, 0, 0, 23), (3, 0, 0, 5), (1, 0, 0, 23), (3, 0, 0, 5), (1, 0, 0, 23), (3, 0, 0, 5), (1, 0, 0, 23), (3, 0, 0, 5), (1, 0, 0, 23), (3, 0, 0, 5), (1, 0, 0, 23), (3, 0, 0, 5), (1, 0, 0, 23), (3, 0, 0, 5), (1, 0, 0, 23), (3, 0, 0, 5), (1, 0, 0, 23), (3, 0, 0, 5), (1, 0, 0, 23), (3, 0, 0, 5), (1, 0, 0, 23), (3, 0, 0, 5), (1, 0, 0, 23)]),
  ((1, 2, 3), [(3, 0, 0, 1)]),
  ((1, 1, 1400), [(1400, 0, (-128), 127)]),
  ((1, 0, 5), [(5, 0, (-2147483648), 2147483647)]),
  ((1, 0, 294), [(1, 0, 0, 9), (1, 0, 0, 4), (1, 0, 0, 24), (1, 0, 0, 6), (1, 0, 0, 12), (1, 0, (-2147483648), 2147483647), (1, 0, 0, 6), (6, 0, 0, 8), (1, 0, 0, 6), (6, 0, 0, 8), (1, 0, 0, 6), (6, 0, 0, 8), (1, 0, 0, 6), (6, 0, 0, 8), (1, 0, 0, 6), (6, 0, 0, 8), (1, 0, 0, 6), (6, 0, 0, 8), (6, 0, 0, 4), (6, 0, 0, 100), (6, 0, 0, 63), (36, 0, 0, 63), (144, 0, (-1), 3), (3, 0, 0, 5), (1, 0, 0, 23), (3, 0, 0, 5), (1, 0, 0, 23), (3, 0, 0, 5), (1, 0, 0, 23), (3, 0, 0, 5), (1, 0, 0, 23), (3, 0, 0, 5), (1, 0, 0, 23), (3, 0, 0, 5), (1, 0, 0, 23), (3, 0, 0, 5), (1, 0, 0, 23), (3, 0, 0, 5), (1, 0, 0, 23), (3, 0, 0, 5), (1, 0, 0, 23), (3, 0, 0, 5), (1, 0, 0, 23), (3, 0, 0, 5), (1, 0, 0, 23), (3, 0, 0, 5), (1, 0, 0, 23)]),
  ((1, 0, 144), [(144, 0, (-1), 3)]),
  ((1, 0, 900), [(900, 0, 0, 63)]),
  ((1, 0, 36), [(36, 0, 0, 63)]),
  ((1, 0, 12), [(12, 0, 0, 63)]),
  ((1, 0, 12), [(12, 0, 0, 63)]),
  ((1, 2, 64), [(64, 0, 0, 1)]),
  ((1, 0, 64), [(64, 0, 0, 255)]),
  ((1, 0, 1792), [(1792, 0, (-2147483648), 2147483647)]),
  ((1, 0, 6), [(6, 0, (-2147483648), 2147483647)]),
  ((1, 0, 49), [(49, 0, (-2147483648), 2147483647)]),
  ((1, 0, 4), [(4, 0, (-1), 60)]),
  ((1, 0, 4), [(4, 0, 0, 3)]),
  ((2, 3, 240), [(240, 1, (-9223372036854775808), 9223372036854775807)]),
  ((2, 3, 60), [(60, 1, (-9223372036854775808), 9223372036854775807)])]
noncomputable def hBru : CR := (277, [(2, 90, 90), (0, 0, 5), (0, 0, 63)], [], some (0, 0, 63), [], [])
noncomputable def hDiv : List (Nat × CR2) := [(1, 328, [(1, (-9223372036854775808), 9223372036854775807), (1, 1, 9223372036854775807)], (1, 1, 9223372036854775807), (1, (-9223372036854775808), (-1))), (1, 328, [(1, (-9223372036854775808), 9223372036854775807), (1, (-9223372036854775808), (-1))], (1, 1, 9223372036854775807), (1, (-9223372036854775808), (-1)))]
end
section
theorem mi_328_0 : mI 328 0 = (4, 0, 0, 0, 0) := by decide +kernel
theorem mi_328_1 : mI 328 1 = (7, 0, 4, 1, 0) := by decide +kernel
theorem mi_328_3 : mI 328 3 = (4, 0, 2, 0, 0) := by decide +kernel
theorem mi_328_4 : mI 328 4 = (7, 0, 6, 1, 0) := by decide +kernel
theorem mi_328_6 : mI 328 6 = (4, 0, 6, 1, 0) := by decide +kernel
theorem mi_328_8 : mI 328 8 = (2, 0, 0, 0, 0) := by decide +kernel
theorem mi_328_9 : mI 328 9 = (13, 0, 0, 0, 0) := by decide +kernel
theorem mi_328_10 : mI 328 10 = (14, 21, 0, 31, 0) := by decide +kernel
theorem mi_328_13 : mI 328 13 = (4, 0, 4, 1, 0) := by decide +kernel
theorem mi_328_15 : mI 328 15 = (4, 0, 6, 1, 0) := by decide +kernel
theorem mi_328_17 : mI 328 17 = (11, 0, 4, 0, 0) := by decide +kernel
theorem mi_328_18 : mI 328 18 = (7, 0, 8, 1, 0) := by decide +kernel
theorem mi_328_20 : mI 328 20 = (4, 0, 6, 1, 0) := by decide +kernel
theorem mi_328_22 : mI 328 22 = (7, 0, 4, 1, 0) := by decide +kernel
theorem mi_328_24 : mI 328 24 = (4, 0, 8, 1, 0) := by decide +kernel
theorem mi_328_26 : mI 328 26 = (7, 0, 6, 1, 0) := by decide +kernel
theorem mi_328_28 : mI 328 28 = (16, (-22), 0, 6, 0) := by decide +kernel
theorem mi_328_31 : mI 328 31 = (4, 0, 4, 1, 0) := by decide +kernel
theorem mi_328_33 : mI 328 33 = (27, 0, 1, 0, 0) := by decide +kernel
theorem rem64 {x y : Int64} (hy : y ≠ 0) : (lbF 4 x y).toInt.natAbs < y.toInt.natAbs := by
  have e1 := Int64.ofInt_toInt x
  have e2 := Int64.ofInt_toInt y
  have bx1 := Int64.le_toInt x
  have bx2 := Int64.toInt_lt x
  have by1 := Int64.le_toInt y
  have by2 := Int64.toInt_lt y
  have h0 : y.toInt ≠ 0 := fun z => hy (by rw [← e2, z]; rfl)
  have hd : x / y = Int64.ofInt (x.toInt.tdiv y.toInt) := by
    rw [Int64.ofInt_tdiv (by rw [Int64.toInt_minValue]; omega) (by rw [Int64.toInt_maxValue]; omega) (by rw [Int64.toInt_minValue]; omega) (by rw [Int64.toInt_maxValue]; omega), e1, e2]
  have hr : lbF 4 x y = Int64.ofInt (x.toInt.tmod y.toInt) := by
    show x - x / y * y = _
    rw [hd, Int.tmod_def, Int64.ofInt_sub, Int64.ofInt_mul, e1, e2, Int64.mul_comm]
  have hn : (x.toInt.tmod y.toInt).natAbs < y.toInt.natAbs := by
    rw [Int.natAbs_tmod]
    exact Nat.mod_lt _ (by omega)
  have ht : (Int64.ofInt (x.toInt.tmod y.toInt)).toInt = x.toInt.tmod y.toInt := Int64.toInt_ofInt_of_le (by omega) (by omega)
  rw [hr, ht]
  exact hn
theorem lg0 {y : Int64} : cdP 0 (lg_cmp y (Int64.ofInt 0)) 0 ↔ y = 0 := by
  have h := cdL_iff (x := 0) (a := y.toInt) (b := 0) (by have := Int64.le_toInt y; omega) (by have := Int64.toInt_lt y; omega) (by omega) (by omega)
  rw [Int64.ofInt_toInt, Int.sub_zero] at h
  rw [h]
  show y.toInt = 0 ↔ y = 0
  constructor
  · intro z
    rw [← Int64.ofInt_toInt y, z]
    rfl
  · intro z
    rw [z]
    rfl
theorem okvs_two {ad : Nat → Nat} {s1 s2 : SP3} : ∀ {vs : List Value}, okvs ad [s1, s2] vs → ∃ a b, vs = [a, b] ∧ okv ad s1 a ∧ okv ad s2 b
  | [], h => h.elim
  | [a], h => h.2.elim
  | [a, b], h => ⟨a, b, rfl, h.1, h.2.1⟩
  | a :: b :: c :: t, h => h.2.2.elim
section HAN
variable {l : Launch} {D : va_G} {tys : List (ClassId × FieldType)} {A : Nat → Prop}
theorem div_loop {ws : va_W} : ∀ (n : Nat) (x y : Int64), y.toInt.natAbs < n → (x ≠ 0 ∨ y ≠ 0) → V l D tys A 328 0 0 0 (fun r ws' => ws' = ws ∧ ∃ v : Int64, r = some (.long v) ∧ v ≠ 0) 0 0 6 [(4, .long x), (6, .long y)] [] ws
  | 0, x, y, h, _ => by omega
  | n + 1, x, y, h, hxy => by
    refine V_lload mi_328_6 (List.Mem.tail _ (List.Mem.head _)) ?_
    refine V_lpush mi_328_8 ?_
    refine V_lcmp mi_328_9 ?_
    refine V_if mi_328_10 (fun hz => ?_) (fun hz => ?_)
    · have hz := lg0.mp hz
      refine V_lload mi_328_31 (List.Mem.head _) ?_
      exact V_retL mi_328_33 ⟨rfl, x, rfl, hxy.resolve_right (fun q => q hz)⟩
    · have hz : y ≠ 0 := fun q => hz (lg0.mpr q)
      refine V_lload mi_328_13 (List.Mem.head _) ?_
      refine V_lload mi_328_15 (List.Mem.tail _ (List.Mem.head _)) ?_
      refine V_lbin mi_328_17 (fun _ => hz) ?_
      refine V_lstore mi_328_18 ?_
      refine V_lload (v := y) mi_328_20 (by simp [stL2, Value.category]) ?_
      refine V_lstore mi_328_22 ?_
      refine V_lload (v := lbF 4 x y) mi_328_24 (by simp [stL2, Value.category]) ?_
      refine V_lstore mi_328_26 ?_
      refine V_goto mi_328_28 ?_
      refine V_sub (lv' := [(4, .long y), (6, .long (lbF 4 x y))]) (fun q hq => ?_) (div_loop n y (lbF 4 x y) (by have := rem64 (x := x) hz; omega) (Or.inl hz))
      rcases List.mem_cons.mp hq with rfl | hq
      · simp [stL2, Value.category]
      · rw [List.mem_singleton.mp hq]
        simp [stL2, Value.category]
theorem HDiv_ok {ad : Nat → Nat} : T2OK l D tys A ad hDiv := by
  have key : ∀ (x y : Int64) (ws : va_W), y ≠ 0 → CT l D tys A 328 0 0 0 [.long x, .long y] ws (fun r ws' => ws' = ws ∧ (rtOK ad (some (1, 1, 9223372036854775807)) r ∨ rtOK ad (some (1, -9223372036854775808, -1)) r)) := by
    intro x y ws hy
    refine CT_post (CT_of_V (post := fun r ws' => ws' = ws ∧ ∃ v : Int64, r = some (.long v) ∧ v ≠ 0) (by omega) (show (4 : Nat) ≤ mML 328 by decide +kernel) ?_) ?_
    · refine V_lload (v := x) mi_328_0 (List.Mem.head _) ?_
      refine V_lstore mi_328_1 ?_
      refine V_lload (v := y) mi_328_3 (by simp [stL2, lv_args, Value.category]) ?_
      refine V_lstore mi_328_4 ?_
      refine V_sub (lv' := [(4, .long x), (6, .long y)]) (fun q hq => ?_) (div_loop (y.toInt.natAbs + 1) x y (by omega) (Or.inr hy))
      rcases List.mem_cons.mp hq with rfl | hq
      · simp [stL2, lv_args, Value.category]
      · rw [List.mem_singleton.mp hq]
        simp [stL2, lv_args, Value.category]
    · rintro r w ⟨h1, v, rfl, hv⟩
      have b1 := Int64.le_toInt v
      have b2 := Int64.toInt_lt v
      have h0 : v.toInt ≠ 0 := fun z => hv (by rw [← Int64.ofInt_toInt v, z]; rfl)
      refine ⟨h1, ?_⟩
      by_cases hp : 0 < v.toInt
      · exact Or.inl ⟨v.toInt, by rw [Int64.ofInt_toInt], by show (1 : Int) ≤ _; omega, by show _ ≤ (9223372036854775807 : Int); omega⟩
      · exact Or.inr ⟨v.toInt, by rw [Int64.ofInt_toInt], by show (-9223372036854775808 : Int) ≤ _; omega, by show _ ≤ (-1 : Int); omega⟩
  have nz : ∀ z : Int, z ≠ 0 → -9223372036854775808 ≤ z → z ≤ 9223372036854775807 → Int64.ofInt z ≠ 0 := by
    intro z h h1 h2 e
    have := congrArg Int64.toInt e
    rw [Int64.toInt_ofInt_of_le (by omega) (by omega)] at this
    exact h this
  intro q hq vs ws hv
  rcases List.mem_cons.mp hq with rfl | hq
  · obtain ⟨a, b, rfl, ⟨z1, rfl, -, -⟩, ⟨z2, rfl, h1, h2⟩⟩ := okvs_two hv
    · have h1 : (1 : Int) ≤ z2 := h1
      have h2 : z2 ≤ (9223372036854775807 : Int) := h2
      exact ⟨0, Nat.zero_lt_one, key _ _ _ (nz z2 (by omega) (by omega) (by omega))⟩
  · rw [List.mem_singleton.mp hq] at hv ⊢
    obtain ⟨a, b, rfl, ⟨z1, rfl, -, -⟩, ⟨z2, rfl, h1, h2⟩⟩ := okvs_two hv
    · have h1 : (-9223372036854775808 : Int) ≤ z2 := h1
      have h2 : z2 ≤ (-1 : Int) := h2
      exact ⟨0, Nat.zero_lt_one, key _ _ _ (nz z2 (by omega) (by omega) (by omega))⟩
end HAN
end
section
noncomputable def g848 : CR := (276, [(2, 90, 90), (0, 0, 63), (0, 0, 5)], [], some (0, 0, 1), [], [])
theorem w848 : vrf GG [] [] 300 2 g848
  [(5, [(0, 63), (0, 5), (0, 63), (0, 6)], [(0, rA 90), (1, iA (0, [(1, 0)])), (2, iA (0, [(1, 1)])), (3, iA (0, [(1, 2)])), (4, iA (0, [(1, 3)]))], [], [], (870, [((-126), 3)])),
  (38, [(0, 63), (0, 5), (0, 63), (0, 5), (0, 63), (0, 63), (1, 6)], [(0, rA 90), (1, iA (0, [(1, 0)])), (2, iA (0, [(1, 1)])), (3, iA (0, [(1, 2)])), (4, iA (0, [(1, 3)]))], [iA (0, [(1, 4)]), iA (0, [(1, 5)])], [((91, 3), iA (0, [(1, 6)]))], (837, [((-126), 3)]))] = true := by decide +kernel
theorem r848 {l : Launch} {D : va_G} {tys : List (ClassId × FieldType)} {A : Nat → Prop} {ad : Nat → Nat} (hAD : ∀ i : Nat, ad (1000 + i) = D.2 1000 i) : CRok l D tys A ad GG 3 g848 := CR_of_vrf (dep := 2) hAD (fun c hc => by cases hc) T2OK_nil w848
end
section
theorem mi_277_0 : mI 277 0 = (1, 1, 0, 0, 0) := by decide +kernel
theorem mi_277_1 : mI 277 1 = (3, 0, 1, 0, 0) := by decide +kernel
theorem mi_277_2 : mI 277 2 = (10, 0, 8, 0, 0) := by decide +kernel
theorem mi_277_3 : mI 277 3 = (6, 0, 3, 0, 0) := by decide +kernel
theorem mi_277_4 : mI 277 4 = (1, 1, 0, 0, 0) := by decide +kernel
theorem mi_277_5 : mI 277 5 = (6, 0, 4, 1, 0) := by decide +kernel
theorem mi_277_7 : mI 277 7 = (3, 0, 4, 1, 0) := by decide +kernel
theorem mi_277_9 : mI 277 9 = (14, 71, 0, 80, 0) := by decide +kernel
theorem mi_277_12 : mI 277 12 = (1, 0, 0, 0, 0) := by decide +kernel
theorem mi_277_13 : mI 277 13 = (6, 0, 4, 1, 0) := by decide +kernel
theorem mi_277_15 : mI 277 15 = (1, 0, 0, 0, 0) := by decide +kernel
theorem mi_277_16 : mI 277 16 = (6, 0, 5, 1, 0) := by decide +kernel
theorem mi_277_18 : mI 277 18 = (3, 0, 5, 1, 0) := by decide +kernel
theorem mi_277_20 : mI 277 20 = (5, 0, 0, 0, 0) := by decide +kernel
theorem mi_277_21 : mI 277 21 = (17, 1207, 9, 11, 1) := by decide +kernel
theorem mi_277_24 : mI 277 24 = (1, 3, 0, 0, 0) := by decide +kernel
theorem mi_277_25 : mI 277 25 = (19, 0, 0, 0, 0) := by decide +kernel
theorem mi_277_26 : mI 277 26 = (15, 51, 3, 77, 0) := by decide +kernel
theorem mi_277_29 : mI 277 29 = (3, 0, 2, 0, 0) := by decide +kernel
theorem mi_277_30 : mI 277 30 = (3, 0, 5, 1, 0) := by decide +kernel
theorem mi_277_32 : mI 277 32 = (26, 1517, 255, 195, 1) := by decide +kernel
theorem mi_277_35 : mI 277 35 = (14, 36, 0, 71, 0) := by decide +kernel
theorem mi_277_38 : mI 277 38 = (3, 0, 3, 0, 0) := by decide +kernel
theorem mi_277_39 : mI 277 39 = (3, 0, 5, 1, 0) := by decide +kernel
theorem mi_277_41 : mI 277 41 = (26, 1517, 255, 195, 1) := by decide +kernel
theorem mi_277_44 : mI 277 44 = (1, 1, 0, 0, 0) := by decide +kernel
theorem mi_277_45 : mI 277 45 = (15, 26, 0, 71, 0) := by decide +kernel
theorem mi_277_48 : mI 277 48 = (5, 0, 0, 0, 0) := by decide +kernel
theorem mi_277_49 : mI 277 49 = (3, 0, 3, 0, 0) := by decide +kernel
theorem mi_277_50 : mI 277 50 = (3, 0, 5, 1, 0) := by decide +kernel
theorem mi_277_52 : mI 277 52 = (26, 1665, 335, 276, 0) := by decide +kernel
theorem mi_277_55 : mI 277 55 = (14, 6, 1, 61, 0) := by decide +kernel
theorem mi_277_58 : mI 277 58 = (16, 13, 0, 71, 0) := by decide +kernel
theorem mi_277_61 : mI 277 61 = (3, 0, 3, 0, 0) := by decide +kernel
theorem mi_277_62 : mI 277 62 = (1, 1, 0, 0, 0) := by decide +kernel
theorem mi_277_63 : mI 277 63 = (3, 0, 5, 1, 0) := by decide +kernel
theorem mi_277_65 : mI 277 65 = (10, 0, 8, 0, 0) := by decide +kernel
theorem mi_277_66 : mI 277 66 = (10, 0, 6, 0, 0) := by decide +kernel
theorem mi_277_67 : mI 277 67 = (6, 0, 3, 0, 0) := by decide +kernel
theorem mi_277_68 : mI 277 68 = (1, 1, 0, 0, 0) := by decide +kernel
theorem mi_277_69 : mI 277 69 = (6, 0, 4, 1, 0) := by decide +kernel
theorem mi_277_71 : mI 277 71 = (9, 1, 5, 0, 0) := by decide +kernel
theorem mi_277_74 : mI 277 74 = (16, (-56), 0, 18, 0) := by decide +kernel
theorem mi_277_77 : mI 277 77 = (16, (-70), 0, 7, 0) := by decide +kernel
theorem mi_277_80 : mI 277 80 = (3, 0, 3, 0, 0) := by decide +kernel
theorem mi_277_81 : mI 277 81 = (27, 0, 0, 0, 0) := by decide +kernel
theorem mi_195_0 : mI 195 0 = (3, 0, 0, 0, 0) := by decide +kernel
theorem mi_195_1 : mI 195 1 = (3, 0, 1, 0, 0) := by decide +kernel
theorem mi_195_2 : mI 195 2 = (10, 0, 9, 0, 0) := by decide +kernel
theorem mi_195_3 : mI 195 3 = (1, 1, 0, 0, 0) := by decide +kernel
theorem mi_195_4 : mI 195 4 = (10, 0, 5, 0, 0) := by decide +kernel
theorem mi_195_5 : mI 195 5 = (27, 0, 0, 0, 0) := by decide +kernel
theorem gg_90 : ∃ g, GG[90]? = some ((0, 11, 36), g) ∧ segAt g 1 = some (2, 91, 91) := ⟨_, rfl, by decide +kernel⟩
theorem gg_91 : ∃ g, GG[91]? = some ((1, 0, 294), g) ∧ segAt g 3 = some (0, 0, 6) := ⟨_, rfl, by decide +kernel⟩
theorem kb5 {a b : Nat} (ha : a < 2147483648) (hb : b < 2147483648) : ibF 5 (Int32.ofInt (a : Int)) (Int32.ofInt (b : Int)) = Int32.ofInt ((a &&& b : Nat) : Int) := by
  show Int32.ofInt (a : Int) &&& Int32.ofInt (b : Int) = _
  rw [v_nI (Int32.ofInt (a : Int) &&& Int32.ofInt (b : Int)), Int32.toBitVec_and, BitVec.toNat_and, show (Int32.ofInt (a : Int)).toBitVec.toNat = a from pk_tn (by omega), show (Int32.ofInt (b : Int)).toBitVec.toNat = b from pk_tn (by omega)]
theorem kb6 {a b : Nat} (ha : a < 2147483648) (hb : b < 2147483648) : ibF 6 (Int32.ofInt (a : Int)) (Int32.ofInt (b : Int)) = Int32.ofInt ((a ||| b : Nat) : Int) := by
  show Int32.ofInt (a : Int) ||| Int32.ofInt (b : Int) = _
  rw [v_nI (Int32.ofInt (a : Int) ||| Int32.ofInt (b : Int)), Int32.toBitVec_or, BitVec.toNat_or, show (Int32.ofInt (a : Int)).toBitVec.toNat = a from pk_tn (by omega), show (Int32.ofInt (b : Int)).toBitVec.toNat = b from pk_tn (by omega)]
theorem kb9 {a i : Nat} (ha : a < 2147483648) (hi : i < 32) : ibF 9 (Int32.ofInt (a : Int)) (Int32.ofInt (i : Int)) = Int32.ofInt ((a >>> i : Nat) : Int) := by
  show Int32.ofInt (a : Int) >>> (Int32.ofInt (i : Int) &&& 31) = _
  obtain ⟨j, hj, e, e2⟩ := and31 (Int32.ofInt (i : Int))
  have ej : j = i := by rw [e2, show (Int32.ofInt (i : Int)).toBitVec.toNat = i from pk_tn (by omega)]; exact Nat.mod_eq_of_lt hi
  rw [e, ← ej]
  have h := pk_shr (Int32.ofInt (a : Int)) _ j (smod32 j hj)
  rw [Int32.toInt_ofInt_of_le (by omega) (by omega)] at h
  rw [← Int32.ofInt_toInt (Int32.ofInt (a : Int) >>> nI j), h]
  rfl
theorem kb8 {a i : Nat} (hi : i < 32) (h : a * 2 ^ i < 2 ^ 32) : ibF 8 (Int32.ofInt (a : Int)) (Int32.ofInt (i : Int)) = Int32.ofInt ((a * 2 ^ i : Nat) : Int) :=
  shl_ok (x := a) (n := i) (v := Int32.ofInt (i : Int)) (pk_tn (by omega)) hi h
theorem kbT {n : Nat} (h : n < 2147483648) : (Int32.ofInt (n : Int)).toInt = (n : Int) := Int32.toInt_ofInt_of_le (by omega) (by omega)
theorem kal2 {n m : Nat} {F : Nat → Nat → Bool} (h : (List.range n).all (fun a => (List.range m).all (fun i => F a i)) = true) {a i : Nat} (ha : a < n) (hi : i < m) : F a i = true := List.all_eq_true.mp (List.all_eq_true.mp h a (List.mem_range.mpr ha)) i (List.mem_range.mpr hi)
theorem kb59 {a i : Nat} (ha : a < 2147483648) (hi : i < 32) : ibF 5 (ibF 9 (Int32.ofInt (a : Int)) (Int32.ofInt (i : Int))) (Int32.ofInt 1) = Int32.ofInt ((a >>> i &&& 1 : Nat) : Int) := by
  rw [kb9 ha hi]
  exact kb5 (b := 1) (Nat.lt_of_le_of_lt (Nat.shiftRight_le a i) ha) (by omega)
theorem kb68 {a i : Nat} (ha : a < 128) (hi : i < 7) : ibF 6 (Int32.ofInt (a : Int)) (ibF 8 (Int32.ofInt 1) (Int32.ofInt (i : Int))) = Int32.ofInt ((a ||| 2 ^ i : Nat) : Int) ∧ a ||| 2 ^ i < 128 := by
  have hp : 2 ^ i ≤ 2 ^ 6 := Nat.pow_le_pow_right (by omega) (by omega)
  have e8 : ibF 8 (Int32.ofInt 1) (Int32.ofInt (i : Int)) = Int32.ofInt ((1 * 2 ^ i : Nat) : Int) := kb8 (a := 1) (by omega) (by omega)
  rw [e8, Nat.one_mul]
  exact ⟨kb6 (by omega) (by omega), Nat.or_lt_two_pow (n := 7) (by omega) (by omega)⟩
theorem bru_nat : (List.range 64).all (fun S => (List.range 6).all (fun o => Nat.beq (S >>> o &&& 1) 1 || (Nat.blt S (S ||| 2 ^ o) && Nat.ble (S ||| 2 ^ o) 63))) = true := by decide +kernel
theorem bru_bit {S o : Int} (h0 : 0 ≤ S) (h1 : S ≤ 63) (h2 : 0 ≤ o) (h3 : o ≤ 5) (h : ¬ ibF 5 (ibF 9 (Int32.ofInt S) (Int32.ofInt o)) (Int32.ofInt 1) = Int32.ofInt 1) : S < (ibF 6 (Int32.ofInt S) (ibF 8 (Int32.ofInt 1) (Int32.ofInt o))).toInt ∧ (ibF 6 (Int32.ofInt S) (ibF 8 (Int32.ofInt 1) (Int32.ofInt o))).toInt ≤ 63 := by
  obtain ⟨a, rfl⟩ := Int.eq_ofNat_of_zero_le h0
  obtain ⟨i, rfl⟩ := Int.eq_ofNat_of_zero_le h2
  have q := kal2 bru_nat (a := a) (i := i) (by omega) (by omega)
  have e6 := kb68 (a := a) (i := i) (by omega) (by omega)
  rw [e6.1, kbT (by omega)]
  rw [kb59 (a := a) (i := i) (by omega) (by omega)] at h
  rw [Bool.or_eq_true, Bool.and_eq_true] at q
  rcases q with q | ⟨q1, q2⟩
  · exact absurd (by rw [Nat.eq_of_beq_eq_true q]; rfl) h
  · have a1 := Nat.blt_eq.mp q1
    have a2 := Nat.le_of_ble_eq_true q2
    exact ⟨by omega, by omega⟩
theorem okvs_three {ad : Nat → Nat} {s1 s2 s3 : SP3} : ∀ {vs : List Value}, okvs ad [s1, s2, s3] vs → ∃ a b c, vs = [a, b, c] ∧ okv ad s1 a ∧ okv ad s2 b ∧ okv ad s3 c
  | [], h => h.elim
  | [a], h => h.2.elim
  | [a, b], h => h.2.2.elim
  | [a, b, c], h => ⟨a, b, c, rfl, h.1, h.2.1, h.2.2.1⟩
  | a :: b :: c :: d :: t, h => h.2.2.2.elim
section BRU
variable {l : Launch} {D : va_G} {tys : List (ClassId × FieldType)} {A : Nat → Prop} {ad : Nat → Nat}
theorem folk_of {ws : va_W} (hG : GOK ad tys GG ws) : ∃ (fs : List Value) (cA : ClassId) (f : Nat → Int32) (z : Int), ws[90]? = some (ad 90, .inr (11, fs)) ∧ fs[1]? = some (.ref (ad 91)) ∧ ws[91]? = some (ad 91, .inl (cA, 294, .inl f)) ∧ tys[0]? = some (cA, .int) ∧ f 3 = Int32.ofInt z ∧ 0 ≤ z ∧ z ≤ 6 := by
  obtain ⟨g, hg, hs⟩ := gg_90
  obtain ⟨g2, hg2, hs2⟩ := gg_91
  obtain ⟨e, a1, a2, a3⟩ := hG 90 _ hg
  obtain ⟨e2, b1, b2, b3⟩ := hG 91 _ hg2
  obtain ⟨fs, rfl, hl⟩ := a2
  obtain ⟨cA, f, rfl, c1, -⟩ := b2
  have hv : fs[1]? = some fs[1] := List.getElem?_eq_getElem (by omega)
  obtain ⟨sp, q1, q2⟩ := a3 1 _ hv
  rw [hs] at q1
  cases q1
  obtain ⟨sp, r1, r2⟩ := b3 3 (.int (f 3)) (by show (if 3 < 294 then some (Value.int (f 3)) else none) = _; rw [if_pos (by omega)])
  rw [hs2] at r1
  cases r1
  obtain ⟨z, z1, z2, z3⟩ := r2
  exact ⟨fs, cA, f, z, a1, by rw [hv]; exact congrArg some q2, b1, c1, Value.int.inj z1, z2, z3⟩
theorem bit_ct (a b : Int32) (ws : va_W) : CT l D tys A 195 0 0 0 [.int a, .int b] ws (fun r w => w = ws ∧ r = some (.int (ibF 5 (ibF 9 a b) (Int32.ofInt 1)))) := by
  refine CT_of_V (by omega) (show (2 : Nat) ≤ mML 195 by decide +kernel) ?_
  refine V_iload (v := a) mi_195_0 (List.Mem.head _) ?_
  refine V_iload (v := b) mi_195_1 (List.Mem.tail _ (List.Mem.head _)) ?_
  refine V_ibin mi_195_2 (by omega) ?_
  refine V_ipush mi_195_3 ?_
  refine V_ibin mi_195_4 (by omega) ?_
  exact V_retI mi_195_5 (fun h => absurd h (by decide +kernel)) ⟨rfl, rfl⟩
theorem bru_while (hAD : ∀ i : Nat, ad (1000 + i) = D.2 1000 i) {w0 : va_W} {f so : Int32} (hso : 0 ≤ so.toInt ∧ so.toInt ≤ 63) : ∀ (n : Nat) (S mo : Int) (ws : va_W), 0 ≤ S → S ≤ 63 → (mo = 0 ∨ mo = 1) → 2 * (64 - S) + mo < (n : Int) → GOK ad tys GG ws → FRm [] w0 ws → V l D tys A 277 3 0 0 (CRpost ad tys GG hBru w0) 0 0 7 [(0, .ref (ad 90)), (1, .int f), (2, .int so), (3, .int (Int32.ofInt S)), (4, .int (Int32.ofInt mo))] [] ws
  | 0, S, mo, ws, h0, h1, h2, h3, _, _ => by omega
  | n + 1, S, mo, ws, h0, h1, h2, h3, hG, hF => by
    refine V_iload (v := Int32.ofInt mo) mi_277_7 (List.Mem.tail _ (List.Mem.tail _ (List.Mem.tail _ (List.Mem.tail _ (List.Mem.head _))))) ?_
    rcases h2 with rfl | rfl
    · refine V_if mi_277_9 (fun _ => ?_) (fun h => absurd (show Int32.ofInt 0 = 0 by decide) h)
      refine V_iload (v := Int32.ofInt S) mi_277_80 (List.Mem.tail _ (List.Mem.tail _ (List.Mem.tail _ (List.Mem.head _)))) ?_
      exact V_retI mi_277_81 (fun h => absurd h (by decide +kernel)) ⟨hG, hF, ⟨S, rfl, h0, h1⟩, fun q hq => by cases hq⟩
    · refine V_if mi_277_9 (fun h => absurd (show Int32.ofInt 1 = 0 from h) (by decide)) (fun _ => ?_)
      have loop : ∀ (k : Nat) (S2 m2 o : Int) (w2 : va_W), (6 - o).toNat < k → 0 ≤ o → o ≤ 6 → 0 ≤ S2 → S2 ≤ 63 → (m2 = 0 ∧ S2 = S ∨ m2 = 1 ∧ S < S2) → GOK ad tys GG w2 → FRm [] w0 w2 → V l D tys A 277 3 0 0 (CRpost ad tys GG hBru w0) 0 0 18 [(0, .ref (ad 90)), (1, .int f), (2, .int so), (3, .int (Int32.ofInt S2)), (4, .int (Int32.ofInt m2)), (5, .int (Int32.ofInt o))] [] w2 := by
        intro k
        induction k with
        | zero => intro S2 m2 o w2 g; omega
        | succ k ih =>
          intro S2 m2 o w2 g1 g2 g3 g4 g5 g6 gG gF
          obtain ⟨fs, cA, fw, z, e1, e2, e3, e4, e5, e6, e7⟩ := folk_of gG
          refine V_iload (v := Int32.ofInt o) mi_277_18 (List.Mem.tail _ (List.Mem.tail _ (List.Mem.tail _ (List.Mem.tail _ (List.Mem.tail _ (List.Mem.head _)))))) ?_
          refine V_aload (v := ad 90) mi_277_20 (List.Mem.head _) ?_
          refine V_get mi_277_21 e1 e2 ?_
          refine V_ipush mi_277_24 ?_
          refine V_iald mi_277_25 e3 e4 (show vp_in (Int32.ofInt 3) 294 by unfold vp_in; decide +kernel) ?_
          rw [show (Int32.ofInt 3).toNatClampNeg = 3 by decide, e5]
          have hc := cdP_iff (x := 3) (a := o) (b := z) (by omega) (by omega) (by omega) (by omega)
          refine V_icmp mi_277_26 (fun _ => ?_) (fun hlt => ?_)
          · refine V_goto mi_277_77 ?_
            refine V_sub (lv' := [(0, .ref (ad 90)), (1, .int f), (2, .int so), (3, .int (Int32.ofInt S2)), (4, .int (Int32.ofInt m2))]) (fun q hq => ?_) (bru_while hAD hso n S2 m2 w2 g4 g5 (by omega) (by omega) gG gF)
            simp only [List.mem_cons, List.not_mem_nil, or_false] at hq ⊢
            rcases hq with h | h | h | h | h <;> simp [h]
          · have ho : o < z := by
              have : ¬ (0 ≤ o - z) := fun q => hlt (hc.mpr q)
              omega
            have h71 : ∀ (S3 m3 : Int) (w3 : va_W), 0 ≤ S3 → S3 ≤ 63 → (m3 = 0 ∧ S3 = S ∨ m3 = 1 ∧ S < S3) → GOK ad tys GG w3 → FRm [] w0 w3 → V l D tys A 277 3 0 0 (CRpost ad tys GG hBru w0) 0 0 71 [(0, .ref (ad 90)), (1, .int f), (2, .int so), (3, .int (Int32.ofInt S3)), (4, .int (Int32.ofInt m3)), (5, .int (Int32.ofInt o))] [] w3 := by
              intro S3 m3 w3 c1 c2 c3 c4 c5
              refine V_iinc (v := Int32.ofInt o) mi_277_71 (List.Mem.tail _ (List.Mem.tail _ (List.Mem.tail _ (List.Mem.tail _ (List.Mem.tail _ (List.Mem.head _)))))) ?_
              refine V_goto mi_277_74 ?_
              refine V_sub (lv' := [(0, .ref (ad 90)), (1, .int f), (2, .int so), (3, .int (Int32.ofInt S3)), (4, .int (Int32.ofInt m3)), (5, .int (Int32.ofInt (o + 1)))]) (fun q hq => ?_) (ih S3 m3 (o + 1) w3 (by omega) (by omega) (by omega) c1 c2 c3 c4 c5)
              simp only [List.mem_cons, List.not_mem_nil, or_false] at hq
              rcases hq with h | h | h | h | h | h <;> simp [h, stL, Value.category, Int32.ofInt_add]
            refine V_iload (v := so) mi_277_29 (List.Mem.tail _ (List.Mem.tail _ (List.Mem.head _))) ?_
            refine V_iload (v := Int32.ofInt o) mi_277_30 (List.Mem.tail _ (List.Mem.tail _ (List.Mem.tail _ (List.Mem.tail _ (List.Mem.tail _ (List.Mem.head _)))))) ?_
            refine V_stat (As := [.int so, .int (Int32.ofInt o)]) (st := []) mi_277_32 (by omega) (bit_ct so (Int32.ofInt o) w2) (by omega) (show 2 = mN 195 by decide +kernel) (by simp) ⟨Nat.le_refl _, Nat.le_refl _⟩ ?_
            rintro r1 w3 ⟨rfl, rfl⟩
            refine V_if mi_277_35 (fun _ => h71 S2 m2 w3 g4 g5 g6 gG gF) (fun _ => ?_)
            refine V_iload (v := Int32.ofInt S2) mi_277_38 (List.Mem.tail _ (List.Mem.tail _ (List.Mem.tail _ (List.Mem.head _)))) ?_
            refine V_iload (v := Int32.ofInt o) mi_277_39 (List.Mem.tail _ (List.Mem.tail _ (List.Mem.tail _ (List.Mem.tail _ (List.Mem.tail _ (List.Mem.head _)))))) ?_
            refine V_stat (As := [.int (Int32.ofInt S2), .int (Int32.ofInt o)]) (st := []) mi_277_41 (by omega) (bit_ct (Int32.ofInt S2) (Int32.ofInt o) w3) (by omega) (show 2 = mN 195 by decide +kernel) (by simp) ⟨Nat.le_refl _, Nat.le_refl _⟩ ?_
            rintro r2 w4 ⟨rfl, rfl⟩
            refine V_ipush mi_277_44 ?_
            refine V_icmp mi_277_45 (fun _ => h71 S2 m2 w4 g4 g5 g6 gG gF) (fun hb => ?_)
            have hbit := bru_bit g4 g5 g2 (by omega) hb
            refine V_aload (v := ad 90) mi_277_48 (List.Mem.head _) ?_
            refine V_iload (v := Int32.ofInt S2) mi_277_49 (List.Mem.tail _ (List.Mem.tail _ (List.Mem.tail _ (List.Mem.head _)))) ?_
            refine V_iload (v := Int32.ofInt o) mi_277_50 (List.Mem.tail _ (List.Mem.tail _ (List.Mem.tail _ (List.Mem.tail _ (List.Mem.tail _ (List.Mem.head _)))))) ?_
            obtain ⟨d', k1, k2⟩ := r848 hAD (l := l) (tys := tys) (A := A) [.ref (ad 90), .int (Int32.ofInt S2), .int (Int32.ofInt o)] w4 ⟨rfl, ⟨S2, rfl, g4, g5⟩, ⟨o, rfl, g2, (by show o ≤ (5 : Int); omega)⟩, trivial⟩ gG (fun q hq => by cases hq)
            obtain ⟨T, N, hcl⟩ := ci_at (y := 276) (by omega) (by decide +kernel) (by decide +kernel)
            refine V_virt (As := [.int (Int32.ofInt S2), .int (Int32.ofInt o)]) (st := []) mi_277_52 (by omega) k2 (by omega) (show 2 = mN 276 by decide +kernel) e1 (by rw [← show mCi 276 = 11 by decide +kernel]; exact hcl) (by simp) ⟨Nat.le_refl _, Nat.le_refl _⟩ ?_
            rintro r3 w5 ⟨q1, q2, q3, -⟩
            have hF5 : FRm [] w0 w5 := FRm_tr gF q2 (fun x hx => hx)
            cases r3 with
            | none => exact q3.elim
            | some v =>
              obtain ⟨zz, rfl, -, -⟩ := q3
              refine V_if mi_277_55 (fun _ => ?_) (fun _ => V_goto mi_277_58 (h71 S2 m2 w5 g4 g5 g6 q1 hF5))
              refine V_iload (v := Int32.ofInt S2) mi_277_61 (List.Mem.tail _ (List.Mem.tail _ (List.Mem.tail _ (List.Mem.head _)))) ?_
              refine V_ipush mi_277_62 ?_
              refine V_iload (v := Int32.ofInt o) mi_277_63 (List.Mem.tail _ (List.Mem.tail _ (List.Mem.tail _ (List.Mem.tail _ (List.Mem.tail _ (List.Mem.head _)))))) ?_
              refine V_ibin mi_277_65 (by omega) ?_
              refine V_ibin mi_277_66 (by omega) ?_
              refine V_istore mi_277_67 ?_
              refine V_ipush mi_277_68 ?_
              refine V_istore mi_277_69 ?_
              refine V_sub (fun q hq => ?_) (h71 (ibF 6 (Int32.ofInt S2) (ibF 8 (Int32.ofInt 1) (Int32.ofInt o))).toInt 1 w5 (by omega) hbit.2 (Or.inr ⟨rfl, by omega⟩) q1 hF5)
              simp only [List.mem_cons, List.not_mem_nil, or_false] at hq
              rcases hq with h | h | h | h | h | h <;> simp [h, stL, Value.category]
      refine V_ipush mi_277_12 ?_
      refine V_istore mi_277_13 ?_
      refine V_ipush mi_277_15 ?_
      refine V_istore mi_277_16 ?_
      refine V_sub (fun q hq => ?_) (loop 7 S 0 0 ws (by omega) (by omega) (by omega) h0 h1 (Or.inl ⟨rfl, rfl⟩) hG hF)
      simp only [List.mem_cons, List.not_mem_nil, or_false] at hq
      rcases hq with h | h | h | h | h | h <;> simp [h, stL, Value.category]
theorem sh_bits : (List.range 6).all (fun o => decide (0 ≤ (ibF 8 (Int32.ofInt 1) (Int32.ofInt (o : Int))).toInt) && decide ((ibF 8 (Int32.ofInt 1) (Int32.ofInt (o : Int))).toInt ≤ 63)) = true := by decide +kernel
theorem HBru_ok (hAD : ∀ i : Nat, ad (1000 + i) = D.2 1000 i) : CRok l D tys A ad GG 4 hBru := by
  intro vs ws hv hG hp
  obtain ⟨a, b, c, rfl, ha, ⟨zf, rfl, f1, f2⟩, ⟨zs, rfl, s1, s2⟩⟩ := okvs_three hv
  · have ha : a = .ref (ad 90) := ha
    subst ha
    have f1 : 0 ≤ zf := f1
    have f2 : zf ≤ 5 := f2
    have s1 : 0 ≤ zs := s1
    have s2 : zs ≤ 63 := s2
    refine ⟨3, by omega, CT_of_V (k := 277) (by omega) (show (3 : Nat) ≤ mML 277 by decide +kernel) ?_⟩
    have sb := List.all_eq_true.mp sh_bits zf.toNat (List.mem_range.mpr (by omega))
    rw [Int.toNat_of_nonneg f1, Bool.and_eq_true, decide_eq_true_eq, decide_eq_true_eq] at sb
    refine V_ipush mi_277_0 ?_
    refine V_iload (v := Int32.ofInt zf) mi_277_1 (List.Mem.tail _ (List.Mem.head _)) ?_
    refine V_ibin mi_277_2 (by omega) ?_
    refine V_istore mi_277_3 ?_
    refine V_ipush mi_277_4 ?_
    refine V_istore mi_277_5 ?_
    have e : (Int32.ofInt zs).toInt = zs := Int32.toInt_ofInt_of_le (by omega) (by omega)
    refine V_sub (fun q hq => ?_) (bru_while hAD (w0 := ws) (f := Int32.ofInt zf) (so := Int32.ofInt zs) (by rw [e]; omega) 200 (ibF 8 (Int32.ofInt 1) (Int32.ofInt zf)).toInt 1 ws sb.1 sb.2 (Or.inr rfl) (by omega) hG FRm_rf)
    simp only [List.mem_cons, List.not_mem_nil, or_false] at hq
    rcases hq with h | h | h | h | h <;> simp [h, stL, lv_args, Value.category]
end BRU
end
section
noncomputable def kJ9223372036854775808 : Int := Int.negSucc (nat_lit 9223372036854775807)
noncomputable def kJ377957122400 : Int := Int.negSucc (nat_lit 377957122399)
noncomputable def kJ2147483648 : Int := Int.negSucc (nat_lit 2147483647)
noncomputable def kJ2147483647 : Int := Int.negSucc (nat_lit 2147483646)
noncomputable def kJ934572 : Int := Int.negSucc (nat_lit 934571)
noncomputable def kJ49348 : Int := Int.negSucc (nat_lit 49347)
noncomputable def kJ45292 : Int := Int.negSucc (nat_lit 45291)
noncomputable def kJ35970 : Int := Int.negSucc (nat_lit 35969)
noncomputable def kJ32010 : Int := Int.negSucc (nat_lit 32009)
noncomputable def kJ28050 : Int := Int.negSucc (nat_lit 28049)
noncomputable def kJ24090 : Int := Int.negSucc (nat_lit 24089)
noncomputable def kJ20130 : Int := Int.negSucc (nat_lit 20129)
noncomputable def kJ19822 : Int := Int.negSucc (nat_lit 19821)
noncomputable def kJ16498 : Int := Int.negSucc (nat_lit 16497)
noncomputable def kJ13332 : Int := Int.negSucc (nat_lit 13331)
noncomputable def kJ4770 : Int := Int.negSucc (nat_lit 4769)
noncomputable def kJ3960 : Int := Int.negSucc (nat_lit 3959)
noncomputable def kJ3942 : Int := Int.negSucc (nat_lit 3941)
noncomputable def kJ3366 : Int := Int.negSucc (nat_lit 3365)
noncomputable def kJ3270 : Int := Int.negSucc (nat_lit 3269)
noncomputable def kJ3180 : Int := Int.negSucc (nat_lit 3179)
noncomputable def kJ2840 : Int := Int.negSucc (nat_lit 2839)
noncomputable def kJ2772 : Int := Int.negSucc (nat_lit 2771)
noncomputable def kJ2664 : Int := Int.negSucc (nat_lit 2663)
noncomputable def kJ2034 : Int := Int.negSucc (nat_lit 2033)
noncomputable def kJ1836 : Int := Int.negSucc (nat_lit 1835)
noncomputable def kJ1674 : Int := Int.negSucc (nat_lit 1673)
noncomputable def kJ1600 : Int := Int.negSucc (nat_lit 1599)
noncomputable def kJ1548 : Int := Int.negSucc (nat_lit 1547)
noncomputable def kJ1440 : Int := Int.negSucc (nat_lit 1439)
noncomputable def kJ1416 : Int := Int.negSucc (nat_lit 1415)
noncomputable def kJ1376 : Int := Int.negSucc (nat_lit 1375)
noncomputable def kJ1204 : Int := Int.negSucc (nat_lit 1203)
noncomputable def kJ1062 : Int := Int.negSucc (nat_lit 1061)
noncomputable def kJ1032 : Int := Int.negSucc (nat_lit 1031)
noncomputable def kJ860 : Int := Int.negSucc (nat_lit 859)
noncomputable def kJ688 : Int := Int.negSucc (nat_lit 687)
noncomputable def kJ676 : Int := Int.negSucc (nat_lit 675)
noncomputable def kJ406 : Int := Int.negSucc (nat_lit 405)
noncomputable def kJ374 : Int := Int.negSucc (nat_lit 373)
noncomputable def kJ330 : Int := Int.negSucc (nat_lit 329)
noncomputable def kJ300 : Int := Int.negSucc (nat_lit 299)
noncomputable def kJ296 : Int := Int.negSucc (nat_lit 295)
noncomputable def kJ284 : Int := Int.negSucc (nat_lit 283)
noncomputable def kJ252 : Int := Int.negSucc (nat_lit 251)
noncomputable def kJ240 : Int := Int.negSucc (nat_lit 239)
noncomputable def kJ228 : Int := Int.negSucc (nat_lit 227)
noncomputable def kJ218 : Int := Int.negSucc (nat_lit 217)
noncomputable def kJ212 : Int := Int.negSucc (nat_lit 211)
noncomputable def kJ206 : Int := Int.negSucc (nat_lit 205)
noncomputable def kJ204 : Int := Int.negSucc (nat_lit 203)
noncomputable def kJ202 : Int := Int.negSucc (nat_lit 201)
noncomputable def kJ196 : Int := Int.negSucc (nat_lit 195)
noncomputable def kJ194 : Int := Int.negSucc (nat_lit 193)
noncomputable def kJ192 : Int := Int.negSucc (nat_lit 191)
noncomputable def kJ188 : Int := Int.negSucc (nat_lit 187)
noncomputable def kJ186 : Int := Int.negSucc (nat_lit 185)
noncomputable def kJ176 : Int := Int.negSucc (nat_lit 175)
noncomputable def kJ174 : Int := Int.negSucc (nat_lit 173)
noncomputable def kJ172 : Int := Int.negSucc (nat_lit 171)
noncomputable def kJ168 : Int := Int.negSucc (nat_lit 167)
noncomputable def kJ160 : Int := Int.negSucc (nat_lit 159)
noncomputable def kJ148 : Int := Int.negSucc (nat_lit 147)
noncomputable def kJ146 : Int := Int.negSucc (nat_lit 145)
noncomputable def kJ144 : Int := Int.negSucc (nat_lit 143)
noncomputable def kJ136 : Int := Int.negSucc (nat_lit 135)
noncomputable def kJ132 : Int := Int.negSucc (nat_lit 131)
noncomputable def kJ128 : Int := Int.negSucc (nat_lit 127)
noncomputable def kJ122 : Int := Int.negSucc (nat_lit 121)
noncomputable def kJ120 : Int := Int.negSucc (nat_lit 119)
noncomputable def kJ118 : Int := Int.negSucc (nat_lit 117)
noncomputable def kJ112 : Int := Int.negSucc (nat_lit 111)
noncomputable def kJ106 : Int := Int.negSucc (nat_lit 105)
noncomputable def kJ104 : Int := Int.negSucc (nat_lit 103)
noncomputable def kJ102 : Int := Int.negSucc (nat_lit 101)
noncomputable def kJ96 : Int := Int.negSucc (nat_lit 95)
noncomputable def kJ92 : Int := Int.negSucc (nat_lit 91)
noncomputable def kJ90 : Int := Int.negSucc (nat_lit 89)
noncomputable def kJ88 : Int := Int.negSucc (nat_lit 87)
noncomputable def kJ80 : Int := Int.negSucc (nat_lit 79)
noncomputable def kJ60 : Int := Int.negSucc (nat_lit 59)
noncomputable def kJ58 : Int := Int.negSucc (nat_lit 57)
noncomputable def kI58 : Int := Int.ofNat (nat_lit 58)
noncomputable def kI59 : Int := Int.ofNat (nat_lit 59)
noncomputable def kI78 : Int := Int.ofNat (nat_lit 78)
noncomputable def kI174 : Int := Int.ofNat (nat_lit 174)
noncomputable def kI248 : Int := Int.ofNat (nat_lit 248)
noncomputable def kI274 : Int := Int.ofNat (nat_lit 274)
noncomputable def kI330 : Int := Int.ofNat (nat_lit 330)
noncomputable def kI692 : Int := Int.ofNat (nat_lit 692)
noncomputable def kI1269 : Int := Int.ofNat (nat_lit 1269)
noncomputable def kI1340 : Int := Int.ofNat (nat_lit 1340)
noncomputable def kI1359 : Int := Int.ofNat (nat_lit 1359)
noncomputable def kI1426 : Int := Int.ofNat (nat_lit 1426)
noncomputable def kI1646 : Int := Int.ofNat (nat_lit 1646)
noncomputable def kI1648 : Int := Int.ofNat (nat_lit 1648)
noncomputable def kI1791 : Int := Int.ofNat (nat_lit 1791)
noncomputable def kI1854 : Int := Int.ofNat (nat_lit 1854)
noncomputable def kI2048 : Int := Int.ofNat (nat_lit 2048)
noncomputable def kI2140 : Int := Int.ofNat (nat_lit 2140)
noncomputable def kI2480 : Int := Int.ofNat (nat_lit 2480)
noncomputable def kI2748 : Int := Int.ofNat (nat_lit 2748)
noncomputable def kI2789 : Int := Int.ofNat (nat_lit 2789)
noncomputable def kI2850 : Int := Int.ofNat (nat_lit 2850)
noncomputable def kI3090 : Int := Int.ofNat (nat_lit 3090)
noncomputable def kI3710 : Int := Int.ofNat (nat_lit 3710)
noncomputable def kI3780 : Int := Int.ofNat (nat_lit 3780)
noncomputable def kI3821 : Int := Int.ofNat (nat_lit 3821)
noncomputable def kI4095 : Int := Int.ofNat (nat_lit 4095)
noncomputable def kI4096 : Int := Int.ofNat (nat_lit 4096)
noncomputable def kI4122 : Int := Int.ofNat (nat_lit 4122)
noncomputable def kI4226 : Int := Int.ofNat (nat_lit 4226)
noncomputable def kI4398 : Int := Int.ofNat (nat_lit 4398)
noncomputable def kI4468 : Int := Int.ofNat (nat_lit 4468)
noncomputable def kI4509 : Int := Int.ofNat (nat_lit 4509)
noncomputable def kI4810 : Int := Int.ofNat (nat_lit 4810)
noncomputable def kI4812 : Int := Int.ofNat (nat_lit 4812)
noncomputable def kI4853 : Int := Int.ofNat (nat_lit 4853)
noncomputable def kI5154 : Int := Int.ofNat (nat_lit 5154)
noncomputable def kI10538 : Int := Int.ofNat (nat_lit 10538)
noncomputable def kI10565 : Int := Int.ofNat (nat_lit 10565)
noncomputable def kI10592 : Int := Int.ofNat (nat_lit 10592)
noncomputable def kI21160 : Int := Int.ofNat (nat_lit 21160)
noncomputable def kI101713 : Int := Int.ofNat (nat_lit 101713)
noncomputable def kI101755 : Int := Int.ofNat (nat_lit 101755)
noncomputable def kI102094 : Int := Int.ofNat (nat_lit 102094)
noncomputable def kI168112 : Int := Int.ofNat (nat_lit 168112)
noncomputable def kI11686012 : Int := Int.ofNat (nat_lit 11686012)
noncomputable def kI23324404 : Int := Int.ofNat (nat_lit 23324404)
noncomputable def kI23324482 : Int := Int.ofNat (nat_lit 23324482)
noncomputable def kI23325763 : Int := Int.ofNat (nat_lit 23325763)
noncomputable def kI23371614 : Int := Int.ofNat (nat_lit 23371614)
noncomputable def kI93661475 : Int := Int.ofNat (nat_lit 93661475)
noncomputable def kI93661508 : Int := Int.ofNat (nat_lit 93661508)
noncomputable def kI96826975 : Int := Int.ofNat (nat_lit 96826975)
noncomputable def kI96827018 : Int := Int.ofNat (nat_lit 96827018)
noncomputable def kI96868998 : Int := Int.ofNat (nat_lit 96868998)
noncomputable def kI96868999 : Int := Int.ofNat (nat_lit 96868999)
noncomputable def kI96869046 : Int := Int.ofNat (nat_lit 96869046)
noncomputable def kI96870116 : Int := Int.ofNat (nat_lit 96870116)
noncomputable def kI2147483646 : Int := Int.ofNat (nat_lit 2147483646)
noncomputable def kI2147483647 : Int := Int.ofNat (nat_lit 2147483647)
noncomputable def kI283467841454 : Int := Int.ofNat (nat_lit 283467841454)
noncomputable def kI283467841482 : Int := Int.ofNat (nat_lit 283467841482)
noncomputable def kI313532612520 : Int := Int.ofNat (nat_lit 313532612520)
noncomputable def kI313532612552 : Int := Int.ofNat (nat_lit 313532612552)
noncomputable def kI9223372036854775807 : Int := Int.ofNat (nat_lit 9223372036854775807)
noncomputable def uL0 : List (Int × Nat) := []
noncomputable def uL (a : Int) (s : Nat) (t : List (Int × Nat)) : List (Int × Nat) := (a, s) :: t
noncomputable def uic (c : Int) : AV := iA (c, [])
noncomputable def uis (s : Nat) : AV := iA (0, [(1, s)])
noncomputable def ulc (c : Int) : AV := lA (c, [])
noncomputable def uls (s : Nat) : AV := lA (0, [(1, s)])
noncomputable def uE0 : EV := []
noncomputable def uE (a b : Int) (t : EV) : EV := (a, b) :: t
noncomputable def uA0 : AL := []
noncomputable def uA (i : Nat) (v : AV) (t : AL) : AL := (i, v) :: t
noncomputable def uS0 : List AV := []
noncomputable def uS (v : AV) (t : List AV) : List AV := v :: t
noncomputable def uO0 : OV := []
noncomputable def uO (c j : Nat) (v : AV) (t : OV) : OV := ((c, j), v) :: t
noncomputable def uC (pc : Nat) (E : EV) (als : AL) (ast : List AV) (ov : OV) (c : Int) (l : List (Int × Nat)) : Nat × CUT := (pc, E, als, ast, ov, (c, l))
noncomputable def uK0 : List (Nat × CUT) := []
noncomputable def uK (q : Nat × CUT) (t : List (Nat × CUT)) : List (Nat × CUT) := q :: t
section ZQA
variable {l : Launch} {D : va_G} {tys : List (ClassId × FieldType)} {A : Nat → Prop} {ad : Nat → Nat} {ws : va_W} {k d mc ms : Nat} {post : Option Value → va_W → Prop} {cells slots pc : Nat} {lv : List (Nat × Value)} {st : List Value} {a : Int} {x y z : Nat}
theorem zqidx_in {j n : Nat} (hj : j < n) (hn : n ≤ 100000) : vp_in (Int32.ofInt j) n ∧ (Int32.ofInt j).toNatClampNeg = j := by
  have e : (Int32.ofInt (j : Int)).toInt = (j : Int) := Int32.toInt_ofInt_of_le (by omega) (by omega)
  refine ⟨vp_in_iff.mpr (by rw [e]; omega), ?_⟩
  show (Int32.ofInt (j : Int)).toInt.toNat = j
  rw [e]; rfl
theorem zqarr_of {c ty n : Nat} {segs : List SG} (hG : GOK ad tys GG ws) (hg : GG[c]? = some ((1, ty, n), segs)) : ∃ (cA : ClassId) (f : Nat → Int32), ws[c]? = some (ad c, .inl (cA, n, .inl f)) ∧ tys[ty]? = some (cA, ftyp ty) := by
  obtain ⟨e, b1, b2, b3⟩ := hG c _ hg
  obtain ⟨cA, f, rfl, c1, -⟩ := b2
  exact ⟨cA, f, b1, c1⟩
theorem zqrd_arr {c j b n : Nat} {cA : ClassId} {f : Nat → Int32} (he : ws[c]? = some (b, .inl (cA, n, .inl f))) (hj : j < n) : rd ws c j = some (.int (f j)) := by
  rw [rd_at he]
  show (if j < n then _ else _) = _
  rw [if_pos hj]
theorem zqV_aldR {c n j : Nat} {segs : List SG} {v : Int32} (hi : mI k pc = (19, 0, 0, 0, 0)) (hG : GOK ad tys GG ws) (hg : GG[c]? = some ((1, 0, n), segs)) (hj : j < n) (hn : n ≤ 100000) (hx : rd ws c j = some (.int v)) (kk : V l D tys A k d mc ms post cells slots (pc + 1) lv (.int v :: st) ws) : V l D tys A k d mc ms post cells slots pc lv (.int (Int32.ofInt j) :: .ref (ad c) :: st) ws := by
  obtain ⟨cA, f, h1, h2⟩ := zqarr_of hG hg
  refine V_iald hi h1 h2 (zqidx_in hj hn).1 ?_
  rw [(zqidx_in hj hn).2]
  rw [zqrd_arr h1 hj] at hx
  cases hx
  exact kk
theorem zqV_astR {c n j : Nat} {lo hi : Int} {segs : List SG} {v : Int32} (hi0 : mI k pc = (20, a, 0, y, z)) (hG : GOK ad tys GG ws) (hg : GG[c]? = some ((1, 0, n), segs)) (hj : j < n) (hn : n ≤ 100000) (hs : segAt segs j = some (0, lo, hi)) (h1 : lo ≤ v.toInt) (h2 : v.toInt ≤ hi) (kk : ∀ w : va_W, GOK ad tys GG w → Upd1 ws w c j (.int v) → V l D tys A k d mc ms post cells slots (pc + 1) lv st w) : V l D tys A k d mc ms post cells slots pc lv (.int v :: .int (Int32.ofInt j) :: .ref (ad c) :: st) ws := by
  obtain ⟨cA, f, q1, q2⟩ := zqarr_of hG hg
  refine V_iast hi0 q1 q2 (zqidx_in hj hn).1 ?_
  rw [(zqidx_in hj hn).2]
  have hu := GOK_upd (j := j) (v := .int v) (e' := .inl (cA, n, .inl (upd f j v))) hG hg q1 ⟨cA, _, rfl, q2, by omega⟩ (fun j' => by
    show (if j' < n then some (Value.int (upd f j v j')) else none) = if j' = j then some (Value.int v) else if j' < n then some (Value.int (f j')) else none
    unfold upd
    by_cases h : j' = j
    · subst h; simp [hj]
    · simp [h]) hs ⟨v.toInt, by rw [Int32.ofInt_toInt], h1, h2⟩
  exact kk _ hu.1 hu.2
theorem zqV_aldX {c n j : Nat} {segs : List SG} {v ix : Int32} (hi : mI k pc = (19, 0, 0, 0, 0)) (hix : ix = Int32.ofInt (j : Int)) (hG : GOK ad tys GG ws) (hg : GG[c]? = some ((1, 0, n), segs)) (hj : j < n) (hn : n ≤ 100000) (hx : rd ws c j = some (.int v)) (kk : V l D tys A k d mc ms post cells slots (pc + 1) lv (.int v :: st) ws) : V l D tys A k d mc ms post cells slots pc lv (.int ix :: .ref (ad c) :: st) ws := by
  subst hix
  exact zqV_aldR hi hG hg hj hn hx kk
theorem zqV_astX {c n j : Nat} {lo hi : Int} {segs : List SG} {v ix : Int32} (hi0 : mI k pc = (20, a, 0, y, z)) (hix : ix = Int32.ofInt (j : Int)) (hG : GOK ad tys GG ws) (hg : GG[c]? = some ((1, 0, n), segs)) (hj : j < n) (hn : n ≤ 100000) (hs : segAt segs j = some (0, lo, hi)) (h1 : lo ≤ v.toInt) (h2 : v.toInt ≤ hi) (kk : ∀ w : va_W, GOK ad tys GG w → Upd1 ws w c j (.int v) → V l D tys A k d mc ms post cells slots (pc + 1) lv st w) : V l D tys A k d mc ms post cells slots pc lv (.int v :: .int ix :: .ref (ad c) :: st) ws := by
  subst hix
  exact zqV_astR hi0 hG hg hj hn hs h1 h2 kk
theorem zqo90 (hG : GOK ad tys GG ws) : ∃ fs : List Value, ws[90]? = some (ad 90, .inr (11, fs)) ∧ fs.length = 36 := by
  obtain ⟨e, a1, a2, a3⟩ := hG 90 _ rfl
  obtain ⟨fs, rfl, hl⟩ := a2
  exact ⟨fs, a1, hl⟩
theorem zqV_getI {i : Nat} {v : Value} (hi : mI k pc = (17, a, x, 11, i)) (hG : GOK ad tys GG ws) (hx : rd ws 90 i = some v) (kk : V l D tys A k d 0 0 post 0 0 (pc + 3) lv (v :: st) ws) : V l D tys A k d 0 0 post 0 0 pc lv (.ref (ad 90) :: st) ws := by
  obtain ⟨fs, a1, hl⟩ := zqo90 hG
  rw [rd_at a1] at hx
  exact V_get hi a1 hx kk
theorem zqrref {c i : Nat} (hs : ∃ g, GG[90]? = some ((0, 11, 36), g) ∧ segAt g i = some (2, (c : Int), (c : Int))) (hi2 : i < 36) (hG : GOK ad tys GG ws) : rd ws 90 i = some (.ref (ad c)) := by
  obtain ⟨g, hg, hs⟩ := hs
  obtain ⟨e, a1, a2, a3⟩ := hG 90 _ hg
  obtain ⟨fs, rfl, hl⟩ := a2
  have hv : fs[i]? = some fs[i] := List.getElem?_eq_getElem (by omega)
  obtain ⟨sp, q1, q2⟩ := a3 i _ hv
  rw [hs] at q1
  cases q1
  have q2 : fs[i] = .ref (ad ((c : Int).toNat)) := q2
  rw [Int.toNat_natCast] at q2
  rw [rd_at a1]
  show fs[i]? = _
  rw [hv, q2]
theorem zqupd_ne {w w' : va_W} {c j c' j' : Nat} {v : Value} (hu : Upd1 w w' c j v) (h : ¬ (c' = c ∧ j' = j)) : rd w' c' j' = rd w c' j' := by rw [hu, if_neg h]
theorem zqupd_eq {w w' : va_W} {c j : Nat} {v : Value} (hu : Upd1 w w' c j v) : rd w' c j = some v := by rw [hu, if_pos ⟨rfl, rfl⟩]
theorem zqmi_320_0 : mI 320 0 = (1, 0, 0, 0, 0) := rfl
theorem zqmi_320_1 : mI 320 1 = (6, 0, 4, 1, 0) := rfl
theorem zqmi_320_3 : mI 320 3 = (3, 0, 4, 1, 0) := rfl
theorem zqmi_320_5 : mI 320 5 = (3, 0, 1, 0, 0) := rfl
theorem zqmi_320_6 : mI 320 6 = (15, 122, 4, 128, 0) := rfl
theorem zqmi_320_9 : mI 320 9 = (1, 0, 0, 0, 0) := rfl
theorem zqmi_320_10 : mI 320 10 = (6, 0, 5, 1, 0) := rfl
theorem zqmi_320_12 : mI 320 12 = (3, 0, 5, 1, 0) := rfl
theorem zqmi_320_14 : mI 320 14 = (3, 0, 2, 0, 0) := rfl
theorem zqmi_320_15 : mI 320 15 = (15, 107, 4, 122, 0) := rfl
theorem zqmi_320_18 : mI 320 18 = (3, 0, 4, 1, 0) := rfl
theorem zqmi_320_20 : mI 320 20 = (14, 12, 1, 32, 0) := rfl
theorem zqmi_320_23 : mI 320 23 = (3, 0, 5, 1, 0) := rfl
theorem zqmi_320_25 : mI 320 25 = (14, 7, 1, 32, 0) := rfl
theorem zqmi_320_28 : mI 320 28 = (1, 1, 0, 0, 0) := rfl
theorem zqmi_320_29 : mI 320 29 = (16, 4, 0, 33, 0) := rfl
theorem zqmi_320_32 : mI 320 32 = (1, 0, 0, 0, 0) := rfl
theorem zqmi_320_33 : mI 320 33 = (6, 0, 6, 1, 0) := rfl
theorem zqmi_320_35 : mI 320 35 = (3, 0, 4, 1, 0) := rfl
theorem zqmi_320_37 : mI 320 37 = (14, 23, 5, 60, 0) := rfl
theorem zqmi_320_40 : mI 320 40 = (3, 0, 6, 1, 0) := rfl
theorem zqmi_320_42 : mI 320 42 = (5, 0, 0, 0, 0) := rfl
theorem zqmi_320_43 : mI 320 43 = (17, 1237, 64, 11, 31) := rfl
theorem zqmi_320_46 : mI 320 46 = (1, 7, 1, 0, 0) := rfl
theorem zqmi_320_48 : mI 320 48 = (3, 0, 4, 1, 0) := rfl
theorem zqmi_320_50 : mI 320 50 = (1, 1, 0, 0, 0) := rfl
theorem zqmi_320_51 : mI 320 51 = (10, 0, 1, 0, 0) := rfl
theorem zqmi_320_52 : mI 320 52 = (10, 0, 2, 0, 0) := rfl
theorem zqmi_320_53 : mI 320 53 = (3, 0, 5, 1, 0) := rfl
theorem zqmi_320_55 : mI 320 55 = (10, 0, 0, 0, 0) := rfl
theorem zqmi_320_56 : mI 320 56 = (19, 0, 0, 0, 0) := rfl
theorem zqmi_320_57 : mI 320 57 = (10, 0, 0, 0, 0) := rfl
theorem zqmi_320_58 : mI 320 58 = (6, 0, 6, 1, 0) := rfl
theorem zqmi_320_60 : mI 320 60 = (3, 0, 5, 1, 0) := rfl
theorem zqmi_320_62 : mI 320 62 = (14, 23, 5, 85, 0) := rfl
theorem zqmi_320_65 : mI 320 65 = (3, 0, 6, 1, 0) := rfl
theorem zqmi_320_67 : mI 320 67 = (5, 0, 0, 0, 0) := rfl
theorem zqmi_320_68 : mI 320 68 = (17, 1237, 64, 11, 31) := rfl
theorem zqmi_320_71 : mI 320 71 = (1, 7, 1, 0, 0) := rfl
theorem zqmi_320_73 : mI 320 73 = (3, 0, 4, 1, 0) := rfl
theorem zqmi_320_75 : mI 320 75 = (10, 0, 2, 0, 0) := rfl
theorem zqmi_320_76 : mI 320 76 = (3, 0, 5, 1, 0) := rfl
theorem zqmi_320_78 : mI 320 78 = (10, 0, 0, 0, 0) := rfl
theorem zqmi_320_79 : mI 320 79 = (1, 1, 0, 0, 0) := rfl
theorem zqmi_320_80 : mI 320 80 = (10, 0, 1, 0, 0) := rfl
theorem zqmi_320_81 : mI 320 81 = (19, 0, 0, 0, 0) := rfl
theorem zqmi_320_82 : mI 320 82 = (10, 0, 0, 0, 0) := rfl
theorem zqmi_320_83 : mI 320 83 = (6, 0, 6, 1, 0) := rfl
theorem zqmi_320_85 : mI 320 85 = (5, 0, 0, 0, 0) := rfl
theorem zqmi_320_86 : mI 320 86 = (17, 1237, 64, 11, 31) := rfl
theorem zqmi_320_89 : mI 320 89 = (1, 7, 1, 0, 0) := rfl
theorem zqmi_320_91 : mI 320 91 = (3, 0, 4, 1, 0) := rfl
theorem zqmi_320_93 : mI 320 93 = (10, 0, 2, 0, 0) := rfl
theorem zqmi_320_94 : mI 320 94 = (3, 0, 5, 1, 0) := rfl
theorem zqmi_320_96 : mI 320 96 = (10, 0, 0, 0, 0) := rfl
theorem zqmi_320_97 : mI 320 97 = (3, 0, 4, 1, 0) := rfl
theorem zqmi_320_99 : mI 320 99 = (3, 0, 5, 1, 0) := rfl
theorem zqmi_320_101 : mI 320 101 = (10, 0, 1, 0, 0) := rfl
theorem zqmi_320_102 : mI 320 102 = (26, 1864, 433, 343, 1) := rfl
theorem zqmi_320_105 : mI 320 105 = (3, 0, 3, 0, 0) := rfl
theorem zqmi_320_106 : mI 320 106 = (15, 8, 4, 114, 0) := rfl
theorem zqmi_320_109 : mI 320 109 = (3, 0, 6, 1, 0) := rfl
theorem zqmi_320_111 : mI 320 111 = (16, 4, 0, 115, 0) := rfl
theorem zqmi_320_114 : mI 320 114 = (1, 0, 0, 0, 0) := rfl
theorem zqmi_320_115 : mI 320 115 = (20, 0, 0, 0, 0) := rfl
theorem zqmi_320_116 : mI 320 116 = (9, 1, 5, 0, 0) := rfl
theorem zqmi_320_119 : mI 320 119 = (16, (-107), 0, 12, 0) := rfl
theorem zqmi_320_122 : mI 320 122 = (9, 1, 4, 0, 0) := rfl
theorem zqmi_320_125 : mI 320 125 = (16, (-122), 0, 3, 0) := rfl
theorem zqmi_320_128 : mI 320 128 = (5, 0, 0, 0, 0) := rfl
theorem zqmi_320_129 : mI 320 129 = (17, 1237, 64, 11, 31) := rfl
theorem zqmi_320_132 : mI 320 132 = (1, 7, 1, 0, 0) := rfl
theorem zqmi_320_134 : mI 320 134 = (3, 0, 1, 0, 0) := rfl
theorem zqmi_320_135 : mI 320 135 = (10, 0, 2, 0, 0) := rfl
theorem zqmi_320_136 : mI 320 136 = (3, 0, 2, 0, 0) := rfl
theorem zqmi_320_137 : mI 320 137 = (10, 0, 0, 0, 0) := rfl
theorem zqmi_320_138 : mI 320 138 = (19, 0, 0, 0, 0) := rfl
theorem zqmi_320_139 : mI 320 139 = (27, 0, 0, 0, 0) := rfl
theorem zqmi_343_0 : mI 343 0 = (3, 0, 0, 0, 0) := rfl
theorem zqmi_343_1 : mI 343 1 = (14, 8, 3, 9, 0) := rfl
theorem zqmi_343_4 : mI 343 4 = (3, 0, 0, 0, 0) := rfl
theorem zqmi_343_5 : mI 343 5 = (12, 0, 0, 0, 0) := rfl
theorem zqmi_343_6 : mI 343 6 = (16, 4, 0, 10, 0) := rfl
theorem zqmi_343_9 : mI 343 9 = (3, 0, 0, 0, 0) := rfl
theorem zqmi_343_10 : mI 343 10 = (27, 0, 0, 0, 0) := rfl
theorem zqib0 {a b : Int} : ibF 0 (Int32.ofInt a) (Int32.ofInt b) = Int32.ofInt (a + b) := by show Int32.ofInt a + Int32.ofInt b = _; rw [← Int32.ofInt_add]
theorem zqib1 {a b : Int} : ibF 1 (Int32.ofInt a) (Int32.ofInt b) = Int32.ofInt (a - b) := by show Int32.ofInt a - Int32.ofInt b = _; rw [← Int32.ofInt_sub]
theorem zqib2 {a b : Int} : ibF 2 (Int32.ofInt a) (Int32.ofInt b) = Int32.ofInt (a * b) := by show Int32.ofInt a * Int32.ofInt b = _; rw [← Int32.ofInt_mul]
theorem zqia2 {a b : Int} : Int32.ofInt a + Int32.ofInt b = Int32.ofInt (a + b) := by rw [← Int32.ofInt_add]
noncomputable abbrev zqI32 (v : Int) : Prop := -2147483648 ≤ v ∧ v ≤ 2147483647
theorem zqV_zne {u : Int} (hi : mI k pc = (14, a, 1, y, z)) (b : zqI32 u) (kt : u ≠ 0 → V l D tys A k d 0 0 post 0 0 y lv st ws) (kf : u = 0 → V l D tys A k d 0 0 post 0 0 (pc + 3) lv st ws) : V l D tys A k d 0 0 post 0 0 pc lv (.int (Int32.ofInt u) :: st) ws := by
  have h : cdP 1 (Int32.ofInt u) 0 ↔ cdZ 1 (u - 0) := cdP_iff (b := 0) b.1 b.2 (by omega) (by omega)
  exact V_if hi (fun q => kt (by have : u - 0 ≠ 0 := h.mp q; omega)) (fun q => kf (by by_cases e : u = 0; exact e; exact absurd (h.mpr (show u - 0 ≠ 0 by omega)) q))
theorem zqV_zle {u : Int} (hi : mI k pc = (14, a, 5, y, z)) (b : zqI32 u) (kt : u ≤ 0 → V l D tys A k d 0 0 post 0 0 y lv st ws) (kf : 0 < u → V l D tys A k d 0 0 post 0 0 (pc + 3) lv st ws) : V l D tys A k d 0 0 post 0 0 pc lv (.int (Int32.ofInt u) :: st) ws := by
  have h : cdP 5 (Int32.ofInt u) 0 ↔ cdZ 5 (u - 0) := cdP_iff (b := 0) b.1 b.2 (by omega) (by omega)
  exact V_if hi (fun q => kt (by have : u - 0 ≤ 0 := h.mp q; omega)) (fun q => kf (by by_cases e : 0 < u; exact e; exact absurd (h.mpr (show u - 0 ≤ 0 by omega)) q))
theorem zqV_cgt {u v : Int} (hi : mI k pc = (15, a, 4, y, z)) (b : zqI32 u) (c : zqI32 v) (kt : v < u → V l D tys A k d 0 0 post 0 0 y lv st ws) (kf : u ≤ v → V l D tys A k d 0 0 post 0 0 (pc + 3) lv st ws) : V l D tys A k d 0 0 post 0 0 pc lv (.int (Int32.ofInt v) :: .int (Int32.ofInt u) :: st) ws := by
  have h : cdP 4 (Int32.ofInt u) (Int32.ofInt v) ↔ cdZ 4 (u - v) := cdP_iff b.1 b.2 c.1 c.2
  exact V_icmp hi (fun q => kt (by have : 0 < u - v := h.mp q; omega)) (fun q => kf (by by_cases e : u ≤ v; exact e; exact absurd (h.mpr (show 0 < u - v by omega)) q))
noncomputable def zqgA (c n : Nat) (lo hi : Int) : Prop := ∃ s, GG[c]? = some ((1, 0, n), s) ∧ ∀ j, j < n → segAt s j = some (0, lo, hi)
theorem zqgA_of {c n : Nat} {lo hi : Int} (h : GG[c]? = some ((1, 0, n), [(n, 0, lo, hi)])) : zqgA c n lo hi := by
  refine ⟨_, h, fun j hj => ?_⟩
  show (bif Nat.blt j n then some _ else _) = _
  rw [show Nat.blt j n = true from Nat.blt_eq.mpr hj]
  rfl
theorem zqi32b (v : Int32) : -2147483648 ≤ v.toInt ∧ v.toInt ≤ 2147483647 := by
  have h1 := Int32.le_toInt v
  have h2 := Int32.toInt_lt v
  omega
end ZQA
section ZQB
variable {l : Launch} {D : va_G} {tys : List (ClassId × FieldType)} {A : Nat → Prop} {ad : Nat → Nat} {ws : va_W}
theorem zqgr31 : ∃ g, GG[90]? = some ((0, 11, 36), g) ∧ segAt g 31 = some (2, ((106 : Nat) : Int), ((106 : Nat) : Int)) := ⟨_, rfl, by decide +kernel⟩
theorem zqa106 : zqgA 106 49 (-2147483648) 2147483647 := zqgA_of rfl
theorem zqV_zge {k pc d y z : Nat} {a : Int} {post : Option Value → va_W → Prop} {lv : List (Nat × Value)} {st : List Value} {u : Int} (hi : mI k pc = (14, a, 3, y, z)) (b : zqI32 u) (kt : 0 ≤ u → V l D tys A k d 0 0 post 0 0 y lv st ws) (kf : u < 0 → V l D tys A k d 0 0 post 0 0 (pc + 3) lv st ws) : V l D tys A k d 0 0 post 0 0 pc lv (.int (Int32.ofInt u) :: st) ws := by
  have h : cdP 3 (Int32.ofInt u) 0 ↔ cdZ 3 (u - 0) := cdP_iff (b := 0) b.1 b.2 (by omega) (by omega)
  exact V_if hi (fun q => kt (by have : 0 ≤ u - 0 := h.mp q; omega)) (fun q => kf (by by_cases e : u < 0; exact e; exact absurd (h.mpr (show 0 ≤ u - 0 by omega)) q))
noncomputable def zqabI (x : Int) : Int := if 0 ≤ x then x else -x
noncomputable def zqlvR (n : Int) (pv : Nat → Int) (i : Nat) : Nat → Int
  | 0 => if zqabI ((i : Int) - ((0 : Nat) : Int)) ≤ n then (if i = 0 then 1 else pv 0) else 0
  | k + 1 => if zqabI ((i : Int) - ((k + 1 : Nat) : Int)) ≤ n then pv (k + 1) + zqlvR n pv i k else 0
noncomputable def zqlvF (n : Int) : Nat → Nat → Int
  | 0 => zqlvR n (fun _ => 0) 0
  | i + 1 => zqlvR n (zqlvF n i) (i + 1)
noncomputable def zqlvP (n : Int) : Nat → Nat → Int
  | 0 => fun _ => 0
  | i + 1 => zqlvF n i
noncomputable def zqlvS (n : Int) (i k : Nat) : Int := if k = 0 then (if i = 0 then 1 else zqlvP n i 0) else zqlvP n i k + zqlvF n i (k - 1)
theorem zqlvF_S {n : Int} {i : Nat} : ∀ k : Nat, zqlvF n i k = if zqabI ((i : Int) - (k : Int)) ≤ n then zqlvS n i k else 0 := by
  cases i with
  | zero => intro k; cases k <;> rfl
  | succ i => intro k; cases k <;> rfl
noncomputable def zqO106 (w0 w : va_W) : Prop := ∀ c j, c ≠ 106 → rd w c j = rd w0 c j
noncomputable def zqLMW (n : Int) (b i k : Nat) (w : va_W) : Prop := ∀ p q : Nat, q ≤ b → (p < i ∨ (p = i ∧ q < k)) → rd w 106 (7 * p + q) = some (.int (Int32.ofInt (zqlvF n p q)))
theorem zqLMW_n {n : Int} {b i : Nat} {w : va_W} (h : zqLMW n b i (b + 1) w) : zqLMW n b (i + 1) 0 w := fun p q hq e => h p q hq (by omega)
theorem zqabs_ct {x : Int} (h : zqI32 x) : CT l D tys A 343 0 0 0 [.int (Int32.ofInt (x))] ws (fun r w => w = ws ∧ r = some (.int (Int32.ofInt (zqabI x)))) := by
  refine CT_of_V (by omega) (show (1 : Nat) ≤ mML 343 by decide +kernel) ?_
  refine V_iload (v := Int32.ofInt (x)) zqmi_343_0 (by simp [stL, lv_args, Value.category]) ?_
  refine zqV_zge zqmi_343_1 h (fun q => ?_) (fun q => ?_)
  · refine V_iload (v := Int32.ofInt (x)) zqmi_343_9 (by simp [stL, lv_args, Value.category]) ?_
    exact V_retI zqmi_343_10 (fun h => absurd h (by decide +kernel)) ⟨rfl, by unfold zqabI; rw [if_pos (by omega)]⟩
  · refine V_iload (v := Int32.ofInt (x)) zqmi_343_4 (by simp [stL, lv_args, Value.category]) ?_
    refine V_ineg zqmi_343_5 ?_
    rw [show -(Int32.ofInt x) = Int32.ofInt (-x) from (Int32.ofInt_neg x).symm]
    refine V_goto zqmi_343_6 ?_
    exact V_retI zqmi_343_10 (fun h => absurd h (by decide +kernel)) ⟨rfl, by unfold zqabI; rw [if_neg (by omega)]⟩
theorem zqtlm_85 {a b i : Nat} {n : Int} (ha : a ≤ 6) (hb : b ≤ 6) (n0 : 0 ≤ n) (n6 : n ≤ 6) {k : Nat} (hi : i ≤ a) (hk : k ≤ b) {w0 : va_W} {post : Option Value → va_W → Prop} (hG : GOK ad tys GG ws) (hO : zqO106 w0 ws) (hR : zqLMW n b i k ws) (kk : ∀ w : va_W, GOK ad tys GG w → zqO106 w0 w → zqLMW n b i (k + 1) w → V l D tys A 320 1 0 0 post 0 0 12 [(0, .ref (ad 90)), (1, .int (Int32.ofInt ((a : Int)))), (2, .int (Int32.ofInt ((b : Int)))), (3, .int (Int32.ofInt (n))), (4, .int (Int32.ofInt ((i : Int)))), (5, .int (Int32.ofInt (((k + 1 : Nat) : Int))))] [] w) : V l D tys A 320 1 0 0 post 0 0 85 [(0, .ref (ad 90)), (1, .int (Int32.ofInt ((a : Int)))), (2, .int (Int32.ofInt ((b : Int)))), (3, .int (Int32.ofInt (n))), (4, .int (Int32.ofInt ((i : Int)))), (5, .int (Int32.ofInt ((k : Int)))), (6, .int (Int32.ofInt (zqlvS n i k)))] [] ws := by
  obtain ⟨s106, e106, f106⟩ := zqa106
  refine V_aload (v := ad 90) zqmi_320_85 (by simp [stL, lv_args, Value.category]) ?_
  refine zqV_getI zqmi_320_86 hG (zqrref zqgr31 (by omega) hG) ?_
  refine V_ipush zqmi_320_89 ?_
  refine V_iload (v := Int32.ofInt ((i : Int))) zqmi_320_91 (by simp [stL, lv_args, Value.category]) ?_
  refine V_ibin zqmi_320_93 (by omega) ?_
  rw [zqib2]
  refine V_iload (v := Int32.ofInt ((k : Int))) zqmi_320_94 (by simp [stL, lv_args, Value.category]) ?_
  refine V_ibin zqmi_320_96 (by omega) ?_
  rw [zqib0]
  refine V_iload (v := Int32.ofInt ((i : Int))) zqmi_320_97 (by simp [stL, lv_args, Value.category]) ?_
  refine V_iload (v := Int32.ofInt ((k : Int))) zqmi_320_99 (by simp [stL, lv_args, Value.category]) ?_
  refine V_ibin zqmi_320_101 (by omega) ?_
  rw [zqib1]
  refine V_stat (As := [.int (Int32.ofInt (((i : Int)) - ((k : Int))))]) (st := [.int (Int32.ofInt (((7) * ((i : Int))) + ((k : Int)))), .ref (ad 106)]) zqmi_320_102 (by omega) (zqabs_ct (x := (i : Int) - (k : Int)) ⟨by omega, by omega⟩) (by omega) (show 1 = mN 343 by decide +kernel) (by simp [Value.category]) ⟨Nat.le_refl _, Nat.le_refl _⟩ ?_
  rintro r w1 ⟨e1, rfl⟩
  rw [e1]
  have ab : 0 ≤ zqabI ((i : Int) - (k : Int)) ∧ zqabI ((i : Int) - (k : Int)) ≤ 6 := by unfold zqabI; split <;> omega
  have es := zqlvF_S (n := n) (i := i) k
  refine V_iload (v := Int32.ofInt (n)) zqmi_320_105 (by simp [stL, lv_args, Value.category]) ?_
  refine zqV_cgt zqmi_320_106 ⟨by omega, by omega⟩ ⟨by omega, by omega⟩ (fun q => ?_) (fun q => ?_)
  · rw [if_neg (by omega)] at es
    refine V_ipush zqmi_320_114 ?_
    rw [← es]
    refine zqV_astX (j := 7 * i + k) zqmi_320_115 (by rw [show 7 * (i : Int) + (k : Int) = ((7 * i + k : Nat) : Int) by omega]) hG e106 (by omega) (by omega) (f106 _ (by omega)) (zqi32b _).1 (zqi32b _).2 (fun w3 G3 U3 => ?_)
    refine V_iinc (v := Int32.ofInt ((k : Int))) zqmi_320_116 (by simp [stL, lv_args, Value.category]) ?_
    rw [zqia2]
    refine V_goto zqmi_320_119 ?_
    refine V_sub (lv' := [(0, .ref (ad 90)), (1, .int (Int32.ofInt ((a : Int)))), (2, .int (Int32.ofInt ((b : Int)))), (3, .int (Int32.ofInt (n))), (4, .int (Int32.ofInt ((i : Int)))), (5, .int (Int32.ofInt (((k + 1 : Nat) : Int))))]) (fun q hq => ?_) ?_
    · simp only [List.mem_cons, List.not_mem_nil, or_false] at hq
      rcases hq with rfl | rfl | rfl | rfl | rfl | rfl <;> simp [stL, lv_args, Value.category]
    refine kk w3 G3 (fun c j hc => (zqupd_ne U3 (by omega)).trans (hO c j hc)) (fun p q hq h => ?_)
    by_cases e : p = i ∧ q = k
    · rw [e.1, e.2]
      exact zqupd_eq U3
    · exact (zqupd_ne U3 (by omega)).trans (hR p q hq (by omega))
  · rw [if_pos (by omega)] at es
    refine V_iload (v := Int32.ofInt (zqlvS n i k)) zqmi_320_109 (by simp [stL, lv_args, Value.category]) ?_
    refine V_goto zqmi_320_111 ?_
    rw [← es]
    refine zqV_astX (j := 7 * i + k) zqmi_320_115 (by rw [show 7 * (i : Int) + (k : Int) = ((7 * i + k : Nat) : Int) by omega]) hG e106 (by omega) (by omega) (f106 _ (by omega)) (zqi32b _).1 (zqi32b _).2 (fun w3 G3 U3 => ?_)
    refine V_iinc (v := Int32.ofInt ((k : Int))) zqmi_320_116 (by simp [stL, lv_args, Value.category]) ?_
    rw [zqia2]
    refine V_goto zqmi_320_119 ?_
    refine V_sub (lv' := [(0, .ref (ad 90)), (1, .int (Int32.ofInt ((a : Int)))), (2, .int (Int32.ofInt ((b : Int)))), (3, .int (Int32.ofInt (n))), (4, .int (Int32.ofInt ((i : Int)))), (5, .int (Int32.ofInt (((k + 1 : Nat) : Int))))]) (fun q hq => ?_) ?_
    · simp only [List.mem_cons, List.not_mem_nil, or_false] at hq
      rcases hq with rfl | rfl | rfl | rfl | rfl | rfl <;> simp [stL, lv_args, Value.category]
    refine kk w3 G3 (fun c j hc => (zqupd_ne U3 (by omega)).trans (hO c j hc)) (fun p q hq h => ?_)
    by_cases e : p = i ∧ q = k
    · rw [e.1, e.2]
      exact zqupd_eq U3
    · exact (zqupd_ne U3 (by omega)).trans (hR p q hq (by omega))
theorem zqtlm_12 {a b i : Nat} {n : Int} (ha : a ≤ 6) (hb : b ≤ 6) (n0 : 0 ≤ n) (n6 : n ≤ 6) (hi : i ≤ a) {w0 : va_W} {post : Option Value → va_W → Prop} : ∀ (m k : Nat) (ws : va_W), k + m = b + 1 → GOK ad tys GG ws → zqO106 w0 ws → zqLMW n b i k ws → (∀ w : va_W, GOK ad tys GG w → zqO106 w0 w → zqLMW n b (i + 1) 0 w → V l D tys A 320 1 0 0 post 0 0 3 [(0, .ref (ad 90)), (1, .int (Int32.ofInt ((a : Int)))), (2, .int (Int32.ofInt ((b : Int)))), (3, .int (Int32.ofInt (n))), (4, .int (Int32.ofInt (((i + 1 : Nat) : Int))))] [] w) → V l D tys A 320 1 0 0 post 0 0 12 [(0, .ref (ad 90)), (1, .int (Int32.ofInt ((a : Int)))), (2, .int (Int32.ofInt ((b : Int)))), (3, .int (Int32.ofInt (n))), (4, .int (Int32.ofInt ((i : Int)))), (5, .int (Int32.ofInt ((k : Int))))] [] ws
  | 0, k, ws, hm, hG, hO, hR, kk => by
    refine V_iload (v := Int32.ofInt ((k : Int))) zqmi_320_12 (by simp [stL, lv_args, Value.category]) ?_
    refine V_iload (v := Int32.ofInt ((b : Int))) zqmi_320_14 (by simp [stL, lv_args, Value.category]) ?_
    refine zqV_cgt zqmi_320_15 ⟨by omega, by omega⟩ ⟨by omega, by omega⟩ (fun q => ?_) (fun q => ?_)
    · have e : k = b + 1 := by omega
      rw [e] at hR
      refine V_iinc (v := Int32.ofInt ((i : Int))) zqmi_320_122 (by simp [stL, lv_args, Value.category]) ?_
      rw [zqia2]
      rw [show (i : Int) + (1) = ((i + 1 : Nat) : Int) by omega]
      refine V_goto zqmi_320_125 ?_
      refine V_sub (lv' := [(0, .ref (ad 90)), (1, .int (Int32.ofInt ((a : Int)))), (2, .int (Int32.ofInt ((b : Int)))), (3, .int (Int32.ofInt (n))), (4, .int (Int32.ofInt (((i + 1 : Nat) : Int))))]) (fun q hq => ?_) ?_
      · simp only [List.mem_cons, List.not_mem_nil, or_false] at hq
        rcases hq with rfl | rfl | rfl | rfl | rfl <;> simp [stL, lv_args, Value.category]
      exact kk ws hG hO (zqLMW_n hR)
    · exact absurd q (by omega)
  | m + 1, k, ws, hm, hG, hO, hR, kk => by
    obtain ⟨s106, e106, f106⟩ := zqa106
    refine V_iload (v := Int32.ofInt ((k : Int))) zqmi_320_12 (by simp [stL, lv_args, Value.category]) ?_
    refine V_iload (v := Int32.ofInt ((b : Int))) zqmi_320_14 (by simp [stL, lv_args, Value.category]) ?_
    refine zqV_cgt zqmi_320_15 ⟨by omega, by omega⟩ ⟨by omega, by omega⟩ (fun q => ?_) (fun q => ?_)
    · exact absurd q (by omega)
    · refine V_iload (v := Int32.ofInt ((i : Int))) zqmi_320_18 (by simp [stL, lv_args, Value.category]) ?_
      refine zqV_zne zqmi_320_20 ⟨by omega, by omega⟩ (fun q2 => ?_) (fun q2 => ?_)
      · refine V_ipush zqmi_320_32 ?_
        refine V_istore zqmi_320_33 ?_
        refine V_iload (v := Int32.ofInt ((i : Int))) zqmi_320_35 (by simp [stL, lv_args, Value.category]) ?_
        refine zqV_zle zqmi_320_37 ⟨by omega, by omega⟩ (fun q3 => ?_) (fun q3 => ?_)
        · exact absurd q3 (by omega)
        · refine V_iload (v := Int32.ofInt (0)) zqmi_320_40 (by simp [stL, lv_args, Value.category]) ?_
          refine V_aload (v := ad 90) zqmi_320_42 (by simp [stL, lv_args, Value.category]) ?_
          refine zqV_getI zqmi_320_43 hG (zqrref zqgr31 (by omega) hG) ?_
          refine V_ipush zqmi_320_46 ?_
          refine V_iload (v := Int32.ofInt ((i : Int))) zqmi_320_48 (by simp [stL, lv_args, Value.category]) ?_
          refine V_ipush zqmi_320_50 ?_
          refine V_ibin zqmi_320_51 (by omega) ?_
          rw [zqib1]
          refine V_ibin zqmi_320_52 (by omega) ?_
          rw [zqib2]
          refine V_iload (v := Int32.ofInt ((k : Int))) zqmi_320_53 (by simp [stL, lv_args, Value.category]) ?_
          refine V_ibin zqmi_320_55 (by omega) ?_
          rw [zqib0]
          have hu : rd ws 106 (7 * (i - 1) + k) = some (.int (Int32.ofInt (zqlvP n i k))) := by
            obtain ⟨j, rfl⟩ : ∃ j, i = j + 1 := ⟨i - 1, by omega⟩
            exact hR j k (by omega) (Or.inl (by omega))
          refine zqV_aldX (j := 7 * (i - 1) + k) zqmi_320_56 (by rw [show ((7) * (((i : Int)) - (1))) + ((k : Int)) = ((7 * (i - 1) + k : Nat) : Int) by omega]) hG e106 (by omega) (by omega) (hu) ?_
          refine V_ibin zqmi_320_57 (by omega) ?_
          rw [zqib0]
          refine V_istore zqmi_320_58 ?_
          refine V_iload (v := Int32.ofInt ((k : Int))) zqmi_320_60 (by simp [stL, lv_args, Value.category]) ?_
          refine zqV_zle zqmi_320_62 ⟨by omega, by omega⟩ (fun q4 => ?_) (fun q4 => ?_)
          · rw [show (0) + (zqlvP n i k) = zqlvS n i k from by unfold zqlvS; rw [if_pos (by omega), if_neg (by omega), show k = 0 by omega]; omega]
            refine V_sub (lv' := [(0, .ref (ad 90)), (1, .int (Int32.ofInt ((a : Int)))), (2, .int (Int32.ofInt ((b : Int)))), (3, .int (Int32.ofInt (n))), (4, .int (Int32.ofInt ((i : Int)))), (5, .int (Int32.ofInt ((k : Int)))), (6, .int (Int32.ofInt (zqlvS n i k)))]) (fun q hq => ?_) ?_
            · simp only [List.mem_cons, List.not_mem_nil, or_false] at hq
              rcases hq with rfl | rfl | rfl | rfl | rfl | rfl | rfl <;> simp [stL, lv_args, Value.category]
            exact zqtlm_85 ha hb n0 n6 hi (by omega) hG hO hR (fun w g o r => zqtlm_12 ha hb n0 n6 hi m (k + 1) w (by omega) g o r kk)
          · refine V_iload (v := Int32.ofInt ((0) + (zqlvP n i k))) zqmi_320_65 (by simp [stL, lv_args, Value.category]) ?_
            refine V_aload (v := ad 90) zqmi_320_67 (by simp [stL, lv_args, Value.category]) ?_
            refine zqV_getI zqmi_320_68 hG (zqrref zqgr31 (by omega) hG) ?_
            refine V_ipush zqmi_320_71 ?_
            refine V_iload (v := Int32.ofInt ((i : Int))) zqmi_320_73 (by simp [stL, lv_args, Value.category]) ?_
            refine V_ibin zqmi_320_75 (by omega) ?_
            rw [zqib2]
            refine V_iload (v := Int32.ofInt ((k : Int))) zqmi_320_76 (by simp [stL, lv_args, Value.category]) ?_
            refine V_ibin zqmi_320_78 (by omega) ?_
            rw [zqib0]
            refine V_ipush zqmi_320_79 ?_
            refine V_ibin zqmi_320_80 (by omega) ?_
            rw [zqib1]
            have hl := hR i (k - 1) (by omega) (Or.inr ⟨rfl, by omega⟩)
            refine zqV_aldX (j := 7 * i + (k - 1)) zqmi_320_81 (by rw [show (((7) * ((i : Int))) + ((k : Int))) - (1) = ((7 * i + (k - 1) : Nat) : Int) by omega]) hG e106 (by omega) (by omega) (hl) ?_
            refine V_ibin zqmi_320_82 (by omega) ?_
            rw [zqib0]
            refine V_istore zqmi_320_83 ?_
            rw [show ((0) + (zqlvP n i k)) + (zqlvF n i (k - 1)) = zqlvS n i k from by unfold zqlvS; rw [if_neg (by omega)]; omega]
            refine V_sub (lv' := [(0, .ref (ad 90)), (1, .int (Int32.ofInt ((a : Int)))), (2, .int (Int32.ofInt ((b : Int)))), (3, .int (Int32.ofInt (n))), (4, .int (Int32.ofInt ((i : Int)))), (5, .int (Int32.ofInt ((k : Int)))), (6, .int (Int32.ofInt (zqlvS n i k)))]) (fun q hq => ?_) ?_
            · simp only [List.mem_cons, List.not_mem_nil, or_false] at hq
              rcases hq with rfl | rfl | rfl | rfl | rfl | rfl | rfl <;> simp [stL, lv_args, Value.category]
            exact zqtlm_85 ha hb n0 n6 hi (by omega) hG hO hR (fun w g o r => zqtlm_12 ha hb n0 n6 hi m (k + 1) w (by omega) g o r kk)
      · refine V_iload (v := Int32.ofInt ((k : Int))) zqmi_320_23 (by simp [stL, lv_args, Value.category]) ?_
        refine zqV_zne zqmi_320_25 ⟨by omega, by omega⟩ (fun q5 => ?_) (fun q5 => ?_)
        · refine V_ipush zqmi_320_32 ?_
          refine V_istore zqmi_320_33 ?_
          refine V_iload (v := Int32.ofInt ((i : Int))) zqmi_320_35 (by simp [stL, lv_args, Value.category]) ?_
          refine zqV_zle zqmi_320_37 ⟨by omega, by omega⟩ (fun q3 => ?_) (fun q3 => ?_)
          · refine V_iload (v := Int32.ofInt ((k : Int))) zqmi_320_60 (by simp [stL, lv_args, Value.category]) ?_
            refine zqV_zle zqmi_320_62 ⟨by omega, by omega⟩ (fun q4 => ?_) (fun q4 => ?_)
            · exact absurd q4 (by omega)
            · refine V_iload (v := Int32.ofInt (0)) zqmi_320_65 (by simp [stL, lv_args, Value.category]) ?_
              refine V_aload (v := ad 90) zqmi_320_67 (by simp [stL, lv_args, Value.category]) ?_
              refine zqV_getI zqmi_320_68 hG (zqrref zqgr31 (by omega) hG) ?_
              refine V_ipush zqmi_320_71 ?_
              refine V_iload (v := Int32.ofInt ((i : Int))) zqmi_320_73 (by simp [stL, lv_args, Value.category]) ?_
              refine V_ibin zqmi_320_75 (by omega) ?_
              rw [zqib2]
              refine V_iload (v := Int32.ofInt ((k : Int))) zqmi_320_76 (by simp [stL, lv_args, Value.category]) ?_
              refine V_ibin zqmi_320_78 (by omega) ?_
              rw [zqib0]
              refine V_ipush zqmi_320_79 ?_
              refine V_ibin zqmi_320_80 (by omega) ?_
              rw [zqib1]
              have hl := hR i (k - 1) (by omega) (Or.inr ⟨rfl, by omega⟩)
              refine zqV_aldX (j := 7 * i + (k - 1)) zqmi_320_81 (by rw [show (((7) * ((i : Int))) + ((k : Int))) - (1) = ((7 * i + (k - 1) : Nat) : Int) by omega]) hG e106 (by omega) (by omega) (hl) ?_
              refine V_ibin zqmi_320_82 (by omega) ?_
              rw [zqib0]
              refine V_istore zqmi_320_83 ?_
              rw [show (0) + (zqlvF n i (k - 1)) = zqlvS n i k from by unfold zqlvS; rw [if_neg (by omega), show zqlvP n i k = 0 by rw [show i = 0 by omega]; rfl]]
              refine V_sub (lv' := [(0, .ref (ad 90)), (1, .int (Int32.ofInt ((a : Int)))), (2, .int (Int32.ofInt ((b : Int)))), (3, .int (Int32.ofInt (n))), (4, .int (Int32.ofInt ((i : Int)))), (5, .int (Int32.ofInt ((k : Int)))), (6, .int (Int32.ofInt (zqlvS n i k)))]) (fun q hq => ?_) ?_
              · simp only [List.mem_cons, List.not_mem_nil, or_false] at hq
                rcases hq with rfl | rfl | rfl | rfl | rfl | rfl | rfl <;> simp [stL, lv_args, Value.category]
              exact zqtlm_85 ha hb n0 n6 hi (by omega) hG hO hR (fun w g o r => zqtlm_12 ha hb n0 n6 hi m (k + 1) w (by omega) g o r kk)
          · exact absurd q3 (by omega)
        · refine V_ipush zqmi_320_28 ?_
          refine V_goto zqmi_320_29 ?_
          refine V_istore zqmi_320_33 ?_
          refine V_iload (v := Int32.ofInt ((i : Int))) zqmi_320_35 (by simp [stL, lv_args, Value.category]) ?_
          refine zqV_zle zqmi_320_37 ⟨by omega, by omega⟩ (fun q3 => ?_) (fun q3 => ?_)
          · refine V_iload (v := Int32.ofInt ((k : Int))) zqmi_320_60 (by simp [stL, lv_args, Value.category]) ?_
            refine zqV_zle zqmi_320_62 ⟨by omega, by omega⟩ (fun q4 => ?_) (fun q4 => ?_)
            · rw [show 1 = zqlvS n i k from by unfold zqlvS; rw [if_pos (by omega), if_pos (by omega)]]
              refine V_sub (lv' := [(0, .ref (ad 90)), (1, .int (Int32.ofInt ((a : Int)))), (2, .int (Int32.ofInt ((b : Int)))), (3, .int (Int32.ofInt (n))), (4, .int (Int32.ofInt ((i : Int)))), (5, .int (Int32.ofInt ((k : Int)))), (6, .int (Int32.ofInt (zqlvS n i k)))]) (fun q hq => ?_) ?_
              · simp only [List.mem_cons, List.not_mem_nil, or_false] at hq
                rcases hq with rfl | rfl | rfl | rfl | rfl | rfl | rfl <;> simp [stL, lv_args, Value.category]
              exact zqtlm_85 ha hb n0 n6 hi (by omega) hG hO hR (fun w g o r => zqtlm_12 ha hb n0 n6 hi m (k + 1) w (by omega) g o r kk)
            · exact absurd q4 (by omega)
          · exact absurd q3 (by omega)
theorem zqtlm_3 {a b : Nat} {n : Int} (ha : a ≤ 6) (hb : b ≤ 6) (n0 : 0 ≤ n) (n6 : n ≤ 6) {w0 : va_W} {post : Option Value → va_W → Prop} : ∀ (m i : Nat) (ws : va_W), i + m = a + 1 → GOK ad tys GG ws → zqO106 w0 ws → zqLMW n b i 0 ws → (∀ w : va_W, GOK ad tys GG w → zqO106 w0 w → post (some (.int (Int32.ofInt (zqlvF n a b)))) w) → V l D tys A 320 1 0 0 post 0 0 3 [(0, .ref (ad 90)), (1, .int (Int32.ofInt ((a : Int)))), (2, .int (Int32.ofInt ((b : Int)))), (3, .int (Int32.ofInt (n))), (4, .int (Int32.ofInt ((i : Int))))] [] ws
  | 0, i, ws, hm, hG, hO, hR, kk => by
    obtain ⟨s106, e106, f106⟩ := zqa106
    refine V_iload (v := Int32.ofInt ((i : Int))) zqmi_320_3 (by simp [stL, lv_args, Value.category]) ?_
    refine V_iload (v := Int32.ofInt ((a : Int))) zqmi_320_5 (by simp [stL, lv_args, Value.category]) ?_
    refine zqV_cgt zqmi_320_6 ⟨by omega, by omega⟩ ⟨by omega, by omega⟩ (fun q => ?_) (fun q => ?_)
    · have g := hR a b (Nat.le_refl b) (Or.inl (by omega))
      refine V_aload (v := ad 90) zqmi_320_128 (by simp [stL, lv_args, Value.category]) ?_
      refine zqV_getI zqmi_320_129 hG (zqrref zqgr31 (by omega) hG) ?_
      refine V_ipush zqmi_320_132 ?_
      refine V_iload (v := Int32.ofInt ((a : Int))) zqmi_320_134 (by simp [stL, lv_args, Value.category]) ?_
      refine V_ibin zqmi_320_135 (by omega) ?_
      rw [zqib2]
      refine V_iload (v := Int32.ofInt ((b : Int))) zqmi_320_136 (by simp [stL, lv_args, Value.category]) ?_
      refine V_ibin zqmi_320_137 (by omega) ?_
      rw [zqib0]
      refine zqV_aldX (j := 7 * a + b) zqmi_320_138 (by rw [show ((7) * ((a : Int))) + ((b : Int)) = ((7 * a + b : Nat) : Int) by omega]) hG e106 (by omega) (by omega) (g) ?_
      exact V_retI zqmi_320_139 (fun h => absurd h (by decide +kernel)) (kk _ hG hO)
    · exact absurd q (by omega)
  | m + 1, i, ws, hm, hG, hO, hR, kk => by
    refine V_iload (v := Int32.ofInt ((i : Int))) zqmi_320_3 (by simp [stL, lv_args, Value.category]) ?_
    refine V_iload (v := Int32.ofInt ((a : Int))) zqmi_320_5 (by simp [stL, lv_args, Value.category]) ?_
    refine zqV_cgt zqmi_320_6 ⟨by omega, by omega⟩ ⟨by omega, by omega⟩ (fun q => ?_) (fun q => ?_)
    · exact absurd q (by omega)
    · refine V_ipush zqmi_320_9 ?_
      refine V_istore zqmi_320_10 ?_
      refine V_sub (lv' := [(0, .ref (ad 90)), (1, .int (Int32.ofInt ((a : Int)))), (2, .int (Int32.ofInt ((b : Int)))), (3, .int (Int32.ofInt (n))), (4, .int (Int32.ofInt ((i : Int)))), (5, .int (Int32.ofInt (((0 : Nat) : Int))))]) (fun q hq => ?_) ?_
      · simp only [List.mem_cons, List.not_mem_nil, or_false] at hq
        rcases hq with rfl | rfl | rfl | rfl | rfl | rfl <;> simp [stL, lv_args, Value.category]
      exact zqtlm_12 ha hb n0 n6 (by omega) (b + 1) 0 ws (by omega) hG hO hR (fun w g o r => zqtlm_3 ha hb n0 n6 m (i + 1) w (by omega) g o r kk)
theorem zqtlm_ct {a b : Nat} {n : Int} (ha : a ≤ 6) (hb : b ≤ 6) (n0 : 0 ≤ n) (n6 : n ≤ 6) (hG : GOK ad tys GG ws) : CT l D tys A 320 1 0 0 [.ref (ad 90), .int (Int32.ofInt ((a : Int))), .int (Int32.ofInt ((b : Int))), .int (Int32.ofInt (n))] ws (fun r w => (GOK ad tys GG w ∧ zqO106 ws w) ∧ r = some (.int (Int32.ofInt (zqlvF n a b)))) := by
  refine CT_of_V (by omega) (show (4 : Nat) ≤ mML 320 by decide +kernel) ?_
  refine V_ipush zqmi_320_0 ?_
  refine V_istore zqmi_320_1 ?_
  refine V_sub (lv' := [(0, .ref (ad 90)), (1, .int (Int32.ofInt ((a : Int)))), (2, .int (Int32.ofInt ((b : Int)))), (3, .int (Int32.ofInt (n))), (4, .int (Int32.ofInt (((0 : Nat) : Int))))]) (fun q hq => ?_) ?_
  · simp only [List.mem_cons, List.not_mem_nil, or_false] at hq
    rcases hq with rfl | rfl | rfl | rfl | rfl <;> simp [stL, lv_args, Value.category]
  exact zqtlm_3 ha hb n0 n6 (a + 1) 0 ws (by omega) hG (fun _ _ _ => rfl) (fun p q _ h => absurd h (by omega)) (fun w g o => ⟨⟨g, o⟩, rfl⟩)
theorem zqfour {s1 s2 s3 s4 : SP3} : ∀ {vs : List Value}, okvs ad [s1, s2, s3, s4] vs → ∃ a b c e, vs = [a, b, c, e] ∧ okv ad s1 a ∧ okv ad s2 b ∧ okv ad s3 c ∧ okv ad s4 e
  | [], h => h.elim
  | [a], h => h.2.elim
  | [a, b], h => h.2.2.elim
  | [a, b, c], h => h.2.2.2.elim
  | [a, b, c, e], h => ⟨a, b, c, e, rfl, h.1, h.2.1, h.2.2.1, h.2.2.2.1⟩
  | a :: b :: c :: e :: g :: t, h => h.2.2.2.2.elim
theorem zqlv {b : Nat} {C : Int} (hb : b ≤ 6) (hv : (List.range 7).all (fun a => decide (1 ≤ zqlvF 6 a b) && decide (zqlvF 6 a b ≤ C)) = true) : CRok l D tys A ad GG 2 (320, [(2, 90, 90), (0, 0, 6), (0, (b : Int), (b : Int)), (0, 6, 6)], [], some (0, 1, C), [], [106]) := by
  intro vs ws hvs hG hp
  obtain ⟨v0, v1, v2, v3, rfl, h0, ⟨z1, rfl, p1, p2⟩, ⟨z2, rfl, q1, q2⟩, ⟨z3, rfl, s1, s2⟩⟩ := zqfour hvs
  have h0 : v0 = .ref (ad 90) := h0
  subst h0
  have p1 : 0 ≤ z1 := p1
  have p2 : z1 ≤ 6 := p2
  have q1 : (b : Int) ≤ z2 := q1
  have q2 : z2 ≤ (b : Int) := q2
  have s1 : 6 ≤ z3 := s1
  have s2 : z3 ≤ 6 := s2
  have hv1 : (decide (1 ≤ zqlvF 6 z1.toNat b) && decide (zqlvF 6 z1.toNat b ≤ C)) = true := List.all_eq_true.mp hv z1.toNat (List.mem_range.mpr (by omega))
  rw [Bool.and_eq_true, decide_eq_true_eq, decide_eq_true_eq] at hv1
  have K := zqtlm_ct (l := l) (D := D) (A := A) (a := z1.toNat) (b := b) (n := 6) (by omega) hb (by omega) (by omega) hG
  rw [Int.toNat_of_nonneg p1] at K
  rw [show z2 = (b : Int) by omega, show z3 = 6 by omega]
  refine ⟨1, Nat.lt_succ_self 1, CT_post K (fun r w k => ?_)⟩
  obtain ⟨⟨g, o⟩, e⟩ := k
  have o8 : rd w 90 8 = rd ws 90 8 := o 90 8 (by omega)
  refine ⟨g, ⟨fun c hc j => o c j (fun e => hc (by rw [e]; exact List.mem_singleton.mpr rfl)), fun x y hx hy => ?_, fun v hv => ⟨v, o8.trans hv, fun h => h⟩, fun j _ => o 90 j (by omega)⟩, ?_, fun q hq => by cases hq⟩
  · have hx : rd ws 90 8 = some (.int x) := hx
    have hy : rd w 90 8 = some (.int y) := hy
    rw [o8, hx] at hy
    cases hy
    exact Int.le_refl _
  · rw [e]
    exact (show ∃ z : Int, Value.int (Int32.ofInt (zqlvF 6 z1.toNat b)) = .int (Int32.ofInt z) ∧ 1 ≤ z ∧ z ≤ C from ⟨_, rfl, hv1.1, hv1.2⟩)
end ZQB
end
