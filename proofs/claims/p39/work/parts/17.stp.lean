section
section SNG
variable {l : Launch} {D : va_G} {tys : List (ClassId × FieldType)} {A : Nat → Prop} {k d : Nat} {post : Option Value → va_W → Prop} {ad : Nat → Nat} {G : List GC} {mods : List Nat} {w0 : va_W}
variable {σ : Nat → Int} {E : EV} {als : AL} {ast : List AV} {ov : OV} {ws : va_W} {pc : Nat} {r : OUT ⊕ List ST}
/-- what a step leaves to be shown -/
noncomputable def GO (l : Launch) (D : va_G) (tys : List (ClassId × FieldType)) (A : Nat → Prop) (k d : Nat) (post : Option Value → va_W → Prop) (ad : Nat → Nat) (G : List GC) (mods : List Nat) (w0 : va_W) (n : Nat) (σ : Nat → Int) (r : OUT ⊕ List ST) : Prop := match r with
  | .inl o => ∀ (σ' : Nat → Int) (ws' : va_W), ext n σ σ' → n ≤ o.1.length → inE σ' o.1 → HK ad tys G mods w0 σ' o.2.2 ws' → post (o.2.1.map (conc ad σ')) ws'
  | .inr sts => KN l D tys A k d post ad G mods w0 n σ sts
theorem map_inr {o : Option (List ST)} (h : o.map (fun q => (Sum.inr q : OUT ⊕ List ST)) = some r) : ∃ sts, o = some sts ∧ r = .inr sts := by
  cases o with
  | none => cases h
  | some q => exact ⟨q, rfl, (Option.some.inj h).symm⟩
theorem ret_go {o : OUT} (hσ : inE σ o.1) (hH : HK ad tys G mods w0 σ o.2.2 ws) (kk : GO l D tys A k d post ad G mods w0 o.1.length σ (.inl o)) : post (o.2.1.map (conc ad σ)) ws := kk σ ws ext_rf (Nat.le_refl _) hσ hH
theorem stp_ok {xi : XI} (hx : mI k pc = xi) (h : stp G mods k pc xi E als ast ov = some r) (hσ : inE σ E) (hH : HK ad tys G mods w0 σ ov ws) (kk : GO l D tys A k d post ad G mods w0 E.length σ r) : V l D tys A k d 0 0 post 0 0 pc (als.map (cvp ad σ)) (ast.map (conc ad σ)) ws := by
  obtain ⟨op, a, x, y, z⟩ := xi
  rw [← stpF_eq] at h
  unfold stpF at h
  cases c5 : Nat.beq op 5 with
  | true =>
    rw [c5, cond_true] at h
    unfold stp_b5 at h
    have e := Nat.eq_of_beq_eq_true c5
    subst e
    cases h1 : lkA x als with
    | none => rw [h1] at h; cases h
    | some v =>
      rw [h1] at h
      dsimp only at h
      cases h2 : (Nat.beq v.1 2 || Nat.beq v.1 3) with
      | false => rw [h2] at h; cases h
      | true =>
        rw [h2] at h
        cases h
        have m := lk_in (ad := ad) (σ := σ) h1
        have K := one_ok (ws' := ws) kk hσ hH
        rw [Bool.or_eq_true] at h2
        rcases h2 with h2 | h2
        · rw [conc2 h2] at m
          rw [List.map_cons, conc2 h2] at K
          exact V_aload hx m K
        · rw [conc3 h2] at m
          rw [List.map_cons, conc3 h2] at K
          exact V_aloadN hx m K
  | false =>
  rw [c5, cond_false] at h
  cases c3 : Nat.beq op 3 with
  | true =>
    rw [c3, cond_true] at h
    unfold stp_b3 at h
    have e := Nat.eq_of_beq_eq_true c3
    subst e
    cases h1 : lkA x als with
    | none => rw [h1] at h; cases h
    | some v =>
      rw [h1] at h
      dsimp only at h
      cases h2 : Nat.beq v.1 0 with
      | false => rw [h2] at h; cases h
      | true =>
        rw [h2] at h
        cases h
        have m := lk_in (ad := ad) (σ := σ) h1
        rw [conc0 h2] at m
        have K := one_ok (ws' := ws) kk hσ hH
        rw [List.map_cons, conc0 h2] at K
        exact V_iload hx m K
  | false =>
  rw [c3, cond_false] at h
  cases c17 : Nat.beq op 17 with
  | true =>
    rw [c17, cond_true] at h
    unfold stp_b17 at h
    have e := Nat.eq_of_beq_eq_true c17
    subst e
    cases ast with
    | nil => cases h
    | cons v t =>
      dsimp only at h
      cases h1 : Nat.beq v.1 2 with
      | false => rw [h1] at h; cases h
      | true =>
        rw [h1, cond_true] at h
        cases h2 : G[v.2.1.1.toNat]? with
        | none => rw [h2] at h; cases h
        | some g =>
          rw [h2] at h
          dsimp only at h
          cases h3 : (Nat.beq g.1.1 0 && Nat.beq g.1.2.1 y && Nat.blt z g.1.2.2) with
          | false => rw [h3] at h; cases h
          | true =>
            rw [h3, cond_true] at h
            obtain ⟨sts, e1, rfl⟩ := map_inr h
            exact getf_ok hx h1 h2 h3 e1 hσ hH kk
  | false =>
  rw [c17, cond_false] at h
  cases c1 : Nat.beq op 1 with
  | true =>
    rw [c1, cond_true] at h
    unfold stp_b1 at h
    have e := Nat.eq_of_beq_eq_true c1
    subst e
    cases h
    have K := one_ok (ws' := ws) kk hσ hH
    refine V_ipush hx ?_
    rw [List.map_cons, show conc ad σ (iA (lfC a)) = .int (Int32.ofInt a) by show Value.int (Int32.ofInt (ev σ (lfC a))) = _; rw [lfC_ev]] at K
    exact K
  | false =>
  rw [c1, cond_false] at h
  cases c10 : Nat.beq op 10 with
  | true =>
    rw [c10, cond_true] at h
    unfold stp_b10 at h
    have e := Nat.eq_of_beq_eq_true c10
    subst e
    cases ast with
    | nil => cases h
    | cons v t0 =>
    cases t0 with
    | nil => cases h
    | cons u t =>
      dsimp only at h
      cases h1 : (Nat.beq u.1 0 && Nat.beq v.1 0) with
      | false => rw [h1] at h; cases h
      | true =>
        rw [h1, cond_true] at h
        rw [Bool.and_eq_true] at h1
        cases h2 : ibA x E u.2.1 v.2.1 with
        | none => rw [h2] at h; cases h
        | some w =>
          rw [h2] at h
          obtain ⟨sts, e1, rfl⟩ := map_inr h
          obtain ⟨b1, b2⟩ := ibA_ok hσ h2
          rw [List.map_cons, List.map_cons, conc0 h1.1, conc0 h1.2]
          exact V_ibin hx b1 (pushR_ok e1 hσ hH b2 kk)
  | false =>
  rw [c10, cond_false] at h
  cases c14 : Nat.beq op 14 with
  | true =>
    rw [c14, cond_true] at h
    unfold stp_b14 at h
    have e := Nat.eq_of_beq_eq_true c14
    subst e
    cases ast with
    | nil => cases h
    | cons v t =>
      dsimp only at h
      cases h1 : cmpQ E v with
      | none => rw [h1] at h; cases h
      | some f =>
        rw [h1] at h
        cases h
        obtain ⟨u, e1, e2⟩ := cmpQ_ok (ad := ad) hσ h1
        rw [List.map_cons, e1]
        obtain ⟨k1, k2⟩ := br2_ok (ws := ws) hσ hH (e2 x) kk
        exact V_if hx k1 k2
  | false =>
  rw [c14, cond_false] at h
  cases c15 : Nat.beq op 15 with
  | true =>
    rw [c15, cond_true] at h
    unfold stp_b15 at h
    have e := Nat.eq_of_beq_eq_true c15
    subst e
    cases ast with
    | nil => cases h
    | cons v t0 =>
    cases t0 with
    | nil => cases h
    | cons u t =>
      dsimp only at h
      cases h1 : cmpI E u v with
      | none => rw [h1] at h; cases h
      | some f =>
        rw [h1] at h
        cases h
        obtain ⟨p, q, e0, e1, e2⟩ := cmpI_ok (ad := ad) hσ h1
        rw [List.map_cons, List.map_cons, e0, e1]
        obtain ⟨k1, k2⟩ := br2_ok (ws := ws) hσ hH (e2 x) kk
        exact V_icmp hx k1 k2
  | false =>
  rw [c15, cond_false] at h
  cases c19 : Nat.beq op 19 with
  | true =>
    rw [c19, cond_true] at h
    unfold stp_b19 at h
    have e := Nat.eq_of_beq_eq_true c19
    subst e
    obtain ⟨sts, e1, rfl⟩ := map_inr h
    exact aload_ok hx e1 hσ hH kk
  | false =>
  rw [c19, cond_false] at h
  cases c16 : Nat.beq op 16 with
  | true =>
    rw [c16, cond_true] at h
    unfold stp_b16 at h
    have e := Nat.eq_of_beq_eq_true c16
    subst e
    cases h
    exact V_goto hx (one_ok kk hσ hH)
  | false =>
  rw [c16, cond_false] at h
  cases c6 : Nat.beq op 6 with
  | true =>
    rw [c6, cond_true] at h
    unfold stp_b6 at h
    have e := Nat.eq_of_beq_eq_true c6
    subst e
    cases ast with
    | nil => cases h
    | cons v t =>
      dsimp only at h
      cases h1 : Nat.beq v.1 0 with
      | false => rw [h1] at h; cases h
      | true =>
        rw [h1] at h
        cases h
        have K := one_ok (ws' := ws) kk hσ hH
        rw [stA_map, conc0 h1] at K
        rw [List.map_cons, conc0 h1]
        exact V_istore hx K
  | false =>
  rw [c6, cond_false] at h
  unfold stp_r1 at h
  cases c27 : Nat.beq op 27 with
  | true =>
    rw [c27, cond_true] at h
    unfold stp_b27 at h
    have e := Nat.eq_of_beq_eq_true c27
    subst e
    cases x2 : Nat.beq x 2 with
    | true =>
      rw [x2, cond_true] at h
      have e := Nat.eq_of_beq_eq_true x2
      subst e
      cases ast with
      | nil => cases h; exact V_retV hx (ret_go (o := (E, none, ov)) hσ hH kk)
      | cons _ _ => cases h
    | false =>
      rw [x2, cond_false] at h
      cases ast with
      | nil => cases h
      | cons v t0 =>
      cases t0 with
      | cons _ _ => cases h
      | nil =>
        dsimp only at h
        cases x0 : Nat.beq x 0 with
        | true =>
          rw [x0, cond_true] at h
          have e := Nat.eq_of_beq_eq_true x0
          subst e
          cases h1 : iv E v.2.1 with
          | none => rw [h1] at h; cases h
          | some u =>
            rw [h1] at h
            dsimp only at h
            cases h2 : (Nat.beq v.1 0 && (!(isBol k) || (leI 0 u.1 && leI u.2 1))) with
            | false => rw [h2] at h; cases h
            | true =>
              rw [h2] at h
              cases h
              rw [Bool.and_eq_true, Bool.or_eq_true, Bool.and_eq_true, leI_iff, leI_iff] at h2
              have p := iv_ok hσ h1
              have P := ret_go (o := (E, some v, ov)) hσ hH kk
              have P : post (some (conc ad σ v)) ws := P
              rw [conc0 h2.1] at P
              show V _ _ _ _ _ _ _ _ _ _ _ _ _ [conc ad σ v] _
              rw [conc0 h2.1]
              refine V_retI hx (fun hb => ?_) P
              rcases h2.2 with q | q
              · unfold isBol at q
                rw [hb] at q
                exact absurd q (by decide)
              · exact (bool_nar (by omega) (by omega)).1
        | false =>
          rw [x0, cond_false] at h
          cases x1 : Nat.beq x 1 with
          | true =>
            rw [x1, cond_true] at h
            have e := Nat.eq_of_beq_eq_true x1
            subst e
            cases h1 : Nat.beq v.1 1 with
            | false => rw [h1] at h; cases h
            | true =>
              rw [h1] at h
              cases h
              have P := ret_go (o := (E, some v, ov)) hσ hH kk
              have P : post (some (conc ad σ v)) ws := P
              rw [conc1 h1] at P
              show V _ _ _ _ _ _ _ _ _ _ _ _ _ [conc ad σ v] _
              rw [conc1 h1]
              exact V_retL hx P
          | false =>
            rw [x1, cond_false] at h
            cases h1 : (Nat.beq v.1 2 || Nat.beq v.1 3) with
            | false => rw [h1] at h; cases h
            | true =>
              rw [h1] at h
              cases h
              have P := ret_go (o := (E, some v, ov)) hσ hH kk
              have P : post (some (conc ad σ v)) ws := P
              have hv : conc ad σ v = .null ∨ ∃ q, conc ad σ v = .ref q := by
                rw [Bool.or_eq_true] at h1
                rcases h1 with q | q
                · exact Or.inr ⟨_, conc2 q⟩
                · exact Or.inl (conc3 q)
              have t27 : ok27 k pc a x y z = true := by have t := tabOK k pc; rw [hx] at t; exact t
              unfold ok27 at t27
              rw [bif_f x0, bif_f x1, bif_f x2, Bool.and_eq_true] at t27
              exact V_ret (r := some (conc ad σ v)) (Or.inr (Or.inr (Or.inr ⟨_, _, rfl, hv, dec_of t27.1, of_decide_eq_true t27.2⟩))) P
  | false =>
  rw [c27, cond_false] at h
  cases c9 : Nat.beq op 9 with
  | true =>
    rw [c9, cond_true] at h
    unfold stp_b9 at h
    have e := Nat.eq_of_beq_eq_true c9
    subst e
    cases h1 : lkA x als with
    | none => rw [h1] at h; cases h
    | some v =>
      rw [h1] at h
      dsimp only at h
      cases h2 : Nat.beq v.1 0 with
      | false => rw [h2] at h; cases h
      | true =>
        rw [h2, cond_true] at h
        have m := lk_in (ad := ad) (σ := σ) h1
        rw [conc0 h2] at m
        refine V_iinc hx m ?_
        have gm : gR σ (mkI E (lfAdd v.2.1 (lfC a))) (Int32.ofInt (ev σ v.2.1) + Int32.ofInt a) := mkI_ok hσ (by rw [lfAdd_ev, lfC_ev, Int32.ofInt_add])
        cases h3 : mkI E (lfAdd v.2.1 (lfC a)) with
        | inl f =>
          rw [h3] at h gm
          cases h
          have gm : _ = Int32.ofInt (ev σ f) := gm
          rw [gm]
          have K := one_ok (ws' := ws) kk hσ hH
          rw [stA_map] at K
          exact K
        | inr u =>
          rw [h3] at h gm
          dsimp only at h
          obtain ⟨w, gw, g1, g2⟩ := gm
          cases h4 : wfS E.length als ast ov with
          | false => rw [h4] at h; cases h
          | true =>
            rw [h4] at h
            cases h
            rw [gw]
            obtain ⟨e1, e2, e3⟩ := wfS_ok (ad := ad) h4 (up_ext (σ := σ) (z := w))
            have K : V l D tys A k d 0 0 post 0 0 (pc + 3) ((stA x (iA (lfS E.length)) als).map (cvp ad (upS σ E.length w))) (ast.map (conc ad (upS σ E.length w))) ws := kk _ (List.mem_singleton.mpr rfl) (upS σ E.length w) ws up_ext (by simp) (inE_push hσ g1 g2) ⟨hH.1, e3 _ hH.2.1, hH.2.2⟩
            rw [stA_map, e1, e2, show conc ad (upS σ E.length w) (iA (lfS E.length)) = .int (Int32.ofInt w) by show Value.int (Int32.ofInt (ev _ (lfS _))) = _; rw [lfS_ev, up_self]] at K
            exact K
  | false =>
  rw [c9, cond_false] at h
  cases c20 : Nat.beq op 20 with
  | true =>
    rw [c20, cond_true] at h
    unfold stp_b20 at h
    have e := Nat.eq_of_beq_eq_true c20
    subst e
    obtain ⟨sts, e1, rfl⟩ := map_inr h
    exact astore_ok hx e1 hσ hH kk
  | false =>
  rw [c20, cond_false] at h
  cases c18 : Nat.beq op 18 with
  | true =>
    rw [c18, cond_true] at h
    unfold stp_b18 at h
    have e := Nat.eq_of_beq_eq_true c18
    subst e
    cases ast with
    | nil => cases h
    | cons v t0 =>
    cases t0 with
    | nil => cases h
    | cons q t =>
      dsimp only at h
      cases h1 : Nat.beq q.1 2 with
      | false => rw [h1] at h; cases h
      | true =>
        rw [h1, cond_true] at h
        cases h2 : G[q.2.1.1.toNat]? with
        | none => rw [h2] at h; cases h
        | some g =>
          rw [h2] at h
          dsimp only at h
          cases h3 : (Nat.beq g.1.1 0 && Nat.beq g.1.2.1 y && Nat.blt z g.1.2.2 && memN q.2.1.1.toNat mods && nfin y z && !(Nat.beq q.2.1.1.toNat mnC && spJ z)) with
          | false => rw [h3] at h; cases h
          | true =>
            rw [h3, cond_true] at h
            cases h4 : segAt g.2 z with
            | none => rw [h4] at h; cases h
            | some sp =>
              rw [h4] at h
              dsimp only at h
              cases h5 : (stOK E v sp && tyOK (clTy y z) sp) with
              | false => rw [h5] at h; cases h
              | true =>
                rw [h5] at h
                cases h
                exact putf_ok hx h1 h2 h3 h4 h5 hσ hH kk
  | false =>
  rw [c18, cond_false] at h
  cases c21 : Nat.beq op 21 with
  | true =>
    rw [c21, cond_true] at h
    unfold stp_b21 at h
    have e := Nat.eq_of_beq_eq_true c21
    subst e
    cases ast with
    | nil => cases h
    | cons v t =>
      dsimp only at h
      cases h1 : Nat.beq v.1 2 with
      | false => rw [h1] at h; cases h
      | true =>
        rw [h1, cond_true] at h
        cases h2 : G[v.2.1.1.toNat]? with
        | none => rw [h2] at h; cases h
        | some g =>
          rw [h2] at h
          dsimp only at h
          cases h3 : Nat.blt 0 g.1.1 with
          | false => rw [h3] at h; cases h
          | true =>
            rw [h3] at h
            cases h
            obtain ⟨e, g1, g2, g3⟩ := hH.1 _ g h2
            have K := one_ok (ws' := ws) kk hσ hH
            rw [List.map_cons, show conc ad σ (iA (lfC (g.1.2.2 : Int))) = .int (Int32.ofNat g.1.2.2) by show Value.int (Int32.ofInt (ev σ (lfC _))) = _; rw [lfC_ev]; rfl] at K
            rw [List.map_cons, conc2 h1]
            obtain ⟨⟨kd, ty, n⟩, segs⟩ := g
            match kd, h3, g2 with
            | 0, h3, _ => cases h3
            | 1, _, g2 => obtain ⟨cA, f, rfl, q1, q2⟩ := g2; exact V_alen hx g1 q1 K
            | 2, _, g2 => obtain ⟨cA, f, rfl, q1⟩ := g2; exact V_alen hx g1 q1 K
            | kd + 3, _, g2 => obtain ⟨cA, f, rfl, q1⟩ := g2; exact V_alen hx g1 q1 K
  | false =>
  rw [c21, cond_false] at h
  cases c12 : Nat.beq op 12 with
  | true =>
    rw [c12, cond_true] at h
    unfold stp_b12 at h
    have e := Nat.eq_of_beq_eq_true c12
    subst e
    cases ast with
    | nil => cases h
    | cons v t =>
      dsimp only at h
      cases x1 : Nat.beq x 1 with
      | true =>
        rw [x1, cond_true] at h
        have e := Nat.eq_of_beq_eq_true x1
        subst e
        cases h1 : Nat.beq v.1 0 with
        | false => rw [h1] at h; cases h
        | true =>
          rw [h1, cond_true] at h
          cases h2 : iv E v.2.1 with
          | none => rw [h2] at h; cases h
          | some u =>
            rw [h2] at h
            dsimp only at h
            cases h3 : inI u with
            | false => rw [h3] at h; cases h
            | true =>
              rw [h3] at h
              cases h
              have p := iv_ok hσ h2
              have q := inI_of h3
              have K := one_ok (ws' := ws) kk hσ hH
              rw [List.map_cons, show conc ad σ (lA v.2.1) = .long (Int32.ofInt (ev σ v.2.1)).toInt64 by
                show Value.long (Int64.ofInt (ev σ v.2.1)) = _
                rw [Int32.toInt64_ofInt (by show -2147483648 ≤ _; omega) (by show _ ≤ 2147483647; omega)]] at K
              rw [List.map_cons, conc0 h1]
              exact V_i2l hx K
      | false =>
        rw [x1, cond_false] at h
        cases h1 : Nat.beq v.1 (bif Nat.beq x 2 then 1 else 0) with
        | false => rw [h1] at h; cases h
        | true =>
          rw [h1, cond_true] at h
          cases h2 : unA x E v.2.1 with
          | none => rw [h2] at h; cases h
          | some w =>
            rw [h2] at h
            obtain ⟨sts, e1, rfl⟩ := map_inr h
            obtain ⟨u0, u2, u3, u4, u5⟩ := unA_ok hσ h2
            rw [List.map_cons]
            rcases u5 with rfl | rfl | rfl | rfl
            · rw [conc0 h1]; exact V_ineg hx (pushR_ok e1 hσ hH (u0 rfl) kk)
            · rw [conc1 h1]; exact V_l2i hx (pushR_ok e1 hσ hH (u2 rfl) kk)
            · rw [conc0 h1]; exact V_i2b hx (pushR_ok e1 hσ hH (u3 rfl) kk)
            · rw [conc0 h1]; exact V_i2s hx (pushR_ok e1 hσ hH (u4 rfl) kk)
  | false =>
  rw [c12, cond_false] at h
  cases c4 : Nat.beq op 4 with
  | true =>
    rw [c4, cond_true] at h
    unfold stp_b4 at h
    have e := Nat.eq_of_beq_eq_true c4
    subst e
    cases h1 : lkA x als with
    | none => rw [h1] at h; cases h
    | some v =>
      rw [h1] at h
      dsimp only at h
      cases h2 : Nat.beq v.1 1 with
      | false => rw [h2] at h; cases h
      | true =>
        rw [h2] at h
        cases h
        have m := lk_in (ad := ad) (σ := σ) h1
        rw [conc1 h2] at m
        have K := one_ok (ws' := ws) kk hσ hH
        rw [List.map_cons, conc1 h2] at K
        exact V_lload hx m K
  | false =>
  rw [c4, cond_false] at h
  cases c7 : Nat.beq op 7 with
  | true =>
    rw [c7, cond_true] at h
    unfold stp_b7 at h
    have e := Nat.eq_of_beq_eq_true c7
    subst e
    cases ast with
    | nil => cases h
    | cons v t =>
      dsimp only at h
      cases h1 : Nat.beq v.1 1 with
      | false => rw [h1] at h; cases h
      | true =>
        rw [h1] at h
        cases h
        have K := one_ok (ws' := ws) kk hσ hH
        rw [stA2_map, conc1 h1] at K
        rw [List.map_cons, conc1 h1]
        exact V_lstore hx K
  | false =>
  rw [c7, cond_false] at h
  cases c8 : Nat.beq op 8 with
  | true =>
    rw [c8, cond_true] at h
    unfold stp_b8 at h
    have e := Nat.eq_of_beq_eq_true c8
    subst e
    cases ast with
    | nil => cases h
    | cons v t =>
      dsimp only at h
      cases h1 : (Nat.beq v.1 2 || Nat.beq v.1 3) with
      | false => rw [h1] at h; cases h
      | true =>
        rw [h1] at h
        cases h
        have K := one_ok (ws' := ws) kk hσ hH
        rw [Bool.or_eq_true] at h1
        rcases h1 with h1 | h1
        · rw [stA_map, conc2 h1] at K
          rw [List.map_cons, conc2 h1]
          exact V_astore hx K
        · rw [stA_map, conc3 h1] at K
          rw [List.map_cons, conc3 h1]
          exact V_astoreN hx K
  | false =>
  rw [c8, cond_false] at h
  unfold stp_r2 at h
  cases c2 : Nat.beq op 2 with
  | true =>
    rw [c2, cond_true] at h
    unfold stp_b2 at h
    have e := Nat.eq_of_beq_eq_true c2
    subst e
    cases h
    have K := one_ok (ws' := ws) kk hσ hH
    refine V_lpush hx ?_
    rw [List.map_cons, show conc ad σ (lA (lfC a)) = .long (Int64.ofInt a) by show Value.long (Int64.ofInt (ev σ (lfC a))) = _; rw [lfC_ev]] at K
    exact K
  | false =>
  rw [c2, cond_false] at h
  cases c11 : Nat.beq op 11 with
  | true =>
    rw [c11, cond_true] at h
    unfold stp_b11 at h
    have e := Nat.eq_of_beq_eq_true c11
    subst e
    cases ast with
    | nil => cases h
    | cons v t0 =>
    cases t0 with
    | nil => cases h
    | cons u t =>
      dsimp only at h
      cases h1 : (Nat.beq u.1 1 && Nat.beq v.1 1) with
      | false => rw [h1] at h; cases h
      | true =>
        rw [h1, cond_true] at h
        rw [Bool.and_eq_true] at h1
        cases h2 : lbA x E u.2.1 v.2.1 with
        | none => rw [h2] at h; cases h
        | some w =>
          rw [h2] at h
          obtain ⟨sts, e1, rfl⟩ := map_inr h
          obtain ⟨b1, b2⟩ := lbA_ok hσ h2
          rw [List.map_cons, List.map_cons, conc1 h1.1, conc1 h1.2]
          exact V_lbin hx b1 (pushL_ok e1 hσ hH b2 kk)
  | false =>
  rw [c11, cond_false] at h
  cases c13 : Nat.beq op 13 with
  | true =>
    rw [c13, cond_true] at h
    unfold stp_b13 at h
    have e := Nat.eq_of_beq_eq_true c13
    subst e
    cases ast with
    | nil => cases h
    | cons v t0 =>
    cases t0 with
    | nil => cases h
    | cons u t =>
      dsimp only at h
      cases h1 : (Nat.beq u.1 1 && Nat.beq v.1 1) with
      | false => rw [h1] at h; cases h
      | true =>
        rw [h1] at h
        cases h
        rw [Bool.and_eq_true] at h1
        have K := one_ok (ws' := ws) kk hσ hH
        rw [List.map_cons, List.map_cons, conc1 h1.1, conc1 h1.2]
        exact V_lcmp hx K
  | false =>
  rw [c13, cond_false] at h
  cases c22 : Nat.beq op 22 with
  | true =>
    rw [c22, cond_true] at h
    unfold stp_b22 at h
    have e := Nat.eq_of_beq_eq_true c22
    subst e
    cases ast with
    | nil => cases h
    | cons v t =>
      dsimp only at h
      have cat : ∀ v : AV, Nat.beq v.1 1 = false → (conc ad σ v).category = 1 := fun v h => by
        have q := conc_cat (ad := ad) (σ := σ) v
        rw [h] at q
        rcases lv_cat (conc ad σ v) with c | c
        · exact c
        · rw [c] at q; exact absurd q (by decide)
      cases h1 : Nat.beq v.1 1 with
      | true => rw [h1] at h; cases h
      | false =>
        rw [h1, cond_false] at h
        cases x0 : Nat.beq x 0 with
        | true =>
          rw [x0] at h
          have e := Nat.eq_of_beq_eq_true x0
          subst e
          cases h
          exact V_dup hx (cat v h1) (one_ok (ast' := v :: v :: t) kk hσ hH)
        | false =>
          rw [x0, cond_false] at h
          cases x2 : Nat.beq x 2 with
          | true =>
            rw [x2] at h
            have e := Nat.eq_of_beq_eq_true x2
            subst e
            cases h
            exact V_pop hx (cat v h1) (one_ok kk hσ hH)
          | false =>
            rw [x2, cond_false] at h
            cases x1 : Nat.beq x 1 with
            | false => rw [x1] at h; cases h
            | true =>
              rw [x1, cond_true] at h
              have e := Nat.eq_of_beq_eq_true x1
              subst e
              cases t with
              | nil => cases h
              | cons w t2 =>
                dsimp only at h
                cases h2 : Nat.beq w.1 1 with
                | true => rw [h2] at h; cases h
                | false =>
                  rw [h2] at h
                  cases h
                  exact V_dup2 hx (cat v h1) (cat w h2) (one_ok (ast' := v :: w :: v :: w :: t2) kk hσ hH)
  | false =>
  rw [c22, cond_false] at h
  cases c25 : Nat.beq op 25 with
  | true =>
    rw [c25, cond_true] at h
    unfold stp_b25 at h
    have e := Nat.eq_of_beq_eq_true c25
    subst e
    cases ast with
    | nil => cases h
    | cons v t0 =>
    cases t0 with
    | nil => cases h
    | cons u t =>
      dsimp only at h
      cases h1 : (Nat.beq v.1 0 && Nat.beq u.1 1) with
      | false => rw [h1] at h; cases h
      | true =>
        rw [h1, cond_true] at h
        rw [Bool.and_eq_true] at h1
        obtain ⟨sts, e1, rfl⟩ := map_inr h
        rw [List.map_cons, List.map_cons, conc0 h1.1, conc1 h1.2]
        exact V_lsh hx (pushL_ok e1 hσ hH (fullL_ok σ _) kk)
  | false =>
  rw [c25, cond_false] at h
  cases c28 : (Nat.beq op 28 || Nat.beq op 36) with
  | true =>
    rw [c28, cond_true] at h
    unfold stp_b28 at h
    have hop : op = 28 ∨ op = 36 := by
      rw [Bool.or_eq_true] at c28
      exact c28.imp Nat.eq_of_beq_eq_true Nat.eq_of_beq_eq_true
    cases ast with
    | nil => cases h
    | cons v t =>
      dsimp only at h
      cases h1 : cmpQ E v with
      | none => rw [h1] at h; cases h
      | some f =>
        rw [h1] at h
        dsimp only at h
        cases h2 : Nat.beq v.1 0 with
        | false => rw [h2] at h; cases h
        | true =>
          rw [h2, cond_true] at h
          refine sw_ok hop hx h1 h2 hσ hH (fun d0 lo ts hm => ?_)
          rw [hm] at h
          cases h
          exact kk
  | false =>
  rw [c28, cond_false] at h
  cases c30 : Nat.beq op 30 with
  | true =>
    rw [c30, cond_true] at h
    unfold stp_b30 at h
    have e := Nat.eq_of_beq_eq_true c30
    subst e
    cases ast with
    | nil => cases h
    | cons v t =>
      dsimp only at h
      cases x1 : Nat.beq x 1 with
      | false => rw [x1] at h; cases h
      | true =>
        rw [x1, cond_true] at h
        have e := Nat.eq_of_beq_eq_true x1
        subst e
        cases h1 : Nat.beq v.1 2 with
        | true =>
          rw [h1] at h
          cases h
          rw [List.map_cons, conc2 h1]
          exact V_nnR hx (one_ok kk hσ hH)
        | false =>
          rw [h1, cond_false] at h
          cases h2 : Nat.beq v.1 3 with
          | false => rw [h2] at h; cases h
          | true =>
            rw [h2] at h
            cases h
            rw [List.map_cons, conc3 h2]
            exact V_nnN hx (one_ok kk hσ hH)
  | false =>
  rw [c30, cond_false] at h
  cases c31 : Nat.beq op 31 with
  | true =>
    rw [c31, cond_true] at h
    unfold stp_b31 at h
    have e := Nat.eq_of_beq_eq_true c31
    subst e
    cases h
    exact V_null hx (one_ok (ast' := nA :: ast) kk hσ hH)
  | false =>
  rw [c31, cond_false] at h
  cases h
end SNG
end
section
/-! further steps: what lies outside the object's own cells, and the place that only grows -/
theorem xs_len : xsT.length = 24 := by decide +kernel
theorem xs_byt : xsT.all (fun q => q.2.2.2.all (fun b => decide (97 ≤ b.toInt) && decide (b.toInt ≤ 122))) = true := by decide +kernel
theorem xs_at {i : Nat} (h : i < 24) : ∃ q, xsT[i]? = some q := ⟨_, List.getElem?_eq_getElem (by rw [xs_len]; exact h)⟩
theorem xs_bd {i j : Nat} {q : String × Nat × String × List Int32} (hq : xsT[i]? = some q) (hj : j < q.2.2.2.length) : 97 ≤ (q.2.2.2.getD j 0).toInt ∧ (q.2.2.2.getD j 0).toInt ≤ 122 := by
  have h := List.all_eq_true.mp (List.all_eq_true.mp xs_byt q (List.mem_of_getElem? hq)) (q.2.2.2.getD j 0) (by rw [List.getD_eq_getElem?_getD, List.getElem?_eq_getElem hj]; exact List.getElem_mem hj)
  rw [Bool.and_eq_true, decide_eq_true_eq, decide_eq_true_eq] at h
  exact h
noncomputable def mono1 (E : EV) (ov : OV) (v : AV) : Bool := match ovAt mnC mnJ ov with
  | some o => Nat.beq o.1 0 && (match iv E o.2.1, iv E v.2.1, iv E (lfSub v.2.1 o.2.1) with
    | some u, some w, some r => inI u && inI w && leI 0 r.1
    | _, _, _ => false)
  | none => false
noncomputable def stp2 (G : List GC) (mods : List Nat) (xi : XI) (pc : Nat) (E : EV) (als : AL) (ast : List AV) (ov : OV) : Option (OUT ⊕ List ST) := match xi with
  | (op, a, x, y, z) =>
    bif Nat.beq op 23 then (bif Nat.beq y 0 then some (.inr [(pc + 3, E, als, iA (lfC 1) :: ast, ov)]) else some (.inr [(pc + 3, E, als, rA 1200 :: ast, ov), (pc + 3, E, als, nA :: ast, ov)]))
    else bif Nat.beq op 35 then some (.inr [(pc + 2, E, als, rA ((1000 + y : Nat) : Int) :: ast, ov)])
    else bif Nat.beq op 39 then (match ast with
      | r :: t => bif Nat.beq r.1 2 && (Nat.ble 1000 r.2.1.1.toNat && Nat.blt r.2.1.1.toNat 1024) then some (.inr [(pc + 3, E, als, (bif Nat.beq y 0 then rA ((r.2.1.1.toNat + 100 : Nat) : Int) else iA (lfC 0)) :: t, ov)]) else none
      | [] => none)
    else bif Nat.beq op 21 then (match ast with
      | r :: t => bif Nat.beq r.1 2 && Nat.ble 1100 r.2.1.1.toNat then (match xsT[r.2.1.1.toNat - 1100]? with
        | some q => some (.inr [(pc + 1, E, als, iA (lfC (q.2.2.2.length : Int)) :: t, ov)])
        | none => none) else none
      | [] => none)
    else bif Nat.beq op 19 then (match ast with
      | i :: r :: t => bif Nat.beq x 1 && (Nat.beq i.1 0 && (Nat.beq r.1 2 && Nat.ble 1100 r.2.1.1.toNat)) then (match xsT[r.2.1.1.toNat - 1100]?, iv E i.2.1 with
        | some q, some u => bif leI 0 u.1 && (leI (u.2 + 1) (q.2.2.2.length : Int) && inI u) then (pushR (.inr (97, 122)) (pc + 1) E als t ov).map .inr else none
        | _, _ => none) else none
      | _ => none)
    else bif Nat.beq op 38 then (match ast with
      | [v] => (match iv E v.2.1 with
        | some u => bif Nat.beq v.1 0 && (leI 0 u.1 && leI u.2 127) then some (.inl (E, some v, ov)) else none
        | none => none)
      | _ => none)
    else bif Nat.beq op 12 then (match ast with
      | v :: t => bif Nat.beq x 5 && Nat.beq v.1 0 then (match iv E v.2.1 with
        | some u => bif leI 0 u.1 && leI u.2 65535 then some (.inr [(pc + 1, E, als, v :: t, ov)]) else none
        | none => none) else none
      | [] => none)
    else bif Nat.beq op 22 then (match ast with
      | v :: u :: t => bif Nat.beq v.1 1 || Nat.beq u.1 1 then none else bif Nat.beq x 3 then some (.inr [(pc + 1, E, als, v :: u :: v :: t, ov)])
        else bif Nat.beq x 4 then (match t with
          | w :: t2 => bif Nat.beq w.1 1 then none else some (.inr [(pc + 1, E, als, v :: u :: w :: v :: t2, ov)])
          | [] => none) else none
      | _ => none)
    else bif Nat.beq op 18 then (match ast with
      | v :: r :: t => bif Nat.beq r.1 2 && (Nat.beq r.2.1.1.toNat mnC && (Nat.beq z mnJ && memN mnC mods)) then (match G[mnC]? with
        | some g => bif Nat.beq g.1.1 0 && Nat.beq g.1.2.1 y && Nat.blt mnJ g.1.2.2 && nfin y mnJ then (match segAt g.2 mnJ with
            | some sp => bif stOK E v sp && tyOK (clTy y mnJ) sp && (Nat.beq v.1 0 && mono1 E ov v) then some (.inr [(pc + 3, E, als, t, ((mnC, mnJ), v) :: ovDel mnC mnJ ov)]) else none
            | none => none) else none
        | none => none) else none
      | _ => none)
    else none
section SNX
variable {l : Launch} {D : va_G} {tys : List (ClassId × FieldType)} {A : Nat → Prop} {k d : Nat} {post : Option Value → va_W → Prop} {ad : Nat → Nat} {G : List GC} {mods : List Nat} {w0 : va_W}
variable {σ : Nat → Int} {E : EV} {als : AL} {ast : List AV} {ov : OV} {ws : va_W} {pc : Nat} {r : OUT ⊕ List ST}
theorem cat_ne {v : AV} (h : Nat.beq v.1 1 = false) : (conc ad σ v).category = 1 := by
  have q := conc_cat (ad := ad) (σ := σ) v
  rw [h] at q
  rcases lv_cat (conc ad σ v) with c | c
  · exact c
  · rw [c] at q; exact absurd q (by decide)
theorem small_char {z : Int} (h0 : 0 ≤ z) (h1 : z ≤ 127) : (Int32.ofInt z).toUInt32.toUInt16.toUInt32.toInt32 = Int32.ofInt z ∧ (Int32.ofInt z).toInt8.toInt32 = Int32.ofInt z := by
  have : ∀ n : Nat, n < 128 → (Int32.ofInt (n : Int)).toUInt32.toUInt16.toUInt32.toInt32 = Int32.ofInt (n : Int) ∧ (Int32.ofInt (n : Int)).toInt8.toInt32 = Int32.ofInt (n : Int) := by decide +kernel
  have h := this z.toNat (by omega)
  rw [Int.toNat_of_nonneg h0] at h
  exact h
theorem i2c_id {z : Int} (h0 : 0 ≤ z) (h1 : z ≤ 65535) : ((Int32.ofInt z).toUInt32 % 65536).toInt32 = Int32.ofInt z := by
  obtain ⟨n, rfl⟩ := Int.eq_ofNat_of_zero_le h0
  have hn : n < 65536 := by omega
  have e : (Int32.ofInt (n : Int)).toUInt32 = UInt32.ofNat n := rfl
  rw [e]
  have e2 : UInt32.ofNat n % 65536 = UInt32.ofNat n := by
    apply UInt32.toNat_inj.mp
    rw [UInt32.toNat_mod]
    simp only [UInt32.toNat_ofNat']
    show n % 4294967296 % 65536 = n % 4294967296
    omega
  rw [e2]
  rfl
theorem stp2_ok (hAD : ∀ i : Nat, ad (1000 + i) = D.2 1000 i) {xi : XI} (hx : mI k pc = xi) (h : stp2 G mods xi pc E als ast ov = some r) (hσ : inE σ E) (hH : HK ad tys G mods w0 σ ov ws) (kk : GO l D tys A k d post ad G mods w0 E.length σ r) : V l D tys A k d 0 0 post 0 0 pc (als.map (cvp ad σ)) (ast.map (conc ad σ)) ws := by
  obtain ⟨op, a, x, y, z⟩ := xi
  unfold stp2 at h
  dsimp only at h
  have hAE : ∀ c : Nat, 1000 ≤ c → ad c = D.2 1000 (c - 1000) := fun c hc => by
    have q := hAD (c - 1000)
    rw [show 1000 + (c - 1000) = c by omega] at q
    exact q
  cases c23 : Nat.beq op 23 with
  | true =>
    rw [c23, cond_true] at h
    have e := Nat.eq_of_beq_eq_true c23
    subst e
    cases y0 : Nat.beq y 0 with
    | true =>
      rw [y0, cond_true] at h
      have ey := Nat.eq_of_beq_eq_true y0
      cases h
      have K := one_ok (ws' := ws) kk hσ hH
      rw [List.map_cons, show conc ad σ (iA (lfC 1)) = .int 1 by show Value.int (Int32.ofInt (ev σ (lfC 1))) = _; rw [lfC_ev]; rfl] at K
      exact V_gets hx (fun _ => K) (fun hy => absurd ey hy) (fun hy => absurd ey hy)
    | false =>
      rw [y0, cond_false] at h
      cases h
      have K1 : V l D tys A k d 0 0 post 0 0 (pc + 3) (als.map (cvp ad σ)) (conc ad σ (rA 1200) :: ast.map (conc ad σ)) ws := kk _ List.mem_cons_self σ ws ext_rf (Nat.le_refl _) hσ hH
      have K2 : V l D tys A k d 0 0 post 0 0 (pc + 3) (als.map (cvp ad σ)) (conc ad σ nA :: ast.map (conc ad σ)) ws := kk _ (List.mem_cons_of_mem _ List.mem_cons_self) σ ws ext_rf (Nat.le_refl _) hσ hH
      rw [show conc ad σ (rA 1200) = .ref (D.2 1000 200) by rw [← hAD]; rfl] at K1
      exact V_gets hx (fun hy => absurd (show Nat.beq y 0 = true by rw [hy]; rfl) (by rw [y0]; exact Bool.false_ne_true)) (fun _ => K1) (fun _ => K2)
  | false =>
  rw [c23, cond_false] at h
  cases c35 : Nat.beq op 35 with
  | true =>
    rw [c35, cond_true] at h
    have e := Nat.eq_of_beq_eq_true c35
    subst e
    cases h
    have K := one_ok (ws' := ws) kk hσ hH
    rw [List.map_cons, show conc ad σ (rA ((1000 + y : Nat) : Int)) = .ref (D.2 1000 y) by rw [← hAD]; rfl] at K
    exact V_ldcS hx K
  | false =>
  rw [c35, cond_false] at h
  cases c39 : Nat.beq op 39 with
  | true =>
    rw [c39, cond_true] at h
    have e := Nat.eq_of_beq_eq_true c39
    subst e
    cases ast with
    | nil => cases h
    | cons q t =>
      dsimp only at h
      cases h1 : (Nat.beq q.1 2 && (Nat.ble 1000 q.2.1.1.toNat && Nat.blt q.2.1.1.toNat 1024)) with
      | false => rw [h1] at h; cases h
      | true =>
        rw [h1] at h
        cases h
        rw [Bool.and_eq_true, Bool.and_eq_true] at h1
        obtain ⟨b1, b2, b3⟩ := h1
        have b2 := Nat.le_of_ble_eq_true b2
        have b3 := Nat.blt_eq.mp b3
        obtain ⟨w, hw⟩ := xs_at (i := q.2.1.1.toNat - 1000) (by omega)
        have K := one_ok (ws' := ws) kk hσ hH
        rw [List.map_cons] at K
        rw [List.map_cons, conc2 b1, hAE _ b2]
        refine V_getX hx hw (fun hy => ?_) (fun hy => ?_)
        · subst hy
          have K : V l D tys A k d 0 0 post 0 0 (pc + 3) (als.map (cvp ad σ)) (conc ad σ (rA ((q.2.1.1.toNat + 100 : Nat) : Int)) :: t.map (conc ad σ)) ws := K
          rw [show conc ad σ (rA ((q.2.1.1.toNat + 100 : Nat) : Int)) = .ref (D.2 1000 (100 + (q.2.1.1.toNat - 1000))) by
            show Value.ref (ad (q.2.1.1.toNat + 100)) = _
            rw [hAE _ (by omega), show q.2.1.1.toNat + 100 - 1000 = 100 + (q.2.1.1.toNat - 1000) by omega]] at K
          exact K
        · rw [bif_f (by cases hb : Nat.beq y 0 with | false => rfl | true => exact absurd (Nat.eq_of_beq_eq_true hb) hy)] at K
          rw [show conc ad σ (iA (lfC 0)) = .int 0 by show Value.int (Int32.ofInt (ev σ (lfC 0))) = _; rw [lfC_ev]; rfl] at K
          exact K
  | false =>
  rw [c39, cond_false] at h
  cases c21 : Nat.beq op 21 with
  | true =>
    rw [c21, cond_true] at h
    have e := Nat.eq_of_beq_eq_true c21
    subst e
    cases ast with
    | nil => cases h
    | cons q t =>
      dsimp only at h
      cases h1 : (Nat.beq q.1 2 && Nat.ble 1100 q.2.1.1.toNat) with
      | false => rw [h1] at h; cases h
      | true =>
        rw [h1, cond_true] at h
        rw [Bool.and_eq_true] at h1
        have b2 := Nat.le_of_ble_eq_true h1.2
        cases hw : xsT[q.2.1.1.toNat - 1100]? with
        | none => rw [hw] at h; cases h
        | some w =>
          rw [hw] at h
          cases h
          have K := one_ok (ws' := ws) kk hσ hH
          rw [List.map_cons, show conc ad σ (iA (lfC (w.2.2.2.length : Int))) = .int (Int32.ofNat w.2.2.2.length) by show Value.int (Int32.ofInt (ev σ (lfC _))) = _; rw [lfC_ev]; rfl] at K
          rw [List.map_cons, conc2 h1.1, hAE _ (by omega), show q.2.1.1.toNat - 1000 = 100 + (q.2.1.1.toNat - 1100) by omega]
          exact V_lenX hx hw K
  | false =>
  rw [c21, cond_false] at h
  cases c19 : Nat.beq op 19 with
  | true =>
    rw [c19, cond_true] at h
    have e := Nat.eq_of_beq_eq_true c19
    subst e
    cases ast with
    | nil => cases h
    | cons i t0 =>
    cases t0 with
    | nil => cases h
    | cons q t =>
      dsimp only at h
      cases h1 : (Nat.beq x 1 && (Nat.beq i.1 0 && (Nat.beq q.1 2 && Nat.ble 1100 q.2.1.1.toNat))) with
      | false => rw [h1] at h; cases h
      | true =>
        rw [h1, cond_true] at h
        rw [Bool.and_eq_true, Bool.and_eq_true, Bool.and_eq_true] at h1
        obtain ⟨b1, b2, b3, b4⟩ := h1
        have b1 := Nat.eq_of_beq_eq_true b1
        have b4 := Nat.le_of_ble_eq_true b4
        subst b1
        cases hw : xsT[q.2.1.1.toNat - 1100]? with
        | none => rw [hw] at h; cases h
        | some w =>
          cases hu : iv E i.2.1 with
          | none => rw [hw, hu] at h; cases h
          | some u =>
            rw [hw, hu] at h
            dsimp only at h
            cases h2 : (leI 0 u.1 && (leI (u.2 + 1) (w.2.2.2.length : Int) && inI u)) with
            | false => rw [h2] at h; cases h
            | true =>
              rw [h2, cond_true] at h
              rw [Bool.and_eq_true, Bool.and_eq_true, leI_iff, leI_iff] at h2
              obtain ⟨g1, g2, g3⟩ := h2
              have g3 := inI_of g3
              have p := iv_ok hσ hu
              obtain ⟨sts, e1, rfl⟩ := map_inr h
              obtain ⟨j1, j2⟩ := idx_ok (z := ev σ i.2.1) (n := w.2.2.2.length) (by omega) (by omega) (by omega)
              rw [List.map_cons, List.map_cons, conc0 b2, conc2 b3, hAE _ (by omega), show q.2.1.1.toNat - 1000 = 100 + (q.2.1.1.toNat - 1100) by omega]
              have bd := xs_bd (j := (Int32.ofInt (ev σ i.2.1)).toNatClampNeg) hw (by rw [j2]; omega)
              exact V_bldX hx hw j1 (pushR_ok e1 hσ hH ⟨(w.2.2.2.getD (Int32.ofInt (ev σ i.2.1)).toNatClampNeg 0).toInt, by rw [Int32.ofInt_toInt], bd.1, bd.2⟩ kk)
  | false =>
  rw [c19, cond_false] at h
  cases c38 : Nat.beq op 38 with
  | true =>
    rw [c38, cond_true] at h
    have e := Nat.eq_of_beq_eq_true c38
    subst e
    cases ast with
    | nil => cases h
    | cons v t =>
    cases t with
    | cons _ _ => cases h
    | nil =>
      dsimp only at h
      cases hu : iv E v.2.1 with
      | none => rw [hu] at h; cases h
      | some u =>
        rw [hu] at h
        dsimp only at h
        cases h1 : (Nat.beq v.1 0 && (leI 0 u.1 && leI u.2 127)) with
        | false => rw [h1] at h; cases h
        | true =>
          rw [h1] at h
          cases h
          rw [Bool.and_eq_true, Bool.and_eq_true, leI_iff, leI_iff] at h1
          have p := iv_ok hσ hu
          have R := ret_go (o := (E, some v, ov)) hσ hH kk
          obtain ⟨s1, s2⟩ := small_char (z := ev σ v.2.1) (by omega) (by omega)
          have R : post (some (conc ad σ v)) ws := R
          rw [conc0 h1.1] at R
          rw [List.map_cons, List.map_nil, conc0 h1.1]
          exact V_retX hx s1 s2 R
  | false =>
  rw [c38, cond_false] at h
  cases c12 : Nat.beq op 12 with
  | true =>
    rw [c12, cond_true] at h
    have e := Nat.eq_of_beq_eq_true c12
    subst e
    cases ast with
    | nil => cases h
    | cons v t =>
      dsimp only at h
      cases h1 : (Nat.beq x 5 && Nat.beq v.1 0) with
      | false => rw [h1] at h; cases h
      | true =>
        rw [h1, cond_true] at h
        rw [Bool.and_eq_true] at h1
        have b1 := Nat.eq_of_beq_eq_true h1.1
        subst b1
        cases hu : iv E v.2.1 with
        | none => rw [hu] at h; cases h
        | some u =>
          rw [hu] at h
          dsimp only at h
          cases h2 : (leI 0 u.1 && leI u.2 65535) with
          | false => rw [h2] at h; cases h
          | true =>
            rw [h2] at h
            cases h
            rw [Bool.and_eq_true, leI_iff, leI_iff] at h2
            have p := iv_ok hσ hu
            have K := one_ok (ws' := ws) kk hσ hH
            rw [List.map_cons, conc0 h1.2] at K
            rw [List.map_cons, conc0 h1.2]
            refine V_i2c hx ?_
            rw [i2c_id (by omega) (by omega)]
            exact K
  | false =>
  rw [c12, cond_false] at h
  cases c22 : Nat.beq op 22 with
  | true =>
    rw [c22, cond_true] at h
    have e := Nat.eq_of_beq_eq_true c22
    subst e
    cases ast with
    | nil => cases h
    | cons v t0 =>
    cases t0 with
    | nil => cases h
    | cons u t =>
      dsimp only at h
      cases h1 : (Nat.beq v.1 1 || Nat.beq u.1 1) with
      | true => rw [h1] at h; cases h
      | false =>
        rw [h1, cond_false] at h
        rw [Bool.or_eq_false_iff] at h1
        cases x3 : Nat.beq x 3 with
        | true =>
          rw [x3] at h
          have e := Nat.eq_of_beq_eq_true x3
          subst e
          cases h
          exact V_dupx1 hx (cat_ne h1.1) (cat_ne h1.2) (one_ok (ast' := v :: u :: v :: t) kk hσ hH)
        | false =>
          rw [x3, cond_false] at h
          cases x4 : Nat.beq x 4 with
          | false => rw [x4] at h; cases h
          | true =>
            rw [x4, cond_true] at h
            have e := Nat.eq_of_beq_eq_true x4
            subst e
            cases t with
            | nil => cases h
            | cons w t2 =>
              dsimp only at h
              cases h2 : Nat.beq w.1 1 with
              | true => rw [h2] at h; cases h
              | false =>
                rw [h2] at h
                cases h
                exact V_dupx2 hx (cat_ne h1.1) (cat_ne h1.2) (cat_ne h2) (one_ok (ast' := v :: u :: w :: v :: t2) kk hσ hH)
  | false =>
  rw [c22, cond_false] at h
  cases c18 : Nat.beq op 18 with
  | false => rw [c18] at h; cases h
  | true =>
    rw [c18, cond_true] at h
    have e := Nat.eq_of_beq_eq_true c18
    subst e
    cases ast with
    | nil => cases h
    | cons v t0 =>
    cases t0 with
    | nil => cases h
    | cons q t =>
      dsimp only at h
      cases h1 : (Nat.beq q.1 2 && (Nat.beq q.2.1.1.toNat mnC && (Nat.beq z mnJ && memN mnC mods))) with
      | false => rw [h1] at h; cases h
      | true =>
        rw [h1, cond_true] at h
        rw [Bool.and_eq_true, Bool.and_eq_true, Bool.and_eq_true] at h1
        obtain ⟨a1, a2, a3, a4⟩ := h1
        have a2 := Nat.eq_of_beq_eq_true a2
        have a3 := Nat.eq_of_beq_eq_true a3
        have a4 := memN_in a4
        subst a3
        cases h2 : G[mnC]? with
        | none => rw [h2] at h; cases h
        | some g =>
          rw [h2] at h
          dsimp only at h
          cases h3 : (Nat.beq g.1.1 0 && Nat.beq g.1.2.1 y && Nat.blt mnJ g.1.2.2 && nfin y mnJ) with
          | false => rw [h3] at h; cases h
          | true =>
            rw [h3, cond_true] at h
            rw [Bool.and_eq_true, Bool.and_eq_true, Bool.and_eq_true] at h3
            obtain ⟨⟨⟨b1, b2⟩, b3⟩, b5⟩ := h3
            replace b1 := Nat.eq_of_beq_eq_true b1
            replace b2 := Nat.eq_of_beq_eq_true b2
            replace b3 := Nat.blt_eq.mp b3
            cases h4 : segAt g.2 mnJ with
            | none => rw [h4] at h; cases h
            | some sp =>
              rw [h4] at h
              dsimp only at h
              cases h5 : (stOK E v sp && tyOK (clTy y mnJ) sp && (Nat.beq v.1 0 && mono1 E ov v)) with
              | false => rw [h5] at h; cases h
              | true =>
                rw [h5] at h
                cases h
                rw [Bool.and_eq_true, Bool.and_eq_true, Bool.and_eq_true] at h5
                obtain ⟨⟨s1, s2⟩, s3, s4⟩ := h5
                obtain ⟨o1, o2, o3, o4, o5⟩ := stOK_ok (ad := ad) s1 hσ
                obtain ⟨n1, n2⟩ := tyOK_ok (ad := ad) (v := v) s2 o2 o4 o5
                unfold mono1 at s4
                cases hov : ovAt mnC mnJ ov with
                | none => rw [hov] at s4; cases s4
                | some o =>
                  rw [hov] at s4
                  dsimp only at s4
                  rw [Bool.and_eq_true] at s4
                  obtain ⟨s4, s5⟩ := s4
                  have rdo := hH.2.1 _ (ovAt_mem hov)
                  rw [conc0 s4] at rdo
                  cases u1 : iv E o.2.1 with
                  | none => rw [u1] at s5; cases s5
                  | some u =>
                  cases u2 : iv E v.2.1 with
                  | none => rw [u1, u2] at s5; cases s5
                  | some w =>
                  cases u3 : iv E (lfSub v.2.1 o.2.1) with
                  | none => rw [u1, u2, u3] at s5; cases s5
                  | some rr =>
                  rw [u1, u2, u3] at s5
                  dsimp only at s5
                  rw [Bool.and_eq_true, Bool.and_eq_true, leI_iff] at s5
                  have p1 := iv_ok hσ u1
                  have p2 := iv_ok hσ u2
                  have p3 := iv_ok hσ u3
                  rw [lfSub_ev] at p3
                  have i1 := inI_of s5.1.1
                  have i2 := inI_of s5.1.2
                  have hle : (Int32.ofInt (ev σ o.2.1)).toInt ≤ (Int32.ofInt (ev σ v.2.1)).toInt := by
                    rw [Int32.toInt_ofInt_of_le (by omega) (by omega), Int32.toInt_ofInt_of_le (by omega) (by omega)]
                    omega
                  obtain ⟨e, g1, g2, g3⟩ := hH.1 _ g h2
                  obtain ⟨⟨kd, ty, n⟩, segs⟩ := g
                  dsimp only at b1 b2 b3
                  subst b1; subst b2
                  obtain ⟨fs, rfl, hl⟩ := g2
                  have hn : mnJ < fs.length := by rw [hl]; exact b3
                  rw [List.map_cons, List.map_cons, conc2 a1, a2]
                  refine V_put hx g1 hn (fun C T N hc => ?_) n1 n2 ?_
                  · unfold nfin at b5
                    rw [hc] at b5
                    simpa using b5
                  · obtain ⟨z1, z2⟩ := GOK_upd (e' := .inr (ty, fs.set mnJ (conc ad σ v))) hH.1 h2 g1 ⟨_, rfl, by rw [List.length_set]; exact hl⟩ (rdE_obj hn _) h4 o1
                    refine one_ok kk hσ ⟨z1, OV_put hH.2.1 z2, ?_⟩
                    rw [conc0 s3] at z2
                    rw [conc0 s3]
                    exact FRm_updM hH.2.2 z2 a4 rdo hle
end SNX
end
section
/-! ahead of a step: long forms are named anew, a state is parted by what a number may be -/
noncomputable def mulT (v : AV) : Bool := Nat.ble v.1 1 && (match v.2.1.2 with | _ :: _ :: _ => true | _ => false)
noncomputable def cmA (E : EV) (v : AV) : EV × AV := bif mulT v then (match iv E v.2.1 with | some u => (E ++ [u], (v.1, lfS E.length, lf0)) | none => (E, v)) else (E, v)
noncomputable def cmL : EV → List AV → EV × List AV
  | E, [] => (E, [])
  | E, v :: t => ((cmL (cmA E v).1 t).1, (cmA E v).2 :: (cmL (cmA E v).1 t).2)
noncomputable def cov : List (Int × Int) → Int → Int → Bool
  | [], a, b => leI (b + 1) a
  | p :: t, a, b => leI p.1 a && cov t (maxI a (p.2 + 1)) b
theorem cov_ok : ∀ {pts : List (Int × Int)} {a b z : Int}, cov pts a b = true → a ≤ z → z ≤ b → ∃ p ∈ pts, p.1 ≤ z ∧ z ≤ p.2
  | [], a, b, z, h, h1, h2 => by have h := leI_iff.mp h; omega
  | p :: t, a, b, z, h, h1, h2 => by
    unfold cov at h
    rw [Bool.and_eq_true, leI_iff] at h
    by_cases hz : z ≤ p.2
    · exact ⟨p, List.mem_cons_self, by omega, hz⟩
    · obtain ⟨q, q1, q2⟩ := cov_ok (z := z) h.2 (by
        rcases maxI_or (a := a) (b := p.2 + 1) with e | e
        · rw [e]; exact h1
        · rw [e]; omega) h2
      exact ⟨q, List.mem_cons_of_mem _ q1, q2⟩
noncomputable def rf2 (E : EV) (f : LF) (p : Int × Int) : Option EV := (brT E 3 (lfSub f (lfC p.1))).bind (fun e => brT e 5 (lfSub f (lfC p.2)))
noncomputable def frk (f : LF) (s : ST) : List (Int × Int) → List ST
  | [] => []
  | p :: t => match rf2 s.2.1 f p with
    | some E => (s.1, E, s.2.2) :: frk f s t
    | none => frk f s t
noncomputable def frkC (pts : List (Int × Int)) (f : LF) (s : ST) : List ST := match iv s.2.1 f with
  | some u => bif cov pts u.1 u.2 then frk f s pts else [s]
  | none => [s]
noncomputable def nePts : List (Int × Int) := [(-9223372036854775808, -1), (0, 0), (1, 9223372036854775807)]
/-- unlike, within a few numbers: below, alike or above -/
noncomputable def nsp (f : LF) (s : ST) : List ST := match iv s.2.1 f with
  | some u => bif leI u.1 (-1) && (leI 1 u.2 && leI (u.2 - u.1) 6) then frkC nePts f s else [s]
  | none => [s]
noncomputable def cmS (n : Nat) (s : ST) : ST := bif (s.2.2.2.1.take n).any mulT && wfS s.2.1.length s.2.2.1 s.2.2.2.1 s.2.2.2.2 then (s.1, (cmL s.2.1 (s.2.2.2.1.take n)).1, s.2.2.1, (cmL s.2.1 (s.2.2.2.1.take n)).2 ++ s.2.2.2.1.drop n, s.2.2.2.2) else s
/-- what is known of a place is told, if it isn't yet -/
noncomputable def ldS (G : List GC) (c j : Nat) (s : ST) : ST × Option LF := match ovAt c j s.2.2.2.2 with
  | some v => (s, bif Nat.beq v.1 0 then some v.2.1 else none)
  | none => match G[c]? with
    | some g => (match segAt g.2 j with
      | some sp => bif Nat.beq g.1.1 1 && (Nat.blt j g.1.2.2 && (Nat.beq sp.1 0 && wfS s.2.1.length s.2.2.1 s.2.2.2.1 s.2.2.2.2)) then ((s.1, s.2.1 ++ [sp.2], s.2.2.1, s.2.2.2.1, ((c, j), iA (lfS s.2.1.length)) :: s.2.2.2.2), some (lfS s.2.1.length)) else (s, none)
      | none => (s, none))
    | none => (s, none)
noncomputable abbrev SPD : Type := Nat × Nat × Nat × List (Int × Int)
noncomputable def spD (G : List GC) (n : Nat) (q : SPD) (s : ST) : List ST := match s.2.2.2.1[n - 1 - q.2.1]? with
  | some v => bif Nat.beq v.1 0 then (bif Nat.beq q.1 0 then frkC q.2.2.2 v.2.1 s else match iv s.2.1 v.2.1 with
      | some u => bif eqI u.1 u.2 && leI 0 u.1 then (match ldS G q.2.2.1 u.1.toNat s with
          | (s', some f) => frkC q.2.2.2 f s'
          | (_, none) => [s]) else [s]
      | none => [s]) else [s]
  | none => [s]
noncomputable def spA (G : List GC) (n : Nat) : List SPD → List ST → List ST
  | [], l => l
  | q :: t, l => spA G n t (l.flatMap (spD G n q))
noncomputable def prp (G : List GC) (xi : XI) (s : ST) : List ST := match xi with
  | (op, _, x, y, z) =>
    bif Nat.beq op 6 || Nat.beq op 7 then [cmS 1 s]
    else bif Nat.beq op 26 then spA G (mN y + (1 - z)) (spH y) [cmS (mN y + (1 - z)) s]
    else bif Nat.beq op 9 && Nat.blt 0 y then (match lkA x s.2.2.1 with
      | some v => (bif Nat.beq v.1 0 then frkC (spI y) v.2.1 s else [s])
      | none => [s])
    else bif Nat.beq op 14 && Nat.ble x 1 then (match s.2.2.2.1 with
      | v :: _ => (match cmpQ s.2.1 v with | some f => (bif Nat.beq v.1 4 then frkC nePts f s else nsp f s) | none => [s])
      | [] => [s])
    else bif Nat.beq op 15 && Nat.ble x 1 then (match s.2.2.2.1 with
      | v :: u :: _ => (match cmpI s.2.1 u v with | some f => nsp f s | none => [s])
      | _ => [s])
    else [s]
noncomputable def prpF (G : List GC) (xi : XI) (s : ST) : List ST := bif Nat.blt xi.1 6 then [s]
    else bif Nat.beq xi.1 26 then spA G (mN xi.2.2.2.1 + (1 - xi.2.2.2.2)) (spH xi.2.2.2.1) [cmS (mN xi.2.2.2.1 + (1 - xi.2.2.2.2)) s]
    else bif Nat.blt 15 xi.1 then [s] else prp G xi s
theorem nbq {a n : Nat} (h : n < a) : Nat.beq a n = false := by
  cases hb : Nat.beq a n with
  | false => rfl
  | true => have := Nat.eq_of_beq_eq_true hb; omega
theorem prpF_eq (G : List GC) (xi : XI) (s : ST) : prpF G xi s = prp G xi s := by
  obtain ⟨op, a, x, y, z⟩ := xi
  cases h1 : Nat.blt op 6 with
  | true =>
    have h := Nat.blt_eq.mp h1
    have q : op = 0 ∨ op = 1 ∨ op = 2 ∨ op = 3 ∨ op = 4 ∨ op = 5 := by omega
    rcases q with q | q | q | q | q | q <;> (rw [q]; rfl)
  | false =>
    cases h2 : Nat.beq op 26 with
    | true =>
      rw [Nat.eq_of_beq_eq_true h2]
      rfl
    | false =>
      have e : prpF G (op, a, x, y, z) s = (bif Nat.blt 15 op then [s] else prp G (op, a, x, y, z) s) := by
        show (bif Nat.blt op 6 then [s] else bif Nat.beq op 26 then spA G (mN y + (1 - z)) (spH y) [cmS (mN y + (1 - z)) s] else bif Nat.blt 15 op then [s] else prp G (op, a, x, y, z) s) = _
        rw [h1, cond_false, h2, cond_false]
      rw [e]
      cases h3 : Nat.blt 15 op with
      | false => rfl
      | true =>
        have h := Nat.blt_eq.mp h3
        unfold prp
        dsimp only
        rw [nbq (n := 6) (by omega), nbq (n := 7) (by omega), h2, nbq (n := 9) (by omega), nbq (n := 14) (by omega), nbq (n := 15) (by omega)]
        all_goals rfl
section PRP
variable {ad : Nat → Nat} {tys : List (ClassId × FieldType)} {G : List GC} {mods : List Nat} {w0 : va_W}
/-- some state of these stands for the same -/
noncomputable def PR (ad : Nat → Nat) (tys : List (ClassId × FieldType)) (G : List GC) (mods : List Nat) (w0 : va_W) (s : ST) (l : List ST) : Prop :=
  ∀ (σ : Nat → Int) (ws : va_W), inE σ s.2.1 → HK ad tys G mods w0 σ s.2.2.2.2 ws → ∃ s' ∈ l, ∃ σ' : Nat → Int, ext s.2.1.length σ σ' ∧ s.2.1.length ≤ s'.2.1.length ∧ inE σ' s'.2.1 ∧ HK ad tys G mods w0 σ' s'.2.2.2.2 ws ∧ s'.1 = s.1 ∧ s'.2.2.1.map (cvp ad σ') = s.2.2.1.map (cvp ad σ) ∧ s'.2.2.2.1.map (conc ad σ') = s.2.2.2.1.map (conc ad σ)
theorem PR_self {s : ST} : PR ad tys G mods w0 s [s] := fun σ ws hσ hH => ⟨s, List.mem_singleton.mpr rfl, σ, ext_rf, Nat.le_refl _, hσ, hH, rfl, rfl, rfl⟩
theorem PR_bind {s : ST} {l : List ST} {f : ST → List ST} (h : PR ad tys G mods w0 s l) (hf : ∀ t, PR ad tys G mods w0 t (f t)) : PR ad tys G mods w0 s (l.flatMap f) := by
  intro σ ws hσ hH
  obtain ⟨t, ht, τ, a1, a2, a3, a4, a5, a6, a7⟩ := h σ ws hσ hH
  obtain ⟨u, hu, ρ, b1, b2, b3, b4, b5, b6, b7⟩ := hf t τ ws a3 a4
  exact ⟨u, List.mem_flatMap.mpr ⟨t, ht, hu⟩, ρ, ext_tr a2 a1 b1, Nat.le_trans a2 b2, b3, b4, b5.trans a5, b6.trans a6, b7.trans a7⟩
theorem PR_one {s t : ST} {l : List ST} (h : PR ad tys G mods w0 s [t]) (hf : PR ad tys G mods w0 t l) : PR ad tys G mods w0 s l := by
  intro σ ws hσ hH
  obtain ⟨t', ht, τ, a1, a2, a3, a4, a5, a6, a7⟩ := h σ ws hσ hH
  have e := List.mem_singleton.mp ht
  subst e
  obtain ⟨u, hu, ρ, b1, b2, b3, b4, b5, b6, b7⟩ := hf τ ws a3 a4
  exact ⟨u, hu, ρ, ext_tr a2 a1 b1, Nat.le_trans a2 b2, b3, b4, b5.trans a5, b6.trans a6, b7.trans a7⟩
theorem wfA_le {n m : Nat} (h : n ≤ m) {v : AV} (hw : wfA n v = true) : wfA m v = true := by
  unfold wfA at hw ⊢
  rw [Bool.and_eq_true] at hw ⊢
  exact ⟨wfT_le h hw.1, wfT_le h hw.2⟩
theorem cmA_ok {σ : Nat → Int} {E : EV} {v : AV} (hσ : inE σ E) (hw : wfA E.length v = true) : ∃ σ', ext E.length σ σ' ∧ E.length ≤ (cmA E v).1.length ∧ inE σ' (cmA E v).1 ∧ conc ad σ' (cmA E v).2 = conc ad σ v ∧ wfA (cmA E v).1.length (cmA E v).2 = true := by
  unfold cmA
  cases hm : mulT v with
  | false => exact ⟨σ, ext_rf, Nat.le_refl _, hσ, rfl, hw⟩
  | true =>
    rw [cond_true]
    cases hi : iv E v.2.1 with
    | none => exact ⟨σ, ext_rf, Nat.le_refl _, hσ, rfl, hw⟩
    | some u =>
      have p := iv_ok hσ hi
      unfold mulT at hm
      rw [Bool.and_eq_true] at hm
      have ht := Nat.le_of_ble_eq_true hm.1
      refine ⟨upS σ E.length (ev σ v.2.1), up_ext, by simp, inE_push hσ p.1 p.2, ?_, ?_⟩
      · have e : ev (upS σ E.length (ev σ v.2.1)) (lfS E.length) = ev σ v.2.1 := by rw [lfS_ev, up_self]
        rcases (show v.1 = 0 ∨ v.1 = 1 by omega) with q | q
        · rw [conc0 (v := (v.1, lfS E.length, lf0)) (by rw [q]; rfl), conc0 (v := v) (by rw [q]; rfl), e]
        · rw [conc1 (v := (v.1, lfS E.length, lf0)) (by rw [q]; rfl), conc1 (v := v) (by rw [q]; rfl), e]
      · show wfA (E ++ [u]).length (v.1, lfS E.length, lf0) = true
        unfold wfA lfS lf0
        simp [wfT_cons, wfT_nil]
theorem cmL_ok : ∀ {l : List AV} {σ : Nat → Int} {E : EV}, inE σ E → l.all (fun v => wfA E.length v) = true → ∃ σ', ext E.length σ σ' ∧ E.length ≤ (cmL E l).1.length ∧ inE σ' (cmL E l).1 ∧ (cmL E l).2.map (conc ad σ') = l.map (conc ad σ)
  | [], σ, E, hσ, _ => ⟨σ, ext_rf, Nat.le_refl _, hσ, by unfold cmL; rfl⟩
  | v :: t, σ, E, hσ, hw => by
    rw [List.all_cons, Bool.and_eq_true] at hw
    obtain ⟨σ1, a1, a2, a3, a4, a5⟩ := cmA_ok (ad := ad) hσ hw.1
    obtain ⟨σ2, b1, b2, b3, b4⟩ := cmL_ok (l := t) a3 (List.all_eq_true.mpr fun x hx => wfA_le a2 (List.all_eq_true.mp hw.2 x hx))
    unfold cmL
    refine ⟨σ2, ext_tr a2 a1 b1, Nat.le_trans a2 b2, b3, ?_⟩
    rw [List.map_cons, List.map_cons, conc_ext b1 a5, a4, b4]
    rw [List.map_congr_left (f := conc ad σ1) (g := conc ad σ) (fun x hx => conc_ext a1 (List.all_eq_true.mp hw.2 x hx))]
theorem cmS_ok {n : Nat} {s : ST} : PR ad tys G mods w0 s [cmS n s] := by
  intro σ ws hσ hH
  refine ⟨_, List.mem_singleton.mpr rfl, ?_⟩
  unfold cmS
  cases hc : ((s.2.2.2.1.take n).any mulT && wfS s.2.1.length s.2.2.1 s.2.2.2.1 s.2.2.2.2) with
  | false => exact ⟨σ, ext_rf, Nat.le_refl _, hσ, hH, rfl, rfl, rfl⟩
  | true =>
    rw [cond_true]
    rw [Bool.and_eq_true] at hc
    have hw := hc.2
    have hw2 := hw
    rw [wfS_def] at hw2
    rw [Bool.and_eq_true, Bool.and_eq_true] at hw2
    obtain ⟨σ1, a1, a2, a3, a4⟩ := cmL_ok (ad := ad) (l := s.2.2.2.1.take n) hσ (List.all_eq_true.mpr fun x hx => List.all_eq_true.mp hw2.2.1 x (List.mem_of_mem_take hx))
    obtain ⟨e1, -, e3⟩ := wfS_ok (ad := ad) hw a1
    refine ⟨σ1, a1, a2, a3, ⟨hH.1, e3 ws hH.2.1, hH.2.2⟩, rfl, e1, ?_⟩
    show ((cmL s.2.1 (s.2.2.2.1.take n)).2 ++ s.2.2.2.1.drop n).map (conc ad σ1) = s.2.2.2.1.map (conc ad σ)
    rw [List.map_append, a4, List.map_congr_left (f := conc ad σ1) (g := conc ad σ) (fun x hx => conc_ext a1 (List.all_eq_true.mp hw2.2.1 x (List.mem_of_mem_drop hx))), ← List.map_append, List.take_append_drop]
theorem rf2_ok {σ : Nat → Int} {E : EV} {f : LF} {p : Int × Int} (hσ : inE σ E) (h1 : p.1 ≤ ev σ f) (h2 : ev σ f ≤ p.2) : ∃ E', rf2 E f p = some E' ∧ inE σ E' ∧ E'.length = E.length := by
  obtain ⟨E1, a1, a2, a3⟩ := brT_ok hσ (x := 3) (d := lfSub f (lfC p.1)) (by show 0 ≤ ev σ _; rw [lfSub_ev, lfC_ev]; omega)
  obtain ⟨E2, b1, b2, b3⟩ := brT_ok a2 (x := 5) (d := lfSub f (lfC p.2)) (by show ev σ _ ≤ 0; rw [lfSub_ev, lfC_ev]; omega)
  exact ⟨E2, by unfold rf2; rw [a1]; exact b1, b2, b3.trans a3⟩
theorem frk_ok {σ : Nat → Int} {f : LF} {s : ST} (hσ : inE σ s.2.1) : ∀ {pts : List (Int × Int)} {p : Int × Int}, p ∈ pts → p.1 ≤ ev σ f → ev σ f ≤ p.2 → ∃ E', (s.1, E', s.2.2) ∈ frk f s pts ∧ inE σ E' ∧ E'.length = s.2.1.length
  | q :: t, p, hp, h1, h2 => by
    unfold frk
    rcases List.mem_cons.mp hp with rfl | hp
    · obtain ⟨E', a1, a2, a3⟩ := rf2_ok hσ h1 h2
      rw [a1]
      exact ⟨E', List.mem_cons_self, a2, a3⟩
    · obtain ⟨E', a1, a2, a3⟩ := frk_ok hσ hp h1 h2
      cases rf2 s.2.1 f q with
      | none => exact ⟨E', a1, a2, a3⟩
      | some _ => exact ⟨E', List.mem_cons_of_mem _ a1, a2, a3⟩
theorem frkC_ok {pts : List (Int × Int)} {f : LF} {s : ST} : PR ad tys G mods w0 s (frkC pts f s) := by
  unfold frkC
  cases hi : iv s.2.1 f with
  | none => exact PR_self
  | some u =>
    dsimp only
    cases hc : cov pts u.1 u.2 with
    | false => exact PR_self
    | true =>
      rw [cond_true]
      intro σ ws hσ hH
      have b := iv_ok hσ hi
      obtain ⟨p, p1, p2, p3⟩ := cov_ok hc b.1 b.2
      obtain ⟨E', a1, a2, a3⟩ := frk_ok (f := f) hσ p1 p2 p3
      exact ⟨_, a1, σ, ext_rf, Nat.le_of_eq a3.symm, a2, hH, rfl, rfl, rfl⟩
theorem nsp_ok {f : LF} {s : ST} : PR ad tys G mods w0 s (nsp f s) := by
  unfold nsp
  cases iv s.2.1 f with
  | none => exact PR_self
  | some u =>
    dsimp only
    cases (leI u.1 (-1) && (leI 1 u.2 && leI (u.2 - u.1) 6)) with
    | false => exact PR_self
    | true => exact frkC_ok
theorem ldS_ok {c j : Nat} {s s' : ST} {o : Option LF} (h : ldS G c j s = (s', o)) : PR ad tys G mods w0 s [s'] := by
  unfold ldS at h
  cases hv : ovAt c j s.2.2.2.2 with
  | some v => rw [hv] at h; cases h; exact PR_self
  | none =>
    rw [hv] at h
    dsimp only at h
    cases hg : G[c]? with
    | none => rw [hg] at h; cases h; exact PR_self
    | some g =>
      rw [hg] at h
      dsimp only at h
      cases hs : segAt g.2 j with
      | none => rw [hs] at h; cases h; exact PR_self
      | some sp =>
        rw [hs] at h
        dsimp only at h
        cases hc : (Nat.beq g.1.1 1 && (Nat.blt j g.1.2.2 && (Nat.beq sp.1 0 && wfS s.2.1.length s.2.2.1 s.2.2.2.1 s.2.2.2.2))) with
        | false => rw [hc] at h; cases h; exact PR_self
        | true =>
          rw [hc, cond_true] at h
          cases h
          rw [Bool.and_eq_true, Bool.and_eq_true, Bool.and_eq_true] at hc
          obtain ⟨c1, c2, c3, c4⟩ := hc
          intro σ ws hσ hH
          obtain ⟨e, g1, g2, g3⟩ := hH.1 c g hg
          obtain ⟨⟨kd, ty, n⟩, segs⟩ := g
          have c1 : kd = 1 := Nat.eq_of_beq_eq_true c1
          have hjn : j < n := Nat.blt_eq.mp c2
          subst c1
          obtain ⟨cA, f, rfl, q1, q2⟩ := g2
          have hr : rdE (.inl (cA, n, .inl f)) j = some (.int (f j)) := by show (if j < n then _ else _) = _; rw [if_pos hjn]
          obtain ⟨sp', t1, t2⟩ := g3 j _ hr
          rw [hs] at t1
          cases t1
          unfold okv at t2
          rw [Nat.eq_of_beq_eq_true c3] at t2
          obtain ⟨z, z1, z2, z3⟩ := t2
          obtain ⟨e1, e2, e3⟩ := wfS_ok (ad := ad) c4 (up_ext (σ := σ) (z := z))
          refine ⟨_, List.mem_singleton.mpr rfl, upS σ s.2.1.length z, up_ext, by simp, inE_push hσ z2 z3, ⟨hH.1, ?_, hH.2.2⟩, rfl, e1, e2⟩
          intro q hq
          rcases List.mem_cons.mp hq with rfl | hq
          · rw [rd_at g1, hr, z1]
            show some (Value.int (Int32.ofInt z)) = some (Value.int (Int32.ofInt (ev _ (lfS _))))
            rw [lfS_ev, up_self]
          · exact e3 ws hH.2.1 q hq
theorem spD_ok {n : Nat} {q : SPD} {s : ST} : PR ad tys G mods w0 s (spD G n q s) := by
  unfold spD
  cases s.2.2.2.1[n - 1 - q.2.1]? with
  | none => exact PR_self
  | some v =>
    dsimp only
    cases Nat.beq v.1 0 with
    | false => exact PR_self
    | true =>
      rw [cond_true]
      cases Nat.beq q.1 0 with
      | true => exact frkC_ok
      | false =>
        rw [cond_false]
        cases iv s.2.1 v.2.1 with
        | none => exact PR_self
        | some u =>
          dsimp only
          cases (eqI u.1 u.2 && leI 0 u.1) with
          | false => exact PR_self
          | true =>
            rw [cond_true]
            cases hl : ldS G q.2.2.1 u.1.toNat s with
            | mk s' o =>
              cases o with
              | none => exact PR_self
              | some f => exact PR_one (ldS_ok hl) frkC_ok
theorem spA_ok {n : Nat} {s : ST} : ∀ {qs : List SPD} {l : List ST}, PR ad tys G mods w0 s l → PR ad tys G mods w0 s (spA G n qs l)
  | [], l, h => h
  | q :: t, l, h => spA_ok (qs := t) (PR_bind h (fun _ => spD_ok))
theorem prp_ok {xi : XI} {s : ST} : PR ad tys G mods w0 s (prp G xi s) := by
  obtain ⟨op, a, x, y, z⟩ := xi
  unfold prp
  dsimp only
  cases (Nat.beq op 6 || Nat.beq op 7) with
  | true => exact cmS_ok
  | false =>
  rw [cond_false]
  cases Nat.beq op 26 with
  | true => exact spA_ok cmS_ok
  | false =>
  rw [cond_false]
  cases (Nat.beq op 9 && Nat.blt 0 y) with
  | true =>
    rw [cond_true]
    cases lkA x s.2.2.1 with
    | none => exact PR_self
    | some v =>
      dsimp only
      cases Nat.beq v.1 0 with
      | true => exact frkC_ok
      | false => exact PR_self
  | false =>
  rw [cond_false]
  cases (Nat.beq op 14 && Nat.ble x 1) with
  | true =>
    rw [cond_true]
    cases s.2.2.2.1 with
    | nil => exact PR_self
    | cons v t =>
      dsimp only
      cases cmpQ s.2.1 v with
      | none => exact PR_self
      | some f =>
        dsimp only
        cases Nat.beq v.1 4 with
        | true => exact frkC_ok
        | false => exact nsp_ok
  | false =>
  rw [cond_false]
  cases (Nat.beq op 15 && Nat.ble x 1) with
  | true =>
    rw [cond_true]
    cases s.2.2.2.1 with
    | nil => exact PR_self
    | cons v t =>
    cases t with
    | nil => exact PR_self
    | cons u t2 =>
      dsimp only
      cases cmpI s.2.1 u v with
      | none => exact PR_self
      | some f => exact nsp_ok
  | false => exact PR_self
end PRP
end
