/-! further steps: what lies outside the object's own cells, and the place that only grows -/
theorem xs_len : xsT.length = 24 := by decide +kernel
theorem xs_byt : xsT.all (fun q => q.2.2.2.all (fun b => decide (97 ≤ b.toInt) && decide (b.toInt ≤ 122))) = true := by decide +kernel
theorem xs_at {i : Nat} (h : i < 24) : ∃ q, xsT[i]? = some q := ⟨_, List.getElem?_eq_getElem (by rw [xs_len]; exact h)⟩
theorem xs_bd {i j : Nat} {q : String × Nat × String × List Int32} (hq : xsT[i]? = some q) (hj : j < q.2.2.2.length) : 97 ≤ (q.2.2.2.getD j 0).toInt ∧ (q.2.2.2.getD j 0).toInt ≤ 122 := by
  have h := List.all_eq_true.mp (List.all_eq_true.mp xs_byt q (List.mem_of_getElem? hq)) (q.2.2.2.getD j 0) (by rw [List.getD_eq_getElem?_getD, List.getElem?_eq_getElem hj]; exact List.getElem_mem hj)
  rw [Bool.and_eq_true, decide_eq_true_eq, decide_eq_true_eq] at h
  exact h
noncomputable def mono1 (E : EV) (ov : OV) (v : AV) : Bool := match ovAt mnC mnJ ov with
  | some o => Nat.beq o.1 0 && (match iv E o.2.1, iv E v.2.1, iv E (lfSub v.2.1 o.2.1) with
    | some u, some w, some r => inI u && inI w && leI 0 r.1
    | _, _, _ => false)
  | none => false
noncomputable def stp2 (G : List GC) (mods : List Nat) (xi : XI) (pc : Nat) (E : EV) (als : AL) (ast : List AV) (ov : OV) : Option (OUT ⊕ List ST) := match xi with
  | (op, a, x, y, z) =>
    bif Nat.beq op 23 then (bif Nat.beq y 0 then some (.inr [(pc + 3, E, als, iA (lfC 1) :: ast, ov)]) else some (.inr [(pc + 3, E, als, rA 1200 :: ast, ov), (pc + 3, E, als, nA :: ast, ov)]))
    else bif Nat.beq op 35 then some (.inr [(pc + 2, E, als, rA ((1000 + y : Nat) : Int) :: ast, ov)])
    else bif Nat.beq op 39 then (match ast with
      | r :: t => bif Nat.beq r.1 2 && (Nat.ble 1000 r.2.1.1.toNat && Nat.blt r.2.1.1.toNat 1024) then some (.inr [(pc + 3, E, als, (bif Nat.beq y 0 then rA ((r.2.1.1.toNat + 100 : Nat) : Int) else iA (lfC 0)) :: t, ov)]) else none
      | [] => none)
    else bif Nat.beq op 21 then (match ast with
      | r :: t => bif Nat.beq r.1 2 && Nat.ble 1100 r.2.1.1.toNat then (match xsT[r.2.1.1.toNat - 1100]? with
        | some q => some (.inr [(pc + 1, E, als, iA (lfC (q.2.2.2.length : Int)) :: t, ov)])
        | none => none) else none
      | [] => none)
    else bif Nat.beq op 19 then (match ast with
      | i :: r :: t => bif Nat.beq x 1 && (Nat.beq i.1 0 && (Nat.beq r.1 2 && Nat.ble 1100 r.2.1.1.toNat)) then (match xsT[r.2.1.1.toNat - 1100]?, iv E i.2.1 with
        | some q, some u => bif leI 0 u.1 && (leI (u.2 + 1) (q.2.2.2.length : Int) && inI u) then (pushR (.inr (97, 122)) (pc + 1) E als t ov).map .inr else none
        | _, _ => none) else none
      | _ => none)
    else bif Nat.beq op 38 then (match ast with
      | [v] => (match iv E v.2.1 with
        | some u => bif Nat.beq v.1 0 && (leI 0 u.1 && leI u.2 127) then some (.inl (E, some v, ov)) else none
        | none => none)
      | _ => none)
    else bif Nat.beq op 12 then (match ast with
      | v :: t => bif Nat.beq x 5 && Nat.beq v.1 0 then (match iv E v.2.1 with
        | some u => bif leI 0 u.1 && leI u.2 65535 then some (.inr [(pc + 1, E, als, v :: t, ov)]) else none
        | none => none) else none
      | [] => none)
    else bif Nat.beq op 22 then (match ast with
      | v :: u :: t => bif Nat.beq v.1 1 || Nat.beq u.1 1 then none else bif Nat.beq x 3 then some (.inr [(pc + 1, E, als, v :: u :: v :: t, ov)])
        else bif Nat.beq x 4 then (match t with
          | w :: t2 => bif Nat.beq w.1 1 then none else some (.inr [(pc + 1, E, als, v :: u :: w :: v :: t2, ov)])
          | [] => none) else none
      | _ => none)
    else bif Nat.beq op 18 then (match ast with
      | v :: r :: t => bif Nat.beq r.1 2 && (Nat.beq r.2.1.1.toNat mnC && (Nat.beq z mnJ && memN mnC mods)) then (match G[mnC]? with
        | some g => bif Nat.beq g.1.1 0 && Nat.beq g.1.2.1 y && Nat.blt mnJ g.1.2.2 && nfin y mnJ then (match segAt g.2 mnJ with
            | some sp => bif stOK E v sp && tyOK (clTy y mnJ) sp && (Nat.beq v.1 0 && mono1 E ov v) then some (.inr [(pc + 3, E, als, t, ((mnC, mnJ), v) :: ovDel mnC mnJ ov)]) else none
            | none => none) else none
        | none => none) else none
      | _ => none)
    else none
section SNX
variable {l : Launch} {D : va_G} {tys : List (ClassId × FieldType)} {A : Nat → Prop} {k d : Nat} {post : Option Value → va_W → Prop} {ad : Nat → Nat} {G : List GC} {mods : List Nat} {w0 : va_W}
variable {σ : Nat → Int} {E : EV} {als : AL} {ast : List AV} {ov : OV} {ws : va_W} {pc : Nat} {r : OUT ⊕ List ST}
theorem cat_ne {v : AV} (h : Nat.beq v.1 1 = false) : (conc ad σ v).category = 1 := by
  have q := conc_cat (ad := ad) (σ := σ) v
  rw [h] at q
  rcases lv_cat (conc ad σ v) with c | c
  · exact c
  · rw [c] at q; exact absurd q (by decide)
theorem small_char {z : Int} (h0 : 0 ≤ z) (h1 : z ≤ 127) : (Int32.ofInt z).toUInt32.toUInt16.toUInt32.toInt32 = Int32.ofInt z ∧ (Int32.ofInt z).toInt8.toInt32 = Int32.ofInt z := by
  have : ∀ n : Nat, n < 128 → (Int32.ofInt (n : Int)).toUInt32.toUInt16.toUInt32.toInt32 = Int32.ofInt (n : Int) ∧ (Int32.ofInt (n : Int)).toInt8.toInt32 = Int32.ofInt (n : Int) := by decide +kernel
  have h := this z.toNat (by omega)
  rw [Int.toNat_of_nonneg h0] at h
  exact h
theorem i2c_id {z : Int} (h0 : 0 ≤ z) (h1 : z ≤ 65535) : ((Int32.ofInt z).toUInt32 % 65536).toInt32 = Int32.ofInt z := by
  obtain ⟨n, rfl⟩ := Int.eq_ofNat_of_zero_le h0
  have hn : n < 65536 := by omega
  have e : (Int32.ofInt (n : Int)).toUInt32 = UInt32.ofNat n := rfl
  rw [e]
  have e2 : UInt32.ofNat n % 65536 = UInt32.ofNat n := by
    apply UInt32.toNat_inj.mp
    rw [UInt32.toNat_mod]
    simp only [UInt32.toNat_ofNat']
    show n % 4294967296 % 65536 = n % 4294967296
    omega
  rw [e2]
  rfl
theorem stp2_ok (hAD : ∀ i : Nat, ad (1000 + i) = D.2 1000 i) {xi : XI} (hx : mI k pc = xi) (h : stp2 G mods xi pc E als ast ov = some r) (hσ : inE σ E) (hH : HK ad tys G mods w0 σ ov ws) (kk : GO l D tys A k d post ad G mods w0 E.length σ r) : V l D tys A k d 0 0 post 0 0 pc (als.map (cvp ad σ)) (ast.map (conc ad σ)) ws := by
  obtain ⟨op, a, x, y, z⟩ := xi
  unfold stp2 at h
  dsimp only at h
  have hAE : ∀ c : Nat, 1000 ≤ c → ad c = D.2 1000 (c - 1000) := fun c hc => by
    have q := hAD (c - 1000)
    rw [show 1000 + (c - 1000) = c by omega] at q
    exact q
  cases c23 : Nat.beq op 23 with
  | true =>
    rw [c23, cond_true] at h
    have e := Nat.eq_of_beq_eq_true c23
    subst e
    cases y0 : Nat.beq y 0 with
    | true =>
      rw [y0, cond_true] at h
      have ey := Nat.eq_of_beq_eq_true y0
      cases h
      have K := one_ok (ws' := ws) kk hσ hH
      rw [List.map_cons, show conc ad σ (iA (lfC 1)) = .int 1 by show Value.int (Int32.ofInt (ev σ (lfC 1))) = _; rw [lfC_ev]; rfl] at K
      exact V_gets hx (fun _ => K) (fun hy => absurd ey hy) (fun hy => absurd ey hy)
    | false =>
      rw [y0, cond_false] at h
      cases h
      have K1 : V l D tys A k d 0 0 post 0 0 (pc + 3) (als.map (cvp ad σ)) (conc ad σ (rA 1200) :: ast.map (conc ad σ)) ws := kk _ List.mem_cons_self σ ws ext_rf (Nat.le_refl _) hσ hH
      have K2 : V l D tys A k d 0 0 post 0 0 (pc + 3) (als.map (cvp ad σ)) (conc ad σ nA :: ast.map (conc ad σ)) ws := kk _ (List.mem_cons_of_mem _ List.mem_cons_self) σ ws ext_rf (Nat.le_refl _) hσ hH
      rw [show conc ad σ (rA 1200) = .ref (D.2 1000 200) by rw [← hAD]; rfl] at K1
      exact V_gets hx (fun hy => absurd (show Nat.beq y 0 = true by rw [hy]; rfl) (by rw [y0]; exact Bool.false_ne_true)) (fun _ => K1) (fun _ => K2)
  | false =>
  rw [c23, cond_false] at h
  cases c35 : Nat.beq op 35 with
  | true =>
    rw [c35, cond_true] at h
    have e := Nat.eq_of_beq_eq_true c35
    subst e
    cases h
    have K := one_ok (ws' := ws) kk hσ hH
    rw [List.map_cons, show conc ad σ (rA ((1000 + y : Nat) : Int)) = .ref (D.2 1000 y) by rw [← hAD]; rfl] at K
    exact V_ldcS hx K
  | false =>
  rw [c35, cond_false] at h
  cases c39 : Nat.beq op 39 with
  | true =>
    rw [c39, cond_true] at h
    have e := Nat.eq_of_beq_eq_true c39
    subst e
    cases ast with
    | nil => cases h
    | cons q t =>
      dsimp only at h
      cases h1 : (Nat.beq q.1 2 && (Nat.ble 1000 q.2.1.1.toNat && Nat.blt q.2.1.1.toNat 1024)) with
      | false => rw [h1] at h; cases h
      | true =>
        rw [h1] at h
        cases h
        rw [Bool.and_eq_true, Bool.and_eq_true] at h1
        obtain ⟨b1, b2, b3⟩ := h1
        have b2 := Nat.le_of_ble_eq_true b2
        have b3 := Nat.blt_eq.mp b3
        obtain ⟨w, hw⟩ := xs_at (i := q.2.1.1.toNat - 1000) (by omega)
        have K := one_ok (ws' := ws) kk hσ hH
        rw [List.map_cons] at K
        rw [List.map_cons, conc2 b1, hAE _ b2]
        refine V_getX hx hw (fun hy => ?_) (fun hy => ?_)
        · subst hy
          have K : V l D tys A k d 0 0 post 0 0 (pc + 3) (als.map (cvp ad σ)) (conc ad σ (rA ((q.2.1.1.toNat + 100 : Nat) : Int)) :: t.map (conc ad σ)) ws := K
          rw [show conc ad σ (rA ((q.2.1.1.toNat + 100 : Nat) : Int)) = .ref (D.2 1000 (100 + (q.2.1.1.toNat - 1000))) by
            show Value.ref (ad (q.2.1.1.toNat + 100)) = _
            rw [hAE _ (by omega), show q.2.1.1.toNat + 100 - 1000 = 100 + (q.2.1.1.toNat - 1000) by omega]] at K
          exact K
        · rw [bif_f (by cases hb : Nat.beq y 0 with | false => rfl | true => exact absurd (Nat.eq_of_beq_eq_true hb) hy)] at K
          rw [show conc ad σ (iA (lfC 0)) = .int 0 by show Value.int (Int32.ofInt (ev σ (lfC 0))) = _; rw [lfC_ev]; rfl] at K
          exact K
  | false =>
  rw [c39, cond_false] at h
  cases c21 : Nat.beq op 21 with
  | true =>
    rw [c21, cond_true] at h
    have e := Nat.eq_of_beq_eq_true c21
    subst e
    cases ast with
    | nil => cases h
    | cons q t =>
      dsimp only at h
      cases h1 : (Nat.beq q.1 2 && Nat.ble 1100 q.2.1.1.toNat) with
      | false => rw [h1] at h; cases h
      | true =>
        rw [h1, cond_true] at h
        rw [Bool.and_eq_true] at h1
        have b2 := Nat.le_of_ble_eq_true h1.2
        cases hw : xsT[q.2.1.1.toNat - 1100]? with
        | none => rw [hw] at h; cases h
        | some w =>
          rw [hw] at h
          cases h
          have K := one_ok (ws' := ws) kk hσ hH
          rw [List.map_cons, show conc ad σ (iA (lfC (w.2.2.2.length : Int))) = .int (Int32.ofNat w.2.2.2.length) by show Value.int (Int32.ofInt (ev σ (lfC _))) = _; rw [lfC_ev]; rfl] at K
          rw [List.map_cons, conc2 h1.1, hAE _ (by omega), show q.2.1.1.toNat - 1000 = 100 + (q.2.1.1.toNat - 1100) by omega]
          exact V_lenX hx hw K
  | false =>
  rw [c21, cond_false] at h
  cases c19 : Nat.beq op 19 with
  | true =>
    rw [c19, cond_true] at h
    have e := Nat.eq_of_beq_eq_true c19
    subst e
    cases ast with
    | nil => cases h
    | cons i t0 =>
    cases t0 with
    | nil => cases h
    | cons q t =>
      dsimp only at h
      cases h1 : (Nat.beq x 1 && (Nat.beq i.1 0 && (Nat.beq q.1 2 && Nat.ble 1100 q.2.1.1.toNat))) with
      | false => rw [h1] at h; cases h
      | true =>
        rw [h1, cond_true] at h
        rw [Bool.and_eq_true, Bool.and_eq_true, Bool.and_eq_true] at h1
        obtain ⟨b1, b2, b3, b4⟩ := h1
        have b1 := Nat.eq_of_beq_eq_true b1
        have b4 := Nat.le_of_ble_eq_true b4
        subst b1
        cases hw : xsT[q.2.1.1.toNat - 1100]? with
        | none => rw [hw] at h; cases h
        | some w =>
          cases hu : iv E i.2.1 with
          | none => rw [hw, hu] at h; cases h
          | some u =>
            rw [hw, hu] at h
            dsimp only at h
            cases h2 : (leI 0 u.1 && (leI (u.2 + 1) (w.2.2.2.length : Int) && inI u)) with
            | false => rw [h2] at h; cases h
            | true =>
              rw [h2, cond_true] at h
              rw [Bool.and_eq_true, Bool.and_eq_true, leI_iff, leI_iff] at h2
              obtain ⟨g1, g2, g3⟩ := h2
              have g3 := inI_of g3
              have p := iv_ok hσ hu
              obtain ⟨sts, e1, rfl⟩ := map_inr h
              obtain ⟨j1, j2⟩ := idx_ok (z := ev σ i.2.1) (n := w.2.2.2.length) (by omega) (by omega) (by omega)
              rw [List.map_cons, List.map_cons, conc0 b2, conc2 b3, hAE _ (by omega), show q.2.1.1.toNat - 1000 = 100 + (q.2.1.1.toNat - 1100) by omega]
              have bd := xs_bd (j := (Int32.ofInt (ev σ i.2.1)).toNatClampNeg) hw (by rw [j2]; omega)
              exact V_bldX hx hw j1 (pushR_ok e1 hσ hH ⟨(w.2.2.2.getD (Int32.ofInt (ev σ i.2.1)).toNatClampNeg 0).toInt, by rw [Int32.ofInt_toInt], bd.1, bd.2⟩ kk)
  | false =>
  rw [c19, cond_false] at h
  cases c38 : Nat.beq op 38 with
  | true =>
    rw [c38, cond_true] at h
    have e := Nat.eq_of_beq_eq_true c38
    subst e
    cases ast with
    | nil => cases h
    | cons v t =>
    cases t with
    | cons _ _ => cases h
    | nil =>
      dsimp only at h
      cases hu : iv E v.2.1 with
      | none => rw [hu] at h; cases h
      | some u =>
        rw [hu] at h
        dsimp only at h
        cases h1 : (Nat.beq v.1 0 && (leI 0 u.1 && leI u.2 127)) with
        | false => rw [h1] at h; cases h
        | true =>
          rw [h1] at h
          cases h
          rw [Bool.and_eq_true, Bool.and_eq_true, leI_iff, leI_iff] at h1
          have p := iv_ok hσ hu
          have R := ret_go (o := (E, some v, ov)) hσ hH kk
          obtain ⟨s1, s2⟩ := small_char (z := ev σ v.2.1) (by omega) (by omega)
          have R : post (some (conc ad σ v)) ws := R
          rw [conc0 h1.1] at R
          rw [List.map_cons, List.map_nil, conc0 h1.1]
          exact V_retX hx s1 s2 R
  | false =>
  rw [c38, cond_false] at h
  cases c12 : Nat.beq op 12 with
  | true =>
    rw [c12, cond_true] at h
    have e := Nat.eq_of_beq_eq_true c12
    subst e
    cases ast with
    | nil => cases h
    | cons v t =>
      dsimp only at h
      cases h1 : (Nat.beq x 5 && Nat.beq v.1 0) with
      | false => rw [h1] at h; cases h
      | true =>
        rw [h1, cond_true] at h
        rw [Bool.and_eq_true] at h1
        have b1 := Nat.eq_of_beq_eq_true h1.1
        subst b1
        cases hu : iv E v.2.1 with
        | none => rw [hu] at h; cases h
        | some u =>
          rw [hu] at h
          dsimp only at h
          cases h2 : (leI 0 u.1 && leI u.2 65535) with
          | false => rw [h2] at h; cases h
          | true =>
            rw [h2] at h
            cases h
            rw [Bool.and_eq_true, leI_iff, leI_iff] at h2
            have p := iv_ok hσ hu
            have K := one_ok (ws' := ws) kk hσ hH
            rw [List.map_cons, conc0 h1.2] at K
            rw [List.map_cons, conc0 h1.2]
            refine V_i2c hx ?_
            rw [i2c_id (by omega) (by omega)]
            exact K
  | false =>
  rw [c12, cond_false] at h
  cases c22 : Nat.beq op 22 with
  | true =>
    rw [c22, cond_true] at h
    have e := Nat.eq_of_beq_eq_true c22
    subst e
    cases ast with
    | nil => cases h
    | cons v t0 =>
    cases t0 with
    | nil => cases h
    | cons u t =>
      dsimp only at h
      cases h1 : (Nat.beq v.1 1 || Nat.beq u.1 1) with
      | true => rw [h1] at h; cases h
      | false =>
        rw [h1, cond_false] at h
        rw [Bool.or_eq_false_iff] at h1
        cases x3 : Nat.beq x 3 with
        | true =>
          rw [x3] at h
          have e := Nat.eq_of_beq_eq_true x3
          subst e
          cases h
          exact V_dupx1 hx (cat_ne h1.1) (cat_ne h1.2) (one_ok (ast' := v :: u :: v :: t) kk hσ hH)
        | false =>
          rw [x3, cond_false] at h
          cases x4 : Nat.beq x 4 with
          | false => rw [x4] at h; cases h
          | true =>
            rw [x4, cond_true] at h
            have e := Nat.eq_of_beq_eq_true x4
            subst e
            cases t with
            | nil => cases h
            | cons w t2 =>
              dsimp only at h
              cases h2 : Nat.beq w.1 1 with
              | true => rw [h2] at h; cases h
              | false =>
                rw [h2] at h
                cases h
                exact V_dupx2 hx (cat_ne h1.1) (cat_ne h1.2) (cat_ne h2) (one_ok (ast' := v :: u :: w :: v :: t2) kk hσ hH)
  | false =>
  rw [c22, cond_false] at h
  cases c18 : Nat.beq op 18 with
  | false => rw [c18] at h; cases h
  | true =>
    rw [c18, cond_true] at h
    have e := Nat.eq_of_beq_eq_true c18
    subst e
    cases ast with
    | nil => cases h
    | cons v t0 =>
    cases t0 with
    | nil => cases h
    | cons q t =>
      dsimp only at h
      cases h1 : (Nat.beq q.1 2 && (Nat.beq q.2.1.1.toNat mnC && (Nat.beq z mnJ && memN mnC mods))) with
      | false => rw [h1] at h; cases h
      | true =>
        rw [h1, cond_true] at h
        rw [Bool.and_eq_true, Bool.and_eq_true, Bool.and_eq_true] at h1
        obtain ⟨a1, a2, a3, a4⟩ := h1
        have a2 := Nat.eq_of_beq_eq_true a2
        have a3 := Nat.eq_of_beq_eq_true a3
        have a4 := memN_in a4
        subst a3
        cases h2 : G[mnC]? with
        | none => rw [h2] at h; cases h
        | some g =>
          rw [h2] at h
          dsimp only at h
          cases h3 : (Nat.beq g.1.1 0 && Nat.beq g.1.2.1 y && Nat.blt mnJ g.1.2.2 && nfin y mnJ) with
          | false => rw [h3] at h; cases h
          | true =>
            rw [h3, cond_true] at h
            rw [Bool.and_eq_true, Bool.and_eq_true, Bool.and_eq_true] at h3
            obtain ⟨⟨⟨b1, b2⟩, b3⟩, b5⟩ := h3
            replace b1 := Nat.eq_of_beq_eq_true b1
            replace b2 := Nat.eq_of_beq_eq_true b2
            replace b3 := Nat.blt_eq.mp b3
            cases h4 : segAt g.2 mnJ with
            | none => rw [h4] at h; cases h
            | some sp =>
              rw [h4] at h
              dsimp only at h
              cases h5 : (stOK E v sp && tyOK (clTy y mnJ) sp && (Nat.beq v.1 0 && mono1 E ov v)) with
              | false => rw [h5] at h; cases h
              | true =>
                rw [h5] at h
                cases h
                rw [Bool.and_eq_true, Bool.and_eq_true, Bool.and_eq_true] at h5
                obtain ⟨⟨s1, s2⟩, s3, s4⟩ := h5
                obtain ⟨o1, o2, o3, o4, o5⟩ := stOK_ok (ad := ad) s1 hσ
                obtain ⟨n1, n2⟩ := tyOK_ok (ad := ad) (v := v) s2 o2 o4 o5
                unfold mono1 at s4
                cases hov : ovAt mnC mnJ ov with
                | none => rw [hov] at s4; cases s4
                | some o =>
                  rw [hov] at s4
                  dsimp only at s4
                  rw [Bool.and_eq_true] at s4
                  obtain ⟨s4, s5⟩ := s4
                  have rdo := hH.2.1 _ (ovAt_mem hov)
                  rw [conc0 s4] at rdo
                  cases u1 : iv E o.2.1 with
                  | none => rw [u1] at s5; cases s5
                  | some u =>
                  cases u2 : iv E v.2.1 with
                  | none => rw [u1, u2] at s5; cases s5
                  | some w =>
                  cases u3 : iv E (lfSub v.2.1 o.2.1) with
                  | none => rw [u1, u2, u3] at s5; cases s5
                  | some rr =>
                  rw [u1, u2, u3] at s5
                  dsimp only at s5
                  rw [Bool.and_eq_true, Bool.and_eq_true, leI_iff] at s5
                  have p1 := iv_ok hσ u1
                  have p2 := iv_ok hσ u2
                  have p3 := iv_ok hσ u3
                  rw [lfSub_ev] at p3
                  have i1 := inI_of s5.1.1
                  have i2 := inI_of s5.1.2
                  have hle : (Int32.ofInt (ev σ o.2.1)).toInt ≤ (Int32.ofInt (ev σ v.2.1)).toInt := by
                    rw [Int32.toInt_ofInt_of_le (by omega) (by omega), Int32.toInt_ofInt_of_le (by omega) (by omega)]
                    omega
                  obtain ⟨e, g1, g2, g3⟩ := hH.1 _ g h2
                  obtain ⟨⟨kd, ty, n⟩, segs⟩ := g
                  dsimp only at b1 b2 b3
                  subst b1; subst b2
                  obtain ⟨fs, rfl, hl⟩ := g2
                  have hn : mnJ < fs.length := by rw [hl]; exact b3
                  rw [List.map_cons, List.map_cons, conc2 a1, a2]
                  refine V_put hx g1 hn (fun C T N hc => ?_) n1 n2 ?_
                  · unfold nfin at b5
                    rw [hc] at b5
                    simpa using b5
                  · obtain ⟨z1, z2⟩ := GOK_upd (e' := .inr (ty, fs.set mnJ (conc ad σ v))) hH.1 h2 g1 ⟨_, rfl, by rw [List.length_set]; exact hl⟩ (rdE_obj hn _) h4 o1
                    refine one_ok kk hσ ⟨z1, OV_put hH.2.1 z2, ?_⟩
                    rw [conc0 s3] at z2
                    rw [conc0 s3]
                    exact FRm_updM hH.2.2 z2 a4 rdo hle
end SNX
