section SNF
variable {l : Launch} {D : va_G} {tys : List (ClassId × FieldType)} {A : Nat → Prop} {k d : Nat} {post : Option Value → va_W → Prop} {ad : Nat → Nat} {G : List GC} {mods : List Nat} {w0 : va_W}
variable {σ : Nat → Int} {E : EV} {als : AL} {ast : List AV} {ov : OV} {ws : va_W} {pc : Nat} {sts : List ST}
theorem stOK_ok {v : AV} {sp : Nat × Int × Int} (h : stOK E v sp = true) (hσ : inE σ E) : okv ad sp (conc ad σ v) ∧ Nat.beq v.1 sp.1 = true ∧ sp.1 ≤ 1 ∧ sp.2.1 ≤ ev σ v.2.1 ∧ ev σ v.2.1 ≤ sp.2.2 := by
  unfold stOK at h
  cases h1 : iv E v.2.1 with
  | none => rw [h1] at h; cases h
  | some u =>
    rw [h1] at h
    dsimp only at h
    rw [Bool.and_eq_true, Bool.and_eq_true, Bool.and_eq_true, leI_iff, leI_iff] at h
    obtain ⟨a1, a2, a3, a4⟩ := h
    have p := iv_ok hσ h1
    have q := Nat.le_of_ble_eq_true a2
    refine ⟨?_, a1, q, by omega, by omega⟩
    obtain ⟨t, lo, hi⟩ := sp
    dsimp only at a1 a3 a4 q
    have e := Nat.eq_of_beq_eq_true a1
    rcases t with _ | _ | t
    · exact ⟨_, conc0 a1, by show lo ≤ _; omega, by show _ ≤ hi; omega⟩
    · exact ⟨_, conc1 a1, by show lo ≤ _; omega, by show _ ≤ hi; omega⟩
    · omega
theorem bool_nar {z : Int} (h0 : 0 ≤ z) (h1 : z ≤ 1) : Int32.ofInt z &&& 1 = Int32.ofInt z ∧ fits .boolean (.int (Int32.ofInt z)) = true := by
  have : z = 0 ∨ z = 1 := by omega
  rcases this with rfl | rfl
  · exact ⟨by decide, by decide⟩
  · exact ⟨by decide, by decide⟩
theorem tyOK_ok {v : AV} {ty : FieldType} {sp : Nat × Int × Int} (h : tyOK ty sp = true) (hv : Nat.beq v.1 sp.1 = true) (h1 : sp.2.1 ≤ ev σ v.2.1) (h2 : ev σ v.2.1 ≤ sp.2.2) : narrow ty (conc ad σ v) = conc ad σ v ∧ fits ty (conc ad σ v) = true := by
  unfold tyOK at h
  have e := Nat.eq_of_beq_eq_true hv
  match ty, h with
  | .int, h =>
    have e2 := Nat.eq_of_beq_eq_true h
    rw [e2] at hv
    rw [conc0 hv]
    exact ⟨rfl, rfl⟩
  | .boolean, h =>
    have h : (Nat.beq sp.1 0 && (leI 0 sp.2.1 && leI sp.2.2 1)) = true := h
    rw [Bool.and_eq_true, Bool.and_eq_true, leI_iff, leI_iff] at h
    have e2 := Nat.eq_of_beq_eq_true h.1
    rw [e2] at hv
    rw [conc0 hv]
    have b := bool_nar (z := ev σ v.2.1) (by omega) (by omega)
    exact ⟨by show Value.int (_ &&& 1) = _; rw [b.1], b.2⟩
  | .long, h =>
    have e2 := Nat.eq_of_beq_eq_true h
    rw [e2] at hv
    rw [conc1 hv]
    exact ⟨rfl, rfl⟩
  | .byte, h => cases h
  | .char, h => cases h
  | .short, h => cases h
  | .float, h => cases h
  | .double, h => cases h
  | .object _, h => cases h
  | .array _, h => cases h
theorem getf_ok {a : Int} {x y z : Nat} {r : AV} {t : List AV} {g : GC} (hi : mI k pc = (17, a, x, y, z)) (hr : Nat.beq r.1 2 = true) (hg : G[r.2.1.1.toNat]? = some g) (hb : (Nat.beq g.1.1 0 && Nat.beq g.1.2.1 y && Nat.blt z g.1.2.2) = true) (h : loadAt r.2.1.1.toNat z g (pc + 3) E als t ov = some sts) (hσ : inE σ E) (hH : HK ad tys G mods w0 σ ov ws) (kk : KN l D tys A k d post ad G mods w0 E.length σ sts) : V l D tys A k d 0 0 post 0 0 pc (als.map (cvp ad σ)) ((r :: t).map (conc ad σ)) ws := by
  rw [Bool.and_eq_true, Bool.and_eq_true] at hb
  obtain ⟨⟨b1, b2⟩, b3⟩ := hb
  replace b1 := Nat.eq_of_beq_eq_true b1
  replace b2 := Nat.eq_of_beq_eq_true b2
  replace b3 := Nat.blt_eq.mp b3
  obtain ⟨e, g1, g2, g3⟩ := hH.1 _ g hg
  obtain ⟨⟨kd, ty, n⟩, segs⟩ := g
  dsimp only at b1 b2 b3
  subst b1; subst b2
  obtain ⟨fs, rfl, hl⟩ := g2
  rw [List.map_cons, conc2 hr]
  have hv : fs[z]? = some fs[z] := List.getElem?_eq_getElem (by omega)
  refine V_get hi g1 hv ?_
  exact load_ok h hσ hH hg (by rw [rd_at g1]; exact hv) kk
theorem putf_ok {a : Int} {x y z : Nat} {v r : AV} {t : List AV} {g : GC} {sp : Nat × Int × Int} (hi : mI k pc = (18, a, x, y, z)) (hr : Nat.beq r.1 2 = true) (hg : G[r.2.1.1.toNat]? = some g) (hb : (Nat.beq g.1.1 0 && Nat.beq g.1.2.1 y && Nat.blt z g.1.2.2 && memN r.2.1.1.toNat mods && nfin y z && !(Nat.beq r.2.1.1.toNat mnC && spX mods z)) = true) (hs : segAt g.2 z = some sp) (ho : (stOK E v sp && tyOK (clTy y z) sp) = true) (hσ : inE σ E) (hH : HK ad tys G mods w0 σ ov ws) (kk : KN l D tys A k d post ad G mods w0 E.length σ [(pc + 3, E, als, t, ((r.2.1.1.toNat, z), v) :: ovDel r.2.1.1.toNat z ov)]) : V l D tys A k d 0 0 post 0 0 pc (als.map (cvp ad σ)) ((v :: r :: t).map (conc ad σ)) ws := by
  rw [Bool.and_eq_true, Bool.and_eq_true, Bool.and_eq_true, Bool.and_eq_true, Bool.and_eq_true] at hb
  obtain ⟨⟨⟨⟨⟨b1, b2⟩, b3⟩, b4⟩, b5⟩, b6⟩ := hb
  have b6 : ¬ (r.2.1.1.toNat = mnC ∧ spX mods z = true) := fun q => by rw [q.1, q.2, Nat.beq_refl] at b6; exact absurd b6 (by decide)
  replace b1 := Nat.eq_of_beq_eq_true b1
  replace b2 := Nat.eq_of_beq_eq_true b2
  replace b3 := Nat.blt_eq.mp b3
  have b4 := memN_in b4
  rw [Bool.and_eq_true] at ho
  obtain ⟨o1, o2, o3, o4, o5⟩ := stOK_ok (ad := ad) ho.1 hσ
  obtain ⟨n1, n2⟩ := tyOK_ok (ad := ad) (v := v) ho.2 o2 o4 o5
  obtain ⟨e, g1, g2, g3⟩ := hH.1 _ g hg
  obtain ⟨⟨kd, ty, n⟩, segs⟩ := g
  dsimp only at b1 b2 b3
  subst b1; subst b2
  obtain ⟨fs, rfl, hl⟩ := g2
  rw [List.map_cons, List.map_cons, conc2 hr]
  refine V_put hi g1 (by omega) (fun C T N hc => ?_) n1 n2 ?_
  · unfold nfin at b5
    rw [hc] at b5
    simpa using b5
  · obtain ⟨u1, u2⟩ := GOK_upd (e' := .inr (ty, fs.set z (conc ad σ v))) hH.1 hg g1 ⟨_, rfl, by rw [List.length_set]; exact hl⟩ (rdE_obj (by omega) _) hs o1
    exact one_ok kk hσ ⟨u1, OV_put hH.2.1 u2, FRm_upd hH.2.2 u2 b4 b6⟩
theorem byte_fit {z : Int} (h0 : -128 ≤ z) (h1 : z ≤ 127) : vp_nar .byte (Int32.ofInt z) = Int32.ofInt z := by
  rw [vp_nar_byte]
  have e : (Int32.ofInt z).toInt = z := Int32.toInt_ofInt_of_le (by omega) (by omega)
  apply Int32.toInt_inj.mp
  rw [Int8.toInt_toInt32, Int32.toInt_toInt8, e]
  exact Int.bmod_eq_of_le (by omega) (by omega)
theorem byte_any (v : Int32) : ∃ z : Int, vp_nar .byte v = Int32.ofInt z ∧ -128 ≤ z ∧ z ≤ 127 := by
  rw [vp_nar_byte]
  generalize v.toInt8 = b
  refine ⟨b.toInt, ?_, ?_, ?_⟩
  · apply Int32.toInt_inj.mp
    rw [Int8.toInt_toInt32, Int32.toInt_ofInt_of_le (by have := b.le_toInt; omega) (by have := b.toInt_lt; omega)]
  · have := b.le_toInt; omega
  · have := b.toInt_lt; omega
theorem arr_st {c x : Nat} {g : GC} {e : va_E} {z : Int} {a : Int} {y q : Nat} {lv : List (Nat × Value)} {st : List Value} {v : AV} {w : Int × Int × Bool} (hi : mI k pc = (20, a, x, y, q)) (he : ws[c]? = some (ad c, e)) (hs : shE tys g.1 e) (hk : akind g x = true) (h3 : Nat.beq x 3 = false) (hvt : Nat.beq v.1 (bif Nat.beq x 2 then 1 else 0) = true) (hc : cutB E g v = some w) (hσ : inE σ E) (h0 : 0 ≤ z) (hn : z < (g.1.2.2 : Int)) (hm : z ≤ 2147483647) :
    ∃ (e' : va_E) (v' : Value), shE tys g.1 e' ∧ (∀ j', rdE e' j' = if j' = z.toNat then some v' else rdE e j') ∧ (∀ sp : Nat × Int × Int, sp.1 = v.1 → sp.2.1 ≤ w.1 → w.2.1 ≤ sp.2.2 → okv ad sp v') ∧ (w.2.2 = true → v' = conc ad σ v) ∧ (V l D tys A k d 0 0 post 0 0 (pc + 1) lv st (ws.set c (ad c, e')) → V l D tys A k d 0 0 post 0 0 pc lv (conc ad σ v :: .int (Int32.ofInt z) :: .ref (ad c) :: st) ws) := by
  obtain ⟨⟨kd, ty, n⟩, segs⟩ := g
  have hn' : z.toNat < n := by have : z < (n : Int) := hn; omega
  obtain ⟨i1, i2⟩ := idx_ok h0 hn hm
  unfold akind at hk
  unfold cutB at hc
  cases hiv : iv E v.2.1 with
  | none => rw [hiv] at hc; cases hc
  | some u =>
    rw [hiv] at hc
    have p := iv_ok hσ hiv
    match kd, ty, hk, hs, hc with
    | 1, 0, hk, hs, hc =>
      have ex := Nat.eq_of_beq_eq_true hk
      subst ex
      have hvt : Nat.beq v.1 0 = true := hvt
      have ev0 := Nat.eq_of_beq_eq_true hvt
      have hc : some (u.1, u.2, true) = some w := hc
      cases hc
      obtain ⟨cA, f, rfl, q1, q2⟩ := hs
      refine ⟨.inl (cA, n, .inl (upd f z.toNat (Int32.ofInt (ev σ v.2.1)))), .int (Int32.ofInt (ev σ v.2.1)), ⟨cA, _, rfl, q1, q2⟩, rdE_int f hn' _, fun sp s1 s2 s3 => ?_, fun _ => (conc0 hvt).symm, fun K => ?_⟩
      · obtain ⟨t, lo, hi⟩ := sp
        have s1 : t = 0 := s1.trans ev0
        subst s1
        exact ⟨_, rfl, Int.le_trans s2 p.1, Int.le_trans p.2 s3⟩
      · rw [conc0 hvt]
        rw [← i2] at K
        exact V_iast hi he q1 i1 K
    | 1, 1, hk, hs, hc =>
      have ex := Nat.eq_of_beq_eq_true hk
      subst ex
      have hvt : Nat.beq v.1 0 = true := hvt
      have ev0 := Nat.eq_of_beq_eq_true hvt
      obtain ⟨cA, f, rfl, q1, q2⟩ := hs
      refine ⟨.inl (cA, n, .inl (upd f z.toNat (vp_nar .byte (Int32.ofInt (ev σ v.2.1))))), .int (vp_nar .byte (Int32.ofInt (ev σ v.2.1))), ⟨cA, _, rfl, q1, q2⟩, rdE_int f hn' _, fun sp s1 s2 s3 => ?_, fun hw => ?_, fun K => ?_⟩
      · obtain ⟨t, lo, hi⟩ := sp
        have s1 : t = 0 := s1.trans ev0
        subst s1
        have hc : (bif leI (-128) u.1 && leI u.2 127 then some (u.1, u.2, true) else some (-128, 127, false)) = some w := hc
        cases hb : (leI (-128) u.1 && leI u.2 127) with
        | true =>
          rw [hb] at hc
          cases hc
          rw [Bool.and_eq_true, leI_iff, leI_iff] at hb
          rw [byte_fit (by omega) (by omega)]
          exact ⟨_, rfl, Int.le_trans s2 p.1, Int.le_trans p.2 s3⟩
        | false =>
          rw [hb] at hc
          cases hc
          obtain ⟨z', z1, z2, z3⟩ := byte_any (Int32.ofInt (ev σ v.2.1))
          rw [z1]
          exact ⟨_, rfl, Int.le_trans s2 z2, Int.le_trans z3 s3⟩
      · have hc : (bif leI (-128) u.1 && leI u.2 127 then some (u.1, u.2, true) else some (-128, 127, false)) = some w := hc
        cases hb : (leI (-128) u.1 && leI u.2 127) with
        | true =>
          rw [Bool.and_eq_true, leI_iff, leI_iff] at hb
          rw [byte_fit (by omega) (by omega), conc0 hvt]
        | false =>
          rw [hb] at hc
          cases hc
          cases hw
      · rw [conc0 hvt]
        rw [← i2] at K
        exact V_bast hi he q1 i1 K
    | 1, 2, hk, hs, hc =>
      have ex := Nat.eq_of_beq_eq_true hk
      subst ex
      have hvt : Nat.beq v.1 0 = true := hvt
      have ev0 := Nat.eq_of_beq_eq_true hvt
      obtain ⟨cA, f, rfl, q1, q2⟩ := hs
      have hc : (bif leI 0 u.1 && leI u.2 1 then some (u.1, u.2, true) else none) = some w := hc
      cases hb : (leI 0 u.1 && leI u.2 1) with
      | false => rw [hb] at hc; cases hc
      | true =>
        rw [hb] at hc
        cases hc
        rw [Bool.and_eq_true, leI_iff, leI_iff] at hb
        have bn : vp_nar .boolean (Int32.ofInt (ev σ v.2.1)) = Int32.ofInt (ev σ v.2.1) := (bool_nar (by omega) (by omega)).1
        refine ⟨.inl (cA, n, .inl (upd f z.toNat (vp_nar .boolean (Int32.ofInt (ev σ v.2.1))))), .int (vp_nar .boolean (Int32.ofInt (ev σ v.2.1))), ⟨cA, _, rfl, q1, q2⟩, rdE_int f hn' _, fun sp s1 s2 s3 => ?_, fun hw => by rw [bn, conc0 hvt], fun K => ?_⟩
        · obtain ⟨t, lo, hi⟩ := sp
          have s1 : t = 0 := s1.trans ev0
          subst s1
          rw [bn]
          exact ⟨_, rfl, Int.le_trans s2 p.1, Int.le_trans p.2 s3⟩
        · rw [conc0 hvt]
          rw [← i2] at K
          exact V_zast hi he q1 i1 K
    | 2, ty, hk, hs, hc =>
      have ex := Nat.eq_of_beq_eq_true hk
      subst ex
      have hvt : Nat.beq v.1 1 = true := hvt
      have ev0 := Nat.eq_of_beq_eq_true hvt
      have hc : some (u.1, u.2, true) = some w := hc
      cases hc
      obtain ⟨cA, f, rfl, q1⟩ := hs
      refine ⟨.inl (cA, n, .inr (.inl (vp_updL f z.toNat (Int64.ofInt (ev σ v.2.1))))), .long (Int64.ofInt (ev σ v.2.1)), ⟨cA, _, rfl, q1⟩, rdE_long f hn' _, fun sp s1 s2 s3 => ?_, fun _ => (conc1 hvt).symm, fun K => ?_⟩
      · obtain ⟨t, lo, hi⟩ := sp
        have s1 : t = 1 := s1.trans ev0
        subst s1
        exact ⟨_, rfl, Int.le_trans s2 p.1, Int.le_trans p.2 s3⟩
      · rw [conc1 hvt]
        rw [← i2] at K
        exact V_last hi he q1 i1 K
    | 3, t, hk, hs, hc =>
      have ex := Nat.eq_of_beq_eq_true hk
      subst ex
      cases h3
    | 0, t, hk, hs, hc => cases hk
    | 1, t + 3, hk, hs, hc => cases hk
    | kd + 4, t, hk, hs, hc => cases hk
theorem astore_ok {a : Int} {x y q : Nat} (hi : mI k pc = (20, a, x, y, q)) (h : astore x (pc + 1) E als ast ov G mods = some sts) (hσ : inE σ E) (hH : HK ad tys G mods w0 σ ov ws) (kk : KN l D tys A k d post ad G mods w0 E.length σ sts) : V l D tys A k d 0 0 post 0 0 pc (als.map (cvp ad σ)) (ast.map (conc ad σ)) ws := by
  unfold astore at h
  match ast, h with
  | [], h => cases h
  | [_], h => cases h
  | [_, _], h => cases h
  | v :: i :: r :: t, h =>
    dsimp only at h
    cases h1 : (Nat.beq i.1 0 && Nat.beq r.1 2) with
    | false => rw [h1] at h; cases h
    | true =>
      rw [h1, cond_true] at h
      rw [Bool.and_eq_true] at h1
      cases h2 : G[r.2.1.1.toNat]? with
      | none => rw [h2] at h; cases h
      | some g =>
        cases h3 : iv E i.2.1 with
        | none => rw [h2, h3] at h; cases h
        | some u =>
          rw [h2, h3] at h
          dsimp only at h
          cases h4 : (akind g x && (leI 0 u.1 && leI (u.2 + 1) (g.1.2.2 : Int)) && inI u && memN r.2.1.1.toNat mods && Nat.beq v.1 (bif Nat.beq x 2 then 1 else 0) && !(Nat.beq x 3) && !(Nat.beq r.2.1.1.toNat mnC)) with
          | false => rw [h4] at h; cases h
          | true =>
            rw [h4, cond_true] at h
            simp only [Bool.and_eq_true, leI_iff, Bool.not_eq_true'] at h4
            obtain ⟨⟨⟨⟨⟨⟨k1, k2, k3⟩, k4⟩, k5⟩, k6⟩, k7⟩, k8⟩ := h4
            have k8 : ¬ r.2.1.1.toNat = mnC := fun q => by rw [q, Nat.beq_refl] at k8; exact absurd k8 (by decide)
            have k4 := inI_of k4
            have k5 := memN_in k5
            have p := iv_ok hσ h3
            cases h5 : cutB E g v with
            | none => rw [h5] at h; cases h
            | some w =>
              rw [h5] at h
              dsimp only at h
              obtain ⟨e, g1, g2, g3⟩ := hH.1 _ g h2
              obtain ⟨e', v', s1, s2, s3, s4, s5⟩ := arr_st (l := l) (D := D) (tys := tys) (A := A) (d := d) (post := post) (ad := ad) (lv := als.map (cvp ad σ)) (st := t.map (conc ad σ)) (z := ev σ i.2.1) hi g1 g2 k1 k7 k6 h5 hσ (by omega) (by omega) (by omega)
              rw [List.map_cons, List.map_cons, List.map_cons, conc0 h1.1, conc2 h1.2]
              refine s5 ?_
              cases h6 : eqI u.1 u.2 with
              | true =>
                rw [h6, cond_true] at h
                have h6 := eqI_iff.mp h6
                have ez : u.1 = ev σ i.2.1 := by omega
                rw [ez] at h
                cases h7 : segAt g.2 (ev σ i.2.1).toNat with
                | none => rw [h7] at h; cases h
                | some sp =>
                  rw [h7] at h
                  dsimp only at h
                  cases h8 : (Nat.beq sp.1 v.1 && (leI sp.2.1 w.1 && leI w.2.1 sp.2.2)) with
                  | false => rw [h8] at h; cases h
                  | true =>
                    rw [h8, cond_true] at h
                    rw [Bool.and_eq_true, Bool.and_eq_true, leI_iff, leI_iff] at h8
                    obtain ⟨u1, u2⟩ := GOK_upd hH.1 h2 g1 s1 s2 h7 (s3 sp (Nat.eq_of_beq_eq_true h8.1) h8.2.1 h8.2.2)
                    have fr := FRm_upd hH.2.2 u2 k5 (fun q => k8 q.1)
                    cases h10 : w.2.2 with
                    | true =>
                      rw [h10, cond_true] at h
                      cases h
                      rw [s4 h10] at u2
                      exact one_ok kk hσ ⟨u1, OV_put hH.2.1 u2, fr⟩
                    | false =>
                      rw [h10, cond_false] at h
                      cases h
                      exact one_ok kk hσ ⟨u1, OV_del hH.2.1 u2, fr⟩
              | false =>
                rw [h6, cond_false] at h
                cases h7 : allIn g.2 v.1 w.1 w.2.1 (plc E i.2.1 u) with
                | false => rw [h7] at h; cases h
                | true =>
                  rw [h7] at h
                  cases h
                  obtain ⟨sp, t1, t2, t3, t4⟩ := allIn_ok h7 (plc_mem hσ p.1 p.2)
                  obtain ⟨u1, u2⟩ := GOK_upd hH.1 h2 g1 s1 s2 t1 (s3 sp t2 t3 t4)
                  exact one_ok kk hσ ⟨u1, OV_delR hH.2.1 u2 (by omega) (by omega), FRm_upd hH.2.2 u2 k5 (fun q => k8 q.1)⟩
theorem swA_ok {d0 : Nat} {f : LF} (hσ : inE σ E) (hH : HK ad tys G mods w0 σ ov ws) : ∀ {ts : List Nat} {n : Int}, KN l D tys A k d post ad G mods w0 E.length σ (swA d0 f E als ast ov n ts) → n ≤ ev σ f → V l D tys A k d 0 0 post 0 0 (if n + ts.length ≤ ev σ f then d0 else ts.getD (ev σ f - n).toNat d0) (als.map (cvp ad σ)) (ast.map (conc ad σ)) ws
  | [], n, kk, h => by
    rw [if_pos (by simpa using h)]
    exact br1_ok (x := 3) hσ hH (by show 0 ≤ ev σ _; rw [lfSub_ev, lfC_ev]; omega) kk
  | t :: r, n, kk, h => by
    unfold swA at kk
    obtain ⟨k1, k2⟩ := KN_app kk
    by_cases e : ev σ f = n
    · rw [if_neg (by simp; omega), e, Int.sub_self]
      exact br1_ok (x := 0) hσ hH (by show ev σ _ = 0; rw [lfSub_ev, lfC_ev]; omega) k1
    · have K := swA_ok hσ hH k2 (by omega)
      have e1 : (n + 1 + (r.length : Int) ≤ ev σ f) ↔ (n + ((t :: r).length : Int) ≤ ev σ f) := by simp; omega
      have e2 : (t :: r).getD (ev σ f - n).toNat d0 = r.getD (ev σ f - (n + 1)).toNat d0 := by
        rw [show (ev σ f - n).toNat = (ev σ f - (n + 1)).toNat + 1 by omega]
        simp
      rw [e2]
      simp only [e1] at K
      exact K
theorem sw_ok {x y z : Nat} {a : Int} {op : Nat} {v : AV} {t : List AV} {f : LF} (hop : op = 28 ∨ op = 36) (hi : mI k pc = (op, a, x, y, z)) (hc : cmpQ E v = some f) (hv : Nat.beq v.1 0 = true) (hσ : inE σ E) (hH : HK ad tys G mods w0 σ ov ws) (kk : ∀ d0 lo ts, mSw k pc = (d0, lo, ts) → KN l D tys A k d post ad G mods w0 E.length σ (br1 (brT E 2 (lfSub f (lfC lo))) d0 als t ov ++ swA d0 f E als t ov lo ts)) : V l D tys A k d 0 0 post 0 0 pc (als.map (cvp ad σ)) ((v :: t).map (conc ad σ)) ws := by
  have key : ∃ z : Int, conc ad σ v = .int (Int32.ofInt z) ∧ (Int32.ofInt z).toInt = ev σ f := by
    unfold cmpQ at hc
    have e0 := Nat.eq_of_beq_eq_true hv
    obtain ⟨tg, p, q⟩ := v
    dsimp only at e0
    subst e0
    dsimp only at hc
    cases h1 : iv E p with
    | none => rw [h1] at hc; cases hc
    | some u =>
      rw [h1] at hc
      dsimp only at hc
      cases h2 : inI u with
      | false => rw [h2] at hc; cases hc
      | true =>
        rw [h2] at hc
        have hc : p = f := Option.some.inj hc
        subst hc
        have a1 := iv_ok hσ h1
        have a2 := inI_of h2
        exact ⟨ev σ p, rfl, Int32.toInt_ofInt_of_le (by omega) (by omega)⟩
  obtain ⟨z', e1, e2⟩ := key
  rw [List.map_cons, e1]
  have goalK : V l D tys A k d 0 0 post 0 0 (swT k pc (Int32.ofInt z').toInt) (als.map (cvp ad σ)) (t.map (conc ad σ)) ws := by
    rw [e2]
    unfold swT
    cases hsw : mSw k pc with
    | mk d0 q =>
      obtain ⟨lo, ts⟩ := q
      obtain ⟨k1, k2⟩ := KN_app (kk d0 lo ts hsw)
      dsimp only
      by_cases hlo : ev σ f < lo
      · rw [if_pos (Or.inl hlo)]
        exact br1_ok (x := 2) hσ hH (by show ev σ _ < 0; rw [lfSub_ev, lfC_ev]; omega) k1
      · have K := swA_ok hσ hH k2 (by omega)
        have e3 : (ev σ f < lo ∨ lo + (ts.length : Int) ≤ ev σ f) ↔ (lo + (ts.length : Int) ≤ ev σ f) := ⟨fun h => h.resolve_left hlo, Or.inr⟩
        simp only [e3]
        exact K
  rcases hop with rfl | rfl
  · exact V_sw hi goalK
  · exact V_swl hi goalK
end SNF
