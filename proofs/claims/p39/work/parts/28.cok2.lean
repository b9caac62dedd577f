theorem ofInt_le {i : Int} {n : Nat} (h0 : 0 ≤ i) (h1 : i.toNat < n) (h2 : n ≤ 60000) : vp_in (Int32.ofInt i) n ∧ (Int32.ofInt i).toNatClampNeg = i.toNat := idx_ok h0 (by omega) (by omega)
theorem setP_get {dv v : CV} : ∀ {l : List CV} {i j : Nat}, (setP dv i v l).getD j dv = if j = i then v else l.getD j dv
  | [], 0, 0 => by simp [setP]
  | [], 0, j + 1 => by simp [setP]
  | x :: t, 0, 0 => by simp [setP]
  | x :: t, 0, j + 1 => by simp [setP]
  | [], i + 1, 0 => by simp [setP]
  | [], i + 1, j + 1 => by
    unfold setP
    rw [List.getD_cons_succ, setP_get]
    simp
  | x :: t, i + 1, 0 => by simp [setP]
  | x :: t, i + 1, j + 1 => by
    unfold setP
    rw [List.getD_cons_succ, List.getD_cons_succ, setP_get]
    simp
theorem dv_ok {ad : Nat → Nat} {t : FieldType} (h : okT t = true) : defaultValue t = cnC ad (dv1 t) := by
  cases t <;> first | rfl | cases h
theorem tyR_ok {t : FieldType} {b : Nat} (h : tyR t = true) : narrow t (.ref b) = .ref b ∧ fits t (.ref b) = true := by
  cases t <;> first | exact ⟨rfl, rfl⟩ | cases h
section CXP
variable {l : Launch} {D : va_G} {tys : List (ClassId × FieldType)} {A : Nat → Prop} {lim : Nat → Nat × Nat} {k d : Nat}
variable {go : SC → Option (List CE)} {w w' : List CE} {c u pc : Nat} {L : List (Nat × CV)} {a : Int} {x y z : Nat}
theorem cLen_ok {st : List CV} (HT : ∀ t, t < 5 → tys[t]? = some (cid tys t, ftyp t)) (IH : ∀ pc L st w c u w', go (pc, L, st, w, c, u) = some w' → CGo l D tys A lim k d pc L st w c u w') (hi : mI k pc = (21, a, x, y, z)) (h : cLen go (pc + 1) L w c u st = some w') : CGo l D tys A lim k d pc L st w c u w' := by
  match st, h with
  | v :: r, h =>
    obtain ⟨e, h1, h2⟩ := ob h
    obtain ⟨h3, h4⟩ := bo h2
    rw [Bool.and_eq_true, Bool.or_eq_true, Bool.and_eq_true] at h3
    obtain ⟨g1, g2⟩ := h3
    refine cg_same (IH _ _ _ _ _ _ _ h4) rfl (fun ad post K => ?_)
    rw [List.map_cons, cnC2 g1]
    have he := cw_at (tys := tys) (ad := ad) h1
    rcases g2 with g2 | ⟨g2, g3⟩
    · rw [ce3 g2] at he
      exact V_alen hi he (HT 4 (by omega)) K
    · rw [ce1 g2, beN g3] at he
      exact V_alen hi he (HT 0 (by omega)) K
theorem cPut_ok {st : List CV} (IH : ∀ pc L st w c u w', go (pc, L, st, w, c, u) = some w' → CGo l D tys A lim k d pc L st w c u w') (hi : mI k pc = (18, a, x, y, z)) (h : cPut go k y z (pc + 3) L w c u st = some w') : CGo l D tys A lim k d pc L st w c u w' := by
  match st, h with
  | [_], h => cases h
  | v :: v2 :: r, h =>
    obtain ⟨e, h1, h2⟩ := ob h
    obtain ⟨h3, h4⟩ := bo h2
    simp only [Bool.and_eq_true] at h3
    obtain ⟨g1, g2, g3, g4, g5⟩ := h3
    refine cg_same (IH _ _ _ _ _ _ _ h4) (List.length_set ..) (fun ad post K => ?_)
    rw [List.map_cons, List.map_cons, cnC2 g1]
    have he := cw_at (tys := tys) (ad := ad) h1
    rw [ce0 g2, beN g3] at he
    rw [← cwF_set, Nat.zero_add] at K
    have K : V l D tys A k d (lim k).1 (lim k).2 post c u (pc + 3) (L.map (cnL ad)) (r.map (cnC ad)) ((cwF tys ad 0 w).set v2.2.toNat (ad v2.2.toNat, .inr (y, (e.2.2.2.set z v).map (cnC ad)))) := K
    rw [List.map_set] at K
    have hz : z < (e.2.2.2.map (cnC ad)).length := by rw [List.length_map]; exact Nat.blt_eq.mp g4
    unfold putC at g5
    rw [Bool.and_eq_true] at g5
    obtain ⟨p1, p2⟩ := g5
    have hnf : narrow (clTy y z) (cnC ad v) = cnC ad v ∧ fits (clTy y z) (cnC ad v) = true := by
      obtain ⟨t, q⟩ := v
      match t, p2 with
      | 0, p2 => have e := of_decide_eq_true p2; rw [e]; exact ⟨rfl, rfl⟩
      | 1, p2 => cases p2
      | 2, p2 => exact tyR_ok p2
      | t + 3, p2 => cases p2
    cases hc : vwCl[y]? with
    | none => rw [hc] at p1; cases p1
    | some q =>
      obtain ⟨C, T, N⟩ := q
      rw [hc] at p1
      cases hf : (T z).2.2.2 with
      | true =>
        have p1 : (bif (T z).2.2.2 then decide ((T z).1 = mOwn k) && decide ((mY k).name = "<init>") else true) = true := p1
        rw [hf, cond_true, Bool.and_eq_true] at p1
        exact V_putF hi he hz (fun C' T' N' hc' => by rw [hc] at hc'; cases hc'; exact ⟨hf, of_decide_eq_true p1.1⟩) (of_decide_eq_true p1.2) hnf.1 hnf.2 K
      | false => exact V_put hi he hz (fun C' T' N' hc' => by rw [hc] at hc'; cases hc'; exact hf) hnf.1 hnf.2 K
theorem cAst_ok {st : List CV} (HT : ∀ t, t < 5 → tys[t]? = some (cid tys t, ftyp t)) (IH : ∀ pc L st w c u w', go (pc, L, st, w, c, u) = some w' → CGo l D tys A lim k d pc L st w c u w') (hi : mI k pc = (20, a, x, y, z)) (h : cAst go x (pc + 1) L w c u st = some w') : CGo l D tys A lim k d pc L st w c u w' := by
  match st, h with
  | [_], h => cases h
  | [_, _], h => cases h
  | v :: i :: v2 :: r, h =>
    obtain ⟨e, h1, h2⟩ := ob h
    obtain ⟨h3, h4⟩ := bo h2
    simp only [Bool.and_eq_true, leI_iff] at h3
    obtain ⟨g1, g2, g3, g4, g5⟩ := h3
    obtain ⟨i1, i2⟩ := ofInt_le g3 (Nat.blt_eq.mp g4) (Nat.le_of_ble_eq_true g5)
    cases hb : (Nat.beq x 0 && (Nat.beq e.1 1 && (Nat.beq e.2.1 0 && Nat.beq v.1 0))) with
    | true =>
      rw [hb] at h4
      simp only [Bool.and_eq_true] at hb
      obtain ⟨b1, b2, b3, b4⟩ := hb
      cases beN b1
      refine cg_same (IH _ _ _ _ _ _ _ h4) (List.length_set ..) (fun ad post K => ?_)
      rw [List.map_cons, List.map_cons, List.map_cons, cnC0 b4, cnC0 g2, cnC2 g1]
      have he := cw_at (tys := tys) (ad := ad) h1
      rw [ce1 b2, beN b3] at he
      rw [← cwF_set, Nat.zero_add] at K
      have K : V l D tys A k d (lim k).1 (lim k).2 post c u (pc + 1) (L.map (cnL ad)) (r.map (cnC ad)) ((cwF tys ad 0 w).set v2.2.toNat (ad v2.2.toNat, .inl (cid tys 0, e.2.2.1, .inl (fun j => Int32.ofInt ((setP (0, 0) i.2.toNat v e.2.2.2).getD j (0, 0)).2)))) := K
      refine V_iast hi he (HT 0 (by omega)) i1 ?_
      rw [i2]
      have ef : upd (fun j => Int32.ofInt (e.2.2.2.getD j (0, 0)).2) i.2.toNat (Int32.ofInt v.2) = (fun j => Int32.ofInt ((setP (0, 0) i.2.toNat v e.2.2.2).getD j (0, 0)).2) := by
        funext j
        rw [setP_get]
        by_cases hj : j = i.2.toNat
        · rw [if_pos hj, hj, pk_us]
        · rw [if_neg hj, pk_un hj]
      rw [ef]
      exact K
    | false =>
      rw [hb] at h4
      obtain ⟨b, h5⟩ := bo h4
      obtain ⟨e2, h6, h7⟩ := ob h5
      obtain ⟨h8, h9⟩ := bo h7
      simp only [Bool.and_eq_true] at b h8
      obtain ⟨b1, b2, b4⟩ := b
      cases beN b1
      refine cg_same (IH _ _ _ _ _ _ _ h9) (List.length_set ..) (fun ad post K => ?_)
      rw [List.map_cons, List.map_cons, List.map_cons, cnC2 b4, cnC0 g2, cnC2 g1]
      have he := cw_at (tys := tys) (ad := ad) h1
      rw [ce3 b2] at he
      have he2 := cw_at (tys := tys) (ad := ad) h6
      rw [ce0 h8.1, beN h8.2] at he2
      rw [← cwF_set, Nat.zero_add] at K
      have K : V l D tys A k d (lim k).1 (lim k).2 post c u (pc + 1) (L.map (cnL ad)) (r.map (cnC ad)) ((cwF tys ad 0 w).set v2.2.toNat (ad v2.2.toNat, .inl (cid tys 4, e.2.2.1, .inr (.inr (.inr (.inr (fun j => rfC ad ((setP (3, 0) i.2.toNat v e.2.2.2).getD j (3, 0)))))))) ) := K
      obtain ⟨q, hcq, hq⟩ : ∃ q : vw_C, vwCl[2]? = some q ∧ q.1 = "HalvedNames$Hill" := ⟨_, rfl, rfl⟩
      refine V_aast (r := q) hi he (by rw [hq]; exact HT 4 (by omega)) he2 hcq i1 ?_
      rw [i2]
      have ef : va_up (fun j => rfC ad (e.2.2.2.getD j (3, 0))) i.2.toNat (some (ad v.2.toNat)) = (fun j => rfC ad ((setP (3, 0) i.2.toNat v e.2.2.2).getD j (3, 0))) := by
        funext j
        rw [setP_get]
        by_cases hj : j = i.2.toNat
        · rw [if_pos hj, hj, va_up_self]
          obtain ⟨t, q⟩ := v
          cases beN b4
          rfl
        · rw [if_neg hj, va_up_ne _ _ hj]
      rw [ef]
      exact K
noncomputable def upA (ad : Nat → Nat) (n q : Nat) : Nat → Nat := fun i => if i = n then q else ad i
theorem newC_ok {N pc2 : Nat} {e : CE} {st : List CV} (IH : ∀ pc L st w c u w', go (pc, L, st, w, c, u) = some w' → CGo l D tys A lim k d pc L st w c u w') (h : newC lim k N e pc2 L st w c u go = some w') : ∀ (ad : Nat → Nat) (post : Option Value → va_W → Prop), (∀ ad' : Nat → Nat, (∀ i, i < w.length → ad' i = ad i) → w.length ≤ w'.length → post none (cwF tys ad' 0 w')) → (c + 1 ≤ (lim k).1 ∧ u + N ≤ (lim k).2) ∧ ∀ q : Nat, V l D tys A k d (lim k).1 (lim k).2 post (c + 1) (u + N) pc2 (L.map (cnL ad)) (.ref q :: st.map (cnC ad)) (cwF tys ad 0 w ++ [(q, ceE tys (upA ad w.length q) e)]) := by
  obtain ⟨h1, h2⟩ := bo h
  rw [Bool.and_eq_true, Bool.and_eq_true] at h1
  obtain ⟨h1, h3, h4⟩ := h1
  intro ad post hp
  refine ⟨⟨Nat.le_of_ble_eq_true h1, Nat.le_of_ble_eq_true h3⟩, fun q => ?_⟩
  have hlt : ∀ i, i < w.length → upA ad w.length q i = ad i := fun i hi => if_neg (by omega)
  obtain ⟨e1, e2, e3⟩ := wfW_eq (tys := tys) h4 hlt
  have K := IH _ _ _ _ _ _ _ h2 (upA ad w.length q) post (fun ad' ha hl => hp ad' (fun i hi => by
    rw [ha i (by rw [List.length_append]; omega), hlt i hi]) (by rw [List.length_append] at hl; omega))
  rw [List.map_cons, cwF_app, e1, e2, e3, Nat.zero_add] at K
  have eq : upA ad w.length q w.length = q := if_pos rfl
  rw [eq] at K
  have ec : cnC (upA ad w.length q) (2, (w.length : Int)) = .ref q := by
    show Value.ref (upA ad w.length q (w.length : Int).toNat) = .ref q
    rw [Int.toNat_natCast, eq]
  rw [ec] at K
  exact K
theorem cNew_ok {st : List CV} (IH : ∀ pc L st w c u w', go (pc, L, st, w, c, u) = some w' → CGo l D tys A lim k d pc L st w c u w') (hi : mI k pc = (32, a, x, y, z)) (h : cNew lim go k y (pc + 3) L st w c u = some w') : CGo l D tys A lim k d pc L st w c u w' := by
  obtain ⟨⟨C, T, N⟩, h1, h2⟩ := ob h
  obtain ⟨h3, h4⟩ := bo h2
  intro ad post hp
  obtain ⟨b1, b2⟩ := newC_ok (tys := tys) IH h4 ad post hp
  refine V_new (fs := (dflN y N).map (cnC ad)) hi h1 (fun j hj => ?_) b1 (fun q => ?_)
  · have hk := List.all_eq_true.mp h3 j (List.mem_range.mpr hj)
    show _ = ((dflN y N).map (cnC ad)).getD j .null
    unfold dflN
    rw [List.getD_eq_getElem?_getD, List.getElem?_map, List.getElem?_map, List.getElem?_range hj]
    exact dv_ok hk
  · have K := b2 q
    have e : ceE tys (upA ad w.length q) (0, y, N, dflN y N) = .inr (y, (dflN y N).map (cnC ad)) := by
      show Sum.inr (y, (dflN y N).map (cnC (upA ad w.length q))) = _
      have : (dflN y N).map (cnC (upA ad w.length q)) = (dflN y N).map (cnC ad) := by
        refine List.map_congr_left (fun v hv => ?_)
        unfold dflN at hv
        obtain ⟨j, hj, rfl⟩ := List.mem_map.mp hv
        have hk := List.all_eq_true.mp h3 j hj
        rw [← dv_ok hk, dv_ok (ad := ad) hk]
      rw [this]
    have K : V l D tys A k d (lim k).1 (lim k).2 post (c + 1) (u + N) (pc + 3) (L.map (cnL ad)) (.ref q :: st.map (cnC ad)) (cwF tys ad 0 w ++ [(q, ceE tys (upA ad w.length q) (0, y, N, dflN y N))]) := K
    rw [e] at K
    exact K
theorem nwa_dec (hi : mI k pc = (33, a, x, y, z)) : decode (mCode k) pc = .ok (.newarray (match x with | 0 => .int | 1 => .byte | 2 => .boolean | _ => .long), 2) := by
  have t : ok33 k pc a x y z = true := by have t := tabOK k pc; rw [hi] at t; exact t
  unfold ok33 at t
  match x, t with
  | 0, t => exact dec_of t
  | 1, t => exact dec_of t
  | 2, t => exact dec_of t
  | x + 3, t => exact dec_of t
theorem cNwa_ok {st : List CV} (HT : ∀ t, t < 5 → tys[t]? = some (cid tys t, ftyp t)) (IH : ∀ pc L st w c u w', go (pc, L, st, w, c, u) = some w' → CGo l D tys A lim k d pc L st w c u w') (hi : mI k pc = (33, a, x, y, z)) (h : cNwa lim go k x (pc + 2) L w c u st = some w') : CGo l D tys A lim k d pc L st w c u w' := by
  match st, h with
  | v :: r, h =>
    obtain ⟨h1, h2⟩ := bo h
    simp only [Bool.and_eq_true, leI_iff] at h1
    obtain ⟨g1, g2, g3⟩ := h1
    intro ad post hp
    rw [List.map_cons, cnC0 g1, show v.2 = ((v.2.toNat : Nat) : Int) from (Int.toNat_of_nonneg g2).symm]
    have hN : v.2.toNat ≤ 60000 := by omega
    have hd0 := nwa_dec hi
    match x, h2 with
    | 0, h2 =>
      obtain ⟨b1, b2⟩ := newC_ok (tys := tys) IH h2 ad post hp
      exact V_newaI (t := 0) hd0 rfl (HT 0 (by omega)) (by omega) wa_int hN b1 (fun cA => rfl) (by decide) (fun q => b2 q)
    | 1, h2 =>
      obtain ⟨b1, b2⟩ := newC_ok (tys := tys) IH h2 ad post hp
      exact V_newaI (t := 1) hd0 rfl (HT 1 (by omega)) (by omega) wa_byte hN b1 (fun cA => rfl) (by decide) (fun q => b2 q)
    | 2, h2 =>
      obtain ⟨b1, b2⟩ := newC_ok (tys := tys) IH h2 ad post hp
      exact V_newaI (t := 2) hd0 rfl (HT 2 (by omega)) (by omega) wa_bool hN b1 (fun cA => rfl) (by decide) (fun q => b2 q)
    | 3, h2 =>
      obtain ⟨b1, b2⟩ := newC_ok (tys := tys) IH h2 ad post hp
      exact V_newaL hd0 (HT 3 (by omega)) hN b1 (fun q => b2 q)
    | x + 4, h2 => cases h2
theorem cNwq_ok {st : List CV} (HT : ∀ t, t < 5 → tys[t]? = some (cid tys t, ftyp t)) (IH : ∀ pc L st w c u w', go (pc, L, st, w, c, u) = some w' → CGo l D tys A lim k d pc L st w c u w') (hi : mI k pc = (34, a, x, y, z)) (h : cNwq lim go k x (pc + 3) L w c u st = some w') : CGo l D tys A lim k d pc L st w c u w' := by
  match st, h with
  | v :: r, h =>
    obtain ⟨h1, h2⟩ := bo h
    simp only [Bool.and_eq_true, leI_iff] at h1
    obtain ⟨g1, g2, g3, g4, g5⟩ := h1
    cases beN g4
    have t : ok34 k pc a 21 y z = true := by have t := tabOK k pc; rw [hi] at t; exact t
    intro ad post hp
    rw [List.map_cons, cnC0 g1, show v.2 = ((v.2.toNat : Nat) : Int) from (Int.toNat_of_nonneg g2).symm]
    obtain ⟨b1, b2⟩ := newC_ok (tys := tys) IH h2 ad post hp
    exact V_newq (dec_of t) (of_decide_eq_true g5) (HT 4 (by omega)) (by omega) b1 (fun q => b2 q)
theorem cCal_ok {ih : CIH} {st : List CV} (IH : ∀ d k pc L st w c u w', ih d k (pc, L, st, w, c, u) = some w' → CGo l D tys A lim k d pc L st w c u w') (hi : mI k pc = (26, a, x, y, 2)) (h : cCal lim ih k y (pc + 3) L w c u d st = some w') : CGo l D tys A lim k d pc L st w c u w' := by
  match d, st, h with
  | 0, [], h => cases h
  | 0, _ :: _, h => cases h
  | d + 1, [], h => cases h
  | d + 1, v :: r, h =>
    obtain ⟨h1, h2⟩ := bo h
    obtain ⟨w2, h3, h4⟩ := ob h2
    simp only [Bool.and_eq_true, decide_eq_true_eq] at h1
    obtain ⟨g1, g2, g3, g4, g5, g6, g7, g8, g9⟩ := h1
    intro ad post hp
    rw [List.map_cons, cnC2 g1]
    have K1 := IH _ _ _ _ _ _ _ _ _ h3 ad (fun rv ws' => rv = none ∧ ∃ ad' : Nat → Nat, (∀ i, i < w.length → ad' i = ad i) ∧ w.length ≤ w2.length ∧ ws' = cwF tys ad' 0 w2) (fun ad' ha hl => ⟨rfl, ad', ha, hl, rfl⟩)
    have K1 : V l D tys A y d (lim y).1 (lim y).2 (fun rv ws' => rv = none ∧ ∃ ad' : Nat → Nat, (∀ i, i < w.length → ad' i = ad i) ∧ w.length ≤ w2.length ∧ ws' = cwF tys ad' 0 w2) 0 0 0 (lv_args 0 [cnC ad v]) [] (cwF tys ad 0 w) := K1
    rw [cnC2 g1] at K1
    have hc := CT_of_V (Nat.blt_eq.mp g2) (Nat.le_trans (Nat.le_refl 1) (Nat.le_of_ble_eq_true g5)) K1
    have hcs := cat_sum (r.map (cnC ad))
    rw [List.length_map] at hcs
    have g6 := Nat.le_of_ble_eq_true g6
    refine V_spec (As := []) hi (Nat.blt_eq.mp g2) g4 hc (Nat.lt_succ_self d) (beN g3).symm (by omega) ⟨Nat.le_of_ble_eq_true g7, Nat.le_of_ble_eq_true g8⟩ (fun rv ws' hr => ?_)
    obtain ⟨rfl, ad', ha, hl, rfl⟩ := hr
    obtain ⟨e1, e2, e3⟩ := wfW_eq (tys := tys) g9 ha
    have K := IH _ _ _ _ _ _ _ _ _ h4 ad' post (fun ad2 h5 h6 => hp ad2 (fun i hi => by rw [h5 i (by omega), ha i hi]) (by omega))
    rw [e1, e2] at K
    exact K
theorem cxO_ok {ih : CIH} {op : Nat} {st : List CV} (HT : ∀ t, t < 5 → tys[t]? = some (cid tys t, ftyp t)) (IH : ∀ d k pc L st w c u w', ih d k (pc, L, st, w, c, u) = some w' → CGo l D tys A lim k d pc L st w c u w') (hi : mI k pc = (op, a, x, y, z)) (h : cxO lim ih d k op a x y z pc L st w c u = some w') : CGo l D tys A lim k d pc L st w c u w' := by
  unfold cxO at h
  cases h1 : Nat.beq op 1 with
  | true =>
    rw [h1] at h; cases beN h1
    exact cg_same (IH _ _ _ _ _ _ _ _ _ h) rfl (fun ad post K => V_ipush hi K)
  | false =>
  rw [h1] at h
  cases h1 : Nat.beq op 5 with
  | true => rw [h1] at h; cases beN h1; exact cLdA_ok (IH _ _) hi h
  | false =>
  rw [h1] at h
  cases h1 : Nat.beq op 3 with
  | true => rw [h1] at h; cases beN h1; exact cLdI_ok (IH _ _) hi h
  | false =>
  rw [h1] at h
  cases h1 : Nat.beq op 6 with
  | true => rw [h1] at h; cases beN h1; exact cSt_ok (IH _ _) hi h
  | false =>
  rw [h1] at h
  cases h1 : Nat.beq op 9 with
  | true => rw [h1] at h; cases beN h1; exact cInc_ok (IH _ _) hi h
  | false =>
  rw [h1] at h
  cases h1 : Nat.beq op 15 with
  | true => rw [h1] at h; cases beN h1; exact cCmp_ok (IH _ _) hi h
  | false =>
  rw [h1] at h
  cases h1 : Nat.beq op 16 with
  | true =>
    rw [h1] at h; cases beN h1
    exact cg_same (IH _ _ _ _ _ _ _ _ _ h) rfl (fun ad post K => V_goto hi K)
  | false =>
  rw [h1] at h
  cases h1 : Nat.beq op 17 with
  | true => rw [h1] at h; cases beN h1; exact cGet_ok (IH _ _) hi h
  | false =>
  rw [h1] at h
  cases h1 : Nat.beq op 18 with
  | true => rw [h1] at h; cases beN h1; exact cPut_ok (IH _ _) hi h
  | false =>
  rw [h1] at h
  cases h1 : Nat.beq op 20 with
  | true => rw [h1] at h; cases beN h1; exact cAst_ok HT (IH _ _) hi h
  | false =>
  rw [h1] at h
  cases h1 : Nat.beq op 21 with
  | true => rw [h1] at h; cases beN h1; exact cLen_ok HT (IH _ _) hi h
  | false =>
  rw [h1] at h
  cases h1 : (Nat.beq op 22 && Nat.beq x 0) with
  | true => rw [h1] at h; rw [Bool.and_eq_true] at h1; cases beN h1.1; cases beN h1.2; exact cDup_ok (IH _ _) hi h
  | false =>
  rw [h1] at h
  cases h1 : (Nat.beq op 26 && Nat.beq z 2) with
  | true => rw [h1] at h; rw [Bool.and_eq_true] at h1; cases beN h1.1; cases beN h1.2; exact cCal_ok IH hi h
  | false =>
  rw [h1] at h
  cases h1 : (Nat.beq op 27 && Nat.beq x 2) with
  | true => rw [h1] at h; rw [Bool.and_eq_true] at h1; cases beN h1.1; cases beN h1.2; exact cRet_ok hi h
  | false =>
  rw [h1] at h
  cases h1 : Nat.beq op 29 with
  | true => rw [h1] at h; cases beN h1; exact cObj_ok (IH _ _) hi h
  | false =>
  rw [h1] at h
  cases h1 : Nat.beq op 32 with
  | true => rw [h1] at h; cases beN h1; exact cNew_ok (IH _ _) hi h
  | false =>
  rw [h1] at h
  cases h1 : Nat.beq op 33 with
  | true => rw [h1] at h; cases beN h1; exact cNwa_ok HT (IH _ _) hi h
  | false =>
  rw [h1] at h
  cases h1 : Nat.beq op 34 with
  | true => rw [h1] at h; cases beN h1; exact cNwq_ok HT (IH _ _) hi h
  | false =>
  rw [h1] at h
  cases h
theorem cx_ok (HT : ∀ t, t < 5 → tys[t]? = some (cid tys t, ftyp t)) : ∀ (n d k pc : Nat) (L : List (Nat × CV)) (st : List CV) (w : List CE) (c u : Nat) (w' : List CE), cx lim n d k (pc, L, st, w, c, u) = some w' → CGo l D tys A lim k d pc L st w c u w'
  | 0, d, k, pc, L, st, w, c, u, w', h => by cases h
  | n + 1, d, k, pc, L, st, w, c, u, w', h => by
    have h : cxB lim (cx lim n) d k (pc, L, st, w, c, u) = some w' := h
    unfold cxB at h
    dsimp only at h
    cases hi : mI k pc with
    | mk op q =>
      obtain ⟨a, x, y, z⟩ := q
      rw [hi] at h
      exact cxO_ok HT (cx_ok HT n) hi h
end CXP
