theorem rng_mem : ∀ {n : Nat} {a z : Int}, a ≤ z → z < a + n → z ∈ rng n a
  | 0, a, z, h1, h2 => by omega
  | n + 1, a, z, h1, h2 => by
    unfold rng
    by_cases e : z = a
    · rw [e]; exact List.mem_cons_self
    · exact List.mem_cons_of_mem _ (rng_mem (by omega) (by omega))
theorem enT_mem {σ : Nat → Int} {E : EV} (hσ : inE σ E) : ∀ {t : List (Int × Nat)}, enN E t ≠ 0 → evT σ t ∈ enT E t
  | [], _ => by simp [enT, evT]
  | q :: t, h => by
    unfold enN at h
    unfold enT
    cases h1 : E[q.2]? with
    | none => rw [h1] at h; exact absurd rfl h
    | some r =>
      rw [h1] at h
      have g := hσ _ _ h1
      have h2 : enN E t ≠ 0 := fun z => h (by show _ * enN E t = 0; rw [z]; rfl)
      exact List.mem_flatMap.mpr ⟨σ q.2, rng_mem g.1 (by omega), List.mem_map.mpr ⟨evT σ t, enT_mem hσ h2, rfl⟩⟩
theorem few_mem {σ : Nat → Int} {E : EV} (hσ : inE σ E) {f : LF} (h : few E f = true) : ev σ f ∈ (enT E f.2).map (fun w => f.1 + w) := by
  unfold few at h
  rw [Bool.and_eq_true] at h
  have h2 : enN E f.2 ≠ 0 := fun z => by rw [z] at h; exact absurd h.2 (by decide)
  exact List.mem_map.mpr ⟨_, enT_mem hσ h2, rfl⟩
theorem plc_mem {σ : Nat → Int} {E : EV} (hσ : inE σ E) {f : LF} {u : Int × Int} (h1 : u.1 ≤ ev σ f) (h2 : ev σ f ≤ u.2) : ev σ f ∈ plc E f u := by
  unfold plc
  refine bif_split (P := fun l => ev σ f ∈ l) (fun h => few_mem hσ h) (fun _ => rng_mem h1 (by omega))
theorem hull_ok {f : Nat → Option (Int × Int)} {n : Nat} : ∀ {js : List Int} {u : Int × Int} {z : Int}, hull f n js = some u → z ∈ js → 0 ≤ z → z.toNat < n → ∃ w, f z.toNat = some w ∧ u.1 ≤ w.1 ∧ w.2 ≤ u.2
  | [], u, z, h, hz, _, _ => by cases hz
  | j :: t, u, z, h, hz, h0, hn => by
    unfold hull at h
    cases hb : (leI 0 j && Nat.blt j.toNat n) with
    | true =>
      rw [hb, cond_true] at h
      cases h1 : f j.toNat with
      | none => rw [h1] at h; cases h
      | some v =>
        rw [h1] at h
        dsimp only at h
        cases t with
        | nil =>
          cases h
          have e : z = j := List.mem_singleton.mp hz
          rw [e]
          exact ⟨u, h1, Int.le_refl _, Int.le_refl _⟩
        | cons i r =>
          dsimp only at h
          cases h2 : hull f n (i :: r) with
          | none => rw [h2] at h; cases h
          | some w =>
            rw [h2] at h
            cases h
            have m1 := minI_le (a := v.1) (b := w.1)
            have m2 := le_maxI (a := v.2) (b := w.2)
            rcases List.mem_cons.mp hz with e | hz
            · rw [e]
              exact ⟨v, h1, m1.1, m2.1⟩
            · obtain ⟨q, q1, q2, q3⟩ := hull_ok h2 hz h0 hn
              exact ⟨q, q1, Int.le_trans m1.2 q2, Int.le_trans q3 m2.2⟩
    | false =>
      rw [hb, cond_false] at h
      rcases List.mem_cons.mp hz with e | hz
      · exfalso
        rw [← e, leI_iff.mpr h0, Nat.blt_eq.mpr hn] at hb
        exact absurd hb (by decide)
      · cases t with
        | nil => cases hz
        | cons i r => exact hull_ok h hz h0 hn
theorem hullS_ok {tag : Nat} : ∀ {segs : List SG} {a b : Int} {w : Int × Int} {z : Int}, hullS tag segs a b = some w → a ≤ z → z ≤ b → 0 ≤ z → ∃ sp, segAt segs z.toNat = some sp ∧ sp.1 = tag ∧ w.1 ≤ sp.2.1 ∧ sp.2.2 ≤ w.2
  | [], a, b, w, z, h, _, _, _ => by cases h
  | q :: t, a, b, w, z, h, ha, hb, h0 => by
    unfold hullS at h
    cases h1 : leI (q.1 : Int) a with
    | true =>
      rw [h1, cond_true] at h
      have h1 := leI_iff.mp h1
      obtain ⟨sp, s1, s2⟩ := hullS_ok (z := z - q.1) h (by omega) (by omega) (by omega)
      refine ⟨sp, ?_, s2⟩
      unfold segAt
      rw [bif_f (by cases hq : Nat.blt z.toNat q.1 with | false => rfl | true => have := Nat.blt_eq.mp hq; omega)]
      rw [← s1]
      congr 1
      omega
    | false =>
      rw [h1, cond_false] at h
      cases h2 : Nat.beq q.2.1 tag with
      | false => rw [h2, cond_false] at h; cases h
      | true =>
        rw [h2, cond_true] at h
        have e2 := Nat.eq_of_beq_eq_true h2
        cases h3 : leI (b + 1) (q.1 : Int) with
        | true =>
          rw [h3, cond_true] at h
          cases h
          have h3 := leI_iff.mp h3
          refine ⟨q.2, ?_, e2, Int.le_refl _, Int.le_refl _⟩
          unfold segAt
          rw [bif_t (Nat.blt_eq.mpr (by omega))]
        | false =>
          rw [h3, cond_false] at h
          cases h4 : hullS tag t 0 (b - q.1) with
          | none => rw [h4] at h; cases h
          | some v =>
            rw [h4] at h
            cases h
            have m1 := minI_le (a := q.2.2.1) (b := v.1)
            have m2 := le_maxI (a := q.2.2.2) (b := v.2)
            by_cases hz : z < q.1
            · refine ⟨q.2, ?_, e2, m1.1, m2.1⟩
              unfold segAt
              rw [bif_t (Nat.blt_eq.mpr (by omega))]
            · obtain ⟨sp, s1, s2, s3, s4⟩ := hullS_ok (z := z - q.1) h4 (by omega) (by omega) (by omega)
              refine ⟨sp, ?_, s2, Int.le_trans m1.2 s3, Int.le_trans s4 m2.2⟩
              unfold segAt
              rw [bif_f (by cases hq : Nat.blt z.toNat q.1 with | false => rfl | true => have := Nat.blt_eq.mp hq; omega)]
              rw [← s1]
              congr 1
              omega
theorem allIn_ok {segs : List SG} {tag : Nat} {lo hi : Int} : ∀ {js : List Int} {z : Int}, allIn segs tag lo hi js = true → z ∈ js → ∃ sp, segAt segs z.toNat = some sp ∧ sp.1 = tag ∧ sp.2.1 ≤ lo ∧ hi ≤ sp.2.2
  | [], z, _, hz => by cases hz
  | j :: t, z, h, hz => by
    unfold allIn at h
    rw [Bool.and_eq_true] at h
    rcases List.mem_cons.mp hz with e | hz
    · rw [e]
      have h := h.1
      cases h1 : segAt segs j.toNat with
      | none => rw [h1] at h; cases h
      | some sp =>
        rw [h1] at h
        dsimp only at h
        rw [Bool.and_eq_true, Bool.and_eq_true, leI_iff, leI_iff] at h
        exact ⟨sp, rfl, Nat.eq_of_beq_eq_true h.1, h.2.1, h.2.2⟩
    · exact allIn_ok h.2 hz
theorem idx_ok {z : Int} {n : Nat} (h0 : 0 ≤ z) (hn : z < n) (hm : z ≤ 2147483647) : vp_in (Int32.ofInt z) n ∧ (Int32.ofInt z).toNatClampNeg = z.toNat := by
  have e : (Int32.ofInt z).toInt = z := Int32.toInt_ofInt_of_le (by omega) (by omega)
  refine ⟨vp_in_iff.mpr ⟨by rw [e]; exact h0, by rw [e]; exact hn⟩, ?_⟩
  show (Int32.ofInt z).toInt.toNat = z.toNat
  rw [e]
noncomputable def VT (tag : Nat) (w : Int × Int) (v : Value) : Prop := (tag = 0 → ∃ y : Int, v = .int (Int32.ofInt y) ∧ w.1 ≤ y ∧ y ≤ w.2) ∧ (tag = 1 → ∃ y : Int, v = .long (Int64.ofInt y) ∧ w.1 ≤ y ∧ y ≤ w.2)
theorem VT_of {ad : Nat → Nat} {sp : Nat × Int × Int} {v : Value} {tag : Nat} {w : Int × Int} (h : okv ad sp v) (ht : sp.1 = tag) (h1 : w.1 ≤ sp.2.1) (h2 : sp.2.2 ≤ w.2) : VT tag w v := by
  obtain ⟨t, lo, hi⟩ := sp
  dsimp only at ht h1 h2
  subst ht
  constructor
  · intro e
    subst e
    obtain ⟨z, e1, e2, e3⟩ := h
    have e2 : lo ≤ z := e2
    have e3 : z ≤ hi := e3
    exact ⟨z, e1, by omega, by omega⟩
  · intro e
    subst e
    obtain ⟨z, e1, e2, e3⟩ := h
    have e2 : lo ≤ z := e2
    have e3 : z ≤ hi := e3
    exact ⟨z, e1, by omega, by omega⟩
section SNE
variable {l : Launch} {D : va_G} {tys : List (ClassId × FieldType)} {A : Nat → Prop} {k d : Nat} {post : Option Value → va_W → Prop} {ad : Nat → Nat} {G : List GC} {mods : List Nat} {w0 : va_W}
variable {σ : Nat → Int} {E : EV} {als : AL} {ast : List AV} {ov : OV} {ws : va_W} {pc : Nat} {sts : List ST}
theorem rd_at {c j : Nat} {b : Nat} {e : va_E} (h : ws[c]? = some (b, e)) : rd ws c j = rdE e j := by unfold rd; rw [h]
theorem GOK_rd {c j : Nat} {g : GC} {v : Value} (h : GOK ad tys G ws) (hg : G[c]? = some g) (hv : rd ws c j = some v) : ∃ sp, segAt g.2 j = some sp ∧ okv ad sp v := by
  obtain ⟨e, h1, -, h3⟩ := h c g hg
  rw [rd_at h1] at hv
  exact h3 j v hv
theorem load_ok {c j : Nat} {g : GC} {v : Value} (h : loadAt c j g pc E als ast ov = some sts) (hσ : inE σ E) (hH : HK ad tys G mods w0 σ ov ws) (hg : G[c]? = some g) (hv : rd ws c j = some v) (kk : KN l D tys A k d post ad G mods w0 E.length σ sts) : V l D tys A k d 0 0 post 0 0 pc (als.map (cvp ad σ)) (v :: ast.map (conc ad σ)) ws := by
  unfold loadAt at h
  cases h1 : ovAt c j ov with
  | some w =>
    rw [h1] at h
    cases h
    have e := hH.2.1 _ (ovAt_mem h1)
    rw [hv] at e
    rw [Option.some.inj e]
    exact one_ok kk hσ hH
  | none =>
    rw [h1] at h
    dsimp only at h
    obtain ⟨sp, hs, hk⟩ := GOK_rd hH.1 hg hv
    rw [hs] at h
    dsimp only at h
    obtain ⟨t, lo, hi⟩ := sp
    cases c0 : Nat.beq t 0 with
    | true =>
      have e0 := Nat.eq_of_beq_eq_true c0
      subst e0
      obtain ⟨z, rfl, z1, z2⟩ := hk
      have z1 : lo ≤ z := z1
      have z2 : z ≤ hi := z2
      cases c1 : eqI lo hi with
      | true =>
        have c1' := eqI_iff.mp c1
        have h : (bif eqI lo hi then some [(pc, E, als, iA (lfC lo) :: ast, ov)] else bif wfS E.length als ast ov then some [(pc, E ++ [(lo, hi)], als, iA (lfS E.length) :: ast, ((c, j), iA (lfS E.length)) :: ov)] else none) = some sts := h
        rw [c1] at h
        cases h
        have K := one_ok (ws' := ws) kk hσ hH
        have ec : conc ad σ (iA (lfC lo)) = .int (Int32.ofInt z) := by
          show Value.int (Int32.ofInt (ev σ (lfC lo))) = _
          rw [lfC_ev]
          congr 2
          omega
        rw [List.map_cons, ec] at K
        exact K
      | false =>
        have h : (bif eqI lo hi then some [(pc, E, als, iA (lfC lo) :: ast, ov)] else bif wfS E.length als ast ov then some [(pc, E ++ [(lo, hi)], als, iA (lfS E.length) :: ast, ((c, j), iA (lfS E.length)) :: ov)] else none) = some sts := h
        rw [c1, cond_false] at h
        cases hw : wfS E.length als ast ov with
        | false => rw [hw] at h; cases h
        | true =>
          rw [hw] at h
          cases h
          obtain ⟨e1, e2, e3⟩ := wfS_ok (ad := ad) hw (up_ext (σ := σ) (z := z))
          have ec : conc ad (upS σ E.length z) (iA (lfS E.length)) = .int (Int32.ofInt z) := by
            show Value.int (Int32.ofInt (ev _ (lfS _))) = _
            rw [lfS_ev, up_self]
          have K : V l D tys A k d 0 0 post 0 0 pc (als.map (cvp ad (upS σ E.length z))) (conc ad (upS σ E.length z) (iA (lfS E.length)) :: ast.map (conc ad (upS σ E.length z))) ws := kk _ (List.mem_singleton.mpr rfl) (upS σ E.length z) ws up_ext (by simp) (inE_push hσ z1 z2) ⟨hH.1, fun q hq => by
            rcases List.mem_cons.mp hq with rfl | hq
            · rw [ec]; exact hv
            · exact e3 _ hH.2.1 q hq, hH.2.2⟩
          rw [e1, e2, ec] at K
          exact K
    | false =>
      have h : (bif Nat.beq t 0 then (bif eqI lo hi then some [(pc, E, als, iA (lfC lo) :: ast, ov)] else bif wfS E.length als ast ov then some [(pc, E ++ [(lo, hi)], als, iA (lfS E.length) :: ast, ((c, j), iA (lfS E.length)) :: ov)] else none)
        else bif Nat.beq t 1 then (bif wfS E.length als ast ov then some [(pc, E ++ [(lo, hi)], als, lA (lfS E.length) :: ast, ((c, j), lA (lfS E.length)) :: ov)] else none)
        else bif Nat.beq t 2 then some [(pc, E, als, rA lo :: ast, ov)] else none) = some sts := h
      rw [c0, cond_false] at h
      cases c1 : Nat.beq t 1 with
      | true =>
        rw [c1, cond_true] at h
        have e0 := Nat.eq_of_beq_eq_true c1
        subst e0
        obtain ⟨z, rfl, z1, z2⟩ := hk
        cases hw : wfS E.length als ast ov with
        | false => rw [hw] at h; cases h
        | true =>
          rw [hw] at h
          cases h
          obtain ⟨e1, e2, e3⟩ := wfS_ok (ad := ad) hw (up_ext (σ := σ) (z := z))
          have ec : conc ad (upS σ E.length z) (lA (lfS E.length)) = .long (Int64.ofInt z) := by
            show Value.long (Int64.ofInt (ev _ (lfS _))) = _
            rw [lfS_ev, up_self]
          have K : V l D tys A k d 0 0 post 0 0 pc (als.map (cvp ad (upS σ E.length z))) (conc ad (upS σ E.length z) (lA (lfS E.length)) :: ast.map (conc ad (upS σ E.length z))) ws := kk _ (List.mem_singleton.mpr rfl) (upS σ E.length z) ws up_ext (by simp) (inE_push hσ z1 z2) ⟨hH.1, fun q hq => by
            rcases List.mem_cons.mp hq with rfl | hq
            · rw [ec]; exact hv
            · exact e3 _ hH.2.1 q hq, hH.2.2⟩
          rw [e1, e2, ec] at K
          exact K
      | false =>
        rw [c1, cond_false] at h
        cases c2 : Nat.beq t 2 with
        | false => rw [c2] at h; cases h
        | true =>
          rw [c2] at h
          cases h
          have e0 := Nat.eq_of_beq_eq_true c2
          subst e0
          have hk : v = .ref (ad lo.toNat) := hk
          rw [hk]
          exact one_ok kk hσ hH
theorem itv_ok {c j tag : Nat} {g : GC} {v : Value} {w : Int × Int} (h : itv c g ov E tag j = some w) (hσ : inE σ E) (hH : HK ad tys G mods w0 σ ov ws) (hg : G[c]? = some g) (hv : rd ws c j = some v) : VT tag w v := by
  unfold itv at h
  cases h1 : ovAt c j ov with
  | some u =>
    rw [h1] at h
    dsimp only at h
    cases h2 : Nat.beq u.1 tag with
    | false => rw [h2] at h; cases h
    | true =>
      rw [h2, cond_true] at h
      have e := hH.2.1 _ (ovAt_mem h1)
      rw [hv] at e
      have e := Option.some.inj e
      have p := iv_ok hσ h
      have t := Nat.eq_of_beq_eq_true h2
      constructor
      · intro z
        rw [z] at h2
        exact ⟨_, e.trans (conc0 h2), p.1, p.2⟩
      · intro z
        rw [z] at h2
        exact ⟨_, e.trans (conc1 h2), p.1, p.2⟩
  | none =>
    rw [h1] at h
    dsimp only at h
    obtain ⟨sp, hs, hk⟩ := GOK_rd hH.1 hg hv
    rw [hs] at h
    dsimp only at h
    cases h2 : Nat.beq sp.1 tag with
    | false => rw [h2] at h; cases h
    | true =>
      rw [h2, cond_true] at h
      have h := Option.some.inj h
      exact VT_of hk (Nat.eq_of_beq_eq_true h2) (by rw [h]; exact Int.le_refl _) (by rw [h]; exact Int.le_refl _)
theorem ivAt_ok {c tag : Nat} {g : GC} {f : LF} {u w : Int × Int} {v : Value} (h : ivAt c g ov E tag f u = some w) (hσ : inE σ E) (hH : HK ad tys G mods w0 σ ov ws) (hg : G[c]? = some g) (h1 : u.1 ≤ ev σ f) (h2 : ev σ f ≤ u.2) (h0 : 0 ≤ ev σ f) (hn : (ev σ f).toNat < g.1.2.2) (hv : rd ws c (ev σ f).toNat = some v) : VT tag w v := by
  unfold ivAt at h
  cases hf : few E f with
  | true =>
    rw [hf, cond_true] at h
    obtain ⟨w', q1, q2, q3⟩ := hull_ok h (few_mem hσ hf) h0 hn
    have T := itv_ok q1 hσ hH hg hv
    constructor
    · intro z
      obtain ⟨y, e1, e2, e3⟩ := T.1 z
      exact ⟨y, e1, by omega, by omega⟩
    · intro z
      obtain ⟨y, e1, e2, e3⟩ := T.2 z
      exact ⟨y, e1, by omega, by omega⟩
  | false =>
    rw [hf, cond_false] at h
    obtain ⟨sp, s1, s2, s3, s4⟩ := hullS_ok h h1 h2 h0
    obtain ⟨sp', t1, t2⟩ := GOK_rd hH.1 hg hv
    rw [s1] at t1
    cases t1
    exact VT_of t2 s2 s3 s4
theorem arr_ld {c x : Nat} {g : GC} {e : va_E} {z : Int} {a : Int} {y q : Nat} {lv : List (Nat × Value)} {st : List Value} (hi : mI k pc = (19, a, x, y, q)) (he : ws[c]? = some (ad c, e)) (hs : shE tys g.1 e) (hk : akind g x = true) (h0 : 0 ≤ z) (hn : z < (g.1.2.2 : Int)) (hm : z ≤ 2147483647) :
    ∃ v, rdE e z.toNat = some v ∧ (V l D tys A k d 0 0 post 0 0 (pc + 1) lv (v :: st) ws → V l D tys A k d 0 0 post 0 0 pc lv (.int (Int32.ofInt z) :: .ref (ad c) :: st) ws) := by
  obtain ⟨⟨kd, ty, n⟩, segs⟩ := g
  have hn' : z.toNat < n := by have : z < (n : Int) := hn; omega
  obtain ⟨i1, i2⟩ := idx_ok h0 hn hm
  unfold akind at hk
  match kd, ty, hk, hs with
  | 1, 0, hk, hs =>
    have ex := Nat.eq_of_beq_eq_true hk
    subst ex
    obtain ⟨cA, f, rfl, h1, h2⟩ := hs
    refine ⟨.int (f z.toNat), by show (if z.toNat < n then _ else _) = _; rw [if_pos hn'], fun K => ?_⟩
    rw [← i2] at K
    exact V_iald hi he h1 i1 K
  | 1, 1, hk, hs =>
    have ex := Nat.eq_of_beq_eq_true hk
    subst ex
    obtain ⟨cA, f, rfl, h1, h2⟩ := hs
    refine ⟨.int (f z.toNat), by show (if z.toNat < n then _ else _) = _; rw [if_pos hn'], fun K => ?_⟩
    rw [← i2] at K
    exact V_bald hi he h1 i1 K
  | 1, 2, hk, hs =>
    have ex := Nat.eq_of_beq_eq_true hk
    subst ex
    obtain ⟨cA, f, rfl, h1, h2⟩ := hs
    refine ⟨.int (f z.toNat), by show (if z.toNat < n then _ else _) = _; rw [if_pos hn'], fun K => ?_⟩
    rw [← i2] at K
    exact V_zald hi he h1 i1 K
  | 2, t, hk, hs =>
    have ex := Nat.eq_of_beq_eq_true hk
    subst ex
    obtain ⟨cA, f, rfl, h1⟩ := hs
    refine ⟨.long (f z.toNat), by show (if z.toNat < n then _ else _) = _; rw [if_pos hn'], fun K => ?_⟩
    rw [← i2] at K
    exact V_lald hi he h1 i1 K
  | 3, t, hk, hs =>
    have ex := Nat.eq_of_beq_eq_true hk
    subst ex
    obtain ⟨cA, f, rfl, h1⟩ := hs
    refine ⟨va_rf (f z.toNat), by show (if z.toNat < n then _ else _) = _; rw [if_pos hn'], fun K => ?_⟩
    rw [← i2] at K
    exact V_aald hi he h1 i1 K
  | 0, t, hk, hs => cases hk
  | 1, t + 3, hk, hs => cases hk
  | kd + 4, t, hk, hs => cases hk
theorem spl_ok {c : Nat} {g : GC} {f : LF} {v : Value} (hσ : inE σ E) (hH : HK ad tys G mods w0 σ ov ws) (hg : G[c]? = some g) (hv : rd ws c (ev σ f).toNat = some v) : ∀ {js : List Int} {sts : List ST}, spl c g f pc E als ast ov js = some sts → ev σ f ∈ js → KN l D tys A k d post ad G mods w0 E.length σ sts → V l D tys A k d 0 0 post 0 0 pc (als.map (cvp ad σ)) (v :: ast.map (conc ad σ)) ws
  | [], sts, _, hz, _ => by cases hz
  | j :: t, sts, h, hz, kk => by
    unfold spl at h
    cases h1 : spl c g f pc E als ast ov t with
    | none => rw [h1] at h; cases h
    | some r =>
      rw [h1] at h
      dsimp only at h
      by_cases ez : ev σ f = j
      · obtain ⟨E', b1, b2, b3⟩ := brT_ok hσ (x := 0) (d := lfSub f (lfC j)) (by show ev σ _ = 0; rw [lfSub_ev, lfC_ev]; omega)
        rw [b1] at h
        dsimp only at h
        obtain ⟨sp, hs, hk⟩ := GOK_rd hH.1 hg hv
        rw [ez] at hs
        rw [hs] at h
        dsimp only at h
        cases h2 : Nat.beq sp.1 2 with
        | false => rw [h2] at h; cases h
        | true =>
          rw [h2] at h
          cases h
          have e2 := Nat.eq_of_beq_eq_true h2
          unfold okv at hk
          rw [e2] at hk
          have hk : v = .ref (ad sp.2.1.toNat) := hk
          rw [hk]
          exact kk _ List.mem_cons_self σ ws ext_rf (Nat.le_of_eq b3.symm) b2 hH
      · have hz : ev σ f ∈ t := (List.mem_cons.mp hz).resolve_left ez
        refine spl_ok hσ hH hg hv h1 hz ?_
        cases h2 : brT E 0 (lfSub f (lfC j)) with
        | none => rw [h2] at h; cases h; exact kk
        | some E' =>
          rw [h2] at h
          dsimp only at h
          cases h3 : segAt g.2 j.toNat with
          | none => rw [h3] at h; cases h
          | some sp =>
            rw [h3] at h
            dsimp only at h
            cases h4 : Nat.beq sp.1 2 with
            | false => rw [h4] at h; cases h
            | true =>
              rw [h4] at h
              cases h
              exact fun s hs => kk s (List.mem_cons_of_mem _ hs)
theorem aload_ok {a : Int} {x y q : Nat} (hi : mI k pc = (19, a, x, y, q)) (h : aload x (pc + 1) E als ast ov G = some sts) (hσ : inE σ E) (hH : HK ad tys G mods w0 σ ov ws) (kk : KN l D tys A k d post ad G mods w0 E.length σ sts) : V l D tys A k d 0 0 post 0 0 pc (als.map (cvp ad σ)) (ast.map (conc ad σ)) ws := by
  unfold aload at h
  match ast, h with
  | [], h => cases h
  | [_], h => cases h
  | i :: r :: t, h =>
    dsimp only at h
    cases h1 : (Nat.beq i.1 0 && Nat.beq r.1 2) with
    | false => rw [h1] at h; cases h
    | true =>
      rw [h1, cond_true] at h
      rw [Bool.and_eq_true] at h1
      cases h2 : G[r.2.1.1.toNat]? with
      | none => rw [h2] at h; cases h
      | some g =>
        cases h3 : iv E i.2.1 with
        | none => rw [h2, h3] at h; cases h
        | some u =>
          rw [h2, h3] at h
          dsimp only at h
          cases h4 : (akind g x && (leI 0 u.1 && leI (u.2 + 1) (g.1.2.2 : Int)) && inI u) with
          | false => rw [h4] at h; cases h
          | true =>
            rw [h4, cond_true] at h
            rw [Bool.and_eq_true, Bool.and_eq_true, Bool.and_eq_true, leI_iff, leI_iff] at h4
            obtain ⟨⟨k1, k2, k3⟩, k4⟩ := h4
            have k4 := inI_of k4
            have p := iv_ok hσ h3
            obtain ⟨e, g1, g2, g3⟩ := hH.1 _ g h2
            obtain ⟨v, v1, v2⟩ := arr_ld (l := l) (D := D) (tys := tys) (A := A) (d := d) (post := post) (ad := ad) (lv := als.map (cvp ad σ)) (st := t.map (conc ad σ)) (z := ev σ i.2.1) hi g1 g2 k1 (by omega) (by omega) (by omega)
            rw [List.map_cons, List.map_cons, conc0 h1.1, conc2 h1.2]
            refine v2 ?_
            have hv : rd ws r.2.1.1.toNat (ev σ i.2.1).toNat = some v := by rw [rd_at g1]; exact v1
            cases h5 : eqI u.1 u.2 with
            | true =>
              rw [h5, cond_true] at h
              have h5 := eqI_iff.mp h5
              have ez : u.1 = ev σ i.2.1 := by omega
              rw [ez] at h
              exact load_ok h hσ hH h2 hv kk
            | false =>
              rw [h5, cond_false] at h
              cases h6 : Nat.beq x 3 with
              | true =>
                rw [h6, cond_true] at h
                exact spl_ok hσ hH h2 hv h (rng_mem p.1 (by omega)) kk
              | false =>
                rw [h6, cond_false] at h
                cases h7 : Nat.beq x 2 with
                | true =>
                  rw [h7, cond_true] at h
                  cases h8 : ivAt r.2.1.1.toNat g ov E 1 i.2.1 u with
                  | none => rw [h8] at h; cases h
                  | some w =>
                    rw [h8] at h
                    obtain ⟨z, rfl, z1, z2⟩ := (ivAt_ok h8 hσ hH h2 p.1 p.2 (by omega) (by omega) hv).2 rfl
                    exact pushL_ok h hσ hH ⟨z, rfl, z1, z2⟩ kk
                | false =>
                  rw [h7, cond_false] at h
                  cases h8 : ivAt r.2.1.1.toNat g ov E 0 i.2.1 u with
                  | none => rw [h8] at h; cases h
                  | some w =>
                    rw [h8] at h
                    dsimp only at h
                    obtain ⟨z, rfl, z1, z2⟩ := (ivAt_ok h8 hσ hH h2 p.1 p.2 (by omega) (by omega) hv).1 rfl
                    cases h9 : eqI w.1 w.2 with
                    | true =>
                      rw [h9, cond_true] at h
                      have h9 := eqI_iff.mp h9
                      exact pushR_ok h hσ hH (by show _ = Int32.ofInt (ev σ (lfC w.1)); rw [lfC_ev]; congr 1; omega) kk
                    | false =>
                      rw [h9, cond_false] at h
                      exact pushR_ok h hσ hH ⟨z, rfl, z1, z2⟩ kk
end SNE
