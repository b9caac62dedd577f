/-! ahead of a step: long forms are named anew, a state is parted by what a number may be -/
noncomputable def mulT (v : AV) : Bool := Nat.ble v.1 1 && (match v.2.1.2 with | _ :: _ :: _ => true | _ => false)
noncomputable def cmA (E : EV) (v : AV) : EV × AV := bif mulT v then (match iv E v.2.1 with | some u => (E ++ [u], (v.1, lfS E.length, lf0)) | none => (E, v)) else (E, v)
noncomputable def cmL : EV → List AV → EV × List AV
  | E, [] => (E, [])
  | E, v :: t => ((cmL (cmA E v).1 t).1, (cmA E v).2 :: (cmL (cmA E v).1 t).2)
noncomputable def cov : List (Int × Int) → Int → Int → Bool
  | [], a, b => leI (b + 1) a
  | p :: t, a, b => leI p.1 a && cov t (maxI a (p.2 + 1)) b
theorem cov_ok : ∀ {pts : List (Int × Int)} {a b z : Int}, cov pts a b = true → a ≤ z → z ≤ b → ∃ p ∈ pts, p.1 ≤ z ∧ z ≤ p.2
  | [], a, b, z, h, h1, h2 => by have h := leI_iff.mp h; omega
  | p :: t, a, b, z, h, h1, h2 => by
    unfold cov at h
    rw [Bool.and_eq_true, leI_iff] at h
    by_cases hz : z ≤ p.2
    · exact ⟨p, List.mem_cons_self, by omega, hz⟩
    · obtain ⟨q, q1, q2⟩ := cov_ok (z := z) h.2 (by
        rcases maxI_or (a := a) (b := p.2 + 1) with e | e
        · rw [e]; exact h1
        · rw [e]; omega) h2
      exact ⟨q, List.mem_cons_of_mem _ q1, q2⟩
noncomputable def rf2 (E : EV) (f : LF) (p : Int × Int) : Option EV := (brT E 3 (lfSub f (lfC p.1))).bind (fun e => brT e 5 (lfSub f (lfC p.2)))
noncomputable def frk (f : LF) (s : ST) : List (Int × Int) → List ST
  | [] => []
  | p :: t => match rf2 s.2.1 f p with
    | some E => (s.1, E, s.2.2) :: frk f s t
    | none => frk f s t
noncomputable def frkC (pts : List (Int × Int)) (f : LF) (s : ST) : List ST := match iv s.2.1 f with
  | some u => bif cov pts u.1 u.2 then frk f s pts else [s]
  | none => [s]
noncomputable def nePts : List (Int × Int) := [(-9223372036854775808, -1), (0, 0), (1, 9223372036854775807)]
/-- unlike, within a few numbers: below, alike or above -/
noncomputable def nsp (f : LF) (s : ST) : List ST := match iv s.2.1 f with
  | some u => bif leI u.1 (-1) && (leI 1 u.2 && leI (u.2 - u.1) 6) then frkC nePts f s else [s]
  | none => [s]
noncomputable def cmS (n : Nat) (s : ST) : ST := bif (s.2.2.2.1.take n).any mulT && wfS s.2.1.length s.2.2.1 s.2.2.2.1 s.2.2.2.2 then (s.1, (cmL s.2.1 (s.2.2.2.1.take n)).1, s.2.2.1, (cmL s.2.1 (s.2.2.2.1.take n)).2 ++ s.2.2.2.1.drop n, s.2.2.2.2) else s
/-- what is known of a place is told, if it isn't yet -/
noncomputable def ldS (G : List GC) (c j : Nat) (s : ST) : ST × Option LF := match ovAt c j s.2.2.2.2 with
  | some v => (s, bif Nat.beq v.1 0 then some v.2.1 else none)
  | none => match G[c]? with
    | some g => (match segAt g.2 j with
      | some sp => bif Nat.beq g.1.1 1 && (Nat.blt j g.1.2.2 && (Nat.beq sp.1 0 && wfS s.2.1.length s.2.2.1 s.2.2.2.1 s.2.2.2.2)) then ((s.1, s.2.1 ++ [sp.2], s.2.2.1, s.2.2.2.1, ((c, j), iA (lfS s.2.1.length)) :: s.2.2.2.2), some (lfS s.2.1.length)) else (s, none)
      | none => (s, none))
    | none => (s, none)
noncomputable abbrev SPD : Type := Nat × Nat × Nat × List (Int × Int)
noncomputable def spD (G : List GC) (n : Nat) (q : SPD) (s : ST) : List ST := match s.2.2.2.1[n - 1 - q.2.1]? with
  | some v => bif Nat.beq v.1 0 then (bif Nat.beq q.1 0 then frkC q.2.2.2 v.2.1 s else match iv s.2.1 v.2.1 with
      | some u => bif eqI u.1 u.2 && leI 0 u.1 then (match ldS G q.2.2.1 u.1.toNat s with
          | (s', some f) => frkC q.2.2.2 f s'
          | (_, none) => [s]) else [s]
      | none => [s]) else [s]
  | none => [s]
noncomputable def spA (G : List GC) (n : Nat) : List SPD → List ST → List ST
  | [], l => l
  | q :: t, l => spA G n t (l.flatMap (spD G n q))
noncomputable def prp (G : List GC) (xi : XI) (s : ST) : List ST := match xi with
  | (op, _, x, y, z) =>
    bif Nat.beq op 6 || Nat.beq op 7 then [cmS 1 s]
    else bif Nat.beq op 26 then spA G (mN y + (1 - z)) (spH y) [cmS (mN y + (1 - z)) s]
    else bif Nat.beq op 9 && Nat.blt 0 y then (match lkA x s.2.2.1 with
      | some v => (bif Nat.beq v.1 0 then frkC (spI y) v.2.1 s else [s])
      | none => [s])
    else bif Nat.beq op 14 && Nat.ble x 1 then (match s.2.2.2.1 with
      | v :: _ => (match cmpQ s.2.1 v with | some f => (bif Nat.beq v.1 4 then frkC nePts f s else nsp f s) | none => [s])
      | [] => [s])
    else bif Nat.beq op 15 && Nat.ble x 1 then (match s.2.2.2.1 with
      | v :: u :: _ => (match cmpI s.2.1 u v with | some f => nsp f s | none => [s])
      | _ => [s])
    else [s]
section PRP
variable {ad : Nat → Nat} {tys : List (ClassId × FieldType)} {G : List GC} {mods : List Nat} {w0 : va_W}
/-- some state of these stands for the same -/
noncomputable def PR (ad : Nat → Nat) (tys : List (ClassId × FieldType)) (G : List GC) (mods : List Nat) (w0 : va_W) (s : ST) (l : List ST) : Prop :=
  ∀ (σ : Nat → Int) (ws : va_W), inE σ s.2.1 → HK ad tys G mods w0 σ s.2.2.2.2 ws → ∃ s' ∈ l, ∃ σ' : Nat → Int, ext s.2.1.length σ σ' ∧ s.2.1.length ≤ s'.2.1.length ∧ inE σ' s'.2.1 ∧ HK ad tys G mods w0 σ' s'.2.2.2.2 ws ∧ s'.1 = s.1 ∧ s'.2.2.1.map (cvp ad σ') = s.2.2.1.map (cvp ad σ) ∧ s'.2.2.2.1.map (conc ad σ') = s.2.2.2.1.map (conc ad σ)
theorem PR_self {s : ST} : PR ad tys G mods w0 s [s] := fun σ ws hσ hH => ⟨s, List.mem_singleton.mpr rfl, σ, ext_rf, Nat.le_refl _, hσ, hH, rfl, rfl, rfl⟩
theorem PR_bind {s : ST} {l : List ST} {f : ST → List ST} (h : PR ad tys G mods w0 s l) (hf : ∀ t, PR ad tys G mods w0 t (f t)) : PR ad tys G mods w0 s (l.flatMap f) := by
  intro σ ws hσ hH
  obtain ⟨t, ht, τ, a1, a2, a3, a4, a5, a6, a7⟩ := h σ ws hσ hH
  obtain ⟨u, hu, ρ, b1, b2, b3, b4, b5, b6, b7⟩ := hf t τ ws a3 a4
  exact ⟨u, List.mem_flatMap.mpr ⟨t, ht, hu⟩, ρ, ext_tr a2 a1 b1, Nat.le_trans a2 b2, b3, b4, b5.trans a5, b6.trans a6, b7.trans a7⟩
theorem PR_one {s t : ST} {l : List ST} (h : PR ad tys G mods w0 s [t]) (hf : PR ad tys G mods w0 t l) : PR ad tys G mods w0 s l := by
  intro σ ws hσ hH
  obtain ⟨t', ht, τ, a1, a2, a3, a4, a5, a6, a7⟩ := h σ ws hσ hH
  have e := List.mem_singleton.mp ht
  subst e
  obtain ⟨u, hu, ρ, b1, b2, b3, b4, b5, b6, b7⟩ := hf τ ws a3 a4
  exact ⟨u, hu, ρ, ext_tr a2 a1 b1, Nat.le_trans a2 b2, b3, b4, b5.trans a5, b6.trans a6, b7.trans a7⟩
theorem wfA_le {n m : Nat} (h : n ≤ m) {v : AV} (hw : wfA n v = true) : wfA m v = true := by
  unfold wfA at hw ⊢
  rw [Bool.and_eq_true] at hw ⊢
  exact ⟨wfT_le h hw.1, wfT_le h hw.2⟩
theorem cmA_ok {σ : Nat → Int} {E : EV} {v : AV} (hσ : inE σ E) (hw : wfA E.length v = true) : ∃ σ', ext E.length σ σ' ∧ E.length ≤ (cmA E v).1.length ∧ inE σ' (cmA E v).1 ∧ conc ad σ' (cmA E v).2 = conc ad σ v ∧ wfA (cmA E v).1.length (cmA E v).2 = true := by
  unfold cmA
  cases hm : mulT v with
  | false => exact ⟨σ, ext_rf, Nat.le_refl _, hσ, rfl, hw⟩
  | true =>
    rw [cond_true]
    cases hi : iv E v.2.1 with
    | none => exact ⟨σ, ext_rf, Nat.le_refl _, hσ, rfl, hw⟩
    | some u =>
      have p := iv_ok hσ hi
      unfold mulT at hm
      rw [Bool.and_eq_true] at hm
      have ht := Nat.le_of_ble_eq_true hm.1
      refine ⟨upS σ E.length (ev σ v.2.1), up_ext, by simp, inE_push hσ p.1 p.2, ?_, ?_⟩
      · have e : ev (upS σ E.length (ev σ v.2.1)) (lfS E.length) = ev σ v.2.1 := by rw [lfS_ev, up_self]
        rcases (show v.1 = 0 ∨ v.1 = 1 by omega) with q | q
        · rw [conc0 (v := (v.1, lfS E.length, lf0)) (by rw [q]; rfl), conc0 (v := v) (by rw [q]; rfl), e]
        · rw [conc1 (v := (v.1, lfS E.length, lf0)) (by rw [q]; rfl), conc1 (v := v) (by rw [q]; rfl), e]
      · show wfA (E ++ [u]).length (v.1, lfS E.length, lf0) = true
        unfold wfA lfS lf0
        simp [wfT]
theorem cmL_ok : ∀ {l : List AV} {σ : Nat → Int} {E : EV}, inE σ E → l.all (fun v => wfA E.length v) = true → ∃ σ', ext E.length σ σ' ∧ E.length ≤ (cmL E l).1.length ∧ inE σ' (cmL E l).1 ∧ (cmL E l).2.map (conc ad σ') = l.map (conc ad σ)
  | [], σ, E, hσ, _ => ⟨σ, ext_rf, Nat.le_refl _, hσ, by unfold cmL; rfl⟩
  | v :: t, σ, E, hσ, hw => by
    rw [List.all_cons, Bool.and_eq_true] at hw
    obtain ⟨σ1, a1, a2, a3, a4, a5⟩ := cmA_ok (ad := ad) hσ hw.1
    obtain ⟨σ2, b1, b2, b3, b4⟩ := cmL_ok (l := t) a3 (List.all_eq_true.mpr fun x hx => wfA_le a2 (List.all_eq_true.mp hw.2 x hx))
    unfold cmL
    refine ⟨σ2, ext_tr a2 a1 b1, Nat.le_trans a2 b2, b3, ?_⟩
    rw [List.map_cons, List.map_cons, conc_ext b1 a5, a4, b4]
    rw [List.map_congr_left (f := conc ad σ1) (g := conc ad σ) (fun x hx => conc_ext a1 (List.all_eq_true.mp hw.2 x hx))]
theorem cmS_ok {n : Nat} {s : ST} : PR ad tys G mods w0 s [cmS n s] := by
  intro σ ws hσ hH
  refine ⟨_, List.mem_singleton.mpr rfl, ?_⟩
  unfold cmS
  cases hc : ((s.2.2.2.1.take n).any mulT && wfS s.2.1.length s.2.2.1 s.2.2.2.1 s.2.2.2.2) with
  | false => exact ⟨σ, ext_rf, Nat.le_refl _, hσ, hH, rfl, rfl, rfl⟩
  | true =>
    rw [cond_true]
    rw [Bool.and_eq_true] at hc
    have hw := hc.2
    have hw2 := hw
    unfold wfS at hw2
    rw [Bool.and_eq_true, Bool.and_eq_true] at hw2
    obtain ⟨σ1, a1, a2, a3, a4⟩ := cmL_ok (ad := ad) (l := s.2.2.2.1.take n) hσ (List.all_eq_true.mpr fun x hx => List.all_eq_true.mp hw2.2.1 x (List.mem_of_mem_take hx))
    obtain ⟨e1, -, e3⟩ := wfS_ok (ad := ad) hw a1
    refine ⟨σ1, a1, a2, a3, ⟨hH.1, e3 ws hH.2.1, hH.2.2⟩, rfl, e1, ?_⟩
    show ((cmL s.2.1 (s.2.2.2.1.take n)).2 ++ s.2.2.2.1.drop n).map (conc ad σ1) = s.2.2.2.1.map (conc ad σ)
    rw [List.map_append, a4, List.map_congr_left (f := conc ad σ1) (g := conc ad σ) (fun x hx => conc_ext a1 (List.all_eq_true.mp hw2.2.1 x (List.mem_of_mem_drop hx))), ← List.map_append, List.take_append_drop]
theorem rf2_ok {σ : Nat → Int} {E : EV} {f : LF} {p : Int × Int} (hσ : inE σ E) (h1 : p.1 ≤ ev σ f) (h2 : ev σ f ≤ p.2) : ∃ E', rf2 E f p = some E' ∧ inE σ E' ∧ E'.length = E.length := by
  obtain ⟨E1, a1, a2, a3⟩ := brT_ok hσ (x := 3) (d := lfSub f (lfC p.1)) (by show 0 ≤ ev σ _; rw [lfSub_ev, lfC_ev]; omega)
  obtain ⟨E2, b1, b2, b3⟩ := brT_ok a2 (x := 5) (d := lfSub f (lfC p.2)) (by show ev σ _ ≤ 0; rw [lfSub_ev, lfC_ev]; omega)
  exact ⟨E2, by unfold rf2; rw [a1]; exact b1, b2, b3.trans a3⟩
theorem frk_ok {σ : Nat → Int} {f : LF} {s : ST} (hσ : inE σ s.2.1) : ∀ {pts : List (Int × Int)} {p : Int × Int}, p ∈ pts → p.1 ≤ ev σ f → ev σ f ≤ p.2 → ∃ E', (s.1, E', s.2.2) ∈ frk f s pts ∧ inE σ E' ∧ E'.length = s.2.1.length
  | q :: t, p, hp, h1, h2 => by
    unfold frk
    rcases List.mem_cons.mp hp with rfl | hp
    · obtain ⟨E', a1, a2, a3⟩ := rf2_ok hσ h1 h2
      rw [a1]
      exact ⟨E', List.mem_cons_self, a2, a3⟩
    · obtain ⟨E', a1, a2, a3⟩ := frk_ok hσ hp h1 h2
      cases rf2 s.2.1 f q with
      | none => exact ⟨E', a1, a2, a3⟩
      | some _ => exact ⟨E', List.mem_cons_of_mem _ a1, a2, a3⟩
theorem frkC_ok {pts : List (Int × Int)} {f : LF} {s : ST} : PR ad tys G mods w0 s (frkC pts f s) := by
  unfold frkC
  cases hi : iv s.2.1 f with
  | none => exact PR_self
  | some u =>
    dsimp only
    cases hc : cov pts u.1 u.2 with
    | false => exact PR_self
    | true =>
      rw [cond_true]
      intro σ ws hσ hH
      have b := iv_ok hσ hi
      obtain ⟨p, p1, p2, p3⟩ := cov_ok hc b.1 b.2
      obtain ⟨E', a1, a2, a3⟩ := frk_ok (f := f) hσ p1 p2 p3
      exact ⟨_, a1, σ, ext_rf, Nat.le_of_eq a3.symm, a2, hH, rfl, rfl, rfl⟩
theorem nsp_ok {f : LF} {s : ST} : PR ad tys G mods w0 s (nsp f s) := by
  unfold nsp
  cases iv s.2.1 f with
  | none => exact PR_self
  | some u =>
    dsimp only
    cases (leI u.1 (-1) && (leI 1 u.2 && leI (u.2 - u.1) 6)) with
    | false => exact PR_self
    | true => exact frkC_ok
theorem ldS_ok {c j : Nat} {s s' : ST} {o : Option LF} (h : ldS G c j s = (s', o)) : PR ad tys G mods w0 s [s'] := by
  unfold ldS at h
  cases hv : ovAt c j s.2.2.2.2 with
  | some v => rw [hv] at h; cases h; exact PR_self
  | none =>
    rw [hv] at h
    dsimp only at h
    cases hg : G[c]? with
    | none => rw [hg] at h; cases h; exact PR_self
    | some g =>
      rw [hg] at h
      dsimp only at h
      cases hs : segAt g.2 j with
      | none => rw [hs] at h; cases h; exact PR_self
      | some sp =>
        rw [hs] at h
        dsimp only at h
        cases hc : (Nat.beq g.1.1 1 && (Nat.blt j g.1.2.2 && (Nat.beq sp.1 0 && wfS s.2.1.length s.2.2.1 s.2.2.2.1 s.2.2.2.2))) with
        | false => rw [hc] at h; cases h; exact PR_self
        | true =>
          rw [hc, cond_true] at h
          cases h
          rw [Bool.and_eq_true, Bool.and_eq_true, Bool.and_eq_true] at hc
          obtain ⟨c1, c2, c3, c4⟩ := hc
          intro σ ws hσ hH
          obtain ⟨e, g1, g2, g3⟩ := hH.1 c g hg
          obtain ⟨⟨kd, ty, n⟩, segs⟩ := g
          have c1 : kd = 1 := Nat.eq_of_beq_eq_true c1
          have hjn : j < n := Nat.blt_eq.mp c2
          subst c1
          obtain ⟨cA, f, rfl, q1, q2⟩ := g2
          have hr : rdE (.inl (cA, n, .inl f)) j = some (.int (f j)) := by show (if j < n then _ else _) = _; rw [if_pos hjn]
          obtain ⟨sp', t1, t2⟩ := g3 j _ hr
          rw [hs] at t1
          cases t1
          unfold okv at t2
          rw [Nat.eq_of_beq_eq_true c3] at t2
          obtain ⟨z, z1, z2, z3⟩ := t2
          obtain ⟨e1, e2, e3⟩ := wfS_ok (ad := ad) c4 (up_ext (σ := σ) (z := z))
          refine ⟨_, List.mem_singleton.mpr rfl, upS σ s.2.1.length z, up_ext, by simp, inE_push hσ z2 z3, ⟨hH.1, ?_, hH.2.2⟩, rfl, e1, e2⟩
          intro q hq
          rcases List.mem_cons.mp hq with rfl | hq
          · rw [rd_at g1, hr, z1]
            show some (Value.int (Int32.ofInt z)) = some (Value.int (Int32.ofInt (ev _ (lfS _))))
            rw [lfS_ev, up_self]
          · exact e3 ws hH.2.1 q hq
theorem spD_ok {n : Nat} {q : SPD} {s : ST} : PR ad tys G mods w0 s (spD G n q s) := by
  unfold spD
  cases s.2.2.2.1[n - 1 - q.2.1]? with
  | none => exact PR_self
  | some v =>
    dsimp only
    cases Nat.beq v.1 0 with
    | false => exact PR_self
    | true =>
      rw [cond_true]
      cases Nat.beq q.1 0 with
      | true => exact frkC_ok
      | false =>
        rw [cond_false]
        cases iv s.2.1 v.2.1 with
        | none => exact PR_self
        | some u =>
          dsimp only
          cases (eqI u.1 u.2 && leI 0 u.1) with
          | false => exact PR_self
          | true =>
            rw [cond_true]
            cases hl : ldS G q.2.2.1 u.1.toNat s with
            | mk s' o =>
              cases o with
              | none => exact PR_self
              | some f => exact PR_one (ldS_ok hl) frkC_ok
theorem spA_ok {n : Nat} {s : ST} : ∀ {qs : List SPD} {l : List ST}, PR ad tys G mods w0 s l → PR ad tys G mods w0 s (spA G n qs l)
  | [], l, h => h
  | q :: t, l, h => spA_ok (qs := t) (PR_bind h (fun _ => spD_ok))
theorem prp_ok {xi : XI} {s : ST} : PR ad tys G mods w0 s (prp G xi s) := by
  obtain ⟨op, a, x, y, z⟩ := xi
  unfold prp
  dsimp only
  cases (Nat.beq op 6 || Nat.beq op 7) with
  | true => exact cmS_ok
  | false =>
  rw [cond_false]
  cases Nat.beq op 26 with
  | true => exact spA_ok cmS_ok
  | false =>
  rw [cond_false]
  cases (Nat.beq op 9 && Nat.blt 0 y) with
  | true =>
    rw [cond_true]
    cases lkA x s.2.2.1 with
    | none => exact PR_self
    | some v =>
      dsimp only
      cases Nat.beq v.1 0 with
      | true => exact frkC_ok
      | false => exact PR_self
  | false =>
  rw [cond_false]
  cases (Nat.beq op 14 && Nat.ble x 1) with
  | true =>
    rw [cond_true]
    cases s.2.2.2.1 with
    | nil => exact PR_self
    | cons v t =>
      dsimp only
      cases cmpQ s.2.1 v with
      | none => exact PR_self
      | some f =>
        dsimp only
        cases Nat.beq v.1 4 with
        | true => exact frkC_ok
        | false => exact nsp_ok
  | false =>
  rw [cond_false]
  cases (Nat.beq op 15 && Nat.ble x 1) with
  | true =>
    rw [cond_true]
    cases s.2.2.2.1 with
    | nil => exact PR_self
    | cons v t =>
    cases t with
    | nil => exact PR_self
    | cons u t2 =>
      dsimp only
      cases cmpI s.2.1 u v with
      | none => exact PR_self
      | some f => exact nsp_ok
  | false => exact PR_self
end PRP
