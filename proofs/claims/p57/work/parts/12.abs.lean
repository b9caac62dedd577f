/-! what the heap is: by cells, a shape (kind, type, how many) and what its places hold -/
noncomputable abbrev SG : Type := Nat × Nat × Int × Int
noncomputable abbrev GC : Type := (Nat × Nat × Nat) × List SG
noncomputable def rdE (e : va_E) (j : Nat) : Option Value := match e with
  | .inr (_, fs) => fs[j]?
  | .inl (_, n, .inl f) => if j < n then some (.int (f j)) else none
  | .inl (_, n, .inr (.inl f)) => if j < n then some (.long (f j)) else none
  | .inl (_, n, .inr (.inr (.inr (.inr f)))) => if j < n then some (va_rf (f j)) else none
  | _ => none
noncomputable def rd (ws : va_W) (c j : Nat) : Option Value := match ws[c]? with
  | some q => rdE q.2 j
  | none => none
noncomputable def shE (tys : List (ClassId × FieldType)) (sh : Nat × Nat × Nat) (e : va_E) : Prop := match sh with
  | (0, ty, n) => ∃ fs : List Value, e = .inr (ty, fs) ∧ fs.length = n
  | (1, ty, n) => ∃ (cA : ClassId) (f : Nat → Int32), e = .inl (cA, n, .inl f) ∧ tys[ty]? = some (cA, ftyp ty) ∧ ty < 3
  | (2, _, n) => ∃ (cA : ClassId) (f : Nat → Int64), e = .inl (cA, n, .inr (.inl f)) ∧ tys[3]? = some (cA, .long)
  | (_, _, n) => ∃ (cA : ClassId) (f : Nat → Option Nat), e = .inl (cA, n, .inr (.inr (.inr (.inr f)))) ∧ tys[4]? = some (cA, .object "HalvedNames$Hill")
noncomputable def segAt : List SG → Nat → Option (Nat × Int × Int)
  | [], _ => none
  | q :: t, j => bif Nat.blt j q.1 then some q.2 else segAt t (j - q.1)
noncomputable def okv (ad : Nat → Nat) (sp : Nat × Int × Int) (v : Value) : Prop := match sp.1 with
  | 0 => ∃ z : Int, v = .int (Int32.ofInt z) ∧ sp.2.1 ≤ z ∧ z ≤ sp.2.2
  | 1 => ∃ z : Int, v = .long (Int64.ofInt z) ∧ sp.2.1 ≤ z ∧ z ≤ sp.2.2
  | 2 => v = .ref (ad sp.2.1.toNat)
  | _ => False
noncomputable def GOK (ad : Nat → Nat) (tys : List (ClassId × FieldType)) (G : List GC) (ws : va_W) : Prop :=
  ∀ (c : Nat) (g : GC), G[c]? = some g → ∃ e : va_E, ws[c]? = some (ad c, e) ∧ shE tys g.1 e ∧ ∀ j v, rdE e j = some v → ∃ sp, segAt g.2 j = some sp ∧ okv ad sp v
noncomputable def OVok (ad : Nat → Nat) (σ : Nat → Int) (ov : OV) (ws : va_W) : Prop := ∀ q ∈ ov, rd ws q.1.1 q.1.2 = some (conc ad σ q.2)
noncomputable def ovAt (c j : Nat) : OV → Option AV
  | [] => none
  | q :: t => bif Nat.beq q.1.1 c && Nat.beq q.1.2 j then some q.2 else ovAt c j t
theorem ovAt_mem {c j : Nat} {v : AV} : ∀ {ov : OV}, ovAt c j ov = some v → ((c, j), v) ∈ ov
  | [], h => by cases h
  | q :: t, h => by
    unfold ovAt at h
    cases hq : (Nat.beq q.1.1 c && Nat.beq q.1.2 j) with
    | true =>
      rw [hq, cond_true] at h
      rw [Bool.and_eq_true] at hq
      have e1 := Nat.eq_of_beq_eq_true hq.1
      have e2 := Nat.eq_of_beq_eq_true hq.2
      cases h
      rw [← e1, ← e2]
      exact List.mem_cons_self
    | false =>
      rw [hq, cond_false] at h
      exact List.mem_cons_of_mem _ (ovAt_mem h)
noncomputable def ovDel (c j : Nat) (ov : OV) : OV := ov.filter (fun q => !(Nat.beq q.1.1 c && Nat.beq q.1.2 j))
noncomputable def ovDelR (c : Nat) (a b : Int) (ov : OV) : OV := ov.filter (fun q => !(Nat.beq q.1.1 c && (leI a (q.1.2 : Int) && leI (q.1.2 : Int) b)))
/-- a store: one place of one cell is another now -/
noncomputable def Upd1 (ws ws' : va_W) (c j : Nat) (v : Value) : Prop := ∀ c' j', rd ws' c' j' = if c' = c ∧ j' = j then some v else rd ws c' j'
theorem rd_set {ws : va_W} {c b : Nat} {e e' : va_E} (h : ws[c]? = some (b, e)) (c' j' : Nat) : rd (ws.set c (b, e')) c' j' = if c' = c then rdE e' j' else rd ws c' j' := by
  have hl := (List.getElem?_eq_some_iff.mp h).1
  unfold rd
  by_cases hc : c' = c
  · subst hc
    rw [if_pos rfl, List.getElem?_set_self hl]
  · rw [if_neg hc, List.getElem?_set_ne (Ne.symm hc)]
theorem upd1_of {ws : va_W} {c b j : Nat} {e e' : va_E} {v : Value} (h : ws[c]? = some (b, e)) (hr : ∀ j', rdE e' j' = if j' = j then some v else rdE e j') : Upd1 ws (ws.set c (b, e')) c j v := by
  intro c' j'
  rw [rd_set h]
  by_cases hc : c' = c
  · subst hc
    rw [if_pos rfl, hr]
    by_cases hj : j' = j
    · rw [if_pos hj, if_pos ⟨rfl, hj⟩]
    · rw [if_neg hj, if_neg (fun q => hj q.2)]
      unfold rd
      rw [h]
  · rw [if_neg hc, if_neg (fun q => hc q.1)]
theorem rdE_obj {ci : Nat} {fs : List Value} {j : Nat} (hj : j < fs.length) (v : Value) (j' : Nat) : rdE (.inr (ci, fs.set j v)) j' = if j' = j then some v else rdE (.inr (ci, fs)) j' := by
  show (fs.set j v)[j']? = if j' = j then some v else fs[j']?
  by_cases h : j' = j
  · subst h; rw [if_pos rfl, List.getElem?_set_self hj]
  · rw [if_neg h, List.getElem?_set_ne (Ne.symm h)]
theorem rdE_int {cA : ClassId} {n j : Nat} (f : Nat → Int32) (hj : j < n) (v : Int32) (j' : Nat) : rdE (.inl (cA, n, .inl (upd f j v))) j' = if j' = j then some (.int v) else rdE (.inl (cA, n, .inl f)) j' := by
  show (if j' < n then some (Value.int (upd f j v j')) else none) = if j' = j then some (.int v) else if j' < n then some (Value.int (f j')) else none
  by_cases h : j' = j
  · subst h; rw [if_pos rfl, if_pos hj, pk_us]
  · rw [if_neg h, pk_un h]
theorem rdE_long {cA : ClassId} {n j : Nat} (f : Nat → Int64) (hj : j < n) (v : Int64) (j' : Nat) : rdE (.inl (cA, n, .inr (.inl (vp_updL f j v)))) j' = if j' = j then some (.long v) else rdE (.inl (cA, n, .inr (.inl f))) j' := by
  show (if j' < n then some (Value.long (vp_updL f j v j')) else none) = if j' = j then some (.long v) else if j' < n then some (Value.long (f j')) else none
  by_cases h : j' = j
  · subst h; rw [if_pos rfl, if_pos hj, pk_uLs]
  · rw [if_neg h, pk_uLn h]
theorem GOK_set {ad : Nat → Nat} {tys : List (ClassId × FieldType)} {G : List GC} {ws : va_W} {c : Nat} {g : GC} {e e' : va_E} (h : GOK ad tys G ws) (hg : G[c]? = some g) (he : ws[c]? = some (ad c, e)) (hs : shE tys g.1 e') (hv : ∀ j v, rdE e' j = some v → ∃ sp, segAt g.2 j = some sp ∧ okv ad sp v) : GOK ad tys G (ws.set c (ad c, e')) := by
  have hl := (List.getElem?_eq_some_iff.mp he).1
  intro c' g' hg'
  by_cases hc : c' = c
  · subst hc
    rw [hg] at hg'
    cases hg'
    exact ⟨e', List.getElem?_set_self hl, hs, hv⟩
  · rw [List.getElem?_set_ne (Ne.symm hc)]
    exact h c' g' hg'
theorem GOK_upd {ad : Nat → Nat} {tys : List (ClassId × FieldType)} {G : List GC} {ws : va_W} {c j : Nat} {g : GC} {e e' : va_E} {v : Value} {sp : Nat × Int × Int} (h : GOK ad tys G ws) (hg : G[c]? = some g) (he : ws[c]? = some (ad c, e)) (hs : shE tys g.1 e') (hr : ∀ j', rdE e' j' = if j' = j then some v else rdE e j') (hsp : segAt g.2 j = some sp) (hv : okv ad sp v) : GOK ad tys G (ws.set c (ad c, e')) ∧ Upd1 ws (ws.set c (ad c, e')) c j v := by
  refine ⟨GOK_set h hg he hs (fun j' w hw => ?_), upd1_of he hr⟩
  rw [hr] at hw
  by_cases hj : j' = j
  · rw [if_pos hj] at hw
    cases hw
    exact ⟨sp, by rw [hj]; exact hsp, hv⟩
  · rw [if_neg hj] at hw
    obtain ⟨e2, h1, h2, h3⟩ := h c g hg
    rw [he] at h1
    cases h1
    exact h3 j' w hw
theorem OV_put {ad : Nat → Nat} {σ : Nat → Int} {ov : OV} {ws ws' : va_W} {c j : Nat} {v : AV} (h : OVok ad σ ov ws) (hu : Upd1 ws ws' c j (conc ad σ v)) : OVok ad σ (((c, j), v) :: ovDel c j ov) ws' := by
  intro q hq
  rcases List.mem_cons.mp hq with rfl | hq
  · rw [hu, if_pos ⟨rfl, rfl⟩]
  · obtain ⟨h1, h2⟩ := List.mem_filter.mp hq
    rw [hu, if_neg, h q h1]
    rintro ⟨e1, e2⟩
    rw [e1, e2] at h2
    simp at h2
theorem OV_del {ad : Nat → Nat} {σ : Nat → Int} {ov : OV} {ws ws' : va_W} {c j : Nat} {v : Value} (h : OVok ad σ ov ws) (hu : Upd1 ws ws' c j v) : OVok ad σ (ovDel c j ov) ws' := by
  intro q hq
  obtain ⟨h1, h2⟩ := List.mem_filter.mp hq
  rw [hu, if_neg, h q h1]
  rintro ⟨e1, e2⟩
  rw [e1, e2] at h2
  simp at h2
theorem OV_delR {ad : Nat → Nat} {σ : Nat → Int} {ov : OV} {ws ws' : va_W} {c j : Nat} {a b : Int} {v : Value} (h : OVok ad σ ov ws) (hu : Upd1 ws ws' c j v) (h1 : a ≤ (j : Int)) (h2 : (j : Int) ≤ b) : OVok ad σ (ovDelR c a b ov) ws' := by
  intro q hq
  obtain ⟨g1, g2⟩ := List.mem_filter.mp hq
  rw [hu, if_neg, h q g1]
  rintro ⟨e1, e2⟩
  rw [e1, e2, Nat.beq_refl, leI_iff.mpr h1, leI_iff.mpr h2] at g2
  exact absurd g2 (by decide)
/-- the place that only grows: where the reference reads its text -/
noncomputable def mnC : Nat := 90
noncomputable def mnJ : Nat := 8
noncomputable def MON (w0 ws : va_W) : Prop := ∀ a b : Int32, rd w0 mnC mnJ = some (.int a) → rd ws mnC mnJ = some (.int b) → a.toInt ≤ b.toInt
theorem MON_rf {w : va_W} : MON w w := fun a b h1 h2 => by rw [h1] at h2; cases h2; exact Int.le_refl _
/-- the places of cell mnC that no checked store may touch: where the text is read (it only grows), and the tape's size and the reader's fault (they stay) -/
noncomputable def spJ (j : Nat) : Bool := Nat.beq j 8 || Nat.beq j 5 || Nat.beq j 12 || Nat.beq j 13
noncomputable def spK (j : Nat) : Prop := j = 5 ∨ j = 12 ∨ j = 13
theorem spK_J {j : Nat} (h : spK j) : spJ j = true ∧ ¬ mnJ = j := by
  rcases h with rfl | rfl | rfl <;> exact ⟨rfl, by unfold mnJ; omega⟩
noncomputable def memN (c : Nat) : List Nat → Bool
  | [] => false
  | x :: t => Nat.beq x c || memN c t
theorem memN_in {c : Nat} : ∀ {l : List Nat}, memN c l = true → c ∈ l
  | [], h => by cases h
  | x :: t, h => by
    unfold memN at h
    rw [Bool.or_eq_true] at h
    rcases h with h | h
    · rw [Nat.eq_of_beq_eq_true h]; exact List.mem_cons_self
    · exact List.mem_cons_of_mem _ (memN_in h)
theorem memN_not {c : Nat} : ∀ {l : List Nat}, memN c l = false → c ∉ l
  | [], _ => by simp
  | x :: t, h => by
    unfold memN at h
    rw [Bool.or_eq_false_iff] at h
    intro hm
    rcases List.mem_cons.mp hm with e | hm
    · rw [e] at h
      exact absurd h.1 (by rw [Nat.beq_refl]; decide)
    · exact memN_not h.2 hm
/-- kept by all, and by what has not the place's own number among its cells -/
noncomputable def spM (mods : List Nat) (j : Nat) : Prop := spK j ∨ (j = 22 ∧ 1022 ∉ mods) ∨ (j = 24 ∧ 1024 ∉ mods)
noncomputable def spX (mods : List Nat) (j : Nat) : Bool := spJ j || (Nat.beq j 22 && !(memN 1022 mods)) || (Nat.beq j 24 && !(memN 1024 mods))
theorem spM_X {mods : List Nat} {j : Nat} (h : spM mods j) : spX mods j = true ∧ ¬ mnJ = j := by
  rcases h with h | ⟨rfl, h⟩ | ⟨rfl, h⟩
  · refine ⟨?_, (spK_J h).2⟩
    unfold spX
    rw [(spK_J h).1, Bool.true_or, Bool.true_or]
  · refine ⟨?_, by unfold mnJ; omega⟩
    unfold spX
    cases e : memN 1022 mods with
    | true => exact absurd (memN_in e) h
    | false => rfl
  · refine ⟨?_, by unfold mnJ; omega⟩
    unfold spX
    cases e : memN 1024 mods with
    | true => exact absurd (memN_in e) h
    | false => rfl
theorem spM_sub {m1 m2 : List Nat} (hs : ∀ x ∈ m2, x ∈ m1) {j : Nat} (h : spM m1 j) : spM m2 j := by
  rcases h with h | ⟨e, h⟩ | ⟨e, h⟩
  · exact Or.inl h
  · exact Or.inr (Or.inl ⟨e, fun q => h (hs _ q)⟩)
  · exact Or.inr (Or.inr ⟨e, fun q => h (hs _ q)⟩)
/-- which cells may be written -/
noncomputable def FRm (mods : List Nat) (w0 ws : va_W) : Prop := (∀ c, c ∉ mods → ∀ j, rd ws c j = rd w0 c j) ∧ MON w0 ws ∧ (∀ v, rd w0 mnC mnJ = some v → ∃ u, rd ws mnC mnJ = some u ∧ ((∃ a, v = .int a) → ∃ b, u = .int b)) ∧ ∀ j, spM mods j → rd ws mnC j = rd w0 mnC j
theorem FRm_rf {mods : List Nat} {w : va_W} : FRm mods w w := ⟨fun _ _ _ => rfl, MON_rf, fun v h => ⟨v, h, fun h => h⟩, fun _ _ => rfl⟩
theorem FRm_tr {m1 m2 : List Nat} {w0 w1 w2 : va_W} (h1 : FRm m1 w0 w1) (h2 : FRm m2 w1 w2) (hs : ∀ x ∈ m2, x ∈ m1) : FRm m1 w0 w2 := by
  refine ⟨fun c hc j => by rw [h2.1 c (fun q => hc (hs c q)) j]; exact h1.1 c hc j, fun a b ha hb => ?_, fun v hv => ?_, fun j hj => (h2.2.2.2 j (spM_sub hs hj)).trans (h1.2.2.2 j hj)⟩
  · obtain ⟨u, hu, hi⟩ := h1.2.2.1 _ ha
    obtain ⟨m, rfl⟩ := hi ⟨a, rfl⟩
    exact Int.le_trans (h1.2.1 _ _ ha hu) (h2.2.1 _ _ hu hb)
  · obtain ⟨u, hu, hi⟩ := h1.2.2.1 _ hv
    obtain ⟨t, ht, hj⟩ := h2.2.2.1 _ hu
    exact ⟨t, ht, fun q => hj (hi q)⟩
theorem FRm_upd {mods : List Nat} {w0 ws ws' : va_W} {c j : Nat} {v : Value} (h : FRm mods w0 ws) (hu : Upd1 ws ws' c j v) (hm : c ∈ mods) (hn : ¬ (c = mnC ∧ spX mods j = true)) : FRm mods w0 ws' := by
  have e : rd ws' mnC mnJ = rd ws mnC mnJ := by rw [hu, if_neg (fun q => hn ⟨q.1.symm, by rw [← q.2]; unfold spX; rw [show spJ mnJ = true from rfl, Bool.true_or, Bool.true_or]⟩)]
  have e5 : ∀ j, spM mods j → rd ws' mnC j = rd ws mnC j := fun j hj => by rw [hu, if_neg (fun q => hn ⟨q.1.symm, by rw [← q.2]; exact (spM_X hj).1⟩)]
  refine ⟨fun c' hc' j' => ?_, fun a b ha hb => h.2.1 a b ha (by rw [← e]; exact hb), fun u hu => by rw [e]; exact h.2.2.1 u hu, fun j hj => (e5 j hj).trans (h.2.2.2 j hj)⟩
  rw [hu, if_neg (fun q => hc' (by rw [q.1]; exact hm))]
  exact h.1 c' hc' j'
theorem FRm_updM {mods : List Nat} {w0 ws ws' : va_W} {a b : Int32} (h : FRm mods w0 ws) (hu : Upd1 ws ws' mnC mnJ (.int b)) (hm : mnC ∈ mods) (ha : rd ws mnC mnJ = some (.int a)) (hab : a.toInt ≤ b.toInt) : FRm mods w0 ws' := by
  have e : rd ws' mnC mnJ = some (.int b) := by rw [hu, if_pos ⟨rfl, rfl⟩]
  have e5 : ∀ j, spM mods j → rd ws' mnC j = rd ws mnC j := fun j hj => by rw [hu, if_neg (fun q => (spM_X hj).2 q.2.symm)]
  refine ⟨fun c' hc' j' => ?_, fun x y hx hy => ?_, fun u hu => ⟨_, e, fun _ => ⟨b, rfl⟩⟩, fun j hj => (e5 j hj).trans (h.2.2.2 j hj)⟩
  · rw [hu, if_neg (fun q => hc' (by rw [q.1]; exact hm))]
    exact h.1 c' hc' j'
  · rw [e] at hy
    cases hy
    exact Int.le_trans (h.2.1 _ _ hx ha) hab
