section
noncomputable abbrev SP3 : Type := Nat × Int × Int
/-- a contract: method, arguments, what must lie where, the answer, what lies where behind it, which cells it may write -/
noncomputable abbrev CR : Type := Nat × List SP3 × List ((Nat × Nat) × SP3) × Option SP3 × List ((Nat × Nat) × SP3) × List Nat
noncomputable def mk1 (E : EV) (sp : SP3) : EV × AV := bif Nat.ble sp.1 1 then (bif eqI sp.2.1 sp.2.2 then (E, (sp.1, lfC sp.2.1, lf0)) else (E ++ [sp.2], (sp.1, lfS E.length, lf0))) else (E, rA sp.2.1)
noncomputable def mkAs : EV → List SP3 → EV × List AV
  | E, [] => (E, [])
  | E, sp :: t => ((mkAs (mk1 E sp).1 t).1, (mk1 E sp).2 :: (mkAs (mk1 E sp).1 t).2)
noncomputable def mkOv : EV → List ((Nat × Nat) × SP3) → EV × OV
  | E, [] => (E, [])
  | E, q :: t => ((mkOv (mk1 E q.2).1 t).1, (q.1, (mk1 E q.2).2) :: (mkOv (mk1 E q.2).1 t).2)
noncomputable def okvs (ad : Nat → Nat) : List SP3 → List Value → Prop
  | [], [] => True
  | sp :: t, v :: r => okv ad sp v ∧ okvs ad t r
  | _, _ => False
noncomputable def preOK (ad : Nat → Nat) (pre : List ((Nat × Nat) × SP3)) (ws : va_W) : Prop := ∀ q ∈ pre, ∃ v, rd ws q.1.1 q.1.2 = some v ∧ okv ad q.2 v
noncomputable def rtOK (ad : Nat → Nat) : Option SP3 → Option Value → Prop
  | none, none => True
  | some sp, some v => okv ad sp v
  | _, _ => False
theorem mk1_ok {ad : Nat → Nat} {σ : Nat → Int} {E : EV} {sp : SP3} {v : Value} (hσ : inE σ E) (h : okv ad sp v) : ∃ σ', ext E.length σ σ' ∧ E.length ≤ (mk1 E sp).1.length ∧ inE σ' (mk1 E sp).1 ∧ conc ad σ' (mk1 E sp).2 = v ∧ wfA (mk1 E sp).1.length (mk1 E sp).2 = true := by
  obtain ⟨t, lo, hi⟩ := sp
  unfold mk1
  dsimp only
  match t, h with
  | 0, h =>
    obtain ⟨z, rfl, z1, z2⟩ := h
    have z1 : lo ≤ z := z1
    have z2 : z ≤ hi := z2
    cases he : eqI lo hi with
    | true =>
      have he' := eqI_iff.mp he
      refine ⟨σ, ext_rf, Nat.le_refl _, hσ, ?_, rfl⟩
      show Value.int (Int32.ofInt (ev σ (lfC lo))) = _
      rw [lfC_ev]
      congr 2
      omega
    | false =>
      refine ⟨upS σ E.length z, up_ext, by show E.length ≤ (E ++ [(lo, hi)]).length; simp, inE_push hσ z1 z2, ?_, ?_⟩
      · show Value.int (Int32.ofInt (ev _ (lfS E.length))) = _
        rw [lfS_ev, up_self]
      · show (wfT (E ++ [(lo, hi)]).length [(1, E.length)] && wfT (E ++ [(lo, hi)]).length []) = true
        simp [wfT_cons, wfT_nil, Nat.blt_eq]
  | 1, h =>
    obtain ⟨z, rfl, z1, z2⟩ := h
    have z1 : lo ≤ z := z1
    have z2 : z ≤ hi := z2
    cases he : eqI lo hi with
    | true =>
      have he' := eqI_iff.mp he
      refine ⟨σ, ext_rf, Nat.le_refl _, hσ, ?_, rfl⟩
      show Value.long (Int64.ofInt (ev σ (lfC lo))) = _
      rw [lfC_ev]
      congr 2
      omega
    | false =>
      refine ⟨upS σ E.length z, up_ext, by show E.length ≤ (E ++ [(lo, hi)]).length; simp, inE_push hσ z1 z2, ?_, ?_⟩
      · show Value.long (Int64.ofInt (ev _ (lfS E.length))) = _
        rw [lfS_ev, up_self]
      · show (wfT (E ++ [(lo, hi)]).length [(1, E.length)] && wfT (E ++ [(lo, hi)]).length []) = true
        simp [wfT_cons, wfT_nil, Nat.blt_eq]
  | 2, h =>
    have h : v = .ref (ad lo.toNat) := h
    subst h
    exact ⟨σ, ext_rf, Nat.le_refl _, hσ, rfl, rfl⟩
  | n + 3, h => exact h.elim
theorem mkAs_ok {ad : Nat → Nat} : ∀ {sps : List SP3} {vs : List Value} {E : EV} {σ : Nat → Int}, inE σ E → okvs ad sps vs → ∃ σ', ext E.length σ σ' ∧ E.length ≤ (mkAs E sps).1.length ∧ inE σ' (mkAs E sps).1 ∧ (mkAs E sps).2.map (conc ad σ') = vs
  | [], [], E, σ, hσ, _ => ⟨σ, ext_rf, Nat.le_refl _, hσ, by unfold mkAs; rw [List.map_nil]⟩
  | [], _ :: _, E, σ, _, h => h.elim
  | _ :: _, [], E, σ, _, h => h.elim
  | sp :: t, v :: r, E, σ, hσ, h => by
    obtain ⟨σ1, a1, a2, a3, a4, a5⟩ := mk1_ok hσ h.1
    obtain ⟨σ2, b1, b2, b3, b4⟩ := mkAs_ok a3 h.2
    refine ⟨σ2, ext_tr a2 a1 b1, Nat.le_trans a2 b2, b3, ?_⟩
    show ((mk1 E sp).2 :: (mkAs (mk1 E sp).1 t).2).map (conc ad σ2) = v :: r
    rw [List.map_cons, b4, conc_ext b1 a5, a4]
theorem mkOv_ok {ad : Nat → Nat} {ws : va_W} : ∀ {pre : List ((Nat × Nat) × SP3)} {E : EV} {σ : Nat → Int}, inE σ E → preOK ad pre ws → ∃ σ', ext E.length σ σ' ∧ E.length ≤ (mkOv E pre).1.length ∧ inE σ' (mkOv E pre).1 ∧ OVok ad σ' (mkOv E pre).2 ws
  | [], E, σ, hσ, _ => ⟨σ, ext_rf, Nat.le_refl _, hσ, fun q hq => by unfold mkOv at hq; cases hq⟩
  | q :: t, E, σ, hσ, h => by
    obtain ⟨v, v1, v2⟩ := h q List.mem_cons_self
    obtain ⟨σ1, a1, a2, a3, a4, a5⟩ := mk1_ok hσ v2
    obtain ⟨σ2, b1, b2, b3, b4⟩ := mkOv_ok (pre := t) a3 (fun p hp => h p (List.mem_cons_of_mem _ hp))
    refine ⟨σ2, ext_tr a2 a1 b1, Nat.le_trans a2 b2, b3, fun p hp => ?_⟩
    have hp : p ∈ (q.1, (mk1 E q.2).2) :: (mkOv (mk1 E q.2).1 t).2 := hp
    rcases List.mem_cons.mp hp with rfl | hp
    · show rd ws q.1.1 q.1.2 = some (conc ad σ2 (mk1 E q.2).2)
      rw [conc_ext b1 a5, a4]
      exact v1
    · exact b4 p hp
noncomputable def spOK (E : EV) (v : AV) (sp : SP3) : Bool := bif Nat.beq sp.1 2 then Nat.beq v.1 2 && eqI v.2.1.1 sp.2.1 else stOK E v sp
theorem spOK_ok {ad : Nat → Nat} {σ : Nat → Int} {E : EV} {v : AV} {sp : SP3} (hσ : inE σ E) (h : spOK E v sp = true) : okv ad sp (conc ad σ v) := by
  unfold spOK at h
  cases h2 : Nat.beq sp.1 2 with
  | true =>
    rw [h2, cond_true, Bool.and_eq_true] at h
    have e := eqI_iff.mp h.2
    rw [conc2 h.1, e]
    have e2 := Nat.eq_of_beq_eq_true h2
    unfold okv
    rw [e2]
    exact rfl
  | false =>
    rw [h2, cond_false] at h
    exact (stOK_ok h hσ).1
noncomputable def argM (E : EV) : List SP3 → List AV → Bool
  | [], avs => match avs with
    | [] => true
    | _ => false
  | sp :: t, avs => match avs with
    | [] => false
    | v :: r => spOK E v sp && argM E t r
noncomputable def preM (E : EV) (ov : OV) : List ((Nat × Nat) × SP3) → Bool
  | [] => true
  | q :: t => (match ovAt q.1.1 q.1.2 ov with
    | some v => spOK E v q.2
    | none => false) && preM E ov t
noncomputable def allN (l : List Nat) : List Nat → Bool
  | [] => true
  | c :: t => memN c l && allN l t
theorem allN_in {l : List Nat} : ∀ {c : List Nat}, allN l c = true → ∀ x ∈ c, x ∈ l
  | [], _, x, hx => by cases hx
  | c :: t, h, x, hx => by
    unfold allN at h
    rw [Bool.and_eq_true] at h
    rcases List.mem_cons.mp hx with rfl | hx
    · exact memN_in h.1
    · exact allN_in h.2 x hx
theorem argM_ok {ad : Nat → Nat} {σ : Nat → Int} {E : EV} (hσ : inE σ E) : ∀ {sps : List SP3} {avs : List AV}, argM E sps avs = true → okvs ad sps (avs.map (conc ad σ))
  | [], [], _ => trivial
  | [], _ :: _, h => by unfold argM at h; cases h
  | _ :: _, [], h => by unfold argM at h; cases h
  | sp :: t, v :: r, h => by
    unfold argM at h
    dsimp only at h
    rw [Bool.and_eq_true] at h
    exact ⟨spOK_ok hσ h.1, argM_ok hσ h.2⟩
theorem preM_ok {ad : Nat → Nat} {σ : Nat → Int} {E : EV} {ov : OV} {ws : va_W} (hσ : inE σ E) (ho : OVok ad σ ov ws) : ∀ {pre : List ((Nat × Nat) × SP3)}, preM E ov pre = true → preOK ad pre ws
  | [], _, q, hq => by cases hq
  | p :: t, h, q, hq => by
    unfold preM at h
    rw [Bool.and_eq_true] at h
    rcases List.mem_cons.mp hq with rfl | hq
    · have h := h.1
      cases h1 : ovAt q.1.1 q.1.2 ov with
      | none => rw [h1] at h; cases h
      | some v =>
        rw [h1] at h
        exact ⟨_, ho _ (ovAt_mem h1), spOK_ok hσ h⟩
    · exact preM_ok hσ ho h.2 q hq
noncomputable def tabG (B : Nat) (mods : List Nat) (E : EV) (ov : OV) (y : Nat) (avs : List AV) (T : List (Nat × CR)) : Option CR := List.rec (motive := fun _ => Option CR) none (fun c _ ih => bif Nat.beq c.2.1 y then (bif Nat.ble c.1 B && (argM E c.2.2.1 avs && (allN mods c.2.2.2.2.2.2 && preM E ov c.2.2.2.1)) then some c.2 else ih) else ih) T
theorem tabG_cons (B : Nat) (mods : List Nat) (E : EV) (ov : OV) (y : Nat) (avs : List AV) (c : Nat × CR) (t : List (Nat × CR)) : tabG B mods E ov y avs (c :: t) = bif Nat.beq c.2.1 y && (Nat.ble c.1 B && (argM E c.2.2.1 avs && (allN mods c.2.2.2.2.2.2 && preM E ov c.2.2.2.1))) then some c.2 else tabG B mods E ov y avs t := by
  show (bif Nat.beq c.2.1 y then (bif Nat.ble c.1 B && (argM E c.2.2.1 avs && (allN mods c.2.2.2.2.2.2 && preM E ov c.2.2.2.1)) then some c.2 else tabG B mods E ov y avs t) else tabG B mods E ov y avs t) = _
  cases Nat.beq c.2.1 y <;> rfl
theorem tabG_ok {B : Nat} {mods : List Nat} {E : EV} {ov : OV} {y : Nat} {avs : List AV} : ∀ {T : List (Nat × CR)} {c : CR}, tabG B mods E ov y avs T = some c → (∃ d, (d, c) ∈ T ∧ d ≤ B) ∧ c.1 = y ∧ argM E c.2.1 avs = true ∧ allN mods c.2.2.2.2.2 = true ∧ preM E ov c.2.2.1 = true
  | [], c, h => by cases h
  | b :: t, c, h => by
    rw [tabG_cons] at h
    cases hb : (Nat.beq b.2.1 y && (Nat.ble b.1 B && (argM E b.2.2.1 avs && (allN mods b.2.2.2.2.2.2 && preM E ov b.2.2.2.1)))) with
    | true =>
      rw [hb] at h
      cases h
      rw [Bool.and_eq_true, Bool.and_eq_true, Bool.and_eq_true, Bool.and_eq_true] at hb
      exact ⟨⟨b.1, List.mem_cons_self, Nat.le_of_ble_eq_true hb.2.1⟩, Nat.eq_of_beq_eq_true hb.1, hb.2.2.1, hb.2.2.2.1, hb.2.2.2.2⟩
    | false =>
      rw [hb] at h
      obtain ⟨⟨d, a, e⟩, b⟩ := tabG_ok h
      exact ⟨⟨d, List.mem_cons_of_mem _ a, e⟩, b⟩
noncomputable def retA (E : EV) : Option SP3 → EV × Option AV
  | none => (E, none)
  | some sp => ((mk1 E sp).1, some (mk1 E sp).2)
noncomputable def tabF (B : Nat) (mods : List Nat) (T : List (Nat × CR)) : CAL := fun y avs E ov => match tabG B mods E ov y avs T with
  | some c => bif wfS E.length [] [] ov then some [((mkOv (retA E c.2.2.2.1).1 c.2.2.2.2.1).1, (retA E c.2.2.2.1).2, (mkOv (retA E c.2.2.2.1).1 c.2.2.2.2.1).2 ++ ov.filter (fun q => !(memN q.1.1 c.2.2.2.2.2)))] else none
  | none => none
section TAB
variable {l : Launch} {D : va_G} {tys : List (ClassId × FieldType)} {A : Nat → Prop} {ad : Nat → Nat} {G : List GC}
noncomputable def CRpost (ad : Nat → Nat) (tys : List (ClassId × FieldType)) (G : List GC) (c : CR) (ws : va_W) : Option Value → va_W → Prop := fun r ws' => GOK ad tys G ws' ∧ FRm c.2.2.2.2.2 ws ws' ∧ rtOK ad c.2.2.2.1 r ∧ preOK ad c.2.2.2.2.1 ws'
noncomputable def CRok (l : Launch) (D : va_G) (tys : List (ClassId × FieldType)) (A : Nat → Prop) (ad : Nat → Nat) (G : List GC) (d : Nat) (c : CR) : Prop := ∀ (vs : List Value) (ws : va_W), okvs ad c.2.1 vs → GOK ad tys G ws → preOK ad c.2.2.1 ws → ∃ d', d' < d ∧ CT l D tys A c.1 d' 0 0 vs ws (CRpost ad tys G c ws)
theorem memN_not {c : Nat} : ∀ {l : List Nat}, memN c l = false → c ∉ l
  | [], _ => by simp
  | x :: t, h => by
    unfold memN at h
    rw [Bool.or_eq_false_iff] at h
    intro hm
    rcases List.mem_cons.mp hm with e | hm
    · rw [e] at h
      exact absurd h.1 (by rw [Nat.beq_refl]; decide)
    · exact memN_not h.2 hm
/-- what the contracts of a table say, in the worlds that keep the rest of w0 -/
noncomputable def TOK (l : Launch) (D : va_G) (tys : List (ClassId × FieldType)) (A : Nat → Prop) (ad : Nat → Nat) (G : List GC) (mods : List Nat) (w0 : va_W) (T : List (Nat × CR)) : Prop := ∀ q ∈ T, ∀ (vs : List Value) (ws : va_W), okvs ad q.2.2.1 vs → GOK ad tys G ws → preOK ad q.2.2.2.1 ws → FRm mods w0 ws → ∃ d', d' < q.1 ∧ CT l D tys A q.2.1 d' 0 0 vs ws (CRpost ad tys G q.2 ws)
theorem TOK_of {mods : List Nat} {w0 : va_W} {T : List (Nat × CR)} (hT : ∀ q ∈ T, CRok l D tys A ad G q.1 q.2) : TOK l D tys A ad G mods w0 T := fun c hc vs ws h1 h2 h3 _ => hT c hc vs ws h1 h2 h3
theorem tab_ok {mods : List Nat} {w0 : va_W} {T : List (Nat × CR)} {d : Nat} (hT : TOK l D tys A ad G mods w0 T) : CALok l D tys A ad G mods w0 (tabF d mods T) d := by
  intro y avs E ov outs σ ws h hσ hH hy
  unfold tabF at h
  cases h1 : tabG d mods E ov y avs T with
  | none => rw [h1] at h; cases h
  | some c =>
    rw [h1] at h
    dsimp only at h
    cases hw : wfS E.length [] [] ov with
    | false => rw [hw] at h; cases h
    | true =>
      rw [hw] at h
      cases h
      obtain ⟨⟨dc, c1, cB⟩, rfl, c3, c4, c5⟩ := tabG_ok h1
      obtain ⟨d', hd, hct⟩ := hT (dc, c) c1 (avs.map (conc ad σ)) ws (argM_ok hσ c3) hH.1 (preM_ok hσ hH.2.1 c5) hH.2.2
      refine ⟨d', Nat.lt_of_lt_of_le hd cB, CT_post hct ?_⟩
      rintro r ws' ⟨q1, q2, q3, q4⟩
      have hR : ∃ σ1, ext E.length σ σ1 ∧ E.length ≤ (retA E c.2.2.2.1).1.length ∧ inE σ1 (retA E c.2.2.2.1).1 ∧ r = (retA E c.2.2.2.1).2.map (conc ad σ1) ∧ ∀ v, (retA E c.2.2.2.1).2 = some v → wfA (retA E c.2.2.2.1).1.length v = true := by
        cases hr : c.2.2.2.1 with
        | none =>
          rw [hr] at q3
          cases r with
          | some _ => exact q3.elim
          | none => exact ⟨σ, ext_rf, Nat.le_refl _, hσ, by show none = Option.map _ none; rw [Option.map_none], fun v hv => by cases hv⟩
        | some sp =>
          rw [hr] at q3
          cases r with
          | none => exact q3.elim
          | some v =>
            obtain ⟨σ1, a1, a2, a3, a4, a5⟩ := mk1_ok hσ q3
            exact ⟨σ1, a1, a2, a3, by show some v = some (conc ad σ1 (mk1 E sp).2); rw [a4], fun w hw => by cases hw; exact a5⟩
      obtain ⟨σ1, a1, a2, a3, a4, a5⟩ := hR
      obtain ⟨σ2, b1, b2, b3, b4⟩ := mkOv_ok (pre := c.2.2.2.2.1) a3 q4
      refine ⟨_, List.mem_singleton.mpr rfl, σ2, ext_tr a2 a1 b1, Nat.le_trans a2 b2, b3, ?_, q1, ?_, ?_⟩
      · rw [a4]
        dsimp only
        cases hr : (retA E c.2.2.2.1).2 with
        | none => rw [Option.map_none, Option.map_none]
        | some v => show some _ = some _; rw [conc_ext b1 (a5 v hr)]
      · intro p hp
        rcases List.mem_append.mp hp with hp | hp
        · exact b4 p hp
        · obtain ⟨p1, p2⟩ := List.mem_filter.mp hp
          obtain ⟨-, -, e3⟩ := wfS_ok (ad := ad) hw (ext_tr a2 a1 b1)
          have hm : memN p.1.1 c.2.2.2.2.2 = false := by simpa using p2
          rw [q2.1 p.1.1 (memN_not hm)]
          exact e3 ws hH.2.1 p p1
      · exact FRm_tr hH.2.2 q2 (fun x hx => allN_in c4 x hx)
/-- contracts whose answer lies in one of two ranges, and that write nothing -/
noncomputable abbrev CR2 : Type := Nat × List SP3 × SP3 × SP3
noncomputable def alt2 (B : Nat) (E : EV) (y : Nat) (avs : List AV) : List (Nat × CR2) → Option CR2
  | [] => none
  | c :: t => bif Nat.beq c.2.1 y && (Nat.ble c.1 B && argM E c.2.2.1 avs) then some c.2 else alt2 B E y avs t
theorem alt2_ok {B : Nat} {E : EV} {y : Nat} {avs : List AV} : ∀ {T : List (Nat × CR2)} {c : CR2}, alt2 B E y avs T = some c → (∃ d, (d, c) ∈ T ∧ d ≤ B) ∧ c.1 = y ∧ argM E c.2.1 avs = true
  | [], c, h => by cases h
  | b :: t, c, h => by
    unfold alt2 at h
    cases hb : (Nat.beq b.2.1 y && (Nat.ble b.1 B && argM E b.2.2.1 avs)) with
    | true =>
      rw [hb] at h
      cases h
      rw [Bool.and_eq_true, Bool.and_eq_true] at hb
      exact ⟨⟨b.1, List.mem_cons_self, Nat.le_of_ble_eq_true hb.2.1⟩, Nat.eq_of_beq_eq_true hb.1, hb.2.2⟩
    | false =>
      rw [hb] at h
      obtain ⟨⟨d, a, e⟩, b⟩ := alt2_ok h
      exact ⟨⟨d, List.mem_cons_of_mem _ a, e⟩, b⟩
noncomputable def tabX (B : Nat) (mods : List Nat) (T : List (Nat × CR)) (T2 : List (Nat × CR2)) : CAL := fun y avs E ov => match tabF B mods T y avs E ov with
  | some o => some o
  | none => match alt2 B E y avs T2 with
    | some c => bif wfS E.length [] [] ov then some [((mk1 E c.2.2.1).1, some (mk1 E c.2.2.1).2, ov), ((mk1 E c.2.2.2).1, some (mk1 E c.2.2.2).2, ov)] else none
    | none => none
noncomputable def T2OK (l : Launch) (D : va_G) (tys : List (ClassId × FieldType)) (A : Nat → Prop) (ad : Nat → Nat) (T2 : List (Nat × CR2)) : Prop := ∀ q ∈ T2, ∀ (vs : List Value) (ws : va_W), okvs ad q.2.2.1 vs → ∃ d', d' < q.1 ∧ CT l D tys A q.2.1 d' 0 0 vs ws (fun r ws' => ws' = ws ∧ (rtOK ad (some q.2.2.2.1) r ∨ rtOK ad (some q.2.2.2.2) r))
theorem T2OK_nil : T2OK l D tys A ad [] := fun c hc => by cases hc
theorem tabX_ok {mods : List Nat} {w0 : va_W} {T : List (Nat × CR)} {T2 : List (Nat × CR2)} {d : Nat} (hT : TOK l D tys A ad G mods w0 T) (hT2 : T2OK l D tys A ad T2) : CALok l D tys A ad G mods w0 (tabX d mods T T2) d := by
  intro y avs E ov outs σ ws h hσ hH hy
  unfold tabX at h
  cases h1 : tabF d mods T y avs E ov with
  | some o =>
    rw [h1] at h
    cases h
    exact tab_ok hT y avs E ov outs σ ws h1 hσ hH hy
  | none =>
    rw [h1] at h
    dsimp only at h
    cases h2 : alt2 d E y avs T2 with
    | none => rw [h2] at h; cases h
    | some c =>
      rw [h2] at h
      dsimp only at h
      cases hw : wfS E.length [] [] ov with
      | false => rw [hw] at h; cases h
      | true =>
        rw [hw] at h
        cases h
        obtain ⟨⟨dc, c1, cB⟩, rfl, c3⟩ := alt2_ok h2
        obtain ⟨d', hd, hct⟩ := hT2 (dc, c) c1 (avs.map (conc ad σ)) ws (argM_ok hσ c3)
        refine ⟨d', Nat.lt_of_lt_of_le hd cB, CT_post hct ?_⟩
        rintro r ws' ⟨rfl, q⟩
        have one : ∀ sp : SP3, rtOK ad (some sp) r → ∀ L : List OUT, ((mk1 E sp).1, some (mk1 E sp).2, ov) ∈ L → PO ad tys G mods w0 E.length σ L r ws' := by
          intro sp hr L hL
          cases r with
          | none => exact hr.elim
          | some v =>
            obtain ⟨σ1, a1, a2, a3, a4, a5⟩ := mk1_ok hσ hr
            obtain ⟨-, -, e3⟩ := wfS_ok (ad := ad) hw a1
            exact ⟨_, hL, σ1, a1, a2, a3, by show some v = some (conc ad σ1 (mk1 E sp).2); rw [a4], hH.1, e3 _ hH.2.1, hH.2.2⟩
        rcases q with q | q
        · exact one _ q _ List.mem_cons_self
        · exact one _ q _ (List.mem_cons_of_mem _ List.mem_cons_self)
end TAB
end
section
noncomputable def argsA : Nat → List AV → AL
  | _, [] => []
  | i, v :: vs => (i, v) :: argsA (bif Nat.beq v.1 1 then i + 2 else i + 1) vs
theorem argsA_map {ad : Nat → Nat} {σ : Nat → Int} : ∀ {avs : List AV} {i : Nat}, (argsA i avs).map (cvp ad σ) = lv_args i (avs.map (conc ad σ))
  | [], i => by unfold argsA; rw [List.map_nil, List.map_nil]; rfl
  | v :: vs, i => by
    unfold argsA
    rw [List.map_cons, argsA_map, List.map_cons]
    show _ = (i, conc ad σ v) :: lv_args (if (conc ad σ v).category = 2 then i + 2 else i + 1) (vs.map (conc ad σ))
    have c := conc_cat (ad := ad) (σ := σ) v
    cases h : Nat.beq v.1 1 with
    | true => rw [h] at c; rw [if_pos (beq_iff_eq.mp c)]; rfl
    | false => rw [h] at c; rw [if_neg (fun e => by rw [e] at c; exact absurd c (by decide))]; rfl
noncomputable def wrds : List AV → Nat
  | [] => 0
  | v :: vs => (bif Nat.beq v.1 1 then 2 else 1) + wrds vs
theorem wrds_len {ad : Nat → Nat} {σ : Nat → Int} : ∀ {avs : List AV}, (lg_sl (avs.map (conc ad σ))).length = wrds avs
  | [] => by rw [List.map_nil]; rfl
  | v :: vs => by
    have ih := wrds_len (ad := ad) (σ := σ) (avs := vs)
    rw [List.map_cons]
    have e : lg_sl (conc ad σ v :: vs.map (conc ad σ)) = (if (conc ad σ v).category = 2 then [Slot.val (conc ad σ v), .second] else [.val (conc ad σ v)]) ++ lg_sl (vs.map (conc ad σ)) := by
      unfold lg_sl
      rw [List.flatMap_cons]
    rw [e, List.length_append, ih]
    show _ + wrds vs = (bif Nat.beq v.1 1 then 2 else 1) + wrds vs
    have c := conc_cat (ad := ad) (σ := σ) v
    cases h : Nat.beq v.1 1 with
    | true => rw [h] at c; rw [if_pos (beq_iff_eq.mp c)]; rfl
    | false => rw [h] at c; rw [if_neg (fun e => by rw [e] at c; exact absurd c (by decide))]; rfl
noncomputable def inl (G : List GC) (mods : List Nat) (T : List (Nat × CR)) (T2 : List (Nat × CR2)) (fuel : Nat) : Nat → CAL
  | 0 => tabX 0 mods T T2
  | n + 1 => fun y avs E ov => match tabX (n + 1) mods T T2 y avs E ov with
    | some o => some o
    | none => bif Nat.ble (wrds avs) (mML y) then exN G mods y [] none (inl G mods T T2 fuel n) fuel (0, E, argsA 0 avs, [], ov) else none
noncomputable def okO (c : CR) (o : OUT) : Bool := (match c.2.2.2.1 with
  | none => (match o.2.1 with
    | none => true
    | some _ => false)
  | some sp => (match o.2.1 with
    | some v => spOK o.1 v sp
    | none => false)) && preM o.1 o.2.2 c.2.2.2.2.1
noncomputable def vr1 (G : List GC) (T : List (Nat × CR)) (T2 : List (Nat × CR2)) (fuel dep : Nat) (c : CR) (cuts : List (Nat × CUT)) (m0 : Option LF) (s : ST) : Bool := match exN G c.2.2.2.2.2 c.1 cuts m0 (inl G c.2.2.2.2.2 T T2 fuel dep) fuel s with
  | some outs => outs.all (okO c)
  | none => false
noncomputable def vrf (G : List GC) (T : List (Nat × CR)) (T2 : List (Nat × CR2)) (fuel dep : Nat) (c : CR) (cuts : List (Nat × CUT)) : Bool := Nat.blt c.1 352 && (Nat.ble (wrds (mkAs [] c.2.1).2) (mML c.1) && (vr1 G T T2 fuel dep c cuts none (0, (mkOv (mkAs [] c.2.1).1 c.2.2.1).1, argsA 0 (mkAs [] c.2.1).2, [], (mkOv (mkAs [] c.2.1).1 c.2.2.1).2)
  && (wfS (mkAs [] c.2.1).1.length [] (mkAs [] c.2.1).2 [] && cuts.all (fun p => wfT p.2.1.length p.2.2.2.2.2.2 && vr1 G T T2 fuel dep c cuts (some p.2.2.2.2.2) (p.1, p.2.1, p.2.2.1, p.2.2.2.1, p.2.2.2.2.1)))))
section VRF
variable {l : Launch} {D : va_G} {tys : List (ClassId × FieldType)} {A : Nat → Prop} {ad : Nat → Nat} {G : List GC}
theorem inl_ok {mods : List Nat} {w0 : va_W} {T : List (Nat × CR)} {T2 : List (Nat × CR2)} {fuel : Nat} (hAD : ∀ i : Nat, ad (1000 + i) = D.2 1000 i) (hT : TOK l D tys A ad G mods w0 T) (hT2 : T2OK l D tys A ad T2) : ∀ n : Nat, CALok l D tys A ad G mods w0 (inl G mods T T2 fuel n) n
  | 0 => tabX_ok hT hT2
  | n + 1 => by
    intro y avs E ov outs σ ws h hσ hH hy
    have h : (match tabX (n + 1) mods T T2 y avs E ov with
      | some o => some o
      | none => bif Nat.ble (wrds avs) (mML y) then exN G mods y [] none (inl G mods T T2 fuel n) fuel (0, E, argsA 0 avs, [], ov) else none) = some outs := h
    cases h1 : tabX (n + 1) mods T T2 y avs E ov with
    | some o =>
      rw [h1] at h
      cases h
      obtain ⟨d', a, b⟩ := tabX_ok (w0 := w0) hT hT2 y avs E ov outs σ ws h1 hσ hH hy
      exact ⟨d', by omega, b⟩
    | none =>
      rw [h1] at h
      dsimp only at h
      cases h2 : Nat.ble (wrds avs) (mML y) with
      | false => rw [h2] at h; cases h
      | true =>
        rw [h2, cond_true] at h
        refine ⟨n, by omega, CT_of_V hy (by rw [wrds_len]; exact Nat.le_of_ble_eq_true h2) ?_⟩
        have K := exN_ok (k := y) (d := n) (post := PO ad tys G mods w0 E.length σ outs) (B := fun _ => True) (hAD := hAD) (inl_ok (fuel := fuel) hAD hT hT2 n) (fun pc C hc => by cases hc) fuel _ outs σ ws h hσ hH (Or.inl ⟨rfl, fun _ => trivial⟩) (fun o ho σ' ws' e1 e2 e3 e4 => ⟨o, ho, σ', e1, e2, e3, rfl, e4⟩)
        unfold VS at K
        dsimp only at K
        rw [argsA_map, List.map_nil] at K
        exact K
theorem okO_ok {c : CR} {o : OUT} {σ : Nat → Int} {ws w0 : va_W} (h : okO c o = true) (hσ : inE σ o.1) (hH : HK ad tys G c.2.2.2.2.2 w0 σ o.2.2 ws) : CRpost ad tys G c w0 (o.2.1.map (conc ad σ)) ws := by
  unfold okO at h
  rw [Bool.and_eq_true] at h
  refine ⟨hH.1, hH.2.2, ?_, preM_ok hσ hH.2.1 h.2⟩
  have h := h.1
  cases hr : c.2.2.2.1 with
  | none =>
    rw [hr] at h
    cases ho : o.2.1 with
    | none => rw [Option.map_none]; exact trivial
    | some v => rw [ho] at h; cases h
  | some sp =>
    rw [hr] at h
    cases ho : o.2.1 with
    | none => rw [ho] at h; cases h
    | some v => rw [ho] at h; exact spOK_ok hσ h
theorem vr1_ok {T : List (Nat × CR)} {T2 : List (Nat × CR2)} {fuel dep : Nat} {c : CR} {cuts : List (Nat × CUT)} {m0 : Option LF} {s : ST} {B : Int → Prop} {w0 ws : va_W} {σ : Nat → Int} (hAD : ∀ i : Nat, ad (1000 + i) = D.2 1000 i) (hT : TOK l D tys A ad G c.2.2.2.2.2 w0 T) (hT2 : T2OK l D tys A ad T2) (h : vr1 G T T2 fuel dep c cuts m0 s = true) (hσ : inE σ s.2.1) (hH : HK ad tys G c.2.2.2.2.2 w0 σ s.2.2.2.2 ws) (hM : MB m0 s.2.1.length σ B)
    (hcut : ∀ (pc : Nat) (C : CUT), (pc, C) ∈ cuts → ∀ (τ : Nat → Int) (ws : va_W), inE τ C.1 → HK ad tys G c.2.2.2.2.2 w0 τ C.2.2.2.1 ws → 0 ≤ ev τ C.2.2.2.2 → B (ev τ C.2.2.2.2) → V l D tys A c.1 dep 0 0 (CRpost ad tys G c w0) 0 0 pc (C.2.1.map (cvp ad τ)) (C.2.2.1.map (conc ad τ)) ws) : VS l D tys A c.1 dep (CRpost ad tys G c w0) ad σ s ws := by
  unfold vr1 at h
  cases h1 : exN G c.2.2.2.2.2 c.1 cuts m0 (inl G c.2.2.2.2.2 T T2 fuel dep) fuel s with
  | none => rw [h1] at h; cases h
  | some outs =>
    rw [h1] at h
    dsimp only at h
    exact exN_ok hAD (inl_ok hAD hT hT2 dep) hcut fuel s outs σ ws h1 hσ hH hM (fun o ho σ' ws' e1 e2 e3 e4 => okO_ok (List.all_eq_true.mp h o ho) e3 e4)
noncomputable def CRokK (l : Launch) (D : va_G) (tys : List (ClassId × FieldType)) (A : Nat → Prop) (ad : Nat → Nat) (G : List GC) (K0 : va_W → Prop) (d : Nat) (c : CR) : Prop := ∀ (vs : List Value) (ws : va_W), okvs ad c.2.1 vs → GOK ad tys G ws → preOK ad c.2.2.1 ws → K0 ws → ∃ d', d' < d ∧ CT l D tys A c.1 d' 0 0 vs ws (CRpost ad tys G c ws)
theorem CRK_of_vrf {K0 : va_W → Prop} {T : List (Nat × CR)} {T2 : List (Nat × CR2)} {fuel dep : Nat} {c : CR} {cuts : List (Nat × CUT)} (hAD : ∀ i : Nat, ad (1000 + i) = D.2 1000 i) (hTK : ∀ w0, K0 w0 → TOK l D tys A ad G c.2.2.2.2.2 w0 T) (hT2 : T2OK l D tys A ad T2) (h : vrf G T T2 fuel dep c cuts = true) : CRokK l D tys A ad G K0 (dep + 1) c := by
  intro vs ws hv hG hp hK0
  have hT := hTK ws hK0
  unfold vrf at h
  rw [Bool.and_eq_true, Bool.and_eq_true, Bool.and_eq_true, Bool.and_eq_true] at h
  obtain ⟨h1, h2, h3, h4, h5⟩ := h
  have loop : ∀ (N : Nat) (pc : Nat) (C : CUT), (pc, C) ∈ cuts → ∀ (τ : Nat → Int) (ws2 : va_W), inE τ C.1 → HK ad tys G c.2.2.2.2.2 ws τ C.2.2.2.1 ws2 → 0 ≤ ev τ C.2.2.2.2 → ev τ C.2.2.2.2 < (N : Int) → V l D tys A c.1 dep 0 0 (CRpost ad tys G c ws) 0 0 pc (C.2.1.map (cvp ad τ)) (C.2.2.1.map (conc ad τ)) ws2 := by
    intro N
    induction N with
    | zero => intro pc C _ τ ws2 _ _ h0 hN; exact absurd h0 (by omega)
    | succ N ih =>
      intro pc C hc τ ws2 hτ hH h0 hN
      have m := List.all_eq_true.mp h5 _ hc
      rw [Bool.and_eq_true] at m
      refine vr1_ok (s := (pc, C.1, C.2.1, C.2.2.1, C.2.2.2.1)) (B := fun x => x < ev τ C.2.2.2.2) hAD hT hT2 m.2 hτ hH (Or.inr ⟨_, rfl, m.1, fun x hx => hx⟩) ?_
      intro pc' C' hc' τ' ws3 a1 a2 a3 a4
      exact ih pc' C' hc' τ' ws3 a1 a2 a3 (by omega)
  refine ⟨dep, by omega, CT_of_V (Nat.blt_eq.mp h1) ?_ ?_⟩
  · obtain ⟨σ1, -, -, -, a4⟩ := mkAs_ok (ad := ad) (E := []) (σ := fun _ => 0) (fun s q hq => by simp at hq) hv
    rw [← a4, wrds_len]
    exact Nat.le_of_ble_eq_true h2
  · obtain ⟨σ1, a1, a2, a3, a4⟩ := mkAs_ok (ad := ad) (E := []) (σ := fun _ => 0) (fun s q hq => by simp at hq) hv
    obtain ⟨σ2, b1, b2, b3, b4⟩ := mkOv_ok (ad := ad) a3 hp
    obtain ⟨-, e2, -⟩ := wfS_ok (ad := ad) h4 b1
    have K := vr1_ok (w0 := ws) (ws := ws) (σ := σ2) (B := fun _ => True) hAD hT hT2 h3 b3 ⟨hG, b4, FRm_rf⟩ (Or.inl ⟨rfl, fun _ => trivial⟩) (fun pc C hc τ ws2 q1 q2 q3 _ => loop (ev τ C.2.2.2.2 + 1).toNat pc C hc τ ws2 q1 q2 q3 (by omega))
    unfold VS at K
    dsimp only at K
    rw [argsA_map, e2, a4, List.map_nil] at K
    exact K
theorem CR_of_vrf {T : List (Nat × CR)} {T2 : List (Nat × CR2)} {fuel dep : Nat} {c : CR} {cuts : List (Nat × CUT)} (hAD : ∀ i : Nat, ad (1000 + i) = D.2 1000 i) (hT : ∀ q ∈ T, CRok l D tys A ad G q.1 q.2) (hT2 : T2OK l D tys A ad T2) (h : vrf G T T2 fuel dep c cuts = true) : CRok l D tys A ad G (dep + 1) c :=
  fun vs ws h1 h2 h3 => CRK_of_vrf (K0 := fun _ => True) hAD (fun _ _ => TOK_of hT) hT2 h vs ws h1 h2 h3 trivial
end VRF
end
