noncomputable def lkT (s : Nat) : List (Nat × LF) → Option LF
  | [] => none
  | q :: t => bif Nat.beq q.1 s then some q.2 else lkT s t
noncomputable def eq0 (E : EV) (f g : LF) : Bool := match iv E (lfSub f g) with
  | some u => eqI u.1 0 && eqI u.2 0
  | none => false
noncomputable def mAV (E : EV) (θ : List (Nat × LF)) (cv v : AV) : Option (List (Nat × LF)) := bif Nat.beq cv.1 v.1 then
    (bif Nat.beq cv.1 2 then (bif eqI cv.2.1.1 v.2.1.1 then some θ else none)
    else bif Nat.beq cv.1 3 then some θ
    else bif Nat.ble cv.1 1 then (match cv.2.1.2 with
      | [] => (match iv E v.2.1 with
        | some u => bif eqI u.1 cv.2.1.1 && eqI u.2 cv.2.1.1 then some θ else none
        | none => none)
      | [q] => bif eqI cv.2.1.1 0 && eqI q.1 1 then (match lkT q.2 θ with
        | none => some ((q.2, v.2.1) :: θ)
        | some f => bif eq0 E f v.2.1 then some θ else none) else none
      | _ => none)
    else none)
  else none
noncomputable def mAL (E : EV) (als : AL) : AL → List (Nat × LF) → Option (List (Nat × LF))
  | [], θ => some θ
  | q :: t, θ => match lkA q.1 als with
    | some v => match mAV E θ q.2 v with
      | some θ' => mAL E als t θ'
      | none => none
    | none => none
noncomputable def mSt (E : EV) : List AV → List AV → List (Nat × LF) → Option (List (Nat × LF))
  | [], v, θ => match v with
    | [] => some θ
    | _ => none
  | c :: t, v, θ => match v with
    | [] => none
    | w :: r => match mAV E θ c w with
      | some θ' => mSt E t r θ'
      | none => none
noncomputable def mOv (E : EV) (ov : OV) : OV → List (Nat × LF) → Option (List (Nat × LF))
  | [], θ => some θ
  | q :: t, θ => match ovAt q.1.1 q.1.2 ov with
    | some v => match mAV E θ q.2 v with
      | some θ' => mOv E ov t θ'
      | none => none
    | none => none
noncomputable def sbT (θ : List (Nat × LF)) : List (Int × Nat) → Option LF
  | [] => some (0, [])
  | q :: t => match lkT q.2 θ, sbT θ t with
    | some f, some g => some (lfAdd (lfSc q.1 f) g)
    | _, _ => none
noncomputable def okIv (θ : List (Nat × LF)) (E : EV) : Nat → EV → Bool
  | _, [] => true
  | s, u :: t => (match lkT s θ with
    | some f => (match iv E f with
      | some w => leI u.1 w.1 && leI w.2 u.2
      | none => false)
    | none => false) && okIv θ E (s + 1) t
noncomputable def chkM1 (m0 : Option LF) (E : EV) (m : LF) : Bool := (match iv E m with
    | some u => leI 0 u.1
    | none => false) && (match m0 with
    | none => true
    | some q => match iv E (lfSub m q) with
      | some w => leI w.2 (-1)
      | none => false)
noncomputable def chkCut (m0 : Option LF) (E : EV) (als : AL) (ast : List AV) (ov : OV) (C : CUT) : Bool := match mAL E als C.2.1 [] with
  | none => false
  | some t1 => match mSt E C.2.2.1 ast t1 with
    | none => false
    | some t2 => match mOv E ov C.2.2.2.1 t2 with
      | none => false
      | some θ => okIv θ E 0 C.1 && (match sbT θ C.2.2.2.2.2 with
        | some g => chkM1 m0 E (lfAdd (lfC C.2.2.2.2.1) g)
        | none => false)
noncomputable def sgc (θ : List (Nat × LF)) (σ : Nat → Int) : Nat → Int := fun s => match lkT s θ with
  | some f => ev σ f
  | none => 0
noncomputable def subT (θ θ' : List (Nat × LF)) : Prop := ∀ s f, lkT s θ = some f → lkT s θ' = some f
theorem subT_rf {θ : List (Nat × LF)} : subT θ θ := fun _ _ h => h
theorem subT_tr {a b c : List (Nat × LF)} (h1 : subT a b) (h2 : subT b c) : subT a c := fun s f h => h2 s f (h1 s f h)
theorem eq0_ok {σ : Nat → Int} {E : EV} (hσ : inE σ E) {f g : LF} (h : eq0 E f g = true) : ev σ f = ev σ g := by
  unfold eq0 at h
  cases h1 : iv E (lfSub f g) with
  | none => rw [h1] at h; cases h
  | some u =>
    rw [h1] at h
    dsimp only at h
    rw [Bool.and_eq_true, eqI_iff, eqI_iff] at h
    have p := iv_ok hσ h1
    rw [lfSub_ev] at p
    omega
theorem conc_tag {ad : Nat → Nat} {σ σ' : Nat → Int} {c v : AV} (ht : Nat.beq c.1 v.1 = true) (h1 : Nat.ble c.1 1 = true) (he : ev σ' c.2.1 = ev σ v.2.1) : conc ad σ' c = conc ad σ v := by
  have e := Nat.eq_of_beq_eq_true ht
  have b := Nat.le_of_ble_eq_true h1
  rcases (show c.1 = 0 ∨ c.1 = 1 by omega) with q | q
  · rw [conc0 (v := c) (by rw [q]; rfl), conc0 (v := v) (by rw [← e, q]; rfl), he]
  · rw [conc1 (v := c) (by rw [q]; rfl), conc1 (v := v) (by rw [← e, q]; rfl), he]
theorem mAV_ok {ad : Nat → Nat} {σ : Nat → Int} {E : EV} (hσ : inE σ E) {θ θ' : List (Nat × LF)} {c v : AV} (h : mAV E θ c v = some θ') : subT θ θ' ∧ ∀ θF, subT θ' θF → conc ad (sgc θF σ) c = conc ad σ v := by
  unfold mAV at h
  cases ht : Nat.beq c.1 v.1 with
  | false => rw [ht] at h; cases h
  | true =>
    rw [ht, cond_true] at h
    have et := Nat.eq_of_beq_eq_true ht
    cases c2 : Nat.beq c.1 2 with
    | true =>
      rw [c2, cond_true] at h
      cases h1 : eqI c.2.1.1 v.2.1.1 with
      | false => rw [h1] at h; cases h
      | true =>
        rw [h1] at h
        cases h
        have h1 := eqI_iff.mp h1
        refine ⟨subT_rf, fun θF _ => ?_⟩
        rw [conc2 c2, conc2 (by rw [← et]; exact c2), h1]
    | false =>
      rw [c2, cond_false] at h
      cases c3 : Nat.beq c.1 3 with
      | true =>
        rw [c3] at h
        cases h
        refine ⟨subT_rf, fun θF _ => ?_⟩
        rw [conc3 c3, conc3 (by rw [← et]; exact c3)]
      | false =>
        rw [c3, cond_false] at h
        cases c1 : Nat.ble c.1 1 with
        | false => rw [c1] at h; cases h
        | true =>
          rw [c1, cond_true] at h
          cases hl : c.2.1.2 with
          | nil =>
            rw [hl] at h
            dsimp only at h
            cases h1 : iv E v.2.1 with
            | none => rw [h1] at h; cases h
            | some u =>
              rw [h1] at h
              dsimp only at h
              cases h2 : (eqI u.1 c.2.1.1 && eqI u.2 c.2.1.1) with
              | false => rw [h2] at h; cases h
              | true =>
                rw [h2] at h
                cases h
                rw [Bool.and_eq_true, eqI_iff, eqI_iff] at h2
                have p := iv_ok hσ h1
                exact ⟨subT_rf, fun θF _ => conc_tag ht c1 (by rw [lfnil_ev hl]; omega)⟩
          | cons q t =>
            rw [hl] at h
            cases t with
            | cons _ _ => cases h
            | nil =>
              dsimp only at h
              cases h2 : (eqI c.2.1.1 0 && eqI q.1 1) with
              | false => rw [h2] at h; cases h
              | true =>
                rw [h2, cond_true] at h
                rw [Bool.and_eq_true, eqI_iff, eqI_iff] at h2
                have evc : ∀ τ : Nat → Int, ev τ c.2.1 = τ q.2 := fun τ => by
                  unfold ev
                  rw [hl, h2.1]
                  simp only [evT]
                  rw [h2.2]
                  omega
                cases h3 : lkT q.2 θ with
                | none =>
                  rw [h3] at h
                  cases h
                  refine ⟨fun s f hs => ?_, fun θF hF => conc_tag ht c1 ?_⟩
                  · unfold lkT
                    by_cases e : q.2 = s
                    · rw [e] at h3; rw [h3] at hs; cases hs
                    · rw [bif_f (by cases hb : Nat.beq q.2 s with | false => rfl | true => exact absurd (Nat.eq_of_beq_eq_true hb) e)]
                      exact hs
                  · rw [evc]
                    have := hF q.2 v.2.1 (by unfold lkT; rw [bif_t (by exact Nat.beq_refl q.2)])
                    unfold sgc
                    rw [this]
                | some f =>
                  rw [h3] at h
                  dsimp only at h
                  cases h4 : eq0 E f v.2.1 with
                  | false => rw [h4] at h; cases h
                  | true =>
                    rw [h4] at h
                    cases h
                    refine ⟨subT_rf, fun θF hF => conc_tag ht c1 ?_⟩
                    rw [evc]
                    have := hF _ _ h3
                    unfold sgc
                    rw [this]
                    exact eq0_ok hσ h4
theorem mAL_ok {ad : Nat → Nat} {σ : Nat → Int} {E : EV} (hσ : inE σ E) {als : AL} : ∀ {c : AL} {θ θ' : List (Nat × LF)}, mAL E als c θ = some θ' → subT θ θ' ∧ ∀ θF, subT θ' θF → ∀ q ∈ c, cvp ad (sgc θF σ) q ∈ als.map (cvp ad σ)
  | [], θ, θ', h => by cases h; exact ⟨subT_rf, fun _ _ q hq => by cases hq⟩
  | q :: t, θ, θ', h => by
    unfold mAL at h
    cases h1 : lkA q.1 als with
    | none => rw [h1] at h; cases h
    | some v =>
      rw [h1] at h
      dsimp only at h
      cases h2 : mAV E θ q.2 v with
      | none => rw [h2] at h; cases h
      | some θ1 =>
        rw [h2] at h
        obtain ⟨a1, a2⟩ := mAV_ok (ad := ad) hσ h2
        obtain ⟨b1, b2⟩ := mAL_ok hσ h
        refine ⟨subT_tr a1 b1, fun θF hF p hp => ?_⟩
        rcases List.mem_cons.mp hp with rfl | hp
        · have m := lk_in (ad := ad) (σ := σ) h1
          unfold cvp
          rw [a2 θF (subT_tr b1 hF)]
          exact m
        · exact b2 θF hF p hp
theorem mSt_nc {E : EV} {w : AV} {r : List AV} {θ : List (Nat × LF)} : mSt E [] (w :: r) θ = none := by unfold mSt; rfl
theorem mSt_nn {E : EV} {θ : List (Nat × LF)} : mSt E [] [] θ = some θ := by unfold mSt; rfl
theorem mSt_cn {E : EV} {c : AV} {t : List AV} {θ : List (Nat × LF)} : mSt E (c :: t) [] θ = none := by unfold mSt; rfl
theorem mSt_cc {E : EV} {c w : AV} {t r : List AV} {θ : List (Nat × LF)} : mSt E (c :: t) (w :: r) θ = (match mAV E θ c w with
        | some θ' => mSt E t r θ'
        | none => none) := by
  conv => lhs; unfold mSt
theorem map_cc {f g : AV → Value} {c w : AV} {t r : List AV} (h1 : f c = g w) (h2 : t.map f = r.map g) : (c :: t).map f = (w :: r).map g := by
  rw [List.map_cons, List.map_cons, h1, h2]
noncomputable def MSP (ad : Nat → Nat) (σ : Nat → Int) (E : EV) (c : List AV) : Prop := ∀ (v : List AV) (θ θ' : List (Nat × LF)), mSt E c v θ = some θ' → subT θ θ' ∧ ∀ θF, subT θ' θF → c.map (conc ad (sgc θF σ)) = v.map (conc ad σ)
theorem msp_nil {ad : Nat → Nat} {σ : Nat → Int} {E : EV} : MSP ad σ E [] := by
  intro v θ θ' h
  cases v with
  | nil => rw [mSt_nn] at h; have e : θ = θ' := Option.some.inj h; rw [e]; exact ⟨subT_rf, fun _ _ => by rw [List.map_nil, List.map_nil]⟩
  | cons w r => rw [mSt_nc] at h; cases h
theorem msp_cons {ad : Nat → Nat} {σ : Nat → Int} {E : EV} (hσ : inE σ E) {c : AV} {t : List AV} (ih : MSP ad σ E t) : MSP ad σ E (c :: t) := by
  intro v θ θ' h
  cases v with
  | nil => rw [mSt_cn] at h; cases h
  | cons w r =>
    rw [mSt_cc] at h
    cases h2 : mAV E θ c w with
    | none => rw [h2] at h; cases h
    | some θ1 =>
      rw [h2] at h
      obtain ⟨a1, a2⟩ := mAV_ok (ad := ad) hσ h2
      obtain ⟨b1, b2⟩ := ih r θ1 θ' h
      exact ⟨subT_tr a1 b1, fun θF hF => map_cc (a2 θF (subT_tr b1 hF)) (b2 θF hF)⟩
theorem mSt_ok {ad : Nat → Nat} {σ : Nat → Int} {E : EV} (hσ : inE σ E) : ∀ (c : List AV), MSP ad σ E c
  | [] => msp_nil
  | _ :: t => msp_cons hσ (mSt_ok hσ t)
theorem mOv_ok {ad : Nat → Nat} {σ : Nat → Int} {E : EV} (hσ : inE σ E) {ov : OV} : ∀ {c : OV} {θ θ' : List (Nat × LF)}, mOv E ov c θ = some θ' → subT θ θ' ∧ ∀ θF, subT θ' θF → ∀ ws, OVok ad σ ov ws → OVok ad (sgc θF σ) c ws
  | [], θ, θ', h => by cases h; exact ⟨subT_rf, fun _ _ _ _ q hq => by cases hq⟩
  | q :: t, θ, θ', h => by
    unfold mOv at h
    cases h1 : ovAt q.1.1 q.1.2 ov with
    | none => rw [h1] at h; cases h
    | some v =>
      rw [h1] at h
      dsimp only at h
      cases h2 : mAV E θ q.2 v with
      | none => rw [h2] at h; cases h
      | some θ1 =>
        rw [h2] at h
        obtain ⟨a1, a2⟩ := mAV_ok (ad := ad) hσ h2
        obtain ⟨b1, b2⟩ := mOv_ok (ad := ad) hσ h
        refine ⟨subT_tr a1 b1, fun θF hF ws hw p hp => ?_⟩
        rcases List.mem_cons.mp hp with rfl | hp
        · rw [a2 θF (subT_tr b1 hF)]
          exact hw _ (ovAt_mem h1)
        · exact b2 θF hF ws hw p hp
theorem sbT_ok {σ : Nat → Int} {θ : List (Nat × LF)} : ∀ {t : List (Int × Nat)} {g : LF}, sbT θ t = some g → evT (sgc θ σ) t = ev σ g
  | [], g, h => by cases h; simp [evT, ev]
  | q :: t, g, h => by
    unfold sbT at h
    cases h1 : lkT q.2 θ with
    | none => rw [h1] at h; cases h
    | some f =>
      cases h2 : sbT θ t with
      | none => rw [h1, h2] at h; cases h
      | some w =>
        rw [h1, h2] at h
        cases h
        have e := sbT_ok (σ := σ) h2
        unfold evT
        rw [e, lfAdd_ev, lfSc_ev]
        have : sgc θ σ q.2 = ev σ f := by unfold sgc; rw [h1]
        rw [this]
theorem okIv_ok {σ : Nat → Int} {θ : List (Nat × LF)} {E : EV} (hσ : inE σ E) : ∀ {C : EV} {n : Nat}, okIv θ E n C = true → ∀ (s : Nat) (q : Int × Int), C[s]? = some q → q.1 ≤ sgc θ σ (n + s) ∧ sgc θ σ (n + s) ≤ q.2
  | [], n, _, s, q, hq => by simp at hq
  | u :: t, n, h, s, q, hq => by
    unfold okIv at h
    rw [Bool.and_eq_true] at h
    cases s with
    | zero =>
      rw [List.getElem?_cons_zero] at hq
      cases hq
      have h := h.1
      cases h1 : lkT n θ with
      | none => rw [h1] at h; cases h
      | some f =>
        rw [h1] at h
        dsimp only at h
        cases h2 : iv E f with
        | none => rw [h2] at h; cases h
        | some w =>
          rw [h2] at h
          dsimp only at h
          rw [Bool.and_eq_true, leI_iff, leI_iff] at h
          have p := iv_ok hσ h2
          have e : sgc θ σ (n + 0) = ev σ f := by unfold sgc; rw [Nat.add_zero, h1]
          rw [e]
          omega
    | succ s =>
      rw [List.getElem?_cons_succ] at hq
      have r := okIv_ok hσ h.2 s q hq
      rw [show n + (s + 1) = n + 1 + s by omega]
      exact r
section RUN
variable {l : Launch} {D : va_G} {tys : List (ClassId × FieldType)} {A : Nat → Prop} {k d : Nat} {post : Option Value → va_W → Prop} {ad : Nat → Nat} {G : List GC} {mods : List Nat} {w0 : va_W}
theorem chkCut_ok {σ : Nat → Int} {E : EV} {als : AL} {ast : List AV} {ov : OV} {ws : va_W} {C : CUT} {m0 : Option LF} (h : chkCut m0 E als ast ov C = true) (hσ : inE σ E) (hH : HK ad tys G mods w0 σ ov ws) :
    ∃ τ : Nat → Int, inE τ C.1 ∧ HK ad tys G mods w0 τ C.2.2.2.1 ws ∧ (∀ q ∈ C.2.1.map (cvp ad τ), q ∈ als.map (cvp ad σ)) ∧ C.2.2.1.map (conc ad τ) = ast.map (conc ad σ) ∧ 0 ≤ ev τ C.2.2.2.2 ∧ ∀ q, m0 = some q → ev τ C.2.2.2.2 < ev σ q := by
  unfold chkCut at h
  cases h1 : mAL E als C.2.1 [] with
  | none => rw [h1] at h; cases h
  | some t1 =>
    rw [h1] at h
    dsimp only at h
    cases h2 : mSt E C.2.2.1 ast t1 with
    | none => rw [h2] at h; cases h
    | some t2 =>
      rw [h2] at h
      dsimp only at h
      cases h3 : mOv E ov C.2.2.2.1 t2 with
      | none => rw [h3] at h; cases h
      | some θ =>
        rw [h3] at h
        dsimp only at h
        rw [Bool.and_eq_true] at h
        obtain ⟨a1, a2⟩ := mAL_ok (ad := ad) hσ h1
        obtain ⟨b1, b2⟩ := mSt_ok (ad := ad) hσ _ _ _ _ h2
        obtain ⟨c1, c2⟩ := mOv_ok (ad := ad) hσ h3
        have I := okIv_ok hσ h.1
        have M := h.2
        cases h4 : sbT θ C.2.2.2.2.2 with
        | none => rw [h4] at M; cases M
        | some g =>
          rw [h4] at M
          dsimp only at M
          unfold chkM1 at M
          rw [Bool.and_eq_true] at M
          have em : ev (sgc θ σ) C.2.2.2.2 = ev σ (lfAdd (lfC C.2.2.2.2.1) g) := by
            rw [lfAdd_ev, lfC_ev, ← sbT_ok (σ := σ) h4]
            rfl
          refine ⟨sgc θ σ, fun s q hq => by have := I s q hq; rw [Nat.zero_add] at this; exact this, ⟨hH.1, c2 θ subT_rf ws hH.2.1, hH.2.2⟩, ?_, b2 θ c1, ?_, ?_⟩
          · intro q hq
            obtain ⟨p, hp, rfl⟩ := List.mem_map.mp hq
            exact a2 θ (subT_tr b1 c1) p hp
          · rw [em]
            have M1 := M.1
            cases h5 : iv E (lfAdd (lfC C.2.2.2.2.1) g) with
            | none => rw [h5] at M1; cases M1
            | some u =>
              rw [h5] at M1
              have p := iv_ok hσ h5
              have := leI_iff.mp M1
              omega
          · intro q hq
            rw [em]
            have M2 := M.2
            rw [hq] at M2
            dsimp only at M2
            cases h5 : iv E (lfSub (lfAdd (lfC C.2.2.2.2.1) g) q) with
            | none => rw [h5] at M2; cases M2
            | some u =>
              rw [h5] at M2
              have p := iv_ok hσ h5
              rw [lfSub_ev] at p
              have := leI_iff.mp M2
              omega
noncomputable abbrev CAL : Type := Nat → List AV → EV → OV → Option (List OUT)
noncomputable def exS (a b : Option (List OUT)) : Option (List OUT) := match a, b with
    | some a, some b => some (a ++ b)
    | _, _ => none
noncomputable def exL (f : ST → Option (List OUT)) (l : List ST) : Option (List OUT) := List.rec (motive := fun _ => Option (List OUT)) (some []) (fun s _ ih => exS (f s) ih) l
noncomputable def anyCut (m0 : Option LF) (s : ST) (l : List (Nat × CUT)) : Bool := List.rec (motive := fun _ => Bool) false (fun q _ ih => Bool.rec (motive := fun _ => Bool) ih (Bool.rec (motive := fun _ => Bool) ih true (chkCut m0 s.2.1 s.2.2.1 s.2.2.2.1 s.2.2.2.2 q.2)) (Nat.beq q.1 s.1)) l
theorem anyCut_cons (m0 : Option LF) (s : ST) (q : Nat × CUT) (t : List (Nat × CUT)) : anyCut m0 s (q :: t) = ((Nat.beq q.1 s.1 && chkCut m0 s.2.1 s.2.2.1 s.2.2.2.1 s.2.2.2.2 q.2) || anyCut m0 s t) := by
  show (Bool.rec (motive := fun _ => Bool) (anyCut m0 s t) (Bool.rec (motive := fun _ => Bool) (anyCut m0 s t) true (chkCut m0 s.2.1 s.2.2.1 s.2.2.2.1 s.2.2.2.2 q.2)) (Nat.beq q.1 s.1) : Bool) = _
  cases Nat.beq q.1 s.1 <;> cases chkCut m0 s.2.1 s.2.2.1 s.2.2.2.1 s.2.2.2.2 q.2 <;> rfl
theorem anyCut_ok {m0 : Option LF} {s : ST} : ∀ {cuts : List (Nat × CUT)}, anyCut m0 s cuts = true → ∃ C, (s.1, C) ∈ cuts ∧ chkCut m0 s.2.1 s.2.2.1 s.2.2.2.1 s.2.2.2.2 C = true
  | [], h => by cases h
  | q :: t, h => by
    rw [anyCut_cons] at h
    rw [Bool.or_eq_true, Bool.and_eq_true] at h
    rcases h with h | h
    · refine ⟨q.2, ?_, h.2⟩
      rw [← Nat.eq_of_beq_eq_true h.1]
      exact List.mem_cons_self
    · obtain ⟨C, h1, h2⟩ := anyCut_ok h
      exact ⟨C, List.mem_cons_of_mem _ h1, h2⟩
noncomputable def atS (cuts : List (Nat × CUT)) (m0 : Option LF) (go : ST → Option (List OUT)) (s : ST) : Option (List OUT) := bif anyCut m0 s cuts then some [] else go s
noncomputable def wsum : List AV → Nat
  | [] => 0
  | v :: vs => (bif Nat.beq v.1 1 then 2 else 1) + wsum vs
theorem wsum_ok {ad : Nat → Nat} {σ : Nat → Int} : ∀ {avs : List AV}, ((avs.map (conc ad σ)).map fun v => v.category).sum = wsum avs
  | [] => rfl
  | v :: vs => by
    rw [List.map_cons, List.map_cons, List.sum_cons, wsum_ok]
    show _ = (bif Nat.beq v.1 1 then 2 else 1) + wsum vs
    have c := conc_cat (ad := ad) (σ := σ) v
    rcases lv_cat (conc ad σ v) with q | q
    · rw [q] at c
      rw [q, ← c]
      rfl
    · rw [q] at c
      rw [q, ← c]
      rfl
noncomputable def okRc (G : List GC) (y z : Nat) (avs : List AV) : Bool := bif Nat.beq z 1 then true else match avs with
  | r :: _ => Nat.beq r.1 2 && (match G[r.2.1.1.toNat]? with
    | some g => Nat.beq g.1.1 0 && (Nat.beq g.1.2.1 (mCi y) && Nat.blt (mCi y) 99)
    | none => Nat.ble 1000 r.2.1.1.toNat && Nat.blt r.2.1.1.toNat 1024 && decide ((mY y).cls = "java/lang/String"))
  | [] => false
noncomputable def exC (G : List GC) (cuts : List (Nat × CUT)) (m0 : Option LF) (cal : CAL) (ih : ST → Option (List OUT)) (y z : Nat) (s : ST) : Option (List OUT) :=
  bif Nat.blt y 352 && (Nat.ble z 1 && (Nat.ble (mN y + (1 - z)) s.2.2.2.1.length && (Nat.ble (wsum (s.2.2.2.1.drop (mN y + (1 - z)))) 8 && (wfS s.2.1.length s.2.2.1 (s.2.2.2.1.drop (mN y + (1 - z))) [] && okRc G y z (s.2.2.2.1.take (mN y + (1 - z))).reverse)))) then
    (match cal y (s.2.2.2.1.take (mN y + (1 - z))).reverse s.2.1 s.2.2.2.2 with
    | some outs => exL (atS cuts m0 ih) (outs.map (fun o => (s.1 + 3, o.1, s.2.2.1, o.2.1.toList ++ s.2.2.2.1.drop (mN y + (1 - z)), o.2.2)))
    | none => none)
  else none
noncomputable def exB (G : List GC) (mods : List Nat) (k : Nat) (cuts : List (Nat × CUT)) (m0 : Option LF) (cal : CAL) (ih : ST → Option (List OUT)) (s : ST) : Option (List OUT) := match mI k s.1 with
  | (op, a, x, y, z) => bif Nat.beq op 26 then exC G cuts m0 cal ih y z s else match stpF op G mods k s.1 a x y z s.2.1 s.2.2.1 s.2.2.2.1 s.2.2.2.2 with
    | some (.inl o) => some [o]
    | some (.inr sts) => exL (atS cuts m0 ih) sts
    | none => match stp2 G mods (op, a, x, y, z) s.1 s.2.1 s.2.2.1 s.2.2.2.1 s.2.2.2.2 with
      | some (.inl o) => some [o]
      | some (.inr sts) => exL (atS cuts m0 ih) sts
      | none => none
noncomputable def exN (G : List GC) (mods : List Nat) (k : Nat) (cuts : List (Nat × CUT)) (m0 : Option LF) (cal : CAL) (n : Nat) : ST → Option (List OUT) := Nat.rec (motive := fun _ => ST → Option (List OUT)) (fun _ => none) (fun _ ih s => exL (exB G mods k cuts m0 cal ih) (prpF G (mI k s.1) s)) n
end RUN
