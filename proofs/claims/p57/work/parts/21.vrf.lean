noncomputable def argsA : Nat → List AV → AL
  | _, [] => []
  | i, v :: vs => (i, v) :: argsA (bif Nat.beq v.1 1 then i + 2 else i + 1) vs
theorem argsA_map {ad : Nat → Nat} {σ : Nat → Int} : ∀ {avs : List AV} {i : Nat}, (argsA i avs).map (cvp ad σ) = lv_args i (avs.map (conc ad σ))
  | [], i => by unfold argsA; rw [List.map_nil, List.map_nil]; rfl
  | v :: vs, i => by
    unfold argsA
    rw [List.map_cons, argsA_map, List.map_cons]
    show _ = (i, conc ad σ v) :: lv_args (if (conc ad σ v).category = 2 then i + 2 else i + 1) (vs.map (conc ad σ))
    have c := conc_cat (ad := ad) (σ := σ) v
    cases h : Nat.beq v.1 1 with
    | true => rw [h] at c; rw [if_pos (beq_iff_eq.mp c)]; rfl
    | false => rw [h] at c; rw [if_neg (fun e => by rw [e] at c; exact absurd c (by decide))]; rfl
noncomputable def wrds : List AV → Nat
  | [] => 0
  | v :: vs => (bif Nat.beq v.1 1 then 2 else 1) + wrds vs
theorem wrds_len {ad : Nat → Nat} {σ : Nat → Int} : ∀ {avs : List AV}, (lg_sl (avs.map (conc ad σ))).length = wrds avs
  | [] => by rw [List.map_nil]; rfl
  | v :: vs => by
    have ih := wrds_len (ad := ad) (σ := σ) (avs := vs)
    rw [List.map_cons]
    have e : lg_sl (conc ad σ v :: vs.map (conc ad σ)) = (if (conc ad σ v).category = 2 then [Slot.val (conc ad σ v), .second] else [.val (conc ad σ v)]) ++ lg_sl (vs.map (conc ad σ)) := by
      unfold lg_sl
      rw [List.flatMap_cons]
    rw [e, List.length_append, ih]
    show _ + wrds vs = (bif Nat.beq v.1 1 then 2 else 1) + wrds vs
    have c := conc_cat (ad := ad) (σ := σ) v
    cases h : Nat.beq v.1 1 with
    | true => rw [h] at c; rw [if_pos (beq_iff_eq.mp c)]; rfl
    | false => rw [h] at c; rw [if_neg (fun e => by rw [e] at c; exact absurd c (by decide))]; rfl
noncomputable def inl (G : List GC) (mods : List Nat) (T : List (Nat × CR)) (T2 : List (Nat × CR2)) (fuel : Nat) : Nat → CAL
  | 0 => tabX 0 mods T T2
  | n + 1 => fun y avs E ov => match tabX (n + 1) mods T T2 y avs E ov with
    | some o => some o
    | none => bif Nat.ble (wrds avs) (mML y) then exN G mods y [] none (inl G mods T T2 fuel n) fuel (0, E, argsA 0 avs, [], ov) else none
noncomputable def okO (c : CR) (o : OUT) : Bool := (match c.2.2.2.1 with
  | none => (match o.2.1 with
    | none => true
    | some _ => false)
  | some sp => (match o.2.1 with
    | some v => spOK o.1 v sp
    | none => false)) && preM o.1 o.2.2 c.2.2.2.2.1
noncomputable def vr1 (G : List GC) (T : List (Nat × CR)) (T2 : List (Nat × CR2)) (fuel dep : Nat) (c : CR) (cuts : List (Nat × CUT)) (m0 : Option LF) (s : ST) : Bool := match exN G c.2.2.2.2.2 c.1 cuts m0 (inl G c.2.2.2.2.2 T T2 fuel dep) fuel s with
  | some outs => outs.all (okO c)
  | none => false
noncomputable def vrf (G : List GC) (T : List (Nat × CR)) (T2 : List (Nat × CR2)) (fuel dep : Nat) (c : CR) (cuts : List (Nat × CUT)) : Bool := Nat.blt c.1 352 && (Nat.ble (wrds (mkAs [] c.2.1).2) (mML c.1) && (vr1 G T T2 fuel dep c cuts none (0, (mkOv (mkAs [] c.2.1).1 c.2.2.1).1, argsA 0 (mkAs [] c.2.1).2, [], (mkOv (mkAs [] c.2.1).1 c.2.2.1).2)
  && (wfS (mkAs [] c.2.1).1.length [] (mkAs [] c.2.1).2 [] && cuts.all (fun p => wfT p.2.1.length p.2.2.2.2.2.2 && vr1 G T T2 fuel dep c cuts (some p.2.2.2.2.2) (p.1, p.2.1, p.2.2.1, p.2.2.2.1, p.2.2.2.2.1)))))
section VRF
variable {l : Launch} {D : va_G} {tys : List (ClassId × FieldType)} {A : Nat → Prop} {ad : Nat → Nat} {G : List GC}
theorem inl_ok {mods : List Nat} {w0 : va_W} {T : List (Nat × CR)} {T2 : List (Nat × CR2)} {fuel : Nat} (hAD : ∀ i : Nat, ad (1000 + i) = D.2 1000 i) (hT : TOK l D tys A ad G mods w0 T) (hT2 : T2OK l D tys A ad T2) : ∀ n : Nat, CALok l D tys A ad G mods w0 (inl G mods T T2 fuel n) n
  | 0 => tabX_ok hT hT2
  | n + 1 => by
    intro y avs E ov outs σ ws h hσ hH hy
    have h : (match tabX (n + 1) mods T T2 y avs E ov with
      | some o => some o
      | none => bif Nat.ble (wrds avs) (mML y) then exN G mods y [] none (inl G mods T T2 fuel n) fuel (0, E, argsA 0 avs, [], ov) else none) = some outs := h
    cases h1 : tabX (n + 1) mods T T2 y avs E ov with
    | some o =>
      rw [h1] at h
      cases h
      obtain ⟨d', a, b⟩ := tabX_ok (w0 := w0) hT hT2 y avs E ov outs σ ws h1 hσ hH hy
      exact ⟨d', by omega, b⟩
    | none =>
      rw [h1] at h
      dsimp only at h
      cases h2 : Nat.ble (wrds avs) (mML y) with
      | false => rw [h2] at h; cases h
      | true =>
        rw [h2, cond_true] at h
        refine ⟨n, by omega, CT_of_V hy (by rw [wrds_len]; exact Nat.le_of_ble_eq_true h2) ?_⟩
        have K := exN_ok (k := y) (d := n) (post := PO ad tys G mods w0 E.length σ outs) (B := fun _ => True) (hAD := hAD) (inl_ok (fuel := fuel) hAD hT hT2 n) (fun pc C hc => by cases hc) fuel _ outs σ ws h hσ hH (Or.inl ⟨rfl, fun _ => trivial⟩) (fun o ho σ' ws' e1 e2 e3 e4 => ⟨o, ho, σ', e1, e2, e3, rfl, e4⟩)
        unfold VS at K
        dsimp only at K
        rw [argsA_map, List.map_nil] at K
        exact K
theorem okO_ok {c : CR} {o : OUT} {σ : Nat → Int} {ws w0 : va_W} (h : okO c o = true) (hσ : inE σ o.1) (hH : HK ad tys G c.2.2.2.2.2 w0 σ o.2.2 ws) : CRpost ad tys G c w0 (o.2.1.map (conc ad σ)) ws := by
  unfold okO at h
  rw [Bool.and_eq_true] at h
  refine ⟨hH.1, hH.2.2, ?_, preM_ok hσ hH.2.1 h.2⟩
  have h := h.1
  cases hr : c.2.2.2.1 with
  | none =>
    rw [hr] at h
    cases ho : o.2.1 with
    | none => rw [Option.map_none]; exact trivial
    | some v => rw [ho] at h; cases h
  | some sp =>
    rw [hr] at h
    cases ho : o.2.1 with
    | none => rw [ho] at h; cases h
    | some v => rw [ho] at h; exact spOK_ok hσ h
theorem vr1_ok {T : List (Nat × CR)} {T2 : List (Nat × CR2)} {fuel dep : Nat} {c : CR} {cuts : List (Nat × CUT)} {m0 : Option LF} {s : ST} {B : Int → Prop} {w0 ws : va_W} {σ : Nat → Int} (hAD : ∀ i : Nat, ad (1000 + i) = D.2 1000 i) (hT : TOK l D tys A ad G c.2.2.2.2.2 w0 T) (hT2 : T2OK l D tys A ad T2) (h : vr1 G T T2 fuel dep c cuts m0 s = true) (hσ : inE σ s.2.1) (hH : HK ad tys G c.2.2.2.2.2 w0 σ s.2.2.2.2 ws) (hM : MB m0 s.2.1.length σ B)
    (hcut : ∀ (pc : Nat) (C : CUT), (pc, C) ∈ cuts → ∀ (τ : Nat → Int) (ws : va_W), inE τ C.1 → HK ad tys G c.2.2.2.2.2 w0 τ C.2.2.2.1 ws → 0 ≤ ev τ C.2.2.2.2 → B (ev τ C.2.2.2.2) → V l D tys A c.1 dep 0 0 (CRpost ad tys G c w0) 0 0 pc (C.2.1.map (cvp ad τ)) (C.2.2.1.map (conc ad τ)) ws) : VS l D tys A c.1 dep (CRpost ad tys G c w0) ad σ s ws := by
  unfold vr1 at h
  cases h1 : exN G c.2.2.2.2.2 c.1 cuts m0 (inl G c.2.2.2.2.2 T T2 fuel dep) fuel s with
  | none => rw [h1] at h; cases h
  | some outs =>
    rw [h1] at h
    dsimp only at h
    exact exN_ok hAD (inl_ok hAD hT hT2 dep) hcut fuel s outs σ ws h1 hσ hH hM (fun o ho σ' ws' e1 e2 e3 e4 => okO_ok (List.all_eq_true.mp h o ho) e3 e4)
noncomputable def CRokK (l : Launch) (D : va_G) (tys : List (ClassId × FieldType)) (A : Nat → Prop) (ad : Nat → Nat) (G : List GC) (K0 : va_W → Prop) (d : Nat) (c : CR) : Prop := ∀ (vs : List Value) (ws : va_W), okvs ad c.2.1 vs → GOK ad tys G ws → preOK ad c.2.2.1 ws → K0 ws → ∃ d', d' < d ∧ CT l D tys A c.1 d' 0 0 vs ws (CRpost ad tys G c ws)
theorem CRK_of_vrf {K0 : va_W → Prop} {T : List (Nat × CR)} {T2 : List (Nat × CR2)} {fuel dep : Nat} {c : CR} {cuts : List (Nat × CUT)} (hAD : ∀ i : Nat, ad (1000 + i) = D.2 1000 i) (hTK : ∀ w0, K0 w0 → TOK l D tys A ad G c.2.2.2.2.2 w0 T) (hT2 : T2OK l D tys A ad T2) (h : vrf G T T2 fuel dep c cuts = true) : CRokK l D tys A ad G K0 (dep + 1) c := by
  intro vs ws hv hG hp hK0
  have hT := hTK ws hK0
  unfold vrf at h
  rw [Bool.and_eq_true, Bool.and_eq_true, Bool.and_eq_true, Bool.and_eq_true] at h
  obtain ⟨h1, h2, h3, h4, h5⟩ := h
  have loop : ∀ (N : Nat) (pc : Nat) (C : CUT), (pc, C) ∈ cuts → ∀ (τ : Nat → Int) (ws2 : va_W), inE τ C.1 → HK ad tys G c.2.2.2.2.2 ws τ C.2.2.2.1 ws2 → 0 ≤ ev τ C.2.2.2.2 → ev τ C.2.2.2.2 < (N : Int) → V l D tys A c.1 dep 0 0 (CRpost ad tys G c ws) 0 0 pc (C.2.1.map (cvp ad τ)) (C.2.2.1.map (conc ad τ)) ws2 := by
    intro N
    induction N with
    | zero => intro pc C _ τ ws2 _ _ h0 hN; exact absurd h0 (by omega)
    | succ N ih =>
      intro pc C hc τ ws2 hτ hH h0 hN
      have m := List.all_eq_true.mp h5 _ hc
      rw [Bool.and_eq_true] at m
      refine vr1_ok (s := (pc, C.1, C.2.1, C.2.2.1, C.2.2.2.1)) (B := fun x => x < ev τ C.2.2.2.2) hAD hT hT2 m.2 hτ hH (Or.inr ⟨_, rfl, m.1, fun x hx => hx⟩) ?_
      intro pc' C' hc' τ' ws3 a1 a2 a3 a4
      exact ih pc' C' hc' τ' ws3 a1 a2 a3 (by omega)
  refine ⟨dep, by omega, CT_of_V (Nat.blt_eq.mp h1) ?_ ?_⟩
  · obtain ⟨σ1, -, -, -, a4⟩ := mkAs_ok (ad := ad) (E := []) (σ := fun _ => 0) (fun s q hq => by simp at hq) hv
    rw [← a4, wrds_len]
    exact Nat.le_of_ble_eq_true h2
  · obtain ⟨σ1, a1, a2, a3, a4⟩ := mkAs_ok (ad := ad) (E := []) (σ := fun _ => 0) (fun s q hq => by simp at hq) hv
    obtain ⟨σ2, b1, b2, b3, b4⟩ := mkOv_ok (ad := ad) a3 hp
    obtain ⟨-, e2, -⟩ := wfS_ok (ad := ad) h4 b1
    have K := vr1_ok (w0 := ws) (ws := ws) (σ := σ2) (B := fun _ => True) hAD hT hT2 h3 b3 ⟨hG, b4, FRm_rf⟩ (Or.inl ⟨rfl, fun _ => trivial⟩) (fun pc C hc τ ws2 q1 q2 q3 _ => loop (ev τ C.2.2.2.2 + 1).toNat pc C hc τ ws2 q1 q2 q3 (by omega))
    unfold VS at K
    dsimp only at K
    rw [argsA_map, e2, a4, List.map_nil] at K
    exact K
theorem CR_of_vrf {T : List (Nat × CR)} {T2 : List (Nat × CR2)} {fuel dep : Nat} {c : CR} {cuts : List (Nat × CUT)} (hAD : ∀ i : Nat, ad (1000 + i) = D.2 1000 i) (hT : ∀ q ∈ T, CRok l D tys A ad G q.1 q.2) (hT2 : T2OK l D tys A ad T2) (h : vrf G T T2 fuel dep c cuts = true) : CRok l D tys A ad G (dep + 1) c :=
  fun vs ws h1 h2 h3 => CRK_of_vrf (K0 := fun _ => True) hAD (fun _ _ => TOK_of hT) hT2 h vs ws h1 h2 h3 trivial
end VRF
