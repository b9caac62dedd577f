noncomputable def HK (ad : Nat → Nat) (tys : List (ClassId × FieldType)) (G : List GC) (mods : List Nat) (w0 : va_W) (σ : Nat → Int) (ov : OV) (ws : va_W) : Prop := GOK ad tys G ws ∧ OVok ad σ ov ws ∧ FRm mods w0 ws
noncomputable def upS (σ : Nat → Int) (n : Nat) (z : Int) : Nat → Int := fun s => if s = n then z else σ s
theorem up_ext {σ : Nat → Int} {n : Nat} {z : Int} : ext n σ (upS σ n z) := fun s hs => by unfold upS; rw [if_neg (Nat.ne_of_lt hs)]
theorem up_self {σ : Nat → Int} {n : Nat} {z : Int} : upS σ n z n = z := by unfold upS; rw [if_pos rfl]
theorem inE_push {σ : Nat → Int} {E : EV} {u : Int × Int} {z : Int} (hσ : inE σ E) (h1 : u.1 ≤ z) (h2 : z ≤ u.2) : inE (upS σ E.length z) (E ++ [u]) := by
  intro s q hq
  by_cases hl : s < E.length
  · rw [List.getElem?_append_left hl] at hq
    rw [up_ext s hl]
    exact hσ s q hq
  · rw [List.getElem?_append_right (by omega)] at hq
    have hz : s - E.length < 1 := (List.getElem?_eq_some_iff.mp hq).1
    have e : s = E.length := by omega
    subst e
    rw [Nat.sub_self] at hq
    cases hq
    rw [up_self]
    exact ⟨h1, h2⟩
theorem wfS_ok {ad : Nat → Nat} {n : Nat} {als : AL} {ast : List AV} {ov : OV} {σ σ' : Nat → Int} (h : wfS n als ast ov = true) (he : ext n σ σ') : als.map (cvp ad σ') = als.map (cvp ad σ) ∧ ast.map (conc ad σ') = ast.map (conc ad σ) ∧ ∀ ws, OVok ad σ ov ws → OVok ad σ' ov ws := by
  unfold wfS at h
  rw [Bool.and_eq_true, Bool.and_eq_true] at h
  obtain ⟨h1, h2, h3⟩ := h
  refine ⟨List.map_congr_left fun q hq => ?_, List.map_congr_left fun v hv => ?_, fun ws ho q hq => ?_⟩
  · unfold cvp
    rw [conc_ext he (List.all_eq_true.mp h1 q hq)]
  · exact conc_ext he (List.all_eq_true.mp h2 v hv)
  · rw [conc_ext he (List.all_eq_true.mp h3 q hq)]
    exact ho q hq
section SND
variable {l : Launch} {D : va_G} {tys : List (ClassId × FieldType)} {A : Nat → Prop} {k d : Nat} {post : Option Value → va_W → Prop} {ad : Nat → Nat} {G : List GC} {mods : List Nat} {w0 : va_W}
noncomputable def VS (l : Launch) (D : va_G) (tys : List (ClassId × FieldType)) (A : Nat → Prop) (k d : Nat) (post : Option Value → va_W → Prop) (ad : Nat → Nat) (σ : Nat → Int) (s : ST) (ws : va_W) : Prop := V l D tys A k d 0 0 post 0 0 s.1 (s.2.2.1.map (cvp ad σ)) (s.2.2.2.1.map (conc ad σ)) ws
noncomputable def KN (l : Launch) (D : va_G) (tys : List (ClassId × FieldType)) (A : Nat → Prop) (k d : Nat) (post : Option Value → va_W → Prop) (ad : Nat → Nat) (G : List GC) (mods : List Nat) (w0 : va_W) (n : Nat) (σ : Nat → Int) (sts : List ST) : Prop :=
  ∀ s ∈ sts, ∀ (σ' : Nat → Int) (ws' : va_W), ext n σ σ' → n ≤ s.2.1.length → inE σ' s.2.1 → HK ad tys G mods w0 σ' s.2.2.2.2 ws' → VS l D tys A k d post ad σ' s ws'
variable {σ : Nat → Int} {E : EV} {als : AL} {ast : List AV} {ov : OV} {ws : va_W} {pc : Nat} {sts : List ST}
theorem one_ok {pc' : Nat} {als' : AL} {ast' : List AV} {ov' : OV} {ws' : va_W} (kk : KN l D tys A k d post ad G mods w0 E.length σ [(pc', E, als', ast', ov')]) (hσ : inE σ E) (hH : HK ad tys G mods w0 σ ov' ws') : V l D tys A k d 0 0 post 0 0 pc' (als'.map (cvp ad σ)) (ast'.map (conc ad σ)) ws' :=
  kk _ (List.mem_singleton.mpr rfl) σ ws' ext_rf (Nat.le_refl _) hσ hH
theorem pushR_ok {r : RV} {v : Int32} (h : pushR r pc E als ast ov = some sts) (hσ : inE σ E) (hH : HK ad tys G mods w0 σ ov ws) (hv : gR σ r v) (kk : KN l D tys A k d post ad G mods w0 E.length σ sts) : V l D tys A k d 0 0 post 0 0 pc (als.map (cvp ad σ)) (.int v :: ast.map (conc ad σ)) ws := by
  unfold pushR at h
  cases r with
  | inl f =>
    cases h
    have hv : v = Int32.ofInt (ev σ f) := hv
    rw [hv]
    exact one_ok kk hσ hH
  | inr u =>
    obtain ⟨z, rfl, h1, h2⟩ := hv
    dsimp only at h
    cases hw : wfS E.length als ast ov with
    | false => rw [hw] at h; cases h
    | true =>
      rw [hw] at h
      cases h
      obtain ⟨e1, e2, e3⟩ := wfS_ok (ad := ad) hw (up_ext (σ := σ) (z := z))
      have K : V l D tys A k d 0 0 post 0 0 pc (als.map (cvp ad (upS σ E.length z))) (conc ad (upS σ E.length z) (iA (lfS E.length)) :: ast.map (conc ad (upS σ E.length z))) ws := kk _ (List.mem_singleton.mpr rfl) (upS σ E.length z) ws up_ext (by simp) (inE_push hσ h1 h2) ⟨hH.1, e3 _ hH.2.1, hH.2.2⟩
      rw [e1, e2] at K
      have ec : conc ad (upS σ E.length z) (iA (lfS E.length)) = .int (Int32.ofInt z) := by
        show Value.int (Int32.ofInt (ev _ (lfS _))) = _
        rw [lfS_ev, up_self]
      rw [ec] at K
      exact K
theorem pushL_ok {r : RV} {v : Int64} (h : pushL r pc E als ast ov = some sts) (hσ : inE σ E) (hH : HK ad tys G mods w0 σ ov ws) (hv : gL σ r v) (kk : KN l D tys A k d post ad G mods w0 E.length σ sts) : V l D tys A k d 0 0 post 0 0 pc (als.map (cvp ad σ)) (.long v :: ast.map (conc ad σ)) ws := by
  unfold pushL at h
  cases r with
  | inl f =>
    cases h
    have hv : v = Int64.ofInt (ev σ f) := hv
    rw [hv]
    exact one_ok kk hσ hH
  | inr u =>
    obtain ⟨z, rfl, h1, h2⟩ := hv
    dsimp only at h
    cases hw : wfS E.length als ast ov with
    | false => rw [hw] at h; cases h
    | true =>
      rw [hw] at h
      cases h
      obtain ⟨e1, e2, e3⟩ := wfS_ok (ad := ad) hw (up_ext (σ := σ) (z := z))
      have K : V l D tys A k d 0 0 post 0 0 pc (als.map (cvp ad (upS σ E.length z))) (conc ad (upS σ E.length z) (lA (lfS E.length)) :: ast.map (conc ad (upS σ E.length z))) ws := kk _ (List.mem_singleton.mpr rfl) (upS σ E.length z) ws up_ext (by simp) (inE_push hσ h1 h2) ⟨hH.1, e3 _ hH.2.1, hH.2.2⟩
      rw [e1, e2] at K
      have ec : conc ad (upS σ E.length z) (lA (lfS E.length)) = .long (Int64.ofInt z) := by
        show Value.long (Int64.ofInt (ev _ (lfS _))) = _
        rw [lfS_ev, up_self]
      rw [ec] at K
      exact K
theorem conc0 {v : AV} (h : Nat.beq v.1 0 = true) : conc ad σ v = .int (Int32.ofInt (ev σ v.2.1)) := by
  have e := Nat.eq_of_beq_eq_true h
  unfold conc
  rw [e]
  rfl
theorem conc1 {v : AV} (h : Nat.beq v.1 1 = true) : conc ad σ v = .long (Int64.ofInt (ev σ v.2.1)) := by
  have e := Nat.eq_of_beq_eq_true h
  unfold conc
  rw [e]
  rfl
theorem conc2 {v : AV} (h : Nat.beq v.1 2 = true) : conc ad σ v = .ref (ad v.2.1.1.toNat) := by
  have e := Nat.eq_of_beq_eq_true h
  unfold conc
  rw [e]
  rfl
theorem conc3 {v : AV} (h : Nat.beq v.1 3 = true) : conc ad σ v = .null := by
  have e := Nat.eq_of_beq_eq_true h
  unfold conc
  rw [e]
  rfl
theorem lk_in {x : Nat} {v : AV} (h : lkA x als = some v) : (x, conc ad σ v) ∈ als.map (cvp ad σ) := List.mem_map.mpr ⟨(x, v), lkA_mem h, rfl⟩
theorem ivL2_ok (hσ : inE σ E) {f g : LF} {q : I4} (h : ivL2 E f g = some q) : q.1.1 ≤ ev σ f ∧ ev σ f ≤ q.1.2 ∧ q.2.1 ≤ ev σ g ∧ ev σ g ≤ q.2.2 ∧ -9223372036854775808 ≤ q.1.1 ∧ q.1.2 ≤ 9223372036854775807 ∧ -9223372036854775808 ≤ q.2.1 ∧ q.2.2 ≤ 9223372036854775807 := by
  unfold ivL2 at h
  cases h1 : iv E f with
  | none => rw [h1] at h; cases h
  | some u =>
    cases h2 : iv E g with
    | none => rw [h1, h2] at h; cases h
    | some w =>
      rw [h1, h2] at h
      dsimp only at h
      cases h3 : (inL u && inL w) with
      | false => rw [h3] at h; cases h
      | true =>
        rw [h3] at h
        cases h
        rw [Bool.and_eq_true] at h3
        have a1 := iv_ok hσ h1
        have a2 := iv_ok hσ h2
        have a3 := inL_of h3.1
        have a4 := inL_of h3.2
        exact ⟨a1.1, a1.2, a2.1, a2.2, a3.1, a3.2, a4.1, a4.2⟩
theorem cstL_ok {x : Nat} {q : I4} {a b : Int} (h : isC q = true) (h1 : q.1.1 ≤ a) (h2 : a ≤ q.1.2) (h3 : q.2.1 ≤ b) (h4 : b ≤ q.2.2) : gL σ (cstL x q) (lbF x (Int64.ofInt a) (Int64.ofInt b)) := by
  unfold isC at h
  rw [Bool.and_eq_true, eqI_iff, eqI_iff] at h
  have e1 : a = q.1.1 := by omega
  have e2 : b = q.2.1 := by omega
  show _ = Int64.ofInt (ev σ (lfC _))
  rw [lfC_ev, Int64.ofInt_toInt, e1, e2]
theorem rlDiv_ok {q : I4} {a b : Int} {r : RV} (h : rlDiv q = some r) (h1 : q.1.1 ≤ a) (h2 : a ≤ q.1.2) (h3 : q.2.1 ≤ b) (h4 : b ≤ q.2.2) (h5 : -9223372036854775808 ≤ q.1.1) (h6 : q.1.2 ≤ 9223372036854775807) (h7 : -9223372036854775808 ≤ q.2.1) (h8 : q.2.2 ≤ 9223372036854775807) : ¬ Int64.ofInt b = 0 ∧ gL σ r (Int64.ofInt a / Int64.ofInt b) := by
  unfold rlDiv at h
  cases hp : leI 1 q.2.1 with
  | false =>
    rw [hp, cond_false] at h
    cases hm : leI q.2.2 (-1) with
    | false => rw [hm] at h; cases h
    | true =>
      rw [hm] at h
      have hm := leI_iff.mp hm
      cases h
      exact ⟨fun z => by have := ofInt_zero_iffL (by omega) (by omega) z; omega, fullL_ok σ _⟩
  | true =>
    rw [hp] at h
    have hp := leI_iff.mp hp
    have h := Option.some.inj h
    refine ⟨fun z => by have := ofInt_zero_iffL (by omega) (by omega) z; omega, ?_⟩
    rw [← h]
    have T := tdiv_bd (a := a) (c := b) (by omega)
    refine bif_split (P := fun r => gL σ r _) (fun hc => cstL_ok (x := 3) hc h1 h2 h3 h4) (fun _ => ?_)
    refine bif_split (P := fun r => gL σ r _) (fun hc => ?_) (fun _ => fullL_ok σ _)
    rw [div64 (by omega) (by omega) (by omega) (by omega)]
    have hc := leI_iff.mp hc
    have T := T.1 (by omega)
    refine ⟨_, rfl, T.1, ?_⟩
    refine bif_split (P := fun z => a.tdiv b ≤ z) (fun he => ?_) (fun _ => by omega)
    have he := eqI_iff.mp he
    have eb : b = q.2.1 := by omega
    rw [T.2.1, ← eb]
    exact Int.ediv_le_ediv (by omega) h2
theorem rlRem_ok {q : I4} {a b : Int} {r : RV} (h : rlRem q = some r) (h1 : q.1.1 ≤ a) (h2 : a ≤ q.1.2) (h3 : q.2.1 ≤ b) (h4 : b ≤ q.2.2) (h5 : -9223372036854775808 ≤ q.1.1) (h6 : q.1.2 ≤ 9223372036854775807) (h7 : -9223372036854775808 ≤ q.2.1) (h8 : q.2.2 ≤ 9223372036854775807) : ¬ Int64.ofInt b = 0 ∧ gL σ r (Int64.ofInt a - Int64.ofInt a / Int64.ofInt b * Int64.ofInt b) := by
  unfold rlRem at h
  cases hp : leI 1 q.2.1 with
  | false =>
    rw [hp, cond_false] at h
    cases hm : leI q.2.2 (-1) with
    | false => rw [hm] at h; cases h
    | true =>
      rw [hm] at h
      have hm := leI_iff.mp hm
      cases h
      exact ⟨fun z => by have := ofInt_zero_iffL (by omega) (by omega) z; omega, fullL_ok σ _⟩
  | true =>
    rw [hp] at h
    have hp := leI_iff.mp hp
    have h := Option.some.inj h
    refine ⟨fun z => by have := ofInt_zero_iffL (by omega) (by omega) z; omega, ?_⟩
    rw [← h]
    have T := rem_bd (a := a) (c := b) (by omega)
    refine bif_split (P := fun r => gL σ r _) (fun hc => cstL_ok (x := 4) hc h1 h2 h3 h4) (fun _ => ?_)
    rw [div64 (by omega) (by omega) (by omega) (by omega), ← Int64.ofInt_mul, ← Int64.ofInt_sub]
    refine bif_split (P := fun r => gL σ r _) (fun hc => ?_) (fun hc => ?_)
    · have hc := leI_iff.mp hc
      have T := T.1 (by omega)
      refine ⟨_, rfl, T.1, ?_⟩
      show _ ≤ minI q.1.2 (q.2.2 - 1)
      rcases minI_or (a := q.1.2) (b := q.2.2 - 1) with e | e
      · rw [e]; omega
      · rw [e]; omega
    · refine ⟨_, rfl, ?_, ?_⟩
      · rcases int_lt_or a 0 with hn | hn
        · have := T.2 hn; show 1 - q.2.2 ≤ _; omega
        · have := T.1 hn; show 1 - q.2.2 ≤ _; omega
      · rcases int_lt_or a 0 with hn | hn
        · have := T.2 hn; show _ ≤ q.2.2 - 1; omega
        · have := T.1 hn; show _ ≤ q.2.2 - 1; omega
theorem lbA_ok (hσ : inE σ E) {x : Nat} {f g : LF} {r : RV} (h : lbA x E f g = some r) : (x = 3 ∨ x = 4 → ¬ Int64.ofInt (ev σ g) = 0) ∧ gL σ r (lbF x (Int64.ofInt (ev σ f)) (Int64.ofInt (ev σ g))) := by
  unfold lbA at h
  rcases x with _ | _ | _ | _ | _ | x
  · cases h
    exact ⟨by omega, mkL_ok hσ (by show _ + _ = _; rw [lfAdd_ev, Int64.ofInt_add])⟩
  · cases h
    exact ⟨by omega, mkL_ok hσ (by show _ - _ = _; rw [lfSub_ev, Int64.ofInt_sub])⟩
  · refine ⟨by omega, ?_⟩
    show gL σ r (_ * _)
    cases hg : g.2 with
    | nil =>
      rw [hg] at h
      dsimp only at h
      cases hf : f.2 with
      | nil =>
        rw [hf] at h
        have h := Option.some.inj h
        rw [← h]
        have K := cstL_ok (σ := σ) (x := 2) (q := ((f.1, f.1), (g.1, g.1))) (a := f.1) (b := g.1) (by unfold isC; rw [eqI_iff.mpr rfl, eqI_iff.mpr rfl]; rfl) (Int.le_refl _) (Int.le_refl _) (Int.le_refl _) (Int.le_refl _)
        rw [lfnil_ev hf, lfnil_ev hg]
        exact K
      | cons c2 t2 =>
        rw [hf] at h
        cases h
        exact mkL_ok hσ (by rw [lfSc_ev, Int64.ofInt_mul, lfnil_ev hg, Int64.mul_comm])
    | cons c t =>
      rw [hg] at h
      dsimp only at h
      cases hf : f.2 with
      | nil =>
        rw [hf] at h
        cases h
        exact mkL_ok hσ (by rw [lfSc_ev, Int64.ofInt_mul, lfnil_ev hf])
      | cons c2 t2 =>
        rw [hf] at h
        cases h
        exact fullL_ok σ _
  · obtain ⟨q, hq, hr⟩ := bind_some h
    obtain ⟨p1, p2, p3, p4, p5, p6, p7, p8⟩ := ivL2_ok hσ hq
    have K := rlDiv_ok (σ := σ) hr p1 p2 p3 p4 p5 p6 p7 p8
    exact ⟨fun _ => K.1, K.2⟩
  · obtain ⟨q, hq, hr⟩ := bind_some h
    obtain ⟨p1, p2, p3, p4, p5, p6, p7, p8⟩ := ivL2_ok hσ hq
    have K := rlRem_ok (σ := σ) hr p1 p2 p3 p4 p5 p6 p7 p8
    exact ⟨fun _ => K.1, K.2⟩
  · cases h
    exact ⟨by omega, fullL_ok σ _⟩
theorem cmpQ_ok (hσ : inE σ E) {v : AV} {f : LF} (h : cmpQ E v = some f) : ∃ u : Int32, conc ad σ v = .int u ∧ ∀ x, cdP x u 0 ↔ cdZ x (ev σ f) := by
  unfold cmpQ at h
  obtain ⟨t, p, q⟩ := v
  match t, h with
  | 0, h =>
    dsimp only at h
    cases h1 : iv E p with
    | none => rw [h1] at h; cases h
    | some u =>
      rw [h1] at h
      dsimp only at h
      cases h2 : inI u with
      | false => rw [h2] at h; cases h
      | true =>
        rw [h2] at h
        have h : p = f := Option.some.inj h
        subst h
        have a1 := iv_ok hσ h1
        have a2 := inI_of h2
        refine ⟨_, rfl, fun x => ?_⟩
        have z0 : (0 : Int32) = Int32.ofInt 0 := by decide
        rw [z0]
        have e := cdP_iff (x := x) (a := ev σ p) (b := 0) (by omega) (by omega) (by omega) (by omega)
        rw [Int.sub_zero] at e
        exact e
  | 1, h => cases h
  | 2, h => cases h
  | 3, h => cases h
  | 4, h =>
    dsimp only at h
    cases h1 : iv E p with
    | none => rw [h1] at h; cases h
    | some u =>
      cases h2 : iv E q with
      | none => rw [h1, h2] at h; cases h
      | some w =>
        rw [h1, h2] at h
        dsimp only at h
        cases h3 : (inL u && inL w) with
        | false => rw [h3] at h; cases h
        | true =>
          rw [h3] at h
          cases h
          rw [Bool.and_eq_true] at h3
          have a1 := iv_ok hσ h1
          have a2 := iv_ok hσ h2
          have a3 := inL_of h3.1
          have a4 := inL_of h3.2
          refine ⟨_, rfl, fun x => ?_⟩
          show _ ↔ cdZ x (ev σ (lfSub p q))
          rw [lfSub_ev]
          exact cdL_iff (a := ev σ p) (b := ev σ q) (by omega) (by omega) (by omega) (by omega)
  | n + 5, h => cases h
theorem cmpI_ok (hσ : inE σ E) {v w : AV} {f : LF} (h : cmpI E v w = some f) : ∃ a b : Int32, conc ad σ v = .int a ∧ conc ad σ w = .int b ∧ ∀ x, cdP x a b ↔ cdZ x (ev σ f) := by
  unfold cmpI at h
  obtain ⟨t, p, q⟩ := v
  obtain ⟨t2, p2, q2⟩ := w
  match t, t2, h with
  | 0, 0, h =>
    dsimp only at h
    cases h1 : iv E p with
    | none => rw [h1] at h; cases h
    | some u =>
      cases h2 : iv E p2 with
      | none => rw [h1, h2] at h; cases h
      | some w =>
        rw [h1, h2] at h
        dsimp only at h
        cases h3 : (inI u && inI w) with
        | false => rw [h3] at h; cases h
        | true =>
          rw [h3] at h
          cases h
          rw [Bool.and_eq_true] at h3
          have a1 := iv_ok hσ h1
          have a2 := iv_ok hσ h2
          have a3 := inI_of h3.1
          have a4 := inI_of h3.2
          refine ⟨_, _, rfl, rfl, fun x => ?_⟩
          show _ ↔ cdZ x (ev σ (lfSub p p2))
          rw [lfSub_ev]
          exact cdP_iff (a := ev σ p) (b := ev σ p2) (by omega) (by omega) (by omega) (by omega)
  | 0, n + 1, h => cases h
  | n + 1, _, h => cases h
theorem KN_app {n : Nat} {a b : List ST} (h : KN l D tys A k d post ad G mods w0 n σ (a ++ b)) : KN l D tys A k d post ad G mods w0 n σ a ∧ KN l D tys A k d post ad G mods w0 n σ b :=
  ⟨fun s hs => h s (List.mem_append_left _ hs), fun s hs => h s (List.mem_append_right _ hs)⟩
theorem br1_ok {x : Nat} {f : LF} {pc' : Nat} (hσ : inE σ E) (hH : HK ad tys G mods w0 σ ov ws) (hz : cdZ x (ev σ f)) (kk : KN l D tys A k d post ad G mods w0 E.length σ (br1 (brT E x f) pc' als ast ov)) : V l D tys A k d 0 0 post 0 0 pc' (als.map (cvp ad σ)) (ast.map (conc ad σ)) ws := by
  obtain ⟨E', e1, e2, e3⟩ := brT_ok hσ hz
  rw [e1] at kk
  exact kk _ (List.mem_singleton.mpr rfl) σ ws ext_rf (Nat.le_of_eq e3.symm) e2 hH
theorem br2_ok {x : Nat} {f : LF} {pt pf : Nat} {P : Prop} (hσ : inE σ E) (hH : HK ad tys G mods w0 σ ov ws) (hP : P ↔ cdZ x (ev σ f)) (kk : KN l D tys A k d post ad G mods w0 E.length σ (br2 x f pt pf E als ast ov)) : (P → V l D tys A k d 0 0 post 0 0 pt (als.map (cvp ad σ)) (ast.map (conc ad σ)) ws) ∧ (¬ P → V l D tys A k d 0 0 post 0 0 pf (als.map (cvp ad σ)) (ast.map (conc ad σ)) ws) := by
  obtain ⟨k1, k2⟩ := KN_app kk
  exact ⟨fun h => br1_ok hσ hH (hP.mp h) k1, fun h => br1_ok hσ hH (negC_ok (fun z => h (hP.mpr z))) k2⟩
theorem unA_ok (hσ : inE σ E) {x : Nat} {f : LF} {r : RV} (h : unA x E f = some r) : (x = 0 → gR σ r (-(Int32.ofInt (ev σ f)))) ∧ (x = 2 → gR σ r (Int64.ofInt (ev σ f)).toInt32) ∧ (x = 3 → gR σ r (Int32.ofInt (ev σ f)).toInt8.toInt32) ∧ (x = 4 → gR σ r (Int32.ofInt (ev σ f)).toInt16.toInt32) ∧ (x = 0 ∨ x = 2 ∨ x = 3 ∨ x = 4) := by
  unfold unA at h
  rcases x with _ | _ | _ | _ | _ | x
  · cases h
    refine ⟨fun _ => mkI_ok hσ ?_, by omega, by omega, by omega, by omega⟩
    rw [lfSc_ev, show -1 * ev σ f = -(ev σ f) by omega, Int32.ofInt_neg]
  · cases h
  · refine ⟨by omega, fun _ => ?_, by omega, by omega, by omega⟩
    rw [Int64.toInt32_ofInt]
    cases h1 : iv E f with
    | none => rw [h1] at h; cases h; exact fullI_ok σ _
    | some u =>
      rw [h1] at h
      dsimp only at h
      cases h2 : inI u with
      | false => rw [h2] at h; cases h; exact fullI_ok σ _
      | true => rw [h2] at h; cases h; rfl
  · refine ⟨by omega, by omega, fun _ => ?_, by omega, by omega⟩
    have full : gR σ (.inr (-128, 127)) (Int32.ofInt (ev σ f)).toInt8.toInt32 := by
      generalize (Int32.ofInt (ev σ f)).toInt8 = b
      refine ⟨b.toInt, ?_, ?_, ?_⟩
      · apply Int32.toInt_inj.mp
        rw [Int8.toInt_toInt32, Int32.toInt_ofInt_of_le (by have := b.le_toInt; omega) (by have := b.toInt_lt; omega)]
      · have := b.le_toInt; show -128 ≤ b.toInt; omega
      · have := b.toInt_lt; show b.toInt ≤ 127; omega
    cases h1 : iv E f with
    | none => rw [h1] at h; cases h; exact full
    | some u =>
      rw [h1] at h
      dsimp only at h
      cases h2 : (leI (-128) u.1 && leI u.2 127) with
      | false => rw [h2] at h; cases h; exact full
      | true =>
        rw [h2] at h
        cases h
        rw [Bool.and_eq_true, leI_iff, leI_iff] at h2
        have a1 := iv_ok hσ h1
        show _ = Int32.ofInt (ev σ f)
        apply Int32.toInt_inj.mp
        have e : (Int32.ofInt (ev σ f)).toInt = ev σ f := Int32.toInt_ofInt_of_le (by omega) (by omega)
        rw [Int8.toInt_toInt32, Int32.toInt_toInt8, e]
        exact Int.bmod_eq_of_le (by omega) (by omega)
  · refine ⟨by omega, by omega, by omega, fun _ => ?_, by omega⟩
    have full : gR σ (.inr (-32768, 32767)) (Int32.ofInt (ev σ f)).toInt16.toInt32 := by
      generalize (Int32.ofInt (ev σ f)).toInt16 = b
      refine ⟨b.toInt, ?_, ?_, ?_⟩
      · apply Int32.toInt_inj.mp
        rw [Int16.toInt_toInt32, Int32.toInt_ofInt_of_le (by have := b.le_toInt; omega) (by have := b.toInt_lt; omega)]
      · have := b.le_toInt; show -32768 ≤ b.toInt; omega
      · have := b.toInt_lt; show b.toInt ≤ 32767; omega
    cases h1 : iv E f with
    | none => rw [h1] at h; cases h; exact full
    | some u =>
      rw [h1] at h
      dsimp only at h
      cases h2 : (leI (-32768) u.1 && leI u.2 32767) with
      | false => rw [h2] at h; cases h; exact full
      | true =>
        rw [h2] at h
        cases h
        rw [Bool.and_eq_true, leI_iff, leI_iff] at h2
        have a1 := iv_ok hσ h1
        show _ = Int32.ofInt (ev σ f)
        apply Int32.toInt_inj.mp
        have e : (Int32.ofInt (ev σ f)).toInt = ev σ f := Int32.toInt_ofInt_of_le (by omega) (by omega)
        rw [Int16.toInt_toInt32, Int32.toInt_toInt16, e]
        exact Int.bmod_eq_of_le (by omega) (by omega)
  · cases h
end SND
