noncomputable def updHi (E : EV) (s : Nat) (B : Int) : EV := match E[s]? with
  | some q => bif leI q.2 B then E else E.set s (q.1, B)
  | none => E
noncomputable def updLo (E : EV) (s : Nat) (B : Int) : EV := match E[s]? with
  | some q => bif leI B q.1 then E else E.set s (B, q.2)
  | none => E
theorem inE_set {σ : Nat → Int} {E : EV} (hσ : inE σ E) {s : Nat} {r : Int × Int} (h : r.1 ≤ σ s ∧ σ s ≤ r.2) : inE σ (E.set s r) := by
  intro t q hq
  by_cases e : s = t
  · subst e
    rw [List.getElem?_set] at hq
    simp only [if_true] at hq
    split at hq
    · cases hq; exact h
    · cases hq
  · rw [List.getElem?_set_ne e] at hq
    exact hσ t q hq
theorem updHi_ok {σ : Nat → Int} {E : EV} (hσ : inE σ E) {s : Nat} {B : Int} (h : σ s ≤ B) : inE σ (updHi E s B) ∧ (updHi E s B).length = E.length := by
  unfold updHi
  cases h1 : E[s]? with
  | none => exact ⟨hσ, rfl⟩
  | some q =>
    have g := hσ s q h1
    refine bif_split (P := fun E' => inE σ E' ∧ E'.length = E.length) (fun _ => ⟨hσ, rfl⟩) (fun _ => ⟨inE_set hσ ⟨g.1, h⟩, by simp⟩)
theorem updLo_ok {σ : Nat → Int} {E : EV} (hσ : inE σ E) {s : Nat} {B : Int} (h : B ≤ σ s) : inE σ (updLo E s B) ∧ (updLo E s B).length = E.length := by
  unfold updLo
  cases h1 : E[s]? with
  | none => exact ⟨hσ, rfl⟩
  | some q =>
    have g := hσ s q h1
    refine bif_split (P := fun E' => inE σ E' ∧ E'.length = E.length) (fun _ => ⟨hσ, rfl⟩) (fun _ => ⟨inE_set hσ ⟨h, g.2⟩, by simp⟩)
noncomputable def rfGo (E0 : EV) : Int → List (Int × Nat) → EV → EV
  | _, [], E => E
  | acc, q :: t, E => match E0[q.2]?, ivT E0 t with
    | some r, some w =>
      bif eqI q.1 1 then rfGo E0 (acc + r.1) t (updHi E q.2 (-(acc + w.1)))
      else bif eqI q.1 (-1) then rfGo E0 (acc - r.2) t (updLo E q.2 (acc + w.1))
      else rfGo E0 (acc + (bif leI 0 q.1 then q.1 * r.1 else q.1 * r.2)) t E
    | _, _ => E
theorem rfGo_ok {σ : Nat → Int} {E0 : EV} (h0 : inE σ E0) : ∀ {t : List (Int × Nat)} {acc C : Int} {E : EV}, acc ≤ C → C + evT σ t ≤ 0 → inE σ E → inE σ (rfGo E0 acc t E) ∧ (rfGo E0 acc t E).length = E.length
  | [], acc, C, E, _, _, hE => ⟨hE, rfl⟩
  | q :: t, acc, C, E, hc, hz, hE => by
    unfold rfGo
    cases h1 : E0[q.2]? with
    | none => exact ⟨hE, rfl⟩
    | some r =>
      cases h2 : ivT E0 t with
      | none => exact ⟨hE, rfl⟩
      | some w =>
        have g := h0 _ _ h1
        have p := ivT_ok h0 h2
        have hz : C + (q.1 * σ q.2 + evT σ t) ≤ 0 := hz
        dsimp only
        refine bif_split (P := fun E' => inE σ E' ∧ E'.length = E.length) (fun ha => ?_) (fun _ => ?_)
        · have ha := eqI_iff.mp ha
          rw [ha, Int.one_mul] at hz
          have U := updHi_ok hE (s := q.2) (B := -(acc + w.1)) (by omega)
          have R := rfGo_ok h0 (t := t) (acc := acc + r.1) (C := C + σ q.2) (by omega) (by omega) U.1
          exact ⟨R.1, R.2.trans U.2⟩
        · refine bif_split (P := fun E' => inE σ E' ∧ E'.length = E.length) (fun ha => ?_) (fun _ => ?_)
          · have ha := eqI_iff.mp ha
            rw [ha] at hz
            have U := updLo_ok hE (s := q.2) (B := acc + w.1) (by omega)
            have R := rfGo_ok h0 (t := t) (acc := acc - r.2) (C := C - σ q.2) (by omega) (by omega) U.1
            exact ⟨R.1, R.2.trans U.2⟩
          · refine rfGo_ok h0 (t := t) (C := C + q.1 * σ q.2) ?_ (by omega) hE
            refine bif_split (P := fun z => acc + z ≤ C + q.1 * σ q.2) (fun hs => ?_) (fun hs => ?_)
            · have := mul_lo (leI_iff.mp hs) g.1 g.2; omega
            · have := mul_hi (leI_f hs) g.1 g.2; omega
noncomputable def rf (E : EV) (d : LF) : Option EV := match iv E d with
  | some u => bif leI u.1 0 then some (rfGo E d.1 d.2 E) else none
  | none => some E
theorem rf_ok {σ : Nat → Int} {E : EV} (hσ : inE σ E) {d : LF} (h : ev σ d ≤ 0) : ∃ E', rf E d = some E' ∧ inE σ E' ∧ E'.length = E.length := by
  unfold rf
  cases h1 : iv E d with
  | none => exact ⟨E, rfl, hσ, rfl⟩
  | some u =>
    have p := iv_ok hσ h1
    dsimp only
    rw [bif_t (leI_iff.mpr (by omega))]
    have R := rfGo_ok hσ (t := d.2) (acc := d.1) (C := d.1) (E := E) (Int.le_refl _) h hσ
    exact ⟨_, rfl, R.1, R.2⟩
noncomputable def cdZ (x : Nat) (z : Int) : Prop := match x with
  | 0 => z = 0
  | 1 => ¬ z = 0
  | 2 => z < 0
  | 3 => 0 ≤ z
  | 4 => 0 < z
  | _ => z ≤ 0
noncomputable def negC (x : Nat) : Nat := match x with
  | 0 => 1
  | 1 => 0
  | 2 => 3
  | 3 => 2
  | 4 => 5
  | _ => 4
theorem negC_ok {x : Nat} {z : Int} (h : ¬ cdZ x z) : cdZ (negC x) z := by
  rcases x with _ | _ | _ | _ | _ | x
  · exact h
  · exact Classical.not_not.mp h
  · exact Int.not_lt.mp h
  · exact Int.not_le.mp h
  · exact Int.not_lt.mp h
  · exact Int.not_le.mp h
noncomputable def brT (E : EV) (x : Nat) (d : LF) : Option EV := match x with
  | 0 => (rf E d).bind (fun E1 => rf E1 (lfSc (-1) d))
  | 1 => match iv E d with
    | some u => bif eqI u.1 0 && eqI u.2 0 then none else bif eqI u.1 0 then rf E (lfSub (lfC 1) d) else bif eqI u.2 0 then rf E (lfAdd (lfC 1) d) else some E
    | none => some E
  | 2 => rf E (lfAdd (lfC 1) d)
  | 3 => rf E (lfSc (-1) d)
  | 4 => rf E (lfSub (lfC 1) d)
  | _ => rf E d
theorem brT_ok {σ : Nat → Int} {E : EV} (hσ : inE σ E) {x : Nat} {d : LF} (h : cdZ x (ev σ d)) : ∃ E', brT E x d = some E' ∧ inE σ E' ∧ E'.length = E.length := by
  unfold brT
  rcases x with _ | _ | _ | _ | _ | x
  · have h : ev σ d = 0 := h
    obtain ⟨E1, e1, i1, l1⟩ := rf_ok hσ (d := d) (by omega)
    obtain ⟨E2, e2, i2, l2⟩ := rf_ok i1 (d := lfSc (-1) d) (by rw [lfSc_ev]; omega)
    exact ⟨E2, by show (rf E d).bind _ = _; rw [e1]; exact e2, i2, l2.trans l1⟩
  · have h : ¬ ev σ d = 0 := h
    show ∃ E', (match iv E d with
      | some u => bif eqI u.1 0 && eqI u.2 0 then none else bif eqI u.1 0 then rf E (lfSub (lfC 1) d) else bif eqI u.2 0 then rf E (lfAdd (lfC 1) d) else some E
      | none => some E) = some E' ∧ inE σ E' ∧ E'.length = E.length
    cases h1 : iv E d with
    | none => exact ⟨E, rfl, hσ, rfl⟩
    | some u =>
      have p := iv_ok hσ h1
      dsimp only
      cases c1 : eqI u.1 0 with
      | true =>
        have c1' := eqI_iff.mp c1
        cases c2 : eqI u.2 0 with
        | true => have c2' := eqI_iff.mp c2; omega
        | false => exact rf_ok hσ (d := lfSub (lfC 1) d) (by rw [lfSub_ev, lfC_ev]; omega)
      | false =>
        cases c2 : eqI u.2 0 with
        | true => have c2' := eqI_iff.mp c2; exact rf_ok hσ (d := lfAdd (lfC 1) d) (by rw [lfAdd_ev, lfC_ev]; omega)
        | false => exact ⟨E, rfl, hσ, rfl⟩
  · have h : ev σ d < 0 := h
    exact rf_ok hσ (d := lfAdd (lfC 1) d) (by rw [lfAdd_ev, lfC_ev]; omega)
  · have h : 0 ≤ ev σ d := h
    exact rf_ok hσ (d := lfSc (-1) d) (by rw [lfSc_ev]; omega)
  · have h : 0 < ev σ d := h
    exact rf_ok hσ (d := lfSub (lfC 1) d) (by rw [lfSub_ev, lfC_ev]; omega)
  · have h : ev σ d ≤ 0 := h
    exact rf_ok hσ h
theorem cdP_iff {x : Nat} {a b : Int} (a1 : -2147483648 ≤ a) (a2 : a ≤ 2147483647) (b1 : -2147483648 ≤ b) (b2 : b ≤ 2147483647) : cdP x (Int32.ofInt a) (Int32.ofInt b) ↔ cdZ x (a - b) := by
  have e1 : (Int32.ofInt a).toInt = a := Int32.toInt_ofInt_of_le (by omega) (by omega)
  have e2 : (Int32.ofInt b).toInt = b := Int32.toInt_ofInt_of_le (by omega) (by omega)
  have he : Int32.ofInt a = Int32.ofInt b ↔ a = b := ⟨fun h => by have := congrArg Int32.toInt h; omega, fun h => by rw [h]⟩
  rcases x with _ | _ | _ | _ | _ | x
  · show Int32.ofInt a = Int32.ofInt b ↔ a - b = 0
    rw [he]; omega
  · show ¬ Int32.ofInt a = Int32.ofInt b ↔ ¬ a - b = 0
    rw [he]; omega
  · show Int32.ofInt a < Int32.ofInt b ↔ a - b < 0
    rw [Int32.lt_iff_toInt_lt, e1, e2]; omega
  · show Int32.ofInt b ≤ Int32.ofInt a ↔ 0 ≤ a - b
    rw [Int32.le_iff_toInt_le, e1, e2]; omega
  · show Int32.ofInt b < Int32.ofInt a ↔ 0 < a - b
    rw [Int32.lt_iff_toInt_lt, e1, e2]; omega
  · show Int32.ofInt a ≤ Int32.ofInt b ↔ a - b ≤ 0
    rw [Int32.le_iff_toInt_le, e1, e2]; omega
theorem cdL_iff {x : Nat} {a b : Int} (a1 : -9223372036854775808 ≤ a) (a2 : a ≤ 9223372036854775807) (b1 : -9223372036854775808 ≤ b) (b2 : b ≤ 9223372036854775807) : cdP x (lg_cmp (Int64.ofInt a) (Int64.ofInt b)) 0 ↔ cdZ x (a - b) := by
  have e1 : (Int64.ofInt a).toInt = a := Int64.toInt_ofInt_of_le (by omega) (by omega)
  have e2 : (Int64.ofInt b).toInt = b := Int64.toInt_ofInt_of_le (by omega) (by omega)
  have he : Int64.ofInt a = Int64.ofInt b ↔ a = b := ⟨fun h => by have := congrArg Int64.toInt h; omega, fun h => by rw [h]⟩
  have key : (a < b ∧ lg_cmp (Int64.ofInt a) (Int64.ofInt b) = Int32.ofInt (-1)) ∨ (a = b ∧ lg_cmp (Int64.ofInt a) (Int64.ofInt b) = Int32.ofInt 0) ∨ (b < a ∧ lg_cmp (Int64.ofInt a) (Int64.ofInt b) = Int32.ofInt 1) := by
    unfold lg_cmp
    rcases Int.lt_trichotomy a b with h | h | h
    · refine Or.inl ⟨h, ?_⟩
      rw [if_neg (by rw [gt_iff_lt, Int64.lt_iff_toInt_lt, e1, e2]; omega), if_neg (by rw [he]; omega)]
      rfl
    · refine Or.inr (Or.inl ⟨h, ?_⟩)
      rw [if_neg (by rw [gt_iff_lt, Int64.lt_iff_toInt_lt, e1, e2]; omega), if_pos (by rw [he]; omega)]
      rfl
    · refine Or.inr (Or.inr ⟨h, ?_⟩)
      rw [if_pos (by rw [gt_iff_lt, Int64.lt_iff_toInt_lt, e1, e2]; omega)]
      rfl
  have z0 : (0 : Int32) = Int32.ofInt 0 := by decide
  rcases key with ⟨h, e⟩ | ⟨h, e⟩ | ⟨h, e⟩
  · rw [e, z0, cdP_iff (by omega) (by omega) (by omega) (by omega)]
    rcases x with _ | _ | _ | _ | _ | x <;> (simp only [cdZ]; omega)
  · rw [e, z0, cdP_iff (by omega) (by omega) (by omega) (by omega)]
    rcases x with _ | _ | _ | _ | _ | x <;> (simp only [cdZ]; omega)
  · rw [e, z0, cdP_iff (by omega) (by omega) (by omega) (by omega)]
    rcases x with _ | _ | _ | _ | _ | x <;> (simp only [cdZ]; omega)
