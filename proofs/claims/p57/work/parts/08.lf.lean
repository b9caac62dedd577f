noncomputable abbrev LF : Type := Int × List (Int × Nat)
noncomputable abbrev AV : Type := Nat × LF × LF
noncomputable abbrev EV : Type := List (Int × Int)
noncomputable abbrev OV : Type := List ((Nat × Nat) × AV)
theorem int_lt_or (a b : Int) : a < b ∨ b ≤ a := by omega
noncomputable def leI (a b : Int) : Bool := match b - a with
  | .ofNat _ => true
  | .negSucc _ => false
theorem leI_iff {a b : Int} : leI a b = true ↔ a ≤ b := by
  unfold leI
  cases h : b - a with
  | ofNat n => simp only [true_iff]; have : 0 ≤ b - a := by rw [h]; exact Int.natCast_nonneg n
               omega
  | negSucc n => simp only [Bool.false_eq_true, false_iff]; have : b - a < 0 := by rw [h]; exact Int.negSucc_lt_zero n
                 omega
theorem leI_f {a b : Int} (h : leI a b = false) : b < a := by
  rcases int_lt_or b a with q | q
  · exact q
  · rw [leI_iff.mpr q] at h; cases h
noncomputable def eqI (a b : Int) : Bool := leI a b && leI b a
theorem eqI_iff {a b : Int} : eqI a b = true ↔ a = b := by
  unfold eqI
  rw [Bool.and_eq_true, leI_iff, leI_iff]
  omega
noncomputable def minI (a b : Int) : Int := bif leI a b then a else b
noncomputable def maxI (a b : Int) : Int := bif leI a b then b else a
theorem minI_le {a b : Int} : minI a b ≤ a ∧ minI a b ≤ b := by
  unfold minI
  cases h : leI a b with
  | true => have := leI_iff.mp h; simp only [cond_true]; omega
  | false => have := leI_f h; simp only [cond_false]; omega
theorem le_maxI {a b : Int} : a ≤ maxI a b ∧ b ≤ maxI a b := by
  unfold maxI
  cases h : leI a b with
  | true => have := leI_iff.mp h; simp only [cond_true]; omega
  | false => have := leI_f h; simp only [cond_false]; omega
theorem minI_or {a b : Int} : minI a b = a ∨ minI a b = b := by
  unfold minI; cases leI a b <;> simp
theorem maxI_or {a b : Int} : maxI a b = a ∨ maxI a b = b := by
  unfold maxI; cases leI a b <;> simp
noncomputable def evT (σ : Nat → Int) : List (Int × Nat) → Int
  | [] => 0
  | q :: t => q.1 * σ q.2 + evT σ t
noncomputable def ev (σ : Nat → Int) (f : LF) : Int := f.1 + evT σ f.2
noncomputable def inE (σ : Nat → Int) (E : EV) : Prop := ∀ (s : Nat) (q : Int × Int), E[s]? = some q → q.1 ≤ σ s ∧ σ s ≤ q.2
noncomputable def ivT (E : EV) : List (Int × Nat) → Option (Int × Int)
  | [] => some (0, 0)
  | q :: t => match E[q.2]?, ivT E t with
    | some r, some u => bif leI 0 q.1 then some (q.1 * r.1 + u.1, q.1 * r.2 + u.2) else some (q.1 * r.2 + u.1, q.1 * r.1 + u.2)
    | _, _ => none
noncomputable def iv (E : EV) (f : LF) : Option (Int × Int) := match ivT E f.2 with
  | some u => some (f.1 + u.1, f.1 + u.2)
  | none => none
theorem mul_lo {a x lo hi : Int} (h : 0 ≤ a) (h1 : lo ≤ x) (h2 : x ≤ hi) : a * lo ≤ a * x ∧ a * x ≤ a * hi := ⟨Int.mul_le_mul_of_nonneg_left h1 h, Int.mul_le_mul_of_nonneg_left h2 h⟩
theorem mul_hi {a x lo hi : Int} (h : a < 0) (h1 : lo ≤ x) (h2 : x ≤ hi) : a * hi ≤ a * x ∧ a * x ≤ a * lo := by
  have h0 : 0 ≤ -a := by omega
  have p := mul_lo h0 h1 h2
  simp only [Int.neg_mul] at p
  omega
theorem ivT_ok {σ : Nat → Int} {E : EV} (hσ : inE σ E) : ∀ {t : List (Int × Nat)} {u : Int × Int}, ivT E t = some u → u.1 ≤ evT σ t ∧ evT σ t ≤ u.2
  | [], u, h => by cases h; exact ⟨Int.le_refl _, Int.le_refl _⟩
  | q :: t, u, h => by
    unfold ivT at h
    cases h1 : E[q.2]? with
    | none => rw [h1] at h; cases h
    | some r =>
      cases h2 : ivT E t with
      | none => rw [h1, h2] at h; cases h
      | some w =>
        rw [h1, h2] at h
        have p := ivT_ok hσ h2
        have g := hσ _ _ h1
        dsimp only at h
        cases hq : leI 0 q.1 with
        | true =>
          rw [hq] at h
          cases h
          have m := mul_lo (leI_iff.mp hq) g.1 g.2
          unfold evT
          dsimp only
          omega
        | false =>
          rw [hq] at h
          cases h
          have m := mul_hi (leI_f hq) g.1 g.2
          unfold evT
          dsimp only
          omega
theorem iv_ok {σ : Nat → Int} {E : EV} (hσ : inE σ E) {f : LF} {u : Int × Int} (h : iv E f = some u) : u.1 ≤ ev σ f ∧ ev σ f ≤ u.2 := by
  unfold iv at h
  cases h1 : ivT E f.2 with
  | none => rw [h1] at h; cases h
  | some w =>
    rw [h1] at h
    cases h
    have p := ivT_ok hσ h1
    unfold ev
    dsimp only
    omega
noncomputable def addTm (a : Int) (s : Nat) : List (Int × Nat) → List (Int × Nat)
  | [] => [(a, s)]
  | q :: t => bif Nat.beq q.2 s then (bif eqI (q.1 + a) 0 then t else (q.1 + a, s) :: t) else q :: addTm a s t
theorem addTm_ev (σ : Nat → Int) (a : Int) (s : Nat) : ∀ t : List (Int × Nat), evT σ (addTm a s t) = a * σ s + evT σ t
  | [] => by simp [addTm, evT]
  | q :: t => by
    unfold addTm
    cases hq : Nat.beq q.2 s with
    | false =>
      rw [cond_false]
      have h := addTm_ev σ a s t
      unfold evT
      rw [h]
      omega
    | true =>
      have e := Nat.eq_of_beq_eq_true hq
      rw [cond_true]
      have hm : (q.1 + a) * σ s = q.1 * σ s + a * σ s := Int.add_mul _ _ _
      cases hz : eqI (q.1 + a) 0 with
      | true =>
        have z := eqI_iff.mp hz
        rw [z, Int.zero_mul] at hm
        rw [cond_true]
        conv => rhs; unfold evT
        rw [e]
        omega
      | false =>
        rw [cond_false]
        unfold evT
        rw [e]
        dsimp only
        omega
noncomputable def addT : List (Int × Nat) → List (Int × Nat) → List (Int × Nat)
  | [], t2 => t2
  | q :: t, t2 => addTm q.1 q.2 (addT t t2)
theorem addT_ev (σ : Nat → Int) : ∀ t t2 : List (Int × Nat), evT σ (addT t t2) = evT σ t + evT σ t2
  | [], t2 => by simp [addT, evT]
  | q :: t, t2 => by
    unfold addT
    rw [addTm_ev, addT_ev σ t t2]
    show _ = (q.1 * σ q.2 + evT σ t) + evT σ t2
    omega
noncomputable def lfAdd (f g : LF) : LF := (f.1 + g.1, addT f.2 g.2)
theorem lfAdd_ev (σ : Nat → Int) (f g : LF) : ev σ (lfAdd f g) = ev σ f + ev σ g := by
  unfold ev lfAdd
  dsimp only
  rw [addT_ev]
  omega
noncomputable def scT (c : Int) : List (Int × Nat) → List (Int × Nat)
  | [] => []
  | q :: t => (c * q.1, q.2) :: scT c t
theorem scT_ev (σ : Nat → Int) (c : Int) : ∀ t : List (Int × Nat), evT σ (scT c t) = c * evT σ t
  | [] => by simp [scT, evT]
  | q :: t => by
    unfold scT evT
    rw [scT_ev σ c t]
    dsimp only
    rw [Int.mul_add, Int.mul_assoc]
noncomputable def lfSc (c : Int) (f : LF) : LF := bif eqI c 0 then (0, []) else (c * f.1, scT c f.2)
theorem lfSc_ev (σ : Nat → Int) (c : Int) (f : LF) : ev σ (lfSc c f) = c * ev σ f := by
  unfold lfSc
  cases h : eqI c 0 with
  | true => have z := eqI_iff.mp h; rw [z]; simp [ev, evT]
  | false =>
    rw [cond_false]
    unfold ev
    dsimp only
    rw [scT_ev, Int.mul_add]
noncomputable def lfSub (f g : LF) : LF := lfAdd f (lfSc (-1) g)
theorem lfSub_ev (σ : Nat → Int) (f g : LF) : ev σ (lfSub f g) = ev σ f - ev σ g := by
  unfold lfSub
  rw [lfAdd_ev, lfSc_ev]
  omega
noncomputable def lfC (c : Int) : LF := (c, [])
theorem lfC_ev (σ : Nat → Int) (c : Int) : ev σ (lfC c) = c := by simp [lfC, ev, evT]
noncomputable def lfS (s : Nat) : LF := (0, [(1, s)])
theorem lfS_ev (σ : Nat → Int) (s : Nat) : ev σ (lfS s) = σ s := by simp [lfS, ev, evT]
/-! symbols below a number -/
noncomputable def wfT (n : Nat) : List (Int × Nat) → Bool
  | [] => true
  | q :: t => Nat.blt q.2 n && wfT n t
noncomputable def ext (n : Nat) (σ σ' : Nat → Int) : Prop := ∀ s, s < n → σ' s = σ s
theorem ext_rf {n : Nat} {σ : Nat → Int} : ext n σ σ := fun _ _ => rfl
theorem ext_tr {n m : Nat} {a b c : Nat → Int} (hnm : n ≤ m) (h1 : ext n a b) (h2 : ext m b c) : ext n a c := fun s hs => (h2 s (Nat.lt_of_lt_of_le hs hnm)).trans (h1 s hs)
theorem wfT_ev {n : Nat} {σ σ' : Nat → Int} (h : ext n σ σ') : ∀ {t : List (Int × Nat)}, wfT n t = true → evT σ' t = evT σ t
  | [], _ => rfl
  | q :: t, hw => by
    unfold wfT at hw
    rw [Bool.and_eq_true] at hw
    unfold evT
    rw [wfT_ev h hw.2, h _ (Nat.blt_eq.mp hw.1)]
theorem wfT_le {n m : Nat} (h : n ≤ m) : ∀ {t : List (Int × Nat)}, wfT n t = true → wfT m t = true
  | [], _ => rfl
  | q :: t, hw => by
    unfold wfT at hw ⊢
    rw [Bool.and_eq_true] at hw ⊢
    exact ⟨Nat.blt_eq.mpr (Nat.lt_of_lt_of_le (Nat.blt_eq.mp hw.1) h), wfT_le h hw.2⟩
noncomputable def wfA (n : Nat) (v : AV) : Bool := wfT n v.2.1.2 && wfT n v.2.2.2
noncomputable def conc (ad : Nat → Nat) (σ : Nat → Int) (v : AV) : Value := match v.1 with
  | 0 => .int (Int32.ofInt (ev σ v.2.1))
  | 1 => .long (Int64.ofInt (ev σ v.2.1))
  | 2 => .ref (ad v.2.1.1.toNat)
  | 3 => .null
  | _ => .int (lg_cmp (Int64.ofInt (ev σ v.2.1)) (Int64.ofInt (ev σ v.2.2)))
theorem conc_ext {ad : Nat → Nat} {n : Nat} {σ σ' : Nat → Int} (h : ext n σ σ') {v : AV} (hw : wfA n v = true) : conc ad σ' v = conc ad σ v := by
  unfold wfA at hw
  rw [Bool.and_eq_true] at hw
  have e1 : ev σ' v.2.1 = ev σ v.2.1 := by unfold ev; rw [wfT_ev h hw.1]
  have e2 : ev σ' v.2.2 = ev σ v.2.2 := by unfold ev; rw [wfT_ev h hw.2]
  unfold conc
  rw [e1, e2]
noncomputable def cvp (ad : Nat → Nat) (σ : Nat → Int) (q : Nat × AV) : Nat × Value := (q.1, conc ad σ q.2)
theorem conc_cat {ad : Nat → Nat} {σ : Nat → Int} (v : AV) : ((conc ad σ v).category == 2) = (Nat.beq v.1 1) := by
  obtain ⟨t, f, g⟩ := v
  unfold conc
  match t with
  | 0 => rfl
  | 1 => rfl
  | 2 => rfl
  | 3 => rfl
  | n + 4 => rfl
noncomputable def stA (i : Nat) (v : AV) (als : List (Nat × AV)) : List (Nat × AV) := (i, v) :: als.filter (fun q => !(Nat.beq q.1 i) && !(Nat.beq (q.1 + 1) i && Nat.beq q.2.1 1))
noncomputable def stA2 (i : Nat) (v : AV) (als : List (Nat × AV)) : List (Nat × AV) := (i, v) :: als.filter (fun q => !(Nat.beq q.1 i) && (!(Nat.beq q.1 (i + 1)) && !(Nat.beq (q.1 + 1) i && Nat.beq q.2.1 1)))
theorem nbeq (a b : Nat) : (a == b) = Nat.beq a b := by
  cases h : Nat.beq a b with
  | true => exact beq_iff_eq.mpr (Nat.eq_of_beq_eq_true h)
  | false => exact beq_false_of_ne (Nat.ne_of_beq_eq_false h)
theorem stA_map {ad : Nat → Nat} {σ : Nat → Int} (i : Nat) (v : AV) (als : List (Nat × AV)) : (stA i v als).map (cvp ad σ) = stL i (conc ad σ v) (als.map (cvp ad σ)) := by
  unfold stA stL
  rw [List.map_cons, List.filter_map]
  congr 2
  apply List.filter_congr
  intro q _
  show _ = (!(q.1 == i) && !(q.1 + 1 == i && (conc ad σ q.2).category == 2))
  rw [conc_cat, nbeq, nbeq]
theorem stA2_map {ad : Nat → Nat} {σ : Nat → Int} (i : Nat) (v : AV) (als : List (Nat × AV)) : (stA2 i v als).map (cvp ad σ) = stL2 i (conc ad σ v) (als.map (cvp ad σ)) := by
  unfold stA2 stL2
  rw [List.map_cons, List.filter_map]
  congr 2
  apply List.filter_congr
  intro q _
  show _ = (!(q.1 == i) && (!(q.1 == i + 1) && !(q.1 + 1 == i && (conc ad σ q.2).category == 2)))
  rw [conc_cat, nbeq, nbeq, nbeq]
noncomputable def lkA (i : Nat) : List (Nat × AV) → Option AV
  | [] => none
  | q :: t => bif Nat.beq q.1 i then some q.2 else lkA i t
theorem lkA_mem {i : Nat} {v : AV} : ∀ {als : List (Nat × AV)}, lkA i als = some v → (i, v) ∈ als
  | [], h => by cases h
  | q :: t, h => by
    unfold lkA at h
    cases hq : Nat.beq q.1 i with
    | true =>
      rw [hq, cond_true] at h
      have e := Nat.eq_of_beq_eq_true hq
      cases h
      rw [← e]
      exact List.mem_cons_self
    | false =>
      rw [hq, cond_false] at h
      exact List.mem_cons_of_mem _ (lkA_mem h)
