noncomputable def iv2 (E : EV) (f g : LF) : Option ((Int × Int) × (Int × Int)) := match iv E f, iv E g with
  | some u, some w => bif inI u && inI w then some (u, w) else none
  | _, _ => none
theorem iv2_ok {σ : Nat → Int} {E : EV} (hσ : inE σ E) {f g : LF} {q : (Int × Int) × (Int × Int)} (h : iv2 E f g = some q) : q.1.1 ≤ ev σ f ∧ ev σ f ≤ q.1.2 ∧ q.2.1 ≤ ev σ g ∧ ev σ g ≤ q.2.2 ∧ -2147483648 ≤ q.1.1 ∧ q.1.2 ≤ 2147483647 ∧ -2147483648 ≤ q.2.1 ∧ q.2.2 ≤ 2147483647 := by
  unfold iv2 at h
  cases h1 : iv E f with
  | none => rw [h1] at h; cases h
  | some u =>
    cases h2 : iv E g with
    | none => rw [h1, h2] at h; cases h
    | some w =>
      rw [h1, h2] at h
      dsimp only at h
      cases h3 : (inI u && inI w) with
      | false => rw [h3] at h; cases h
      | true =>
        rw [h3] at h
        cases h
        rw [Bool.and_eq_true] at h3
        have a1 := iv_ok hσ h1
        have a2 := iv_ok hσ h2
        have a3 := inI_of h3.1
        have a4 := inI_of h3.2
        exact ⟨a1.1, a1.2, a2.1, a2.2, a3.1, a3.2, a4.1, a4.2⟩
noncomputable abbrev I4 : Type := (Int × Int) × (Int × Int)
noncomputable def isC (q : I4) : Bool := eqI q.1.1 q.1.2 && eqI q.2.1 q.2.2
noncomputable def cstR (x : Nat) (q : I4) : RV := .inl (lfC (ibF x (Int32.ofInt q.1.1) (Int32.ofInt q.2.1)).toInt)
theorem cst_ok {σ : Nat → Int} {x : Nat} {q : I4} {a b : Int} (h : isC q = true) (h1 : q.1.1 ≤ a) (h2 : a ≤ q.1.2) (h3 : q.2.1 ≤ b) (h4 : b ≤ q.2.2) : gR σ (cstR x q) (ibF x (Int32.ofInt a) (Int32.ofInt b)) := by
  unfold isC at h
  rw [Bool.and_eq_true, eqI_iff, eqI_iff] at h
  have e1 : a = q.1.1 := by omega
  have e2 : b = q.2.1 := by omega
  show _ = Int32.ofInt (ev σ (lfC _))
  rw [lfC_ev, Int32.ofInt_toInt, e1, e2]
noncomputable def raDiv (q : I4) : Option RV := bif leI 1 q.2.1 then some (bif isC q then cstR 3 q else bif leI 0 q.1.1 then .inr (0, bif eqI q.2.1 q.2.2 then q.1.2 / q.2.1 else q.1.2) else .inr (q.1.1, maxI q.1.2 0)) else none
noncomputable def raRem (q : I4) : Option RV := bif leI 1 q.2.1 then some (bif isC q then cstR 4 q else bif leI 0 q.1.1 then .inr (0, minI q.1.2 (q.2.2 - 1)) else .inr (1 - q.2.2, q.2.2 - 1)) else none
noncomputable def raAnd (q : I4) : RV := bif isC q then cstR 5 q else bif leI 0 q.1.1 then .inr (0, bif leI 0 q.2.1 then minI q.1.2 q.2.2 else q.1.2) else bif leI 0 q.2.1 then .inr (0, q.2.2) else .inr fullI
noncomputable def raOr (q : I4) : RV := bif isC q then cstR 6 q else bif leI 0 q.1.1 && leI 0 q.2.1 then .inr (0, upB (maxI q.1.2 q.2.2)) else .inr fullI
noncomputable def raXor (f : LF) (q : I4) : RV := bif isC q then cstR 7 q else bif leI 0 q.1.1 && leI 0 q.2.1 then .inr (0, upB (maxI q.1.2 q.2.2)) else bif eqI q.2.1 (-1) && eqI q.2.2 (-1) then .inl (lfSub (lfC (-1)) f) else .inr fullI
noncomputable def raShl (q : I4) : RV := bif isC q then cstR 8 q else bif leI 0 q.1.1 && (leI 0 q.2.1 && (leI q.2.2 30 && leI (q.1.2 * 2 ^ q.2.2.toNat) 2147483647)) then .inr (q.1.1 * 2 ^ q.2.1.toNat, q.1.2 * 2 ^ q.2.2.toNat) else .inr fullI
noncomputable def raShr (q : I4) : RV := bif isC q then cstR 9 q else bif leI 0 q.1.1 then .inr (0, q.1.2) else .inr (q.1.1, maxI q.1.2 (-1))
noncomputable def raUsh (q : I4) : RV := bif isC q then cstR 10 q else bif leI 0 q.1.1 then .inr (0, q.1.2) else .inr fullI
noncomputable def ibA (x : Nat) (E : EV) (f g : LF) : Option RV := match x with
  | 0 => some (mkI E (lfAdd f g))
  | 1 => some (mkI E (lfSub f g))
  | 2 => match g.2 with
    | [] => some (mkI E (lfSc g.1 f))
    | _ => match f.2 with
      | [] => some (mkI E (lfSc f.1 g))
      | _ => some (.inr fullI)
  | 3 => (iv2 E f g).bind raDiv
  | 4 => (iv2 E f g).bind raRem
  | 5 => (iv2 E f g).map raAnd
  | 6 => (iv2 E f g).map raOr
  | 7 => (iv2 E f g).map (raXor f)
  | 8 => (iv2 E f g).map raShl
  | 9 => (iv2 E f g).map raShr
  | _ => (iv2 E f g).map raUsh
theorem bind_some {α β : Type} {o : Option α} {f : α → Option β} {r : β} (h : o.bind f = some r) : ∃ q, o = some q ∧ f q = some r := by
  cases o with
  | none => cases h
  | some q => exact ⟨q, rfl, h⟩
theorem map_some {α β : Type} {o : Option α} {f : α → β} {r : β} (h : o.map f = some r) : ∃ q, o = some q ∧ f q = r := by
  cases o with
  | none => cases h
  | some q => exact ⟨q, rfl, Option.some.inj h⟩
theorem bif_split {α : Type} {b : Bool} {x y : α} {P : α → Prop} (h1 : b = true → P x) (h2 : b = false → P y) : P (bif b then x else y) := by
  cases b with
  | true => exact h1 rfl
  | false => exact h2 rfl
theorem rem_bd {a c : Int} (hc : 0 < c) : (0 ≤ a → 0 ≤ a - a.tdiv c * c ∧ a - a.tdiv c * c ≤ a ∧ a - a.tdiv c * c ≤ c - 1) ∧ (a < 0 → 1 - c ≤ a - a.tdiv c * c ∧ a - a.tdiv c * c ≤ 0) := by
  have e : a - a.tdiv c * c = a.tmod c := by rw [Int.tmod_def, Int.mul_comm]
  rw [e]
  have h1 := Int.tmod_lt_of_pos a hc
  have h2 := Int.lt_tmod_of_pos a hc
  constructor
  · intro h
    have h3 := Int.tmod_nonneg c h
    have h4 : a.tmod c ≤ a := by
      rw [Int.tmod_eq_emod_of_nonneg h]
      have g1 := Int.emod_add_mul_ediv a c
      have g2 := Int.mul_nonneg (show 0 ≤ c by omega) (Int.ediv_nonneg h (show 0 ≤ c by omega))
      omega
    omega
  · intro h
    have h3 : a.tmod c ≤ 0 := by
      have := Int.tmod_nonneg c (show 0 ≤ -a by omega)
      rw [Int.neg_tmod] at this
      omega
    omega
theorem raDiv_ok {σ : Nat → Int} {q : I4} {a b : Int} {r : RV} (h : raDiv q = some r) (h1 : q.1.1 ≤ a) (h2 : a ≤ q.1.2) (h3 : q.2.1 ≤ b) (h4 : b ≤ q.2.2) (h5 : -2147483648 ≤ q.1.1) (h6 : q.1.2 ≤ 2147483647) (h8 : q.2.2 ≤ 2147483647) : ¬ Int32.ofInt b = 0 ∧ gR σ r (Int32.ofInt a / Int32.ofInt b) := by
  unfold raDiv at h
  cases hp : leI 1 q.2.1 with
  | false => rw [hp] at h; cases h
  | true =>
    rw [hp] at h
    have hp := leI_iff.mp hp
    have h := Option.some.inj h
    refine ⟨fun z => by have := ofInt_zero_iff (by omega) (by omega) z; omega, ?_⟩
    rw [← h]
    have T := tdiv_bd (a := a) (c := b) (by omega)
    refine bif_split (P := fun r => gR σ r _) (fun hc => cst_ok (x := 3) hc h1 h2 h3 h4) (fun _ => ?_)
    rw [div32 (by omega) (by omega) (by omega) (by omega)]
    refine bif_split (P := fun r => gR σ r _) (fun hc => ?_) (fun hc => ?_)
    · have hc := leI_iff.mp hc
      have T := T.1 (by omega)
      refine ⟨_, rfl, T.1, ?_⟩
      refine bif_split (P := fun z => a.tdiv b ≤ z) (fun he => ?_) (fun _ => by omega)
      have he := eqI_iff.mp he
      have eb : b = q.2.1 := by omega
      rw [T.2.1, ← eb]
      exact Int.ediv_le_ediv (by omega) h2
    · have hc := leI_f hc
      refine ⟨_, rfl, ?_, ?_⟩
      · rcases int_lt_or a 0 with hn | hn
        · have := T.2 hn; show q.1.1 ≤ _; omega
        · have := T.1 hn; show q.1.1 ≤ _; omega
      · have m := le_maxI (a := q.1.2) (b := 0)
        rcases int_lt_or a 0 with hn | hn
        · have := T.2 hn; show _ ≤ maxI _ _; omega
        · have := T.1 hn; show _ ≤ maxI _ _; omega
theorem raRem_ok {σ : Nat → Int} {q : I4} {a b : Int} {r : RV} (h : raRem q = some r) (h1 : q.1.1 ≤ a) (h2 : a ≤ q.1.2) (h3 : q.2.1 ≤ b) (h4 : b ≤ q.2.2) (h5 : -2147483648 ≤ q.1.1) (h6 : q.1.2 ≤ 2147483647) (h8 : q.2.2 ≤ 2147483647) : ¬ Int32.ofInt b = 0 ∧ gR σ r (Int32.ofInt a - Int32.ofInt a / Int32.ofInt b * Int32.ofInt b) := by
  unfold raRem at h
  cases hp : leI 1 q.2.1 with
  | false => rw [hp] at h; cases h
  | true =>
    rw [hp] at h
    have hp := leI_iff.mp hp
    have h := Option.some.inj h
    refine ⟨fun z => by have := ofInt_zero_iff (by omega) (by omega) z; omega, ?_⟩
    rw [← h]
    have T := rem_bd (a := a) (c := b) (by omega)
    refine bif_split (P := fun r => gR σ r _) (fun hc => cst_ok (x := 4) hc h1 h2 h3 h4) (fun _ => ?_)
    rw [div32 (by omega) (by omega) (by omega) (by omega), ← Int32.ofInt_mul, ← Int32.ofInt_sub]
    refine bif_split (P := fun r => gR σ r _) (fun hc => ?_) (fun hc => ?_)
    · have hc := leI_iff.mp hc
      have T := T.1 (by omega)
      refine ⟨_, rfl, T.1, ?_⟩
      show _ ≤ minI q.1.2 (q.2.2 - 1)
      rcases minI_or (a := q.1.2) (b := q.2.2 - 1) with e | e
      · rw [e]; omega
      · rw [e]; omega
    · refine ⟨_, rfl, ?_, ?_⟩
      · rcases int_lt_or a 0 with hn | hn
        · have := T.2 hn; show 1 - q.2.2 ≤ _; omega
        · have := T.1 hn; show 1 - q.2.2 ≤ _; omega
      · rcases int_lt_or a 0 with hn | hn
        · have := T.2 hn; show _ ≤ q.2.2 - 1; omega
        · have := T.1 hn; show _ ≤ q.2.2 - 1; omega
theorem raAnd_ok {σ : Nat → Int} {q : I4} {a b : Int} (h1 : q.1.1 ≤ a) (h2 : a ≤ q.1.2) (h3 : q.2.1 ≤ b) (h4 : b ≤ q.2.2) (h6 : q.1.2 ≤ 2147483647) (h8 : q.2.2 ≤ 2147483647) : gR σ (raAnd q) (Int32.ofInt a &&& Int32.ofInt b) := by
  have hb := and_b (a := Int32.ofInt a) (b := Int32.ofInt b)
  unfold raAnd
  refine bif_split (P := fun r => gR σ r _) (fun hc => cst_ok (x := 5) hc h1 h2 h3 h4) (fun _ => ?_)
  refine bif_split (P := fun r => gR σ r _) (fun hc => ?_) (fun hc => ?_)
  · have hc := leI_iff.mp hc
    have ea := toNat_of (z := a) (by omega) (by omega)
    refine gR_nat ?_
    refine bif_split (P := fun z => (_ : Int) ≤ z) (fun hd => ?_) (fun _ => by omega)
    have hd := leI_iff.mp hd
    have eb := toNat_of (z := b) (by omega) (by omega)
    rcases minI_or (a := q.1.2) (b := q.2.2) with e | e
    · rw [e]; omega
    · rw [e]; omega
  · refine bif_split (P := fun r => gR σ r _) (fun hd => ?_) (fun _ => fullI_ok σ _)
    have hd := leI_iff.mp hd
    have eb := toNat_of (z := b) (by omega) (by omega)
    exact gR_nat (by omega)
theorem two_pow_cast (k : Nat) : ((2 ^ k : Nat) : Int) = 2 ^ k := by simp
theorem raOr_ok {σ : Nat → Int} {q : I4} {a b : Int} (h1 : q.1.1 ≤ a) (h2 : a ≤ q.1.2) (h3 : q.2.1 ≤ b) (h4 : b ≤ q.2.2) (h6 : q.1.2 ≤ 2147483647) (h8 : q.2.2 ≤ 2147483647) : gR σ (raOr q) (Int32.ofInt a ||| Int32.ofInt b) := by
  unfold raOr
  refine bif_split (P := fun r => gR σ r _) (fun hc => cst_ok (x := 6) hc h1 h2 h3 h4) (fun _ => ?_)
  refine bif_split (P := fun r => gR σ r _) (fun hc => ?_) (fun _ => fullI_ok σ _)
  rw [Bool.and_eq_true, leI_iff, leI_iff] at hc
  have ea := toNat_of (z := a) (by omega) (by omega)
  have eb := toNat_of (z := b) (by omega) (by omega)
  have m := le_maxI (a := q.1.2) (b := q.2.2)
  obtain ⟨k, hk, hz, hu⟩ := upB_ok (z := maxI q.1.2 q.2.2) (by rcases maxI_or (a := q.1.2) (b := q.2.2) with e | e <;> rw [e] <;> omega)
  have c := two_pow_cast k
  have h := or_b (a := Int32.ofInt a) (b := Int32.ofInt b) (k := k) (by omega) (by omega)
  exact gR_nat (by rw [hu]; omega)
theorem raXor_ok {σ : Nat → Int} {q : I4} {f : LF} {b : Int} (h1 : q.1.1 ≤ ev σ f) (h2 : ev σ f ≤ q.1.2) (h3 : q.2.1 ≤ b) (h4 : b ≤ q.2.2) (h6 : q.1.2 ≤ 2147483647) (h8 : q.2.2 ≤ 2147483647) : gR σ (raXor f q) (Int32.ofInt (ev σ f) ^^^ Int32.ofInt b) := by
  unfold raXor
  refine bif_split (P := fun r => gR σ r _) (fun hc => cst_ok (x := 7) hc h1 h2 h3 h4) (fun _ => ?_)
  refine bif_split (P := fun r => gR σ r _) (fun hc => ?_) (fun _ => ?_)
  · rw [Bool.and_eq_true, leI_iff, leI_iff] at hc
    have ea := toNat_of (z := ev σ f) (by omega) (by omega)
    have eb := toNat_of (z := b) (by omega) (by omega)
    have m := le_maxI (a := q.1.2) (b := q.2.2)
    obtain ⟨k, hk, hz, hu⟩ := upB_ok (z := maxI q.1.2 q.2.2) (by rcases maxI_or (a := q.1.2) (b := q.2.2) with e | e <;> rw [e] <;> omega)
    have c := two_pow_cast k
    have h := xor_b (a := Int32.ofInt (ev σ f)) (b := Int32.ofInt b) (k := k) (by omega) (by omega)
    exact gR_nat (by rw [hu]; omega)
  · refine bif_split (P := fun r => gR σ r _) (fun hc => ?_) (fun _ => fullI_ok σ _)
    rw [Bool.and_eq_true, eqI_iff, eqI_iff] at hc
    have e : b = -1 := by omega
    subst e
    show _ = Int32.ofInt (ev σ (lfSub (lfC (-1)) f))
    rw [lfSub_ev, lfC_ev, Int32.ofInt_sub]
    have e2 : Int32.ofInt (-1) = (-1 : Int32) := by decide
    rw [e2]
    generalize Int32.ofInt (ev σ f) = v
    apply Int32.toBitVec.inj
    rw [Int32.toBitVec_xor, Int32.toBitVec_sub]
    have e3 : (-1 : Int32).toBitVec = BitVec.allOnes 32 := by decide
    rw [e3, BitVec.xor_allOnes, BitVec.allOnes_sub_eq_not]
theorem raShl_ok {σ : Nat → Int} {q : I4} {a b : Int} (h1 : q.1.1 ≤ a) (h2 : a ≤ q.1.2) (h3 : q.2.1 ≤ b) (h4 : b ≤ q.2.2) : gR σ (raShl q) (Int32.ofInt a <<< (Int32.ofInt b &&& 31)) := by
  unfold raShl
  refine bif_split (P := fun r => gR σ r _) (fun hc => cst_ok (x := 8) hc h1 h2 h3 h4) (fun _ => ?_)
  refine bif_split (P := fun r => gR σ r _) (fun hc => ?_) (fun _ => fullI_ok σ _)
  simp only [Bool.and_eq_true, leI_iff] at hc
  obtain ⟨c1, c2, c3, c4⟩ := hc
  obtain ⟨n, rfl⟩ := Int.eq_ofNat_of_zero_le (show 0 ≤ a by omega)
  obtain ⟨j, rfl⟩ := Int.eq_ofNat_of_zero_le (show 0 ≤ b by omega)
  have eb : (Int32.ofInt (j : Int)).toBitVec.toNat = j := pk_tn (by omega)
  have P1 : (2 : Int) ^ q.2.1.toNat ≤ 2 ^ j := by
    have : q.2.1.toNat ≤ j := by omega
    have := Nat.pow_le_pow_right (n := 2) (by omega) this
    exact_mod_cast this
  have P2 : (2 : Int) ^ j ≤ 2 ^ q.2.2.toNat := by
    have : j ≤ q.2.2.toNat := by omega
    have := Nat.pow_le_pow_right (n := 2) (by omega) this
    exact_mod_cast this
  have P0 : (0 : Int) < 2 ^ q.2.1.toNat := by
    have := Nat.two_pow_pos q.2.1.toNat
    exact_mod_cast this
  have u1 : (n : Int) * 2 ^ j ≤ q.1.2 * 2 ^ q.2.2.toNat := Int.mul_le_mul h2 P2 (by omega) (by omega)
  have u2 : q.1.1 * 2 ^ q.2.1.toNat ≤ (n : Int) * 2 ^ j := Int.mul_le_mul h1 P1 (by omega) (by omega)
  have cs : ((n * 2 ^ j : Nat) : Int) = (n : Int) * 2 ^ j := by simp
  have e := shl_ok (x := n) (n := j) (v := Int32.ofInt (j : Int)) eb (by omega) (by omega)
  refine ⟨((n * 2 ^ j : Nat) : Int), e, ?_, ?_⟩
  · show q.1.1 * 2 ^ q.2.1.toNat ≤ _; omega
  · show _ ≤ q.1.2 * 2 ^ q.2.2.toNat; omega
theorem raShr_ok {σ : Nat → Int} {q : I4} {a b : Int} (h1 : q.1.1 ≤ a) (h2 : a ≤ q.1.2) (h3 : q.2.1 ≤ b) (h4 : b ≤ q.2.2) (h5 : -2147483648 ≤ q.1.1) (h6 : q.1.2 ≤ 2147483647) : gR σ (raShr q) (Int32.ofInt a >>> (Int32.ofInt b &&& 31)) := by
  unfold raShr
  refine bif_split (P := fun r => gR σ r _) (fun hc => cst_ok (x := 9) hc h1 h2 h3 h4) (fun _ => ?_)
  obtain ⟨j, hj⟩ := shr_ok (Int32.ofInt a) (Int32.ofInt b)
  rw [Int32.toInt_ofInt_of_le (by omega) (by omega)] at hj
  have B := shr_bd a j
  have e : Int32.ofInt a >>> (Int32.ofInt b &&& 31) = Int32.ofInt (a >>> j) := by rw [← hj, Int32.ofInt_toInt]
  refine bif_split (P := fun r => gR σ r _) (fun hc => ?_) (fun hc => ?_)
  · have hc := leI_iff.mp hc
    have B := B.1 (by omega)
    exact ⟨_, e, B.1, by show _ ≤ q.1.2; omega⟩
  · have hc := leI_f hc
    have m := le_maxI (a := q.1.2) (b := -1)
    refine ⟨_, e, ?_, ?_⟩
    · show q.1.1 ≤ _
      rcases int_lt_or a 0 with hn | hn
      · have := B.2 hn; omega
      · have := B.1 hn; omega
    · show _ ≤ maxI q.1.2 (-1)
      rcases int_lt_or a 0 with hn | hn
      · have := B.2 hn; omega
      · have := B.1 hn; omega
theorem raUsh_ok {σ : Nat → Int} {q : I4} {a b : Int} (h1 : q.1.1 ≤ a) (h2 : a ≤ q.1.2) (h3 : q.2.1 ≤ b) (h4 : b ≤ q.2.2) (h6 : q.1.2 ≤ 2147483647) : gR σ (raUsh q) (((Int32.ofInt a).toUInt32 >>> ((Int32.ofInt b).toUInt32 &&& Int32.toUInt32 31)).toInt32) := by
  unfold raUsh
  refine bif_split (P := fun r => gR σ r _) (fun hc => cst_ok (x := 10) hc h1 h2 h3 h4) (fun _ => ?_)
  refine bif_split (P := fun r => gR σ r _) (fun hc => ?_) (fun _ => fullI_ok σ _)
  have hc := leI_iff.mp hc
  have ea := toNat_of (z := a) (by omega) (by omega)
  have u := ushr_ok (Int32.ofInt a) (Int32.ofInt b)
  exact gR_nat (by omega)
theorem lfnil_ev {σ : Nat → Int} {f : LF} (h : f.2 = []) : ev σ f = f.1 := by unfold ev; rw [h]; simp [evT]
theorem ibA_ok {σ : Nat → Int} {E : EV} (hσ : inE σ E) {x : Nat} {f g : LF} {r : RV} (h : ibA x E f g = some r) : (x = 3 ∨ x = 4 → ¬ Int32.ofInt (ev σ g) = 0) ∧ gR σ r (ibF x (Int32.ofInt (ev σ f)) (Int32.ofInt (ev σ g))) := by
  unfold ibA at h
  rcases x with _ | _ | _ | _ | _ | _ | _ | _ | _ | _ | x
  · cases h
    exact ⟨by omega, mkI_ok hσ (by show _ + _ = _; rw [lfAdd_ev, Int32.ofInt_add])⟩
  · cases h
    exact ⟨by omega, mkI_ok hσ (by show _ - _ = _; rw [lfSub_ev, Int32.ofInt_sub])⟩
  · refine ⟨by omega, ?_⟩
    show gR σ r (_ * _)
    cases hg : g.2 with
    | nil =>
      rw [hg] at h
      cases h
      exact mkI_ok hσ (by rw [lfSc_ev, Int32.ofInt_mul, lfnil_ev hg, Int32.mul_comm])
    | cons c t =>
      rw [hg] at h
      dsimp only at h
      cases hf : f.2 with
      | nil =>
        rw [hf] at h
        cases h
        exact mkI_ok hσ (by rw [lfSc_ev, Int32.ofInt_mul, lfnil_ev hf])
      | cons c2 t2 =>
        rw [hf] at h
        cases h
        exact fullI_ok σ _
  · obtain ⟨q, hq, hr⟩ := bind_some h
    obtain ⟨p1, p2, p3, p4, p5, p6, p7, p8⟩ := iv2_ok hσ hq
    have K := raDiv_ok (σ := σ) hr p1 p2 p3 p4 p5 p6 p8
    exact ⟨fun _ => K.1, K.2⟩
  · obtain ⟨q, hq, hr⟩ := bind_some h
    obtain ⟨p1, p2, p3, p4, p5, p6, p7, p8⟩ := iv2_ok hσ hq
    have K := raRem_ok (σ := σ) hr p1 p2 p3 p4 p5 p6 p8
    exact ⟨fun _ => K.1, K.2⟩
  · obtain ⟨q, hq, rfl⟩ := map_some h
    obtain ⟨p1, p2, p3, p4, p5, p6, p7, p8⟩ := iv2_ok hσ hq
    exact ⟨by omega, raAnd_ok p1 p2 p3 p4 p6 p8⟩
  · obtain ⟨q, hq, rfl⟩ := map_some h
    obtain ⟨p1, p2, p3, p4, p5, p6, p7, p8⟩ := iv2_ok hσ hq
    exact ⟨by omega, raOr_ok p1 p2 p3 p4 p6 p8⟩
  · obtain ⟨q, hq, rfl⟩ := map_some h
    obtain ⟨p1, p2, p3, p4, p5, p6, p7, p8⟩ := iv2_ok hσ hq
    exact ⟨by omega, raXor_ok p1 p2 p3 p4 p6 p8⟩
  · obtain ⟨q, hq, rfl⟩ := map_some h
    obtain ⟨p1, p2, p3, p4, p5, p6, p7, p8⟩ := iv2_ok hσ hq
    exact ⟨by omega, raShl_ok p1 p2 p3 p4⟩
  · obtain ⟨q, hq, rfl⟩ := map_some h
    obtain ⟨p1, p2, p3, p4, p5, p6, p7, p8⟩ := iv2_ok hσ hq
    exact ⟨by omega, raShr_ok p1 p2 p3 p4 p5 p6⟩
  · obtain ⟨q, hq, rfl⟩ := map_some h
    obtain ⟨p1, p2, p3, p4, p5, p6, p7, p8⟩ := iv2_ok hσ hq
    exact ⟨by omega, raUsh_ok p1 p2 p3 p4 p6⟩
