noncomputable abbrev RV : Type := LF ⊕ (Int × Int)
noncomputable def fullI : Int × Int := (-2147483648, 2147483647)
noncomputable def fullL : Int × Int := (-9223372036854775808, 9223372036854775807)
noncomputable def inI (u : Int × Int) : Bool := leI (-2147483648) u.1 && leI u.2 2147483647
noncomputable def inL (u : Int × Int) : Bool := leI (-9223372036854775808) u.1 && leI u.2 9223372036854775807
theorem inI_of {u : Int × Int} (h : inI u = true) : -2147483648 ≤ u.1 ∧ u.2 ≤ 2147483647 := by
  unfold inI at h
  rw [Bool.and_eq_true, leI_iff, leI_iff] at h
  exact h
theorem inL_of {u : Int × Int} (h : inL u = true) : -9223372036854775808 ≤ u.1 ∧ u.2 ≤ 9223372036854775807 := by
  unfold inL at h
  rw [Bool.and_eq_true, leI_iff, leI_iff] at h
  exact h
noncomputable def gR (σ : Nat → Int) (r : RV) (v : Int32) : Prop := match r with
  | .inl f => v = Int32.ofInt (ev σ f)
  | .inr u => ∃ z : Int, v = Int32.ofInt z ∧ u.1 ≤ z ∧ z ≤ u.2
noncomputable def gL (σ : Nat → Int) (r : RV) (v : Int64) : Prop := match r with
  | .inl f => v = Int64.ofInt (ev σ f)
  | .inr u => ∃ z : Int, v = Int64.ofInt z ∧ u.1 ≤ z ∧ z ≤ u.2
theorem fullI_ok (σ : Nat → Int) (v : Int32) : gR σ (.inr fullI) v := by
  refine ⟨v.toInt, (Int32.ofInt_toInt v).symm, ?_, ?_⟩
  · have := Int32.le_toInt v; show -2147483648 ≤ v.toInt; omega
  · have := Int32.toInt_lt v; show v.toInt ≤ 2147483647; omega
theorem fullL_ok (σ : Nat → Int) (v : Int64) : gL σ (.inr fullL) v := by
  refine ⟨v.toInt, (Int64.ofInt_toInt v).symm, ?_, ?_⟩
  · have := Int64.le_toInt v; show -9223372036854775808 ≤ v.toInt; omega
  · have := Int64.toInt_lt v; show v.toInt ≤ 9223372036854775807; omega
noncomputable def mkI (E : EV) (f : LF) : RV := match iv E f with
  | some u => bif inI u then (bif eqI u.1 u.2 then .inl (lfC u.1) else .inl f) else .inr fullI
  | none => .inr fullI
noncomputable def mkL (E : EV) (f : LF) : RV := match iv E f with
  | some u => bif inL u then (bif eqI u.1 u.2 then .inl (lfC u.1) else .inl f) else .inr fullL
  | none => .inr fullL
theorem iv_const {σ : Nat → Int} {E : EV} (hσ : inE σ E) {f : LF} {u : Int × Int} (h : iv E f = some u) (he : eqI u.1 u.2 = true) : ev σ f = u.1 := by
  have p := iv_ok hσ h
  have q := eqI_iff.mp he
  omega
theorem mkI_ok {σ : Nat → Int} {E : EV} (hσ : inE σ E) {f : LF} {v : Int32} (h : v = Int32.ofInt (ev σ f)) : gR σ (mkI E f) v := by
  unfold mkI
  cases h1 : iv E f with
  | none => exact fullI_ok σ v
  | some u =>
    dsimp only
    cases h2 : inI u with
    | false => rw [cond_false]; exact fullI_ok σ v
    | true =>
      rw [cond_true]
      cases h3 : eqI u.1 u.2 with
      | false => rw [cond_false]; exact h
      | true => rw [cond_true]; show v = Int32.ofInt (ev σ (lfC u.1)); rw [lfC_ev, h, iv_const hσ h1 h3]
theorem mkL_ok {σ : Nat → Int} {E : EV} (hσ : inE σ E) {f : LF} {v : Int64} (h : v = Int64.ofInt (ev σ f)) : gL σ (mkL E f) v := by
  unfold mkL
  cases h1 : iv E f with
  | none => exact fullL_ok σ v
  | some u =>
    dsimp only
    cases h2 : inL u with
    | false => rw [cond_false]; exact fullL_ok σ v
    | true =>
      rw [cond_true]
      cases h3 : eqI u.1 u.2 with
      | false => rw [cond_false]; exact h
      | true => rw [cond_true]; show v = Int64.ofInt (ev σ (lfC u.1)); rw [lfC_ev, h, iv_const hσ h1 h3]
theorem v_nI (v : Int32) : v = Int32.ofInt (v.toBitVec.toNat : Int) := by
  apply Int32.toBitVec.inj
  apply BitVec.eq_of_toNat_eq
  have h := v.toBitVec.isLt
  rw [show Int32.ofInt ((v.toBitVec.toNat : Nat) : Int) = nI v.toBitVec.toNat from rfl]
  rw [pk_tn h]
theorem toNat_of {z : Int} (h0 : 0 ≤ z) (h1 : z ≤ 2147483647) : ((Int32.ofInt z).toBitVec.toNat : Int) = z := by
  obtain ⟨n, rfl⟩ := Int.eq_ofNat_of_zero_le h0
  rw [show Int32.ofInt (n : Int) = nI n from rfl, pk_tn (by omega)]
theorem gR_nat {σ : Nat → Int} {v : Int32} {hi : Int} (h : (v.toBitVec.toNat : Int) ≤ hi) : gR σ (.inr (0, hi)) v := ⟨_, v_nI v, Int.natCast_nonneg _, h⟩
/-- all ones up to above a number -/
noncomputable def upB (z : Int) : Int := bif leI z 1 then 1 else bif leI z 3 then 3 else bif leI z 7 then 7 else bif leI z 15 then 15 else bif leI z 31 then 31 else bif leI z 63 then 63 else bif leI z 127 then 127 else bif leI z 255 then 255 else bif leI z 4095 then 4095 else bif leI z 65535 then 65535 else bif leI z 16777215 then 16777215 else 2147483647
theorem upB_ok {z : Int} (h : z ≤ 2147483647) : ∃ k : Nat, k ≤ 31 ∧ z < 2 ^ k ∧ upB z = 2 ^ k - 1 := by
  unfold upB
  have go : ∀ (c : Int) (k : Nat) (r : Int), (2 : Int) ^ k = c + 1 → k ≤ 31 → (c < z → ∃ k : Nat, k ≤ 31 ∧ z < 2 ^ k ∧ r = 2 ^ k - 1) → ∃ k : Nat, k ≤ 31 ∧ z < 2 ^ k ∧ (bif leI z c then c else r) = 2 ^ k - 1 := by
    intro c k r hc hk hr
    cases h1 : leI z c with
    | true => have := leI_iff.mp h1; rw [cond_true]; exact ⟨k, hk, by omega, by omega⟩
    | false => rw [cond_false]; exact hr (leI_f h1)
  refine go 1 1 _ rfl (by omega) fun _ => go 3 2 _ rfl (by omega) fun _ => go 7 3 _ rfl (by omega) fun _ => go 15 4 _ rfl (by omega) fun _ => go 31 5 _ rfl (by omega) fun _ => go 63 6 _ rfl (by omega) fun _ => go 127 7 _ rfl (by omega) fun _ => go 255 8 _ rfl (by omega) fun _ => go 4095 12 _ rfl (by omega) fun _ => go 65535 16 _ rfl (by omega) fun _ => go 16777215 24 _ rfl (by omega) fun _ => ⟨31, by omega, by omega, rfl⟩
theorem and_b {a b : Int32} : (a &&& b).toBitVec.toNat ≤ a.toBitVec.toNat ∧ (a &&& b).toBitVec.toNat ≤ b.toBitVec.toNat := by
  rw [Int32.toBitVec_and, BitVec.toNat_and]
  exact ⟨Nat.and_le_left, Nat.and_le_right⟩
theorem or_b {a b : Int32} {k : Nat} (h1 : a.toBitVec.toNat < 2 ^ k) (h2 : b.toBitVec.toNat < 2 ^ k) : (a ||| b).toBitVec.toNat < 2 ^ k := by
  rw [Int32.toBitVec_or, BitVec.toNat_or]
  exact Nat.or_lt_two_pow h1 h2
theorem xor_b {a b : Int32} {k : Nat} (h1 : a.toBitVec.toNat < 2 ^ k) (h2 : b.toBitVec.toNat < 2 ^ k) : (a ^^^ b).toBitVec.toNat < 2 ^ k := by
  rw [Int32.toBitVec_xor, BitVec.toNat_xor]
  exact Nat.xor_lt_two_pow h1 h2
theorem and31 (v : Int32) : ∃ j : Nat, j < 32 ∧ v &&& 31 = nI j ∧ j = v.toBitVec.toNat % 32 := by
  refine ⟨v.toBitVec.toNat % 32, Nat.mod_lt _ (by decide), ?_, rfl⟩
  exact pk_and v (m := 31) 5 (by decide)
theorem smod32 : ∀ j : Nat, j < 32 → ((nI j).toBitVec.smod 32).toNat = j := by decide
theorem shl_ok {x n : Nat} {v : Int32} (hv : v.toBitVec.toNat = n) (hn : n < 32) (h : x * 2 ^ n < 2 ^ 32) : nI x <<< (v &&& 31) = nI (x * 2 ^ n) := by
  obtain ⟨j, hj, e, e2⟩ := and31 v
  have : j = n := by rw [e2, hv]; exact Nat.mod_eq_of_lt hn
  subst this
  rw [e]
  exact pk_shlN _ j (smod32 j hj) h
theorem shr_ok (u v : Int32) : ∃ j : Nat, (u >>> (v &&& 31)).toInt = u.toInt >>> j := by
  obtain ⟨j, hj, e, -⟩ := and31 v
  exact ⟨j, by rw [e]; exact pk_shr u _ j (smod32 j hj)⟩
theorem shr_bd (a : Int) (j : Nat) : (0 ≤ a → 0 ≤ a >>> j ∧ a >>> j ≤ a) ∧ (a < 0 → a ≤ a >>> j ∧ a >>> j ≤ -1) := by
  rw [Int.shiftRight_eq_div_pow]
  have hp : (0 : Int) < (2 ^ j : Nat) := by exact_mod_cast Nat.two_pow_pos j
  generalize ((2 ^ j : Nat) : Int) = P at hp
  have e := Int.emod_add_mul_ediv a P
  have e1 := Int.emod_nonneg a (by omega : P ≠ 0)
  have e2 := Int.emod_lt_of_pos a hp
  constructor
  · intro h
    have h1 : 0 ≤ a / P := Int.ediv_nonneg h (by omega)
    have h2 : 1 * (a / P) ≤ P * (a / P) := Int.mul_le_mul_of_nonneg_right (by omega) h1
    omega
  · intro h
    have h1 : a / P < 0 := Int.ediv_neg_of_neg_of_pos h hp
    have h2 : (P - 1) * 1 ≤ (P - 1) * (-(a / P)) := Int.mul_le_mul_of_nonneg_left (by omega) (by omega)
    have e3 : (P - 1) * (-(a / P)) = -(P * (a / P)) + a / P := by rw [Int.sub_mul, Int.mul_neg, Int.one_mul]; omega
    omega
theorem ushr_ok (u v : Int32) : ((u.toUInt32 >>> (v.toUInt32 &&& Int32.toUInt32 31)).toInt32).toBitVec.toNat ≤ u.toBitVec.toNat := by
  rw [pk_ushr u v _ rfl]
  exact Nat.div_le_self _ _
theorem div32 {a c : Int} (ha : -2147483648 ≤ a) (ha2 : a ≤ 2147483647) (hc : 0 < c) (hc2 : c ≤ 2147483647) : Int32.ofInt a / Int32.ofInt c = Int32.ofInt (a.tdiv c) := by
  have e1 : (Int32.ofInt a).toInt = a := Int32.toInt_ofInt_of_le (by omega) (by omega)
  have e2 : (Int32.ofInt c).toInt = c := Int32.toInt_ofInt_of_le (by omega) (by omega)
  have hne : Int32.ofInt c ≠ -1 := by
    intro h
    have := congrArg Int32.toInt h
    rw [e2] at this
    have e3 : (-1 : Int32).toInt = -1 := by decide
    omega
  have h := Int32.toInt_div_of_ne_right (Int32.ofInt a) (Int32.ofInt c) hne
  rw [e1, e2] at h
  rw [← h, Int32.ofInt_toInt]
theorem div64 {a c : Int} (ha : -9223372036854775808 ≤ a) (ha2 : a ≤ 9223372036854775807) (hc : 0 < c) (hc2 : c ≤ 9223372036854775807) : Int64.ofInt a / Int64.ofInt c = Int64.ofInt (a.tdiv c) := by
  have e1 : (Int64.ofInt a).toInt = a := Int64.toInt_ofInt_of_le (by omega) (by omega)
  have e2 : (Int64.ofInt c).toInt = c := Int64.toInt_ofInt_of_le (by omega) (by omega)
  have hne : Int64.ofInt c ≠ -1 := by
    intro h
    have := congrArg Int64.toInt h
    rw [e2] at this
    have e3 : (-1 : Int64).toInt = -1 := by decide
    omega
  have h := Int64.toInt_div_of_ne_right (Int64.ofInt a) (Int64.ofInt c) hne
  rw [e1, e2] at h
  rw [← h, Int64.ofInt_toInt]
theorem tdiv_bd {a c : Int} (hc : 0 < c) : (0 ≤ a → 0 ≤ a.tdiv c ∧ a.tdiv c = a / c ∧ a.tdiv c ≤ a) ∧ (a < 0 → a ≤ a.tdiv c ∧ a.tdiv c ≤ 0) := by
  constructor
  · intro h
    have e := Int.tdiv_eq_ediv_of_nonneg (b := c) h
    refine ⟨by rw [e]; exact Int.ediv_nonneg h (by omega), e, by rw [e]; exact Int.ediv_le_self _ h⟩
  · intro h
    have e : a.tdiv c = -((-a).tdiv c) := by rw [Int.neg_tdiv, Int.neg_neg]
    have e2 := Int.tdiv_eq_ediv_of_nonneg (a := -a) (b := c) (by omega)
    have h1 : 0 ≤ (-a) / c := Int.ediv_nonneg (by omega) (by omega)
    have h2 : (-a) / c ≤ -a := Int.ediv_le_self _ (by omega)
    omega
theorem ofInt_zero_iff {c : Int} (h1 : -2147483648 ≤ c) (h2 : c ≤ 2147483647) (h : Int32.ofInt c = 0) : c = 0 := by
  have e := congrArg Int32.toInt h
  rw [Int32.toInt_ofInt_of_le (by omega) (by omega)] at e
  have : (0 : Int32).toInt = 0 := by decide
  omega
theorem ofInt_zero_iffL {c : Int} (h1 : -9223372036854775808 ≤ c) (h2 : c ≤ 9223372036854775807) (h : Int64.ofInt c = 0) : c = 0 := by
  have e := congrArg Int64.toInt h
  rw [Int64.toInt_ofInt_of_le (by omega) (by omega)] at e
  have : (0 : Int64).toInt = 0 := by decide
  omega
