section XVK
/-- a sum over the numbers below n -/
noncomputable def smN (g : Nat → Int) : Nat → Int
  | 0 => 0
  | n + 1 => smN g n + g n
theorem smN_cg {a b : Nat → Int} : ∀ n : Nat, (∀ c, c < n → a c = b c) → smN a n = smN b n
  | 0, _ => rfl
  | n + 1, h => by
    unfold smN
    rw [smN_cg n (fun c hc => h c (by omega)), h n (by omega)]
theorem smN_add {a b : Nat → Int} : ∀ n : Nat, smN (fun c => a c + b c) n = smN a n + smN b n
  | 0 => rfl
  | n + 1 => by
    show smN (fun c => a c + b c) n + (a n + b n) = smN a n + a n + (smN b n + b n)
    rw [smN_add n]
    omega
theorem smN_sub {a b : Nat → Int} : ∀ n : Nat, smN (fun c => a c - b c) n = smN a n - smN b n
  | 0 => rfl
  | n + 1 => by
    show smN (fun c => a c - b c) n + (a n - b n) = smN a n + a n - (smN b n + b n)
    rw [smN_sub n]
    omega
theorem smN_0 : ∀ n : Nat, smN (fun _ => 0) n = 0
  | 0 => rfl
  | n + 1 => by
    show smN (fun _ => 0) n + 0 = 0
    rw [smN_0 n]
    rfl
theorem smN_swap {g : Nat → Nat → Int} (m : Nat) : ∀ n : Nat, smN (fun c => smN (fun f => g f c) m) n = smN (fun f => smN (fun c => g f c) n) m
  | 0 => (smN_0 m).symm
  | n + 1 => by
    show smN (fun c => smN (fun f => g f c) m) n + smN (fun f => g f n) m = smN (fun f => smN (fun c => g f c) n + g f n) m
    rw [smN_swap m n, smN_add]
/-- how many lie from u on and below v -/
theorem smN_iv {u v : Nat} (h : u ≤ v) : ∀ n : Nat, smN (fun c => if u ≤ c ∧ c < v then 1 else 0) n = if n ≤ u then 0 else if n ≤ v then ((n - u : Nat) : Int) else ((v - u : Nat) : Int)
  | 0 => by
    rw [if_pos (Nat.zero_le u)]
    rfl
  | n + 1 => by
    show smN (fun c => if u ≤ c ∧ c < v then 1 else 0) n + (if u ≤ n ∧ n < v then 1 else 0) = _
    rw [smN_iv h n]
    by_cases a : n < u
    · rw [if_pos (by omega), if_neg (by omega), if_pos (by omega)]
      rfl
    · by_cases b : n < v
      · rw [if_pos (show u ≤ n ∧ n < v by omega), if_neg (show ¬ n + 1 ≤ u by omega), if_pos (show n + 1 ≤ v by omega)]
        by_cases c : n ≤ u
        · rw [if_pos c]
          omega
        · rw [if_neg c, if_pos (by omega)]
          omega
      · rw [if_neg (show ¬ (u ≤ n ∧ n < v) by omega), if_neg (show ¬ n + 1 ≤ u by omega), if_neg (show ¬ n + 1 ≤ v by omega)]
        by_cases c : n ≤ u
        · rw [if_pos c]
          omega
        · by_cases d : n ≤ v
          · rw [if_neg c, if_pos d]
            omega
          · rw [if_neg c, if_neg d]
            omega
/-- the syllable at place i of the name of n syllables with this code -/
noncomputable def dgC (S n c i : Nat) : Nat := c / S ^ (n - 1 - i) % S
/-- the code of the first k syllables of s -/
noncomputable def vlC (S : Nat) (s : Nat → Nat) : Nat → Nat
  | 0 => 0
  | k + 1 => S * vlC S s k + s k
theorem vlC_lt {S : Nat} {s : Nat → Nat} : ∀ k : Nat, (∀ i, i < k → s i < S) → vlC S s k < S ^ k
  | 0, _ => by
    show 0 < S ^ 0
    rw [Nat.pow_zero]
    omega
  | k + 1, h => by
    have a := vlC_lt k (fun i hi => h i (by omega))
    have b := h k (by omega)
    show S * vlC S s k + s k < S ^ (k + 1)
    rw [Nat.pow_succ, Nat.mul_comm (S ^ k) S]
    have c : S * (vlC S s k + 1) ≤ S * S ^ k := Nat.mul_le_mul_left S a
    rw [Nat.mul_add, Nat.mul_one] at c
    omega
/-- a code has these first syllables when it lies in their interval -/
theorem dgC_k {S n c : Nat} {s : Nat → Nat} (hc : c < S ^ n) : ∀ k : Nat, k ≤ n → (∀ i, i < k → s i < S) → ((∀ i, i < k → dgC S n c i = s i) ↔ c / S ^ (n - k) = vlC S s k)
  | 0, _, _ => by
    rw [Nat.sub_zero, Nat.div_eq_of_lt hc]
    exact ⟨fun _ => rfl, fun _ i hi => absurd hi (by omega)⟩
  | k + 1, hk, hs => by
    have ih := dgC_k hc k (by omega) (fun i hi => hs i (by omega))
    have e : c / S ^ (n - k) = c / S ^ (n - (k + 1)) / S := by
      rw [Nat.div_div_eq_div_mul, ← Nat.pow_succ, show (n - (k + 1)).succ = n - k by omega]
    have d : dgC S n c k = c / S ^ (n - (k + 1)) % S := by
      unfold dgC
      rw [show n - 1 - k = n - (k + 1) by omega]
    have sk := hs k (by omega)
    have dm := Nat.div_add_mod (c / S ^ (n - (k + 1))) S
    constructor
    · intro h
      have a := ih.mp (fun i hi => h i (by omega))
      have b := h k (by omega)
      show c / S ^ (n - (k + 1)) = S * vlC S s k + s k
      rw [← dm, ← e, a, ← d, b]
    · intro h
      have h : c / S ^ (n - (k + 1)) = S * vlC S s k + s k := h
      have q1 : c / S ^ (n - (k + 1)) / S = vlC S s k := by
        rw [h, Nat.mul_comm, Nat.add_comm, Nat.add_mul_div_right _ _ (by omega), Nat.div_eq_of_lt sk, Nat.zero_add]
      have q2 : c / S ^ (n - (k + 1)) % S = s k := by
        rw [h, Nat.mul_add_mod, Nat.mod_eq_of_lt sk]
      intro i hi
      by_cases c2 : i = k
      · rw [c2, d]
        exact q2
      · exact ih.mpr (e.trans q1) i (by omega)
/-- how many codes have them -/
theorem dgC_n {S n k : Nat} {s : Nat → Nat} (hS : 0 < S) (hk : k ≤ n) (hs : ∀ i, i < k → s i < S) : smN (fun c => if c / S ^ (n - k) = vlC S s k then 1 else 0) (S ^ n) = ((S ^ (n - k) : Nat) : Int) := by
  have hp : 0 < S ^ (n - k) := Nat.pow_pos hS
  have hv := vlC_lt k hs
  have hm : (vlC S s k + 1) * S ^ (n - k) ≤ S ^ n := by
    have q : (vlC S s k + 1) * S ^ (n - k) ≤ S ^ k * S ^ (n - k) := Nat.mul_le_mul_right _ hv
    rw [← Nat.pow_add, show k + (n - k) = n by omega] at q
    exact q
  have e : ∀ c, (c / S ^ (n - k) = vlC S s k) ↔ (vlC S s k * S ^ (n - k) ≤ c ∧ c < (vlC S s k + 1) * S ^ (n - k)) := fun c => by
    constructor
    · intro h
      rw [← h]
      refine ⟨Nat.div_mul_le_self _ _, ?_⟩
      rw [Nat.add_mul, Nat.one_mul, Nat.mul_comm]
      have z := Nat.lt_mul_div_succ c hp
      rw [Nat.mul_add, Nat.mul_one] at z
      exact z
    · intro h
      exact Nat.le_antisymm (Nat.lt_succ_iff.mp ((Nat.div_lt_iff_lt_mul hp).mpr h.2)) ((Nat.le_div_iff_mul_le hp).mpr h.1)
  rw [smN_cg (b := fun c => if vlC S s k * S ^ (n - k) ≤ c ∧ c < (vlC S s k + 1) * S ^ (n - k) then 1 else 0) _ (fun c _ => by
    by_cases h : c / S ^ (n - k) = vlC S s k
    · rw [if_pos h, if_pos ((e c).mp h)]
    · rw [if_neg h, if_neg (fun z => h ((e c).mpr z))])]
  have le : vlC S s k * S ^ (n - k) ≤ (vlC S s k + 1) * S ^ (n - k) := Nat.mul_le_mul_right _ (by omega)
  have df : (vlC S s k + 1) * S ^ (n - k) - vlC S s k * S ^ (n - k) = S ^ (n - k) := by
    rw [Nat.add_mul, Nat.one_mul, Nat.add_sub_cancel_left]
  have lt : vlC S s k * S ^ (n - k) < (vlC S s k + 1) * S ^ (n - k) := by
    rw [Nat.add_mul, Nat.one_mul]
    omega
  rw [smN_iv le, if_neg (by omega)]
  by_cases c : S ^ n ≤ (vlC S s k + 1) * S ^ (n - k)
  · rw [if_pos c, show S ^ n = (vlC S s k + 1) * S ^ (n - k) from Nat.le_antisymm c hm, df]
  · rw [if_neg c, df]
end XVK
section XVL
theorem min_key {P : Nat → Prop} (k : Nat → Nat) : ∀ (n f : Nat), k f ≤ n → P f → ∃ g, P g ∧ ∀ x, P x → k g ≤ k x
  | 0, f, h, p => ⟨f, p, fun x _ => by omega⟩
  | n + 1, f, h, p => by
    rcases Classical.em (∃ x, P x ∧ k x < k f) with c | c
    · obtain ⟨x, px, kx⟩ := c
      exact min_key k n x (by omega) px
    · refine ⟨f, p, fun x px => ?_⟩
      rcases Nat.lt_or_ge (k x) (k f) with q | q
      · exact absurd ⟨x, px, q⟩ c
      · exact q
noncomputable def allU (P : Nat → Bool) : Nat → Bool
  | 0 => true
  | n + 1 => allU P n && P n
noncomputable def exiU (P : Nat → Bool) : Nat → Bool
  | 0 => false
  | n + 1 => exiU P n || P n
theorem allU_i {P : Nat → Bool} : ∀ n : Nat, allU P n = true ↔ ∀ i, i < n → P i = true
  | 0 => ⟨fun _ i hi => absurd hi (by omega), fun _ => rfl⟩
  | n + 1 => by
    show (allU P n && P n) = true ↔ _
    rw [Bool.and_eq_true, allU_i n]
    constructor
    · intro h i hi
      by_cases e : i = n
      · rw [e]
        exact h.2
      · exact h.1 i (by omega)
    · intro h
      exact ⟨fun i hi => h i (by omega), h n (by omega)⟩
theorem exiU_i {P : Nat → Bool} : ∀ n : Nat, exiU P n = true ↔ ∃ i, i < n ∧ P i = true
  | 0 => ⟨fun h => absurd h Bool.false_ne_true, fun ⟨i, hi, _⟩ => absurd hi (by omega)⟩
  | n + 1 => by
    show (exiU P n || P n) = true ↔ _
    rw [Bool.or_eq_true, exiU_i n]
    constructor
    · rintro (⟨i, hi, h⟩ | h)
      · exact ⟨i, by omega, h⟩
      · exact ⟨n, by omega, h⟩
    · rintro ⟨i, hi, h⟩
      by_cases e : i = n
      · rw [e] at h
        exact Or.inr h
      · exact Or.inl ⟨i, by omega, h⟩
theorem smN_at {m f0 : Nat} (h : f0 < m) : smN (fun f => if f = f0 then 1 else 0) m = 1 := by
  rw [smN_cg (b := fun f => if f0 ≤ f ∧ f < f0 + 1 then 1 else 0) m (fun c _ => by
    by_cases e : c = f0
    · rw [if_pos e, if_pos (show f0 ≤ c ∧ c < f0 + 1 by omega)]
    · rw [if_neg e, if_neg (show ¬ (f0 ≤ c ∧ c < f0 + 1) by omega)])]
  rw [smN_iv (u := f0) (v := f0 + 1) (by omega), if_neg (by omega)]
  by_cases c : m ≤ f0 + 1
  · rw [if_pos c]
    omega
  · rw [if_neg c]
    omega
/-- the name of f stands at the beginning of the code's -/
noncomputable def cvB (S N : Nat) (sz : Nat → Nat) (s : Nat → Nat → Nat) (c f : Nat) : Bool := decide (c / S ^ (N - sz f) = vlC S (s f) (sz f))
/-- another's does already -/
noncomputable def tkB (m : Nat) (sz : Nat → Nat) (s : Nat → Nat → Nat) (f : Nat) : Bool := exiU (fun g => decide (g ≠ f) && decide (sz g < sz f ∨ (sz g = sz f ∧ g < f)) && allU (fun i => decide (s f i = s g i)) (sz g)) m
theorem tkB_i {m f : Nat} {sz : Nat → Nat} {s : Nat → Nat → Nat} : tkB m sz s f = true ↔ ∃ g, g < m ∧ g ≠ f ∧ (sz g < sz f ∨ (sz g = sz f ∧ g < f)) ∧ ∀ i, i < sz g → s f i = s g i := by
  unfold tkB
  rw [exiU_i]
  constructor
  · rintro ⟨g, h1, h2⟩
    rw [Bool.and_eq_true, Bool.and_eq_true] at h2
    exact ⟨g, h1, of_decide_eq_true h2.1.1, of_decide_eq_true h2.1.2, fun i hi => of_decide_eq_true ((allU_i _).mp h2.2 i hi)⟩
  · rintro ⟨g, h1, h2, h3, h4⟩
    refine ⟨g, h1, ?_⟩
    rw [Bool.and_eq_true, Bool.and_eq_true]
    exact ⟨⟨decide_eq_true h2, decide_eq_true h3⟩, (allU_i _).mpr (fun i hi => decide_eq_true (h4 i hi))⟩
theorem one_cv {S N m c : Nat} {sz : Nat → Nat} {s : Nat → Nat → Nat} (m6 : m ≤ 6) (hc : c < S ^ N) (hz : ∀ f, f < m → sz f ≤ N) (hs : ∀ f, f < m → ∀ i, i < sz f → s f i < S) : smN (fun f => if (cvB S N sz s c f && !(tkB m sz s f)) = true then 1 else 0) m = if exiU (cvB S N sz s c) m = true then 1 else 0 := by
  by_cases h : exiU (cvB S N sz s c) m = true
  · rw [if_pos h]
    obtain ⟨f1, h1⟩ := (exiU_i m).mp h
    obtain ⟨f0, ⟨h0, c0⟩, mn⟩ := min_key (P := fun f => f < m ∧ cvB S N sz s c f = true) (fun f => sz f * 7 + f) (sz f1 * 7 + f1) f1 (Nat.le_refl _) h1
    have dg : ∀ f, f < m → cvB S N sz s c f = true → ∀ i, i < sz f → dgC S N c i = s f i := fun f hf hv => (dgC_k hc (sz f) (hz f hf) (hs f hf)).mpr (of_decide_eq_true hv)
    have n0 : tkB m sz s f0 = false := by
      cases t : tkB m sz s f0 with
      | false => rfl
      | true =>
        obtain ⟨g, g1, g2, g3, g4⟩ := tkB_i.mp t
        have cg : cvB S N sz s c g = true := decide_eq_true ((dgC_k hc (sz g) (hz g g1) (hs g g1)).mp (fun i hi => by
          rw [dg f0 h0 c0 i (by omega), g4 i hi]))
        have k : sz f0 * 7 + f0 ≤ sz g * 7 + g := mn g ⟨g1, cg⟩
        omega
    rw [smN_cg (b := fun f => if f = f0 then 1 else 0) m (fun f hf => by
      by_cases e : f = f0
      · rw [if_pos e, e, c0, n0]
        rfl
      · rw [if_neg e]
        cases cf : cvB S N sz s c f with
        | false => rfl
        | true =>
          have k : sz f0 * 7 + f0 ≤ sz f * 7 + f := mn f ⟨hf, cf⟩
          have t : tkB m sz s f = true := tkB_i.mpr ⟨f0, h0, fun z => e z.symm, by omega, fun i hi => by
            rw [← dg f hf cf i (by omega), dg f0 h0 c0 i hi]⟩
          rw [t]
          rfl)]
    exact smN_at h0
  · rw [if_neg h, smN_cg (b := fun _ => 0) m (fun f hf => by
      cases cf : cvB S N sz s c f with
      | false => rfl
      | true => exact absurd ((exiU_i m).mpr ⟨f, hf, cf⟩) h)]
    exact smN_0 m
end XVL
