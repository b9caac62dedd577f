section XVK
/-- a sum over the numbers below n -/
noncomputable def smN (g : Nat → Int) : Nat → Int
  | 0 => 0
  | n + 1 => smN g n + g n
theorem smN_cg {a b : Nat → Int} : ∀ n : Nat, (∀ c, c < n → a c = b c) → smN a n = smN b n
  | 0, _ => rfl
  | n + 1, h => by
    unfold smN
    rw [smN_cg n (fun c hc => h c (by omega)), h n (by omega)]
theorem smN_add {a b : Nat → Int} : ∀ n : Nat, smN (fun c => a c + b c) n = smN a n + smN b n
  | 0 => rfl
  | n + 1 => by
    show smN (fun c => a c + b c) n + (a n + b n) = smN a n + a n + (smN b n + b n)
    rw [smN_add n]
    omega
theorem smN_0 : ∀ n : Nat, smN (fun _ => 0) n = 0
  | 0 => rfl
  | n + 1 => by
    show smN (fun _ => 0) n + 0 = 0
    rw [smN_0 n]
    rfl
theorem smN_swap {g : Nat → Nat → Int} (m : Nat) : ∀ n : Nat, smN (fun c => smN (fun f => g f c) m) n = smN (fun f => smN (fun c => g f c) n) m
  | 0 => (smN_0 m).symm
  | n + 1 => by
    show smN (fun c => smN (fun f => g f c) m) n + smN (fun f => g f n) m = smN (fun f => smN (fun c => g f c) n + g f n) m
    rw [smN_swap m n, smN_add]
/-- the syllable at place i of the name of n syllables with this code -/
noncomputable def dgC (S n c i : Nat) : Nat := c / S ^ (n - 1 - i) % S
end XVK
