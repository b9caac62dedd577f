section XTC
variable {l : Launch} {D : va_G} {tys : List (ClassId × FieldType)} {A : Nat → Prop} {ad : Nat → Nat} {ws : va_W}
/-- all but i -/
noncomputable def clB (t i : Int) : Int := (ibF 5 (Int32.ofInt t) (ibF 7 (ibF 8 (Int32.ofInt 1) (Int32.ofInt i)) (Int32.ofInt (-1)))).toInt
theorem clB_i (t i : Int) : ibF 5 (Int32.ofInt t) (ibF 7 (ibF 8 (Int32.ofInt 1) (Int32.ofInt i)) (Int32.ofInt (-1))) = Int32.ofInt (clB t i) := by
  unfold clB
  rw [Int32.ofInt_toInt]
theorem clB_all : (List.range 64).all (fun a => (List.range 6).all (fun i => decide (0 ≤ clB (a : Nat) (i : Nat) ∧ clB (a : Nat) (i : Nat) ≤ 63) && (tb (a : Nat) (i : Nat) || decide (clB (bitO (a : Nat) (i : Nat)) (i : Nat) = (a : Nat))) && (!(tb (a : Nat) (i : Nat)) || decide (bitO (clB (a : Nat) (i : Nat)) (i : Nat) = (a : Nat))) && decide (bcS (bitO (a : Nat) (i : Nat)) 6 = bcS (a : Nat) 6 + (if tb (a : Nat) (i : Nat) = true then 0 else 1)))) = true := by decide +kernel
theorem clB_k {a : Int} {i : Nat} (a0 : 0 ≤ a) (a1 : a ≤ 63) (hi : i < 6) : (0 ≤ clB a (i : Int) ∧ clB a (i : Int) ≤ 63) ∧ (tb a (i : Int) = false → clB (bitO a (i : Int)) (i : Int) = a) ∧ (tb a (i : Int) = true → bitO (clB a (i : Int)) (i : Int) = a) ∧ bcS (bitO a (i : Int)) 6 = bcS a 6 + (if tb a (i : Int) = true then 0 else 1) := by
  have q := List.all_eq_true.mp (List.all_eq_true.mp clB_all a.toNat (List.mem_range.mpr (by omega))) i (List.mem_range.mpr hi)
  rw [Int.toNat_of_nonneg a0, Bool.and_eq_true, Bool.and_eq_true, Bool.and_eq_true, decide_eq_true_eq, decide_eq_true_eq] at q
  obtain ⟨⟨⟨q1, q2⟩, q3⟩, q4⟩ := q
  refine ⟨q1, fun e => ?_, fun e => ?_, q4⟩
  · rw [e, Bool.false_or, decide_eq_true_eq] at q2
    exact q2
  · rw [e, Bool.not_true, Bool.false_or, decide_eq_true_eq] at q3
    exact q3
theorem clC_all : (List.range 64).all (fun a => (List.range 6).all (fun i => (List.range 6).all (fun j => (tb (clB (a : Nat) (i : Nat)) (j : Nat) == (tb (a : Nat) (j : Nat) && !(Nat.beq j i))) && (Nat.beq j i || decide (clB (bitO (a : Nat) (j : Nat)) (i : Nat) = bitO (clB (a : Nat) (i : Nat)) (j : Nat)))))) = true := by decide +kernel
/-- the class's world but for its own scratch rows -/
noncomputable def XSC (w0 w : va_W) : Prop := ∀ c j, ¬ (c = 31 ∨ c = 37 ∨ c = 38 ∨ c = 48 ∨ c = 49 ∨ c = 51 ∨ c = 52) → rd w c j = rd w0 c j
theorem XSC_X {G : Nat → Int} {w0 w : va_W} (o : XSC w0 w) (h : HX 4 G w0) : HX 4 G w := HX_keep h (fun c i h1 h2 => o c i (by omega))
theorem XSC_S {G : Nat → Int} {w0 w : va_W} (o : XSC w0 w) (h : STO G w0) : STO G w := STO_keep h (fun c j hc => o c j (by omega))
theorem XSC_W {G : Nat → Int} {w0 w : va_W} (o : XSC w0 w) (h : W91 G w0) : W91 G w := fun j hj => (o 91 j (by omega)).trans (h j hj)
end XTC
