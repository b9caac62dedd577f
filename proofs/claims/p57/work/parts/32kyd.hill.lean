section XUD
variable {l : Launch} {D : va_G} {tys : List (ClassId × FieldType)} {A : Nat → Prop} {ad : Nat → Nat} {ws : va_W}
noncomputable def huF : Nat → Bool := fun _ => false
theorem orI_cg {P Q : Nat → Bool} : ∀ n : Nat, (∀ f, f < n → P f = Q f) → orI P n = orI Q n
  | 0, _ => rfl
  | n + 1, h => by
    unfold orI
    rw [orI_cg n (fun f hf => h f (by omega)), h n (by omega)]
theorem tb_cl {a : Int} {i j : Nat} (a0 : 0 ≤ a) (a1 : a ≤ 63) (hi : i < 6) (hj : j < 6) : tb (clB a (i : Int)) (j : Int) = (tb a (j : Int) && !(Nat.beq j i)) := by
  have q := List.all_eq_true.mp (List.all_eq_true.mp (List.all_eq_true.mp clC_all a.toNat (List.mem_range.mpr (by omega))) i (List.mem_range.mpr hi)) j (List.mem_range.mpr hj)
  rw [Int.toNat_of_nonneg a0, Bool.and_eq_true] at q
  simpa using q.1
/-- one who does not hear it is left out -/
theorem orI_cl {P Q : Nat → Bool} {i n : Nat} (hn : n ≤ 6) (hi : i < n) (h : ∀ f, f < n → Q f = (P f && !(Nat.beq f i))) : clB (orI P n) (i : Int) = orI Q n := by
  have bp := orI_bd (P := P) hn
  have bq := orI_bd (P := Q) hn
  refine tb_ext (clB_k (i := i) bp.1 bp.2 (by omega)).1 bq (fun j hj => ?_)
  rw [tb_cl bp.1 bp.2 (by omega) hj, tb_orI hj n hn, tb_orI hj n hn]
  by_cases c : j < n
  · rw [h j c, decide_eq_true c, Bool.true_and, Bool.true_and]
  · rw [decide_eq_false c, Bool.false_and, Bool.false_and, Bool.false_and]
end XUD
