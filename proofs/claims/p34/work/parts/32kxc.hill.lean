section XTC
variable {l : Launch} {D : va_G} {tys : List (ClassId × FieldType)} {A : Nat → Prop} {ad : Nat → Nat} {ws : va_W}
theorem g0r6 : gOr 0 10 13 6 36 := ⟨_, rfl, by decide +kernel⟩
theorem g36o : gO 36 0 2 := ⟨_, rfl⟩
theorem g36r1 : gOr 36 0 2 1 38 := ⟨_, rfl, by decide +kernel⟩
theorem a38 : gA 38 6 (-2147483648) 2147483647 := gA_of rfl
theorem opA_all : (List.range 64).all (fun a => (List.range 6).all (fun i => decide (ibF 5 (Int32.ofInt (a : Nat)) (ibF 8 (Int32.ofInt 1) (Int32.ofInt (i : Nat))) = if tb (a : Nat) (i : Nat) = true then ibF 8 (Int32.ofInt 1) (Int32.ofInt (i : Nat)) else 0) && (decide (ibF 5 (ibF 8 (Int32.ofInt 1) (Int32.ofInt (i : Nat))) (ibF 7 (Int32.ofInt (a : Nat)) (Int32.ofInt (-1))) = 0) == tb (a : Nat) (i : Nat)))) = true := by decide +kernel
theorem opA_k {a : Int} {i : Nat} (a0 : 0 ≤ a) (a1 : a ≤ 63) (hi : i < 6) : ibF 5 (Int32.ofInt a) (ibF 8 (Int32.ofInt 1) (Int32.ofInt (i : Int))) = (if tb a (i : Int) = true then ibF 8 (Int32.ofInt 1) (Int32.ofInt (i : Int)) else 0) ∧ (ibF 5 (ibF 8 (Int32.ofInt 1) (Int32.ofInt (i : Int))) (ibF 7 (Int32.ofInt a) (Int32.ofInt (-1))) = 0 ↔ tb a (i : Int) = true) := by
  have q := List.all_eq_true.mp (List.all_eq_true.mp opA_all a.toNat (List.mem_range.mpr (by omega))) i (List.mem_range.mpr hi)
  rw [Int.toNat_of_nonneg a0, Bool.and_eq_true, decide_eq_true_eq] at q
  refine ⟨q.1, ?_⟩
  have q2 : decide (ibF 5 (ibF 8 (Int32.ofInt 1) (Int32.ofInt (i : Int))) (ibF 7 (Int32.ofInt a) (Int32.ofInt (-1))) = 0) = tb a (i : Int) := by simpa using q.2
  constructor
  · intro h
    rw [← q2]
    exact decide_eq_true h
  · intro h
    rw [h] at q2
    exact of_decide_eq_true q2
/-- the class's world but for its own scratch rows -/
def XSC (w0 w : va_W) : Prop := ∀ c j, ¬ (c = 31 ∨ c = 37 ∨ c = 38 ∨ c = 48 ∨ c = 49 ∨ c = 51 ∨ c = 52) → rd w c j = rd w0 c j
theorem pairT_sc {kx km d1 d2 : Nat} {xs ms : List Value} {v : Int32} (hR : RELW ws) (h1 : d1 < 11) (h2 : d2 < 11) (c1 : CT l D tys A kx d1 0 0 xs ws (fun r w => (GOK ad tys GG w ∧ XSC ws w) ∧ r = some (.int v))) (c2 : ∀ w : va_W, GOK ad tys GG w → XSC ws w → CT l D tys A km d2 0 0 ms w (fun r w2 => (GOK ad tys GG w2 ∧ MTO w w2) ∧ r = some (.int v))) : PAIRT l D tys A ad kx km xs ms ws := by
  refine ⟨v, fun w => XSC ws w, ⟨d1, h1, CT_post c1 (fun r w h => ⟨h.2, h.1.1, h.1.2⟩)⟩, fun w hw K => ⟨d2, h2, CT_post (c2 w hw K) (fun r w2 h => ?_)⟩⟩
  obtain ⟨⟨g, o⟩, e⟩ := h
  have oo : ∀ c j, ¬ (c = 31 ∨ c = 37 ∨ c = 38 ∨ c = 48 ∨ c = 49 ∨ c = 51 ∨ c = 52) → ¬ (98 ≤ c ∧ c ≤ 101) → ¬ (c = 90 ∧ (j = 18 ∨ j = 21)) → rd w2 c j = rd ws c j := fun c j h3 h4 h5 => (o c j h4 h5).trans (K c j h3)
  exact ⟨e, g, relh_keep hR.1 (fun c hc j => oo c j (by omega) (by omega) (by omega)) (fun j hj => oo 90 j (by omega) (by omega) (fun q => by
      obtain ⟨-, q⟩ := q
      rcases q with rfl | rfl
      · exact absurd hj (by unfold spK; decide)
      · exact absurd hj (by unfold spK; decide))), aux_keep hR.2 (fun c j hc => oo c j (by omega) (by omega) (by omega))⟩
theorem XSC_X {G : Nat → Int} {w0 w : va_W} (o : XSC w0 w) (h : HX 4 G w0) : HX 4 G w := HX_keep h (fun c i h1 h2 => o c i (by omega))
theorem XSC_S {G : Nat → Int} {w0 w : va_W} (o : XSC w0 w) (h : STO G w0) : STO G w := STO_keep h (fun c j hc => o c j (by omega))
theorem XSC_W {G : Nat → Int} {w0 w : va_W} (o : XSC w0 w) (h : W91 G w0) : W91 G w := fun j hj => (o 91 j (by omega)).trans (h j hj)
end XTC
