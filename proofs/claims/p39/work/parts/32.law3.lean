section LAW3
variable {p : Program} {l : Launch} {e : Env} {R : Room} {s : State} {m : MethodId} {args : Array Value} {below : List Frame} {meth : Method} {c : Code} {Q : State → Prop} {D : va_G} {tys : List (ClassId × FieldType)} {A : Nat → Prop}
variable {cells slots pc : Nat} {lv : List (Nat × Value)} {st : List Value} {ws : va_W}
theorem rt_int {ad : Nat → Nat} {z : Int} {r : Option Value} (h : rtOK ad (some (0, z, z)) r) : r = some (.int (Int32.ofInt z)) := by
  cases r with
  | none => cases h
  | some v =>
    obtain ⟨y, rfl, y1, y2⟩ := h
    have y1 : z ≤ y := y1
    have y2 : y ≤ z := y2
    rw [show y = z by omega]
theorem ok_int {ad : Nat → Nat} {lo hi : Int} {v : Int32} (h1 : lo ≤ v.toInt) (h2 : v.toInt ≤ hi) : okv ad (0, lo, hi) (.int v) := ⟨v.toInt, by rw [Int32.ofInt_toInt], h1, h2⟩
theorem ok_full {ad : Nat → Nat} {v : Int32} : okv ad (0, -2147483648, 2147483647) (.int v) := ok_int (by have := Int32.le_toInt v; omega) (by have := Int32.toInt_lt v; omega)
end LAW3
