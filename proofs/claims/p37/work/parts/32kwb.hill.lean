section XSM
variable {l : Launch} {D : va_G} {tys : List (ClassId × FieldType)} {A : Nat → Prop} {ad : Nat → Nat} {ws : va_W}
theorem V_zge {k pc d y z : Nat} {a : Int} {post : Option Value → va_W → Prop} {lv : List (Nat × Value)} {st : List Value} {u : Int} (hi : mI k pc = (14, a, 3, y, z)) (b : I32 u) (kt : 0 ≤ u → V l D tys A k d 0 0 post 0 0 y lv st ws) (kf : u < 0 → V l D tys A k d 0 0 post 0 0 (pc + 3) lv st ws) : V l D tys A k d 0 0 post 0 0 pc lv (.int (Int32.ofInt u) :: st) ws := by
  have h : cdP 3 (Int32.ofInt u) 0 ↔ cdZ 3 (u - 0) := cdP_iff (b := 0) b.1 b.2 (by omega) (by omega)
  exact V_if hi (fun q => kt (by have : 0 ≤ u - 0 := h.mp q; omega)) (fun q => kf (by by_cases e : u < 0; exact e; exact absurd (h.mpr (show 0 ≤ u - 0 by omega)) q))
end XSM
