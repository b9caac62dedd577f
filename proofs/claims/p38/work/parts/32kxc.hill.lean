section XTC
variable {l : Launch} {D : va_G} {tys : List (ClassId × FieldType)} {A : Nat → Prop} {ad : Nat → Nat} {ws : va_W}
/-- the class's world but for its own scratch rows -/
def XSC (w0 w : va_W) : Prop := ∀ c j, ¬ (c = 31 ∨ c = 37 ∨ c = 38 ∨ c = 48 ∨ c = 49 ∨ c = 51 ∨ c = 52) → rd w c j = rd w0 c j
theorem XSC_X {G : Nat → Int} {w0 w : va_W} (o : XSC w0 w) (h : HX 4 G w0) : HX 4 G w := HX_keep h (fun c i h1 h2 => o c i (by omega))
theorem XSC_S {G : Nat → Int} {w0 w : va_W} (o : XSC w0 w) (h : STO G w0) : STO G w := STO_keep h (fun c j hc => o c j (by omega))
theorem XSC_W {G : Nat → Int} {w0 w : va_W} (o : XSC w0 w) (h : W91 G w0) : W91 G w := fun j hj => (o 91 j (by omega)).trans (h j hj)
end XTC
