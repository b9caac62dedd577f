section XUC
variable {l : Launch} {D : va_G} {tys : List (ClassId × FieldType)} {A : Nat → Prop} {ad : Nat → Nat} {ws : va_W}
theorem MTW_W {G : Nat → Int} {w0 w : va_W} (o : MTW w0 w) (h : W91 G w0) : W91 G w := fun j hj => (o 91 j (by omega) (by omega)).trans (h j hj)
end XUC
