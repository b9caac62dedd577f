section XHF
variable {l : Launch} {D : va_G} {tys : List (ClassId × FieldType)} {A : Nat → Prop} {ad : Nat → Nat} {ws : va_W}
theorem or0 (s : Int32) : ibF 6 s (Int32.ofInt 0) = s := by
  show s ||| 0 = s
  exact Int32.or_zero
end XHF
