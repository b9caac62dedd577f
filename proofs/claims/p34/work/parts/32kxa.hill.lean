section XTA
variable {l : Launch} {D : va_G} {tys : List (ClassId × FieldType)} {A : Nat → Prop} {ad : Nat → Nat} {ws : va_W}
def orr (a b : Int) : Int := (ibF 6 (Int32.ofInt a) (Int32.ofInt b)).toInt
theorem orr_i (a b : Int) : ibF 6 (Int32.ofInt a) (Int32.ofInt b) = Int32.ofInt (orr a b) := by
  unfold orr
  rw [Int32.ofInt_toInt]
theorem bI_if (b : Bool) : bI b = Int32.ofInt (if b = true then 1 else 0) := by cases b <;> rfl
end XTA
