section XSV
variable {l : Launch} {D : va_G} {tys : List (ClassId × FieldType)} {A : Nat → Prop} {ad : Nat → Nat} {ws : va_W}
/-- how many bits of the first n -/
def bcS (a : Int) : Nat → Int
  | 0 => 0
  | n + 1 => bcS a n + (if tb a (n : Int) = true then 1 else 0)
theorem bcS_bd {a : Int} : ∀ n : Nat, 0 ≤ bcS a n ∧ bcS a n ≤ n
  | 0 => ⟨by show (0 : Int) ≤ 0; omega, by show (0 : Int) ≤ 0; omega⟩
  | n + 1 => by
    have h := bcS_bd (a := a) n
    show 0 ≤ bcS a n + (if tb a (n : Int) = true then 1 else 0) ∧ bcS a n + (if tb a (n : Int) = true then 1 else 0) ≤ _
    split <;> omega
end XSV
