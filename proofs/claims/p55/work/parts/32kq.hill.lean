section XSC
variable {l : Launch} {D : va_G} {tys : List (ClassId × FieldType)} {A : Nat → Prop} {ad : Nat → Nat} {ws : va_W}
end XSC
section XSD
variable {l : Launch} {D : va_G} {tys : List (ClassId × FieldType)} {A : Nat → Prop} {ad : Nat → Nat} {ws : va_W}
theorem ini_ok {G : Nat → Int} (hB : HB G) : kOK (iniK G) := fun j hj => by
  unfold iniK
  split
  · have bl := hB.bl (j % 6) (by omega)
    exact (allV_k bl.1 bl.2).2
  · exact hB.bt j hj
end XSD
