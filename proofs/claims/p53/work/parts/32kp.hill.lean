section XSA
variable {l : Launch} {D : va_G} {tys : List (ClassId × FieldType)} {A : Nat → Prop} {ad : Nat → Nat} {ws : va_W}
/-- bit i of a -/
noncomputable def tb (a i : Int) : Bool := decide ((ibF 5 (ibF 9 (Int32.ofInt a) (Int32.ofInt i)) (Int32.ofInt 1)).toInt = 1)
noncomputable def kOK (K : Nat → Int) : Prop := ∀ j, j < 36 → 0 ≤ K j ∧ K j ≤ 63
end XSA
section XSB
variable {l : Launch} {D : va_G} {tys : List (ClassId × FieldType)} {A : Nat → Prop} {ad : Nat → Nat} {ws : va_W}
/-- how far the telling is: what is known, what is said, who heard, who learnt -/
noncomputable abbrev TT : Type := (Nat → Int) × Int32 × (Nat → Int) × (Nat → Int)
noncomputable abbrev TT.K (T : TT) : Nat → Int := T.1
noncomputable abbrev TT.sd (T : TT) : Int32 := T.2.1
noncomputable abbrev TT.hb (T : TT) : Nat → Int := T.2.2.1
noncomputable abbrev TT.lb (T : TT) : Nat → Int := T.2.2.2
/-- the reference has told so far -/
noncomputable abbrev TM (ad : Nat → Nat) (tys : List (ClassId × FieldType)) (G : Nat → Int) (T : TT) (w0 w : va_W) : Prop :=
  (GOK ad tys GG w) ∧
  (∀ j, j < 36 → rd w 99 j = some (.int (Int32.ofInt (T.K j)))) ∧
  (rd w 90 18 = some (.int T.sd)) ∧
  (∀ i, i < 12 → rd w 100 i = some (.int (Int32.ofInt (T.hb i)))) ∧
  (∀ i, i < 12 → rd w 101 i = some (.int (Int32.ofInt (T.lb i)))) ∧
  (∀ c j, ¬ (99 ≤ c ∧ c ≤ 101) → ¬ (c = 90 ∧ j = 18) → rd w c j = rd w0 c j) ∧
  (kOK T.K)
theorem TM.g {ad : Nat → Nat} {tys : List (ClassId × FieldType)} {G : Nat → Int} {T : TT} {w0 w : va_W} (h : TM ad tys G T w0 w) : GOK ad tys GG w := h.1
theorem TM.k {ad : Nat → Nat} {tys : List (ClassId × FieldType)} {G : Nat → Int} {T : TT} {w0 w : va_W} (h : TM ad tys G T w0 w) : ∀ j, j < 36 → rd w 99 j = some (.int (Int32.ofInt (T.K j))) := h.2.1
theorem TM.s {ad : Nat → Nat} {tys : List (ClassId × FieldType)} {G : Nat → Int} {T : TT} {w0 w : va_W} (h : TM ad tys G T w0 w) : rd w 90 18 = some (.int T.sd) := h.2.2.1
theorem TM.h {ad : Nat → Nat} {tys : List (ClassId × FieldType)} {G : Nat → Int} {T : TT} {w0 w : va_W} (h : TM ad tys G T w0 w) : ∀ i, i < 12 → rd w 100 i = some (.int (Int32.ofInt (T.hb i))) := h.2.2.2.1
theorem TM.lr {ad : Nat → Nat} {tys : List (ClassId × FieldType)} {G : Nat → Int} {T : TT} {w0 w : va_W} (h : TM ad tys G T w0 w) : ∀ i, i < 12 → rd w 101 i = some (.int (Int32.ofInt (T.lb i))) := h.2.2.2.2.1
theorem TM.o {ad : Nat → Nat} {tys : List (ClassId × FieldType)} {G : Nat → Int} {T : TT} {w0 w : va_W} (h : TM ad tys G T w0 w) : ∀ c j, ¬ (99 ≤ c ∧ c ≤ 101) → ¬ (c = 90 ∧ j = 18) → rd w c j = rd w0 c j := h.2.2.2.2.2.1
theorem TM.b {ad : Nat → Nat} {tys : List (ClassId × FieldType)} {G : Nat → Int} {T : TT} {w0 w : va_W} (h : TM ad tys G T w0 w) : kOK T.K := h.2.2.2.2.2.2
end XSB
