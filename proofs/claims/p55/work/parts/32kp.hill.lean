section XSA
variable {l : Launch} {D : va_G} {tys : List (ClassId × FieldType)} {A : Nat → Prop} {ad : Nat → Nat} {ws : va_W}
/-- bit i of a -/
noncomputable def tb (a i : Int) : Bool := decide ((ibF 5 (ibF 9 (Int32.ofInt a) (Int32.ofInt i)) (Int32.ofInt 1)).toInt = 1)
theorem tb_all : (List.range 64).all (fun a => (List.range 6).all (fun i => decide (ibF 5 (ibF 9 (Int32.ofInt (a : Nat)) (Int32.ofInt (i : Nat))) (Int32.ofInt 1) = bI (tb (a : Nat) (i : Nat))) && (!(tb (a : Nat) (i : Nat)) || decide (bitO (a : Nat) (i : Nat) = (a : Nat))) && decide (ibF 5 (Int32.ofInt (a : Nat)) (ibF 8 (Int32.ofInt 1) (Int32.ofInt (i : Nat))) = 0 ↔ tb (a : Nat) (i : Nat) = false))) = true := by decide +kernel
theorem tb_k {a i : Int} (a0 : 0 ≤ a) (a1 : a ≤ 63) (i0 : 0 ≤ i) (i1 : i ≤ 5) : ibF 5 (ibF 9 (Int32.ofInt a) (Int32.ofInt i)) (Int32.ofInt 1) = bI (tb a i) ∧ (tb a i = true → bitO a i = a) ∧ (ibF 5 (Int32.ofInt a) (ibF 8 (Int32.ofInt 1) (Int32.ofInt i)) = 0 ↔ tb a i = false) := by
  have h := List.all_eq_true.mp (List.all_eq_true.mp tb_all a.toNat (List.mem_range.mpr (by omega))) i.toNat (List.mem_range.mpr (by omega))
  rw [Int.toNat_of_nonneg a0, Int.toNat_of_nonneg i0, Bool.and_eq_true, Bool.and_eq_true, decide_eq_true_eq, decide_eq_true_eq] at h
  obtain ⟨⟨h1, h2⟩, h3⟩ := h
  refine ⟨h1, fun q => ?_, h3⟩
  rw [q, Bool.not_true, Bool.false_or, decide_eq_true_eq] at h2
  exact h2
theorem bitO_i (a i : Int) : ibF 6 (Int32.ofInt a) (ibF 8 (Int32.ofInt 1) (Int32.ofInt i)) = Int32.ofInt (bitO a i) := by
  unfold bitO
  rw [Int32.ofInt_toInt]
/-- those below n that P holds of, as bits -/
noncomputable def orI (P : Nat → Bool) : Nat → Int
  | 0 => 0
  | f + 1 => if P f = true then bitO (orI P f) (f : Int) else orI P f
theorem orI_bd {P : Nat → Bool} : ∀ {f : Nat}, f ≤ 6 → 0 ≤ orI P f ∧ orI P f ≤ 63
  | 0, _ => ⟨by show (0 : Int) ≤ 0; omega, by show (0 : Int) ≤ 63; omega⟩
  | f + 1, h => by
    have q := orI_bd (P := P) (f := f) (by omega)
    unfold orI
    split
    · exact bitO_bd q.1 q.2 (by omega) (by omega)
    · exact q
noncomputable def sWho (G : Nat → Int) (s : Nat) : Nat := (G (246 + 4 * s)).toNat
noncomputable def sWhs (G : Nat → Int) (s : Nat) : Nat := (G (246 + 4 * s + 1)).toNat
noncomputable def sWhi (G : Nat → Int) (s : Nat) : Nat := (G (246 + 4 * s + 2)).toNat
noncomputable def sWhn (G : Nat → Int) (s : Nat) : Nat := (G (246 + 4 * s + 3)).toNat
/-- who is there when it is said, but for the one who says it -/
noncomputable def preP (G : Nat → Int) (s f : Nat) : Bool := !(Nat.beq f (sWho G s)) && decide (G (102 + (24 * f + sWhn G s)) = G (102 + (24 * sWho G s + sWhn G s)))
noncomputable def lrnP (G K : Nat → Int) (s f : Nat) : Bool := preP G s f && !(tb (K (6 * f + sWhs G s)) (sWhi G s : Int))
noncomputable def canB (G K : Nat → Int) (s : Nat) : Bool := tb (K (6 * sWho G s + sWhs G s)) (sWhi G s : Int)
/-- what is known once the first n folk have heard it -/
noncomputable def spQ (G : Nat → Int) (s n : Nat) (K : Nat → Int) (j : Nat) : Int := if j % 6 = sWhs G s ∧ j / 6 < n ∧ preP G s (j / 6) = true then bitO (K j) (sWhi G s : Int) else K j
noncomputable def kOK (K : Nat → Int) : Prop := ∀ j, j < 36 → 0 ≤ K j ∧ K j ≤ 63
theorem say_b {G : Nat → Int} (hB : HB G) {s : Nat} (hs : s < 12) : (sWho G s < 6 ∧ sWhs G s < 6 ∧ sWhi G s < 6 ∧ sWhn G s < 24) ∧ G (246 + 4 * s) = (sWho G s : Int) ∧ G (246 + 4 * s + 1) = (sWhs G s : Int) ∧ G (246 + 4 * s + 2) = (sWhi G s : Int) ∧ G (246 + 4 * s + 3) = (sWhn G s : Int) := by
  obtain ⟨b0, b1, b2, b3⟩ := hB.by_ s hs
  unfold sWho sWhs sWhi sWhn
  omega
theorem spK_skip {G K : Nat → Int} {s n : Nat} (h : preP G s n = false) : spQ G s (n + 1) K = spQ G s n K := by
  funext j
  unfold spQ
  by_cases e : j / 6 = n
  · rw [if_neg (fun q => by rw [e, h] at q; exact absurd q.2.2 Bool.false_ne_true), if_neg (fun q => by omega)]
  · by_cases q : j % 6 = sWhs G s ∧ j / 6 < n ∧ preP G s (j / 6) = true
    · rw [if_pos q, if_pos ⟨q.1, by omega, q.2.2⟩]
    · rw [if_neg q, if_neg (fun u => q ⟨u.1, by omega, u.2.2⟩)]
theorem spK_step {G K : Nat → Int} {s n : Nat} (h : preP G s n = true) (hw : sWhs G s < 6) : spQ G s (n + 1) K = updI (spQ G s n K) (6 * n + sWhs G s) (bitO (K (6 * n + sWhs G s)) (sWhi G s : Int)) := by
  funext j
  show (if j % 6 = sWhs G s ∧ j / 6 < n + 1 ∧ preP G s (j / 6) = true then bitO (K j) (sWhi G s : Int) else K j) = (if j = 6 * n + sWhs G s then _ else (if j % 6 = sWhs G s ∧ j / 6 < n ∧ preP G s (j / 6) = true then bitO (K j) (sWhi G s : Int) else K j))
  by_cases e : j = 6 * n + sWhs G s
  · have e2 : j / 6 = n := by omega
    have e3 : j % 6 = sWhs G s := by omega
    rw [if_pos e, if_pos ⟨e3, by omega, by rw [e2]; exact h⟩, e]
  · rw [if_neg e]
    by_cases q : j % 6 = sWhs G s ∧ j / 6 < n ∧ preP G s (j / 6) = true
    · rw [if_pos q, if_pos ⟨q.1, by omega, q.2.2⟩]
    · rw [if_neg q, if_neg (fun u => q ⟨u.1, by omega, u.2.2⟩)]
theorem spK_new {G K : Nat → Int} {s n : Nat} (hw : sWhs G s < 6) : spQ G s n K (6 * n + sWhs G s) = K (6 * n + sWhs G s) := by
  unfold spQ
  rw [if_neg (fun q => by omega)]
theorem spK_0 {G K : Nat → Int} {s : Nat} : spQ G s 0 K = K := by
  funext j
  unfold spQ
  rw [if_neg (fun q => by omega)]
theorem spK_ok {G K : Nat → Int} {s n : Nat} (h : kOK K) (hi : sWhi G s < 6) : kOK (spQ G s n K) := fun j hj => by
  have b := h j hj
  unfold spQ
  split
  · exact bitO_bd b.1 b.2 (by omega) (by omega)
  · exact b
end XSA
section XSB
variable {l : Launch} {D : va_G} {tys : List (ClassId × FieldType)} {A : Nat → Prop} {ad : Nat → Nat} {ws : va_W}
/-- how far the telling is: what is known, what is said, who heard, who learnt -/
noncomputable abbrev TT : Type := (Nat → Int) × Int32 × (Nat → Int) × (Nat → Int)
noncomputable abbrev TT.K (T : TT) : Nat → Int := T.1
noncomputable abbrev TT.sd (T : TT) : Int32 := T.2.1
noncomputable abbrev TT.hb (T : TT) : Nat → Int := T.2.2.1
noncomputable abbrev TT.lb (T : TT) : Nat → Int := T.2.2.2
noncomputable def oneT (G : Nat → Int) (s : Nat) (T : TT) : TT := if canB G T.K s = true then ⟨spQ G s (G 3).toNat T.K, ibF 6 T.sd (ibF 8 (Int32.ofInt 1) (Int32.ofInt (s : Int))), updI T.hb s (orI (preP G s) (G 3).toNat), updI T.lb s (orI (lrnP G T.K s) (G 3).toNat)⟩ else T
noncomputable def sayT (G : Nat → Int) (h : Nat) : Nat → Nat → TT → TT
  | 0, _, T => T
  | m + 1, s, T => sayT G h m (s + 1) (if sWhn G s = h then oneT G s T else T)
noncomputable def hrsT (G : Nat → Int) (h : Nat) (T : TT) : TT := sayT G h (G 4).toNat 0 T
noncomputable def allV (n : Int) : Int := (ibF 1 (ibF 8 (Int32.ofInt 1) (Int32.ofInt n)) (Int32.ofInt 1)).toInt
noncomputable def iniK (G : Nat → Int) (j : Nat) : Int := if j / 6 = j % 6 then allV (G (6 + 7 * (j % 6))) else G (66 + j)
noncomputable def iniT (G : Nat → Int) : TT := ⟨iniK G, Int32.ofInt 0, fun _ => 0, fun _ => 0⟩
noncomputable def tellT (G : Nat → Int) : Nat → TT
  | 0 => iniT G
  | h + 1 => hrsT G h (tellT G h)
theorem allV_k {n : Int} (n0 : 0 ≤ n) (n6 : n ≤ 6) : ibF 1 (ibF 8 (Int32.ofInt 1) (Int32.ofInt n)) (Int32.ofInt 1) = Int32.ofInt (allV n) ∧ 0 ≤ allV n ∧ allV n ≤ 63 := by
  refine ⟨by unfold allV; rw [Int32.ofInt_toInt], ?_⟩
  have h : (List.range 7).all (fun n => decide (0 ≤ allV (n : Nat)) && decide (allV (n : Nat) ≤ 63)) = true := by decide +kernel
  have q := List.all_eq_true.mp h n.toNat (List.mem_range.mpr (by omega))
  rw [Bool.and_eq_true, decide_eq_true_eq, decide_eq_true_eq, Int.toNat_of_nonneg n0] at q
  exact q
/-- the reference has told so far -/
noncomputable abbrev TM (ad : Nat → Nat) (tys : List (ClassId × FieldType)) (G : Nat → Int) (T : TT) (w0 w : va_W) : Prop :=
  (GOK ad tys GG w) ∧
  (∀ j, j < 36 → rd w 99 j = some (.int (Int32.ofInt (T.K j)))) ∧
  (rd w 90 18 = some (.int T.sd)) ∧
  (∀ i, i < 12 → rd w 100 i = some (.int (Int32.ofInt (T.hb i)))) ∧
  (∀ i, i < 12 → rd w 101 i = some (.int (Int32.ofInt (T.lb i)))) ∧
  (∀ c j, ¬ (99 ≤ c ∧ c ≤ 101) → ¬ (c = 90 ∧ j = 18) → rd w c j = rd w0 c j) ∧
  (kOK T.K)
theorem TM.g {ad : Nat → Nat} {tys : List (ClassId × FieldType)} {G : Nat → Int} {T : TT} {w0 w : va_W} (h : TM ad tys G T w0 w) : GOK ad tys GG w := h.1
theorem TM.k {ad : Nat → Nat} {tys : List (ClassId × FieldType)} {G : Nat → Int} {T : TT} {w0 w : va_W} (h : TM ad tys G T w0 w) : ∀ j, j < 36 → rd w 99 j = some (.int (Int32.ofInt (T.K j))) := h.2.1
theorem TM.s {ad : Nat → Nat} {tys : List (ClassId × FieldType)} {G : Nat → Int} {T : TT} {w0 w : va_W} (h : TM ad tys G T w0 w) : rd w 90 18 = some (.int T.sd) := h.2.2.1
theorem TM.h {ad : Nat → Nat} {tys : List (ClassId × FieldType)} {G : Nat → Int} {T : TT} {w0 w : va_W} (h : TM ad tys G T w0 w) : ∀ i, i < 12 → rd w 100 i = some (.int (Int32.ofInt (T.hb i))) := h.2.2.2.1
theorem TM.lr {ad : Nat → Nat} {tys : List (ClassId × FieldType)} {G : Nat → Int} {T : TT} {w0 w : va_W} (h : TM ad tys G T w0 w) : ∀ i, i < 12 → rd w 101 i = some (.int (Int32.ofInt (T.lb i))) := h.2.2.2.2.1
theorem TM.o {ad : Nat → Nat} {tys : List (ClassId × FieldType)} {G : Nat → Int} {T : TT} {w0 w : va_W} (h : TM ad tys G T w0 w) : ∀ c j, ¬ (99 ≤ c ∧ c ≤ 101) → ¬ (c = 90 ∧ j = 18) → rd w c j = rd w0 c j := h.2.2.2.2.2.1
theorem TM.b {ad : Nat → Nat} {tys : List (ClassId × FieldType)} {G : Nat → Int} {T : TT} {w0 w : va_W} (h : TM ad tys G T w0 w) : kOK T.K := h.2.2.2.2.2.2
end XSB
