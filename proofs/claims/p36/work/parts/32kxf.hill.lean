section XTF
variable {l : Launch} {D : va_G} {tys : List (ClassId × FieldType)} {A : Nat → Prop} {ad : Nat → Nat} {ws : va_W}
theorem tbN_all : (List.range 64).all (fun a => (List.range 6).all (fun j => tb (a : Nat) (j : Nat) == a.testBit j)) = true := by decide +kernel
theorem orr_n {a b : Nat} (ha : a < 64) (hb : b < 64) : orr (a : Int) (b : Int) = ((a ||| b : Nat) : Int) := by
  have e : Int32.ofInt (a : Int) ||| Int32.ofInt (b : Int) = Int32.ofInt ((a ||| b : Nat) : Int) := Int32.toBitVec_inj.1 (by
    show BitVec.ofInt 32 (a : Int) ||| BitVec.ofInt 32 (b : Int) = BitVec.ofInt 32 ((a ||| b : Nat) : Int)
    rw [BitVec.ofInt_natCast, BitVec.ofInt_natCast, BitVec.ofInt_natCast, BitVec.ofNat_or])
  have h := Nat.or_lt_two_pow (n := 6) ha hb
  show (Int32.ofInt (a : Int) ||| Int32.ofInt (b : Int)).toInt = _
  rw [e, Int32.toInt_ofInt_of_le (by omega) (by omega)]
theorem tb_n {a j : Nat} (ha : a < 64) (hj : j < 6) : tb (a : Int) (j : Int) = a.testBit j := by
  have q := List.all_eq_true.mp (List.all_eq_true.mp tbN_all a (List.mem_range.mpr ha)) j (List.mem_range.mpr hj)
  simpa using q
theorem nat63 {a : Int} (h : 0 ≤ a ∧ a ≤ 63) : ∃ m : Nat, m < 64 ∧ a = (m : Int) := ⟨a.toNat, by omega, by omega⟩
theorem orr_bd {a b : Int} (ha : 0 ≤ a ∧ a ≤ 63) (hb : 0 ≤ b ∧ b ≤ 63) : 0 ≤ orr a b ∧ orr a b ≤ 63 := by
  obtain ⟨m, hm, rfl⟩ := nat63 ha
  obtain ⟨n, hn, rfl⟩ := nat63 hb
  rw [orr_n hm hn]
  have h := Nat.or_lt_two_pow (n := 6) hm hn
  omega
theorem tb_orr {a b : Int} {j : Nat} (ha : 0 ≤ a ∧ a ≤ 63) (hb : 0 ≤ b ∧ b ≤ 63) (hj : j < 6) : tb (orr a b) (j : Int) = (tb a (j : Int) || tb b (j : Int)) := by
  obtain ⟨m, hm, rfl⟩ := nat63 ha
  obtain ⟨n, hn, rfl⟩ := nat63 hb
  rw [orr_n hm hn, tb_n (Nat.or_lt_two_pow (n := 6) hm hn) hj, tb_n hm hj, tb_n hn hj, Nat.testBit_or]
theorem tb_ext {a b : Int} (ha : 0 ≤ a ∧ a ≤ 63) (hb : 0 ≤ b ∧ b ≤ 63) (h : ∀ j : Nat, j < 6 → tb a (j : Int) = tb b (j : Int)) : a = b := by
  obtain ⟨m, hm, rfl⟩ := nat63 ha
  obtain ⟨n, hn, rfl⟩ := nat63 hb
  have e : m = n := Nat.eq_of_testBit_eq (fun j => by
    by_cases hj : j < 6
    · have q := h j hj
      rw [tb_n hm hj, tb_n hn hj] at q
      exact q
    · have p6 : 2 ^ 6 ≤ 2 ^ j := Nat.pow_le_pow_right (by omega) (by omega)
      rw [Nat.testBit_lt_two_pow (Nat.lt_of_lt_of_le hm p6), Nat.testBit_lt_two_pow (Nat.lt_of_lt_of_le hn p6)])
  rw [e]
def sbS (a b : Int) : Prop := ∀ j : Nat, j < 6 → tb a (j : Int) = true → tb b (j : Int) = true
theorem bcS_mo {a b : Int} : ∀ n : Nat, (∀ j : Nat, j < n → tb a (j : Int) = true → tb b (j : Int) = true) → bcS a n ≤ bcS b n ∧ (bcS b n ≤ bcS a n → ∀ j : Nat, j < n → tb b (j : Int) = true → tb a (j : Int) = true)
  | 0, _ => ⟨Int.le_refl _, fun _ j h => absurd h (by omega)⟩
  | n + 1, h => by
    have ih := bcS_mo (a := a) (b := b) n (fun j hj => h j (by omega))
    have hn := h n (by omega)
    have ea : bcS a (n + 1) = bcS a n + (if tb a (n : Int) = true then 1 else 0) := rfl
    have eb : bcS b (n + 1) = bcS b n + (if tb b (n : Int) = true then 1 else 0) := rfl
    have tri : (if tb a (n : Int) = true then (1 : Int) else 0) ≤ (if tb b (n : Int) = true then 1 else 0) := by
      by_cases c : tb a (n : Int) = true
      · rw [if_pos c, if_pos (hn c)]
        exact Int.le_refl _
      · rw [if_neg c]
        split <;> omega
    refine ⟨by omega, fun k j hj hb => ?_⟩
    by_cases e : j = n
    · subst e
      rw [if_pos hb] at eb tri
      by_cases c : tb a (j : Int) = true
      · exact c
      · rw [if_neg c] at ea
        omega
    · exact ih.2 (by omega) j (by omega) hb
theorem sb_lt {a b : Int} (ha : 0 ≤ a ∧ a ≤ 63) (hb : 0 ≤ b ∧ b ≤ 63) (h : sbS a b) : b = a ∨ bcS a 6 < bcS b 6 := by
  have k := bcS_mo (a := a) (b := b) 6 h
  by_cases c : bcS b 6 ≤ bcS a 6
  · refine Or.inl (tb_ext hb ha (fun j hj => ?_))
    have q := k.2 c j hj
    have p := h j hj
    cases ca : tb a (j : Int) <;> cases cb : tb b (j : Int)
    · rfl
    · rw [ca] at q
      exact absurd (q cb) Bool.false_ne_true
    · rw [cb] at p
      exact absurd (p ca) Bool.false_ne_true
    · rfl
  · exact Or.inr (by omega)
def itN (F : Int → Int) : Nat → Int → Int
  | 0, t => t
  | k + 1, t => F (itN F k t)
/-- what grows comes to rest in six steps -/
theorem itN_fx {F : Int → Int} (hF : ∀ t, 0 ≤ t ∧ t ≤ 63 → (0 ≤ F t ∧ F t ≤ 63) ∧ sbS t (F t)) {t : Int} (ht : 0 ≤ t ∧ t ≤ 63) : ∀ k : Nat, (0 ≤ itN F k t ∧ itN F k t ≤ 63) ∧ sbS t (itN F k t) ∧ (F (itN F k t) = itN F k t ∨ (k : Int) ≤ bcS (itN F k t) 6)
  | 0 => ⟨ht, fun _ _ h => h, Or.inr (by have := bcS_bd (a := itN F 0 t) 6; omega)⟩
  | k + 1 => by
    have ih := itN_fx hF ht k
    have f := hF _ ih.1
    refine ⟨f.1, fun j hj h => f.2 j hj (ih.2.1 j hj h), ?_⟩
    show F (F (itN F k t)) = F (itN F k t) ∨ ((k + 1 : Nat) : Int) ≤ bcS (F (itN F k t)) 6
    rcases ih.2.2 with h | h
    · exact Or.inl (by rw [h, h])
    · rcases sb_lt ih.1 f.1 f.2 with e | e
      · exact Or.inl (by rw [e, e])
      · exact Or.inr (by omega)
theorem itN_6 {F : Int → Int} (hF : ∀ t, 0 ≤ t ∧ t ≤ 63 → (0 ≤ F t ∧ F t ≤ 63) ∧ sbS t (F t)) {t : Int} (ht : 0 ≤ t ∧ t ≤ 63) : F (itN F 6 t) = itN F 6 t := by
  have h := itN_fx hF ht 6
  have f := hF _ h.1
  rcases h.2.2 with e | e
  · exact e
  · have b := bcS_bd (a := F (itN F 6 t)) 6
    rcases sb_lt h.1 f.1 f.2 with e2 | e2
    · exact e2
    · omega
/-- what can be reached -/
def Rch (Kw : Nat → Int) (n f o : Nat) : Prop := ∀ T : Nat → Prop, (∀ j : Nat, j < 6 → tb (Kw f) (j : Int) = true → T j) → (∀ q j : Nat, q < n → j < 6 → T q → tb (Kw q) (j : Int) = true → T j) → T o
theorem Rch_t {Kw : Nat → Int} {n f q o : Nat} (hq : q < n) (h1 : Rch Kw n f q) (h2 : Rch Kw n q o) : Rch Kw n f o := fun T a b =>
  h2 T (fun j hj e => b q j hq hj (h1 T a b) e) b
def KwB (Kw : Nat → Int) : Prop := ∀ q, q < 6 → 0 ≤ Kw q ∧ Kw q ≤ 63
/-- the reference's look at all -/
def sgS (Kw : Nat → Int) : Nat → Nat → Int → Int
  | 0, _, t => t
  | m + 1, p, t => sgS Kw m (p + 1) (if tb t (p : Int) = true then orr t (Kw p) else t)
theorem sg1 {Kw : Nat → Int} (hK : KwB Kw) {p : Nat} (hp : p < 6) {t : Int} (ht : 0 ≤ t ∧ t ≤ 63) : (0 ≤ (if tb t (p : Int) = true then orr t (Kw p) else t) ∧ (if tb t (p : Int) = true then orr t (Kw p) else t) ≤ 63) ∧ ∀ j : Nat, j < 6 → (tb (if tb t (p : Int) = true then orr t (Kw p) else t) (j : Int) = true ↔ tb t (j : Int) = true ∨ (tb t (p : Int) = true ∧ tb (Kw p) (j : Int) = true)) := by
  by_cases c : tb t (p : Int) = true
  · rw [if_pos c]
    refine ⟨orr_bd ht (hK p hp), fun j hj => ?_⟩
    rw [tb_orr ht (hK p hp) hj, Bool.or_eq_true]
    exact ⟨fun h => h.elim Or.inl (fun h => Or.inr ⟨c, h⟩), fun h => h.elim Or.inl (fun h => Or.inr h.2)⟩
  · rw [if_neg c]
    exact ⟨ht, fun j hj => ⟨Or.inl, fun h => h.elim id (fun h => absurd h.1 c)⟩⟩
theorem sgS_bd {Kw : Nat → Int} (hK : KwB Kw) : ∀ (m p : Nat) (t : Int), p + m ≤ 6 → 0 ≤ t ∧ t ≤ 63 → (0 ≤ sgS Kw m p t ∧ sgS Kw m p t ≤ 63) ∧ sbS t (sgS Kw m p t)
  | 0, p, t, _, ht => ⟨ht, fun _ _ h => h⟩
  | m + 1, p, t, hm, ht => by
    have s := sg1 hK (p := p) (by omega) ht
    have ih := sgS_bd hK m (p + 1) _ (by omega) s.1
    exact ⟨ih.1, fun j hj h => ih.2 j hj ((s.2 j hj).mpr (Or.inl h))⟩
theorem sgS_cl {Kw : Nat → Int} (hK : KwB Kw) : ∀ (m p : Nat) (t : Int), p + m ≤ 6 → 0 ≤ t ∧ t ≤ 63 → sgS Kw m p t = t → ∀ q, p ≤ q → q < p + m → tb t (q : Int) = true → sbS (Kw q) t
  | 0, p, t, _, _, _ => fun q h1 h2 => absurd h2 (by omega)
  | m + 1, p, t, hm, ht, e => by
    have s := sg1 hK (p := p) (by omega) ht
    have b := sgS_bd hK m (p + 1) _ (by omega) s.1
    have e2 : sgS Kw m (p + 1) (if tb t (p : Int) = true then orr t (Kw p) else t) = t := e
    have e1 : (if tb t (p : Int) = true then orr t (Kw p) else t) = t := by
      refine tb_ext s.1 ht (fun j hj => ?_)
      have q1 := b.2 j hj
      rw [e2] at q1
      have q2 := (s.2 j hj).mpr
      cases c1 : tb t (j : Int) with
      | true => exact q2 (Or.inl c1)
      | false =>
        cases c2 : tb (if tb t (p : Int) = true then orr t (Kw p) else t) (j : Int) with
        | false => rfl
        | true => exact absurd (q1 c2) (by rw [c1]; exact Bool.false_ne_true)
    rw [e1] at e2
    intro q h1 h2 hq j hj hk
    by_cases c : q = p
    · subst c
      have q2 := (s.2 j hj).mpr (Or.inr ⟨hq, hk⟩)
      rw [e1] at q2
      exact q2
    · exact sgS_cl hK m (p + 1) t (by omega) ht e2 q (by omega) (by omega) hq j hj hk
theorem sgS_sd {Kw : Nat → Int} (hK : KwB Kw) {n : Nat} {T : Nat → Prop} (hT : ∀ q j : Nat, q < n → j < 6 → T q → tb (Kw q) (j : Int) = true → T j) (hn : n ≤ 6) : ∀ (m p : Nat) (t : Int), p + m = n → 0 ≤ t ∧ t ≤ 63 → (∀ j : Nat, j < 6 → tb t (j : Int) = true → T j) → ∀ j : Nat, j < 6 → tb (sgS Kw m p t) (j : Int) = true → T j
  | 0, p, t, _, _, h => h
  | m + 1, p, t, hm, ht, h => by
    have s := sg1 hK (p := p) (by omega) ht
    refine sgS_sd hK hT hn m (p + 1) _ (by omega) s.1 (fun j hj k => ?_)
    rcases (s.2 j hj).mp k with k | ⟨k1, k2⟩
    · exact h j hj k
    · exact hT p j (by omega) hj (h p (by omega) k1) k2
def t6S (Kw : Nat → Int) (n f : Nat) : Int := itN (fun t => sgS Kw n 0 t) 6 (Kw f)
theorem t6_r {Kw : Nat → Int} (hK : KwB Kw) {n f o : Nat} (hn : n ≤ 6) (hf : f < 6) (ho : o < 6) : tb (t6S Kw n f) (o : Int) = true ↔ Rch Kw n f o := by
  have hF : ∀ t, 0 ≤ t ∧ t ≤ 63 → (0 ≤ sgS Kw n 0 t ∧ sgS Kw n 0 t ≤ 63) ∧ sbS t (sgS Kw n 0 t) := fun t ht => sgS_bd hK n 0 t (by omega) ht
  have fx := itN_6 hF (hK f hf)
  have g := itN_fx hF (hK f hf) 6
  constructor
  · intro h T a b
    have it : ∀ k : Nat, ∀ j : Nat, j < 6 → tb (itN (fun t => sgS Kw n 0 t) k (Kw f)) (j : Int) = true → T j := by
      intro k
      induction k with
      | zero => exact a
      | succ k ih => exact sgS_sd hK b hn n 0 _ (by omega) (itN_fx hF (hK f hf) k).1 ih
    exact it 6 o ho h
  · intro h
    exact h (fun j => tb (t6S Kw n f) (j : Int) = true) (fun j hj k => g.2.1 j hj k) (fun q j hq hj k1 k2 => sgS_cl hK n 0 _ (by omega) g.1 fx q (by omega) (by omega) k1 j hj k2)
/-- the class's look at all -/
def fuS (Rw : Nat → Int) (s : Int) : Nat → Int
  | 0 => s
  | p + 1 => if tb s (p : Int) = true then orr (fuS Rw s p) (Rw p) else fuS Rw s p
theorem fuS_0 {Rw : Nat → Int} {s : Int} {p : Nat} (h : tb s (p : Int) = false) : fuS Rw s (p + 1) = fuS Rw s p := by
  show (if tb s (p : Int) = true then _ else _) = _
  rw [h, if_neg Bool.false_ne_true]
theorem fuS_1 {Rw : Nat → Int} {s : Int} {p : Nat} (h : tb s (p : Int) = true) : fuS Rw s (p + 1) = orr (fuS Rw s p) (Rw p) := by
  show (if tb s (p : Int) = true then _ else _) = _
  rw [if_pos h]
theorem fuS_m {Rw : Nat → Int} {s : Int} (hs : 0 ≤ s ∧ s ≤ 63) : ∀ p : Nat, p ≤ 6 → (∀ q, q < p → 0 ≤ Rw q ∧ Rw q ≤ 63) → (0 ≤ fuS Rw s p ∧ fuS Rw s p ≤ 63) ∧ ∀ j : Nat, j < 6 → (tb (fuS Rw s p) (j : Int) = true ↔ tb s (j : Int) = true ∨ ∃ q, q < p ∧ tb s (q : Int) = true ∧ tb (Rw q) (j : Int) = true)
  | 0, _, _ => ⟨hs, fun j _ => ⟨Or.inl, fun h => h.elim id (fun ⟨q, h, _⟩ => absurd h (by omega))⟩⟩
  | p + 1, hp, hR => by
    have ih := fuS_m (Rw := Rw) hs p (by omega) (fun q hq => hR q (by omega))
    cases c : tb s (p : Int) with
    | false =>
      rw [fuS_0 c]
      refine ⟨ih.1, fun j hj => (ih.2 j hj).trans ⟨fun h => h.imp id (fun ⟨q, h1, h2⟩ => ⟨q, by omega, h2⟩), fun h => h.imp id (fun ⟨q, h1, h2, h3⟩ => ⟨q, ?_, h2, h3⟩)⟩⟩
      by_cases e : q = p
      · rw [e, c] at h2
        exact absurd h2 Bool.false_ne_true
      · omega
    | true =>
      rw [fuS_1 c]
      refine ⟨orr_bd ih.1 (hR p (by omega)), fun j hj => ?_⟩
      rw [tb_orr ih.1 (hR p (by omega)) hj, Bool.or_eq_true, ih.2 j hj]
      constructor
      · rintro ((h | ⟨q, h1, h2⟩) | h)
        · exact Or.inl h
        · exact Or.inr ⟨q, by omega, h2⟩
        · exact Or.inr ⟨p, by omega, c, h⟩
      · rintro (h | ⟨q, h1, h2, h3⟩)
        · exact Or.inl (Or.inl h)
        · by_cases e : q = p
          · rw [e] at h3
            exact Or.inr h3
          · exact Or.inl (Or.inr ⟨q, by omega, h2, h3⟩)
def b6S (Kw : Nat → Int) (n k f : Nat) : Int := itN (fun t => fuS Kw t n) k (Kw f)
theorem fuF {Kw : Nat → Int} (hK : KwB Kw) {n : Nat} (hn : n ≤ 6) : ∀ t, 0 ≤ t ∧ t ≤ 63 → (0 ≤ fuS Kw t n ∧ fuS Kw t n ≤ 63) ∧ sbS t (fuS Kw t n) := fun t ht => by
  have m := fuS_m (Rw := Kw) ht n hn (fun q hq => hK q (by omega))
  exact ⟨m.1, fun j hj h => (m.2 j hj).mpr (Or.inl h)⟩
/-- the class's rows in its k-th round, those below p done -/
def RgI (Kw : Nat → Int) (n k p : Nat) (Rw : Nat → Int) : Prop := ∀ q : Nat, q < n → (0 ≤ Rw q ∧ Rw q ≤ 63) ∧ sbS (Kw q) (Rw q) ∧ (∀ j : Nat, j < 6 → tb (Rw q) (j : Int) = true → Rch Kw n q j) ∧ sbS (b6S Kw n (if q < p then k + 1 else k) q) (Rw q)
theorem RgI_0 {Kw : Nat → Int} (hK : KwB Kw) {n : Nat} (hn : n ≤ 6) {Rw : Nat → Int} (h : ∀ q : Nat, q < n → Rw q = Kw q) : RgI Kw n 0 0 Rw := fun q hq => by
  rw [h q hq, if_neg (by omega)]
  exact ⟨hK q (by omega), fun _ _ e => e, fun j hj e T a b => a j hj e, fun _ _ e => e⟩
theorem RgI_n {Kw : Nat → Int} {n k : Nat} {Rw : Nat → Int} (h : RgI Kw n k n Rw) : RgI Kw n (k + 1) 0 Rw := fun q hq => by
  have g := h q hq
  rw [if_pos hq] at g
  rw [if_neg (by omega)]
  exact g
theorem RgI_s {Kw : Nat → Int} (hK : KwB Kw) {n k p : Nat} (hn : n ≤ 6) (hp : p < n) {Rw : Nat → Int} (h : RgI Kw n k p Rw) : (0 ≤ fuS Rw (Rw p) n ∧ fuS Rw (Rw p) n ≤ 63) ∧ RgI Kw n k (p + 1) (updI Rw p (fuS Rw (Rw p) n)) := by
  have g := h p hp
  have m := fuS_m (Rw := Rw) g.1 n hn (fun q hq => (h q hq).1)
  refine ⟨m.1, fun q hq => ?_⟩
  by_cases e : q = p
  · subst e
    rw [show updI Rw q (fuS Rw (Rw q) n) q = fuS Rw (Rw q) n from if_pos rfl, if_pos (by omega)]
    rw [if_neg (by omega)] at g
    refine ⟨m.1, fun j hj k1 => (m.2 j hj).mpr (Or.inl (g.2.1 j hj k1)), fun j hj k1 => ?_, fun j hj k1 => ?_⟩
    · rcases (m.2 j hj).mp k1 with k2 | ⟨r, r1, r2, r3⟩
      · exact g.2.2.1 j hj k2
      · exact Rch_t r1 (g.2.2.1 r (by omega) r2) ((h r r1).2.2.1 j hj r3)
    · have b := itN_fx (fuF hK hn) (hK q (by omega)) k
      have mb := fuS_m (Rw := Kw) b.1 n hn (fun r hr => hK r (by omega))
      refine (m.2 j hj).mpr ?_
      rcases (mb.2 j hj).mp k1 with k2 | ⟨r, r1, r2, r3⟩
      · exact Or.inl (g.2.2.2 j hj k2)
      · exact Or.inr ⟨r, r1, g.2.2.2 r (by omega) r2, (h r r1).2.1 j hj r3⟩
  · rw [show updI Rw p (fuS Rw (Rw p) n) q = Rw q from if_neg e]
    have g2 := h q hq
    by_cases c : q < p
    · rw [if_pos c] at g2
      rw [if_pos (by omega)]
      exact g2
    · rw [if_neg c] at g2
      rw [if_neg (by omega)]
      exact g2
theorem RgI_6 {Kw : Nat → Int} (hK : KwB Kw) {n f : Nat} (hn : n ≤ 6) (hf : f < n) {Rw : Nat → Int} (h : RgI Kw n 6 0 Rw) : tb (Rw f) (f : Int) = tb (t6S Kw n f) (f : Int) := by
  have g := h f hf
  rw [if_neg (by omega)] at g
  have r := t6_r hK (f := f) (o := f) hn (by omega) (by omega)
  have fx := itN_6 (fuF hK hn) (hK f (by omega))
  have b := itN_fx (fuF hK hn) (hK f (by omega)) 6
  have mb := fuS_m (Rw := Kw) b.1 n hn (fun q hq => hK q (by omega))
  have a1 : Rch Kw n f f → tb (Rw f) (f : Int) = true := fun k => g.2.2.2 f (by omega) (k (fun j => j < 6 → tb (b6S Kw n 6 f) (j : Int) = true) (fun j _ e hj => b.2.1 j hj e) (fun q j hq _ k1 k2 hj => by
    have q2 := (mb.2 j hj).mpr (Or.inr ⟨q, hq, k1 (by omega), k2⟩)
    rw [show fuS Kw (itN (fun t => fuS Kw t n) 6 (Kw f)) n = itN (fun t => fuS Kw t n) 6 (Kw f) from fx] at q2
    exact q2) (by omega))
  have a2 := g.2.2.1 f (by omega)
  cases c1 : tb (Rw f) (f : Int) with
  | true => exact (r.mpr (a2 c1)).symm
  | false =>
    cases c2 : tb (t6S Kw n f) (f : Int) with
    | false => rfl
    | true => exact absurd (a1 (r.mp c2)) (by rw [c1]; exact Bool.false_ne_true)
/-- whose names f knows whole in the end -/
def kwP (G : Nat → Int) (f q : Nat) : Bool := !(Nat.beq q f) && whB G (G 2).toNat f q
theorem kwP_f {G : Nat → Int} {f : Nat} : kwP G f f = false := by
  unfold kwP
  rw [Nat.beq_refl]
  rfl
theorem kwP_n {G : Nat → Int} {f q : Nat} (n : q ≠ f) : kwP G f q = whB G (G 2).toNat f q := by
  unfold kwP
  rw [show Nat.beq q f = false by
    cases h : Nat.beq q f
    · rfl
    · exact absurd (Nat.eq_of_beq_eq_true h) n]
  rfl
def kwR (G : Nat → Int) (f : Nat) : Int := orI (kwP G f) (G 3).toNat
theorem kwR_b {G : Nat → Int} (hB : HB G) : KwB (kwR G) := fun q hq => orI_bd (by have := hB.b3; omega)
def rgP (G : Nat → Int) (f : Nat) : Bool := tb (t6S (kwR G) (G 3).toNat f) (f : Int)
end XTF
