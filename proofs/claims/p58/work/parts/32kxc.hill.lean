section
section XTC
variable {l : Launch} {D : va_G} {tys : List (ClassId × FieldType)} {A : Nat → Prop} {ad : Nat → Nat} {ws : va_W}
/-- all but i -/
noncomputable def clB (t i : Int) : Int := (ibF 5 (Int32.ofInt t) (ibF 7 (ibF 8 (Int32.ofInt 1) (Int32.ofInt i)) (Int32.ofInt (-1)))).toInt
theorem clB_i (t i : Int) : ibF 5 (Int32.ofInt t) (ibF 7 (ibF 8 (Int32.ofInt 1) (Int32.ofInt i)) (Int32.ofInt (-1))) = Int32.ofInt (clB t i) := by
  unfold clB
  rw [Int32.ofInt_toInt]
theorem clB_all : (List.range 64).all (fun a => (List.range 6).all (fun i => decide (0 ≤ clB (a : Nat) (i : Nat) ∧ clB (a : Nat) (i : Nat) ≤ 63) && (tb (a : Nat) (i : Nat) || decide (clB (bitO (a : Nat) (i : Nat)) (i : Nat) = (a : Nat))) && (!(tb (a : Nat) (i : Nat)) || decide (bitO (clB (a : Nat) (i : Nat)) (i : Nat) = (a : Nat))) && decide (bcS (bitO (a : Nat) (i : Nat)) 6 = bcS (a : Nat) 6 + (if tb (a : Nat) (i : Nat) = true then 0 else 1)))) = true := by decide +kernel
theorem clB_k {a : Int} {i : Nat} (a0 : 0 ≤ a) (a1 : a ≤ 63) (hi : i < 6) : (0 ≤ clB a (i : Int) ∧ clB a (i : Int) ≤ 63) ∧ (tb a (i : Int) = false → clB (bitO a (i : Int)) (i : Int) = a) ∧ (tb a (i : Int) = true → bitO (clB a (i : Int)) (i : Int) = a) ∧ bcS (bitO a (i : Int)) 6 = bcS a 6 + (if tb a (i : Int) = true then 0 else 1) := by
  have q := List.all_eq_true.mp (List.all_eq_true.mp clB_all a.toNat (List.mem_range.mpr (by omega))) i (List.mem_range.mpr hi)
  rw [Int.toNat_of_nonneg a0, Bool.and_eq_true, Bool.and_eq_true, Bool.and_eq_true, decide_eq_true_eq, decide_eq_true_eq] at q
  obtain ⟨⟨⟨q1, q2⟩, q3⟩, q4⟩ := q
  refine ⟨q1, fun e => ?_, fun e => ?_, q4⟩
  · rw [e, Bool.false_or, decide_eq_true_eq] at q2
    exact q2
  · rw [e, Bool.not_true, Bool.false_or, decide_eq_true_eq] at q3
    exact q3
theorem clC_all : (List.range 64).all (fun a => (List.range 6).all (fun i => (List.range 6).all (fun j => (tb (clB (a : Nat) (i : Nat)) (j : Nat) == (tb (a : Nat) (j : Nat) && !(Nat.beq j i))) && (Nat.beq j i || decide (clB (bitO (a : Nat) (j : Nat)) (i : Nat) = bitO (clB (a : Nat) (i : Nat)) (j : Nat)))))) = true := by decide +kernel
/-- the class's world but for its own scratch rows -/
noncomputable def XSC (w0 w : va_W) : Prop := ∀ c j, ¬ (c = 31 ∨ c = 37 ∨ c = 38 ∨ c = 48 ∨ c = 49 ∨ c = 51 ∨ c = 52) → rd w c j = rd w0 c j
theorem XSC_X {G : Nat → Int} {w0 w : va_W} (o : XSC w0 w) (h : HX 4 G w0) : HX 4 G w := HX_keep h (fun c i h1 h2 => o c i (by omega))
theorem XSC_W {G : Nat → Int} {w0 w : va_W} (o : XSC w0 w) (h : W91 G w0) : W91 G w := fun j hj => (o 91 j (by omega)).trans (h j hj)
end XTC
end
section
section XTF
variable {l : Launch} {D : va_G} {tys : List (ClassId × FieldType)} {A : Nat → Prop} {ad : Nat → Nat} {ws : va_W}
theorem tbN_all : (List.range 64).all (fun a => (List.range 6).all (fun j => tb (a : Nat) (j : Nat) == a.testBit j)) = true := by decide +kernel
theorem tb_n {a j : Nat} (ha : a < 64) (hj : j < 6) : tb (a : Int) (j : Int) = a.testBit j := by
  have q := List.all_eq_true.mp (List.all_eq_true.mp tbN_all a (List.mem_range.mpr ha)) j (List.mem_range.mpr hj)
  simpa using q
theorem nat63 {a : Int} (h : 0 ≤ a ∧ a ≤ 63) : ∃ m : Nat, m < 64 ∧ a = (m : Int) := ⟨a.toNat, by omega, by omega⟩
theorem tb_ext {a b : Int} (ha : 0 ≤ a ∧ a ≤ 63) (hb : 0 ≤ b ∧ b ≤ 63) (h : ∀ j : Nat, j < 6 → tb a (j : Int) = tb b (j : Int)) : a = b := by
  obtain ⟨m, hm, rfl⟩ := nat63 ha
  obtain ⟨n, hn, rfl⟩ := nat63 hb
  have e : m = n := Nat.eq_of_testBit_eq (fun j => by
    by_cases hj : j < 6
    · have q := h j hj
      rw [tb_n hm hj, tb_n hn hj] at q
      exact q
    · have p6 : 2 ^ 6 ≤ 2 ^ j := Nat.pow_le_pow_right (by omega) (by omega)
      rw [Nat.testBit_lt_two_pow (Nat.lt_of_lt_of_le hm p6), Nat.testBit_lt_two_pow (Nat.lt_of_lt_of_le hn p6)])
  rw [e]
end XTF
end
section
section XUA
noncomputable def pW (G : Nat → Int) (he : Nat → Int → Nat → Bool) (s : Nat) (x : Int) (f : Nat) : Bool := preP G s f && he s x f
noncomputable def spW (P : Nat → Bool) (G : Nat → Int) (s n : Nat) (K : Nat → Int) (j : Nat) : Int := if j % 6 = sWhs G s ∧ j / 6 < n ∧ P (j / 6) = true then bitO (K j) (sWhi G s : Int) else K j
noncomputable def lrW (P : Nat → Bool) (G K : Nat → Int) (s f : Nat) : Bool := P f && !(tb (K (6 * f + sWhs G s)) (sWhi G s : Int))
theorem spW_skip {P : Nat → Bool} {G K : Nat → Int} {s n : Nat} (h : P n = false) : spW P G s (n + 1) K = spW P G s n K := by
  funext j
  unfold spW
  by_cases e : j / 6 = n
  · rw [if_neg (fun q => by rw [e, h] at q; exact absurd q.2.2 Bool.false_ne_true), if_neg (fun q => by omega)]
  · by_cases q : j % 6 = sWhs G s ∧ j / 6 < n ∧ P (j / 6) = true
    · rw [if_pos q, if_pos ⟨q.1, by omega, q.2.2⟩]
    · rw [if_neg q, if_neg (fun u => q ⟨u.1, by omega, u.2.2⟩)]
theorem spW_step {P : Nat → Bool} {G K : Nat → Int} {s n : Nat} (h : P n = true) (hw : sWhs G s < 6) : spW P G s (n + 1) K = updI (spW P G s n K) (6 * n + sWhs G s) (bitO (K (6 * n + sWhs G s)) (sWhi G s : Int)) := by
  funext j
  show (if j % 6 = sWhs G s ∧ j / 6 < n + 1 ∧ P (j / 6) = true then bitO (K j) (sWhi G s : Int) else K j) = (if j = 6 * n + sWhs G s then _ else (if j % 6 = sWhs G s ∧ j / 6 < n ∧ P (j / 6) = true then bitO (K j) (sWhi G s : Int) else K j))
  by_cases e : j = 6 * n + sWhs G s
  · have e2 : j / 6 = n := by omega
    have e3 : j % 6 = sWhs G s := by omega
    rw [if_pos e, if_pos ⟨e3, by omega, by rw [e2]; exact h⟩, e]
  · rw [if_neg e]
    by_cases q : j % 6 = sWhs G s ∧ j / 6 < n ∧ P (j / 6) = true
    · rw [if_pos q, if_pos ⟨q.1, by omega, q.2.2⟩]
    · rw [if_neg q, if_neg (fun u => q ⟨u.1, by omega, u.2.2⟩)]
theorem spW_new {P : Nat → Bool} {G K : Nat → Int} {s n : Nat} (hw : sWhs G s < 6) : spW P G s n K (6 * n + sWhs G s) = K (6 * n + sWhs G s) := by
  unfold spW
  rw [if_neg (fun q => by omega)]
theorem spW_0 {P : Nat → Bool} {G K : Nat → Int} {s : Nat} : spW P G s 0 K = K := by
  funext j
  unfold spW
  rw [if_neg (fun q => by omega)]
theorem spW_ok {P : Nat → Bool} {G K : Nat → Int} {s n : Nat} (h : kOK K) (hi : sWhi G s < 6) : kOK (spW P G s n K) := fun j hj => by
  have b := h j hj
  unfold spW
  split
  · exact bitO_bd b.1 b.2 (by omega) (by omega)
  · exact b
noncomputable def oneW (G : Nat → Int) (hu : Nat → Bool) (he : Nat → Int → Nat → Bool) (dx : Nat → Int → Nat → Int) (s : Nat) (S : TT × Int) : TT × Int := if hu s = false ∧ canB G S.1.K s = true then ((spW (pW G he s S.2) G s (G 3).toNat S.1.K, ibF 6 S.1.sd (ibF 8 (Int32.ofInt 1) (Int32.ofInt (s : Int))), updI S.1.hb s (orI (pW G he s S.2) (G 3).toNat), updI S.1.lb s (orI (lrW (pW G he s S.2) G S.1.K s) (G 3).toNat)), dx s S.2 (G 3).toNat) else S
noncomputable def sayW (G : Nat → Int) (hu : Nat → Bool) (he : Nat → Int → Nat → Bool) (dx : Nat → Int → Nat → Int) (h : Nat) : Nat → Nat → TT × Int → TT × Int
  | 0, _, S => S
  | m + 1, s, S => sayW G hu he dx h m (s + 1) (if sWhn G s = h then oneW G hu he dx s S else S)
noncomputable def tellW (G : Nat → Int) (hu : Nat → Bool) (he : Nat → Int → Nat → Bool) (dx : Nat → Int → Nat → Int) (x0 : Int) : Nat → TT × Int
  | 0 => (iniT G, x0)
  | h + 1 => sayW G hu he dx h (G 4).toNat 0 (tellW G hu he dx x0 h)
/-- the reference has told so far -/
noncomputable abbrev TMW (ad : Nat → Nat) (tys : List (ClassId × FieldType)) (Mo : Int → va_W → Prop) (S : TT × Int) (w0 w : va_W) : Prop :=
  (GOK ad tys GG w) ∧
  (∀ j, j < 36 → rd w 99 j = some (.int (Int32.ofInt (S.1.K j)))) ∧
  (rd w 90 18 = some (.int S.1.sd)) ∧
  (∀ i, i < 12 → rd w 100 i = some (.int (Int32.ofInt (S.1.hb i)))) ∧
  (∀ i, i < 12 → rd w 101 i = some (.int (Int32.ofInt (S.1.lb i)))) ∧
  (∀ c j, ¬ (99 ≤ c ∧ c ≤ 101) → ¬ (c = 90 ∧ (j = 18 ∨ j = 25)) → rd w c j = rd w0 c j) ∧
  (kOK S.1.K) ∧
  (Mo S.2 w)
theorem TMW.g {ad : Nat → Nat} {tys : List (ClassId × FieldType)} {Mo : Int → va_W → Prop} {S : TT × Int} {w0 w : va_W} (h : TMW ad tys Mo S w0 w) : GOK ad tys GG w := h.1
theorem TMW.k {ad : Nat → Nat} {tys : List (ClassId × FieldType)} {Mo : Int → va_W → Prop} {S : TT × Int} {w0 w : va_W} (h : TMW ad tys Mo S w0 w) : ∀ j, j < 36 → rd w 99 j = some (.int (Int32.ofInt (S.1.K j))) := h.2.1
theorem TMW.s {ad : Nat → Nat} {tys : List (ClassId × FieldType)} {Mo : Int → va_W → Prop} {S : TT × Int} {w0 w : va_W} (h : TMW ad tys Mo S w0 w) : rd w 90 18 = some (.int S.1.sd) := h.2.2.1
theorem TMW.h {ad : Nat → Nat} {tys : List (ClassId × FieldType)} {Mo : Int → va_W → Prop} {S : TT × Int} {w0 w : va_W} (h : TMW ad tys Mo S w0 w) : ∀ i, i < 12 → rd w 100 i = some (.int (Int32.ofInt (S.1.hb i))) := h.2.2.2.1
theorem TMW.lr {ad : Nat → Nat} {tys : List (ClassId × FieldType)} {Mo : Int → va_W → Prop} {S : TT × Int} {w0 w : va_W} (h : TMW ad tys Mo S w0 w) : ∀ i, i < 12 → rd w 101 i = some (.int (Int32.ofInt (S.1.lb i))) := h.2.2.2.2.1
theorem TMW.o {ad : Nat → Nat} {tys : List (ClassId × FieldType)} {Mo : Int → va_W → Prop} {S : TT × Int} {w0 w : va_W} (h : TMW ad tys Mo S w0 w) : ∀ c j, ¬ (99 ≤ c ∧ c ≤ 101) → ¬ (c = 90 ∧ (j = 18 ∨ j = 25)) → rd w c j = rd w0 c j := h.2.2.2.2.2.1
theorem TMW.b {ad : Nat → Nat} {tys : List (ClassId × FieldType)} {Mo : Int → va_W → Prop} {S : TT × Int} {w0 w : va_W} (h : TMW ad tys Mo S w0 w) : kOK S.1.K := h.2.2.2.2.2.2.1
theorem TMW.m {ad : Nat → Nat} {tys : List (ClassId × FieldType)} {Mo : Int → va_W → Prop} {S : TT × Int} {w0 w : va_W} (h : TMW ad tys Mo S w0 w) : Mo S.2 w := h.2.2.2.2.2.2.2
/-- a way of hearing, and what is hushed -/
noncomputable abbrev HEA (l : Launch) (D : va_G) (tys : List (ClassId × FieldType)) (A : Nat → Prop) (ad : Nat → Nat) (G : Nat → Int) (hz : Int32) (hu : Nat → Bool) (he : Nat → Int → Nat → Bool) (dx : Nat → Int → Nat → Int) (Mo : Int → va_W → Prop) : Prop :=
  (∀ (x : Int) (w w2 : va_W), Mo x w → (∀ c j, ¬ (98 ≤ c ∧ c ≤ 101) → ¬ (c = 90 ∧ j = 18) → rd w2 c j = rd w c j) → Mo x w2) ∧
  (∀ (x : Int) (w : va_W), Mo x w → rd w 90 21 = some (.int hz)) ∧
  (∀ s : Nat, s < 12 → ibF 5 (ibF 9 hz (Int32.ofInt (s : Int))) (Int32.ofInt 1) = Int32.ofInt (if hu s = true then 1 else 0)) ∧
  (∀ (s : Nat) (x : Int) (f : Nat) (w : va_W), s < 12 → (f : Int) < G 3 → GOK ad tys GG w → W91 G w → Mo (dx s x f) w → preP G s f = true → ∃ d', d' < 5 ∧ CT l D tys A 235 d' 0 0 [.ref (ad 90), .int (Int32.ofInt (f : Int)), .int (Int32.ofInt (s : Int))] w (fun r w2 => r = some (.int (bI (he s x f))) ∧ GOK ad tys GG w2 ∧ Mo (dx s x (f + 1)) w2 ∧ ∀ c j, ¬ (c = 90 ∧ j = 25) → rd w2 c j = rd w c j)) ∧
  (∀ (s : Nat) (x : Int) (f : Nat), preP G s f = false → dx s x (f + 1) = dx s x f) ∧
  (∀ (s : Nat) (x : Int), dx s x 0 = x)
theorem HEA.kp {l : Launch} {D : va_G} {tys : List (ClassId × FieldType)} {A : Nat → Prop} {ad : Nat → Nat} {G : Nat → Int} {hz : Int32} {hu : Nat → Bool} {he : Nat → Int → Nat → Bool} {dx : Nat → Int → Nat → Int} {Mo : Int → va_W → Prop} (h : HEA l D tys A ad G hz hu he dx Mo) : ∀ (x : Int) (w w2 : va_W), Mo x w → (∀ c j, ¬ (98 ≤ c ∧ c ≤ 101) → ¬ (c = 90 ∧ j = 18) → rd w2 c j = rd w c j) → Mo x w2 := h.1
theorem HEA.hz {l : Launch} {D : va_G} {tys : List (ClassId × FieldType)} {A : Nat → Prop} {ad : Nat → Nat} {G : Nat → Int} {hz : Int32} {hu : Nat → Bool} {he : Nat → Int → Nat → Bool} {dx : Nat → Int → Nat → Int} {Mo : Int → va_W → Prop} (h : HEA l D tys A ad G hz hu he dx Mo) : ∀ (x : Int) (w : va_W), Mo x w → rd w 90 21 = some (.int hz) := h.2.1
theorem HEA.hu {l : Launch} {D : va_G} {tys : List (ClassId × FieldType)} {A : Nat → Prop} {ad : Nat → Nat} {G : Nat → Int} {hz : Int32} {hu : Nat → Bool} {he : Nat → Int → Nat → Bool} {dx : Nat → Int → Nat → Int} {Mo : Int → va_W → Prop} (h : HEA l D tys A ad G hz hu he dx Mo) : ∀ s : Nat, s < 12 → ibF 5 (ibF 9 hz (Int32.ofInt (s : Int))) (Int32.ofInt 1) = Int32.ofInt (if hu s = true then 1 else 0) := h.2.2.1
theorem HEA.he {l : Launch} {D : va_G} {tys : List (ClassId × FieldType)} {A : Nat → Prop} {ad : Nat → Nat} {G : Nat → Int} {hz : Int32} {hu : Nat → Bool} {he : Nat → Int → Nat → Bool} {dx : Nat → Int → Nat → Int} {Mo : Int → va_W → Prop} (h : HEA l D tys A ad G hz hu he dx Mo) : ∀ (s : Nat) (x : Int) (f : Nat) (w : va_W), s < 12 → (f : Int) < G 3 → GOK ad tys GG w → W91 G w → Mo (dx s x f) w → preP G s f = true → ∃ d', d' < 5 ∧ CT l D tys A 235 d' 0 0 [.ref (ad 90), .int (Int32.ofInt (f : Int)), .int (Int32.ofInt (s : Int))] w (fun r w2 => r = some (.int (bI (he s x f))) ∧ GOK ad tys GG w2 ∧ Mo (dx s x (f + 1)) w2 ∧ ∀ c j, ¬ (c = 90 ∧ j = 25) → rd w2 c j = rd w c j) := h.2.2.2.1
theorem HEA.dn {l : Launch} {D : va_G} {tys : List (ClassId × FieldType)} {A : Nat → Prop} {ad : Nat → Nat} {G : Nat → Int} {hz : Int32} {hu : Nat → Bool} {he : Nat → Int → Nat → Bool} {dx : Nat → Int → Nat → Int} {Mo : Int → va_W → Prop} (h : HEA l D tys A ad G hz hu he dx Mo) : ∀ (s : Nat) (x : Int) (f : Nat), preP G s f = false → dx s x (f + 1) = dx s x f := h.2.2.2.2.1
theorem HEA.d0 {l : Launch} {D : va_G} {tys : List (ClassId × FieldType)} {A : Nat → Prop} {ad : Nat → Nat} {G : Nat → Int} {hz : Int32} {hu : Nat → Bool} {he : Nat → Int → Nat → Bool} {dx : Nat → Int → Nat → Int} {Mo : Int → va_W → Prop} (h : HEA l D tys A ad G hz hu he dx Mo) : ∀ (s : Nat) (x : Int), dx s x 0 = x := h.2.2.2.2.2
variable {l : Launch} {D : va_G} {tys : List (ClassId × FieldType)} {A : Nat → Prop} {ad : Nat → Nat} {ws : va_W}
variable {G : Nat → Int} {hz : Int32} {hu : Nat → Bool} {he : Nat → Int → Nat → Bool} {dx : Nat → Int → Nat → Int} {Mo : Int → va_W → Prop}
theorem syw_77 (E : HEA l D tys A ad G hz hu he dx Mo) {K : Nat → Int} {s : Nat} {x : Int} {w0 : va_W} {post : Option Value → va_W → Prop} (hB : HB G) (hs : s < 12) (hW0 : W91 G w0) : ∀ (m f : Nat) (w : va_W), ((f + m : Nat) : Int) = G 3 → GOK ad tys GG w → Mo (dx s x f) w → (∀ j, j < 36 → rd w 99 j = some (.int (Int32.ofInt (spW (pW G he s x) G s f K j)))) → rd w 100 s = some (.int (Int32.ofInt (orI (pW G he s x) f))) → rd w 101 s = some (.int (Int32.ofInt (orI (lrW (pW G he s x) G K s) f))) → (∀ c j, c ≠ 99 → ¬ (c = 100 ∧ j = s) → ¬ (c = 101 ∧ j = s) → ¬ (c = 90 ∧ j = 25) → rd w c j = rd w0 c j) → kOK K → (∀ w' : va_W, GOK ad tys GG w' → Mo (dx s x (G 3).toNat) w' → (∀ j, j < 36 → rd w' 99 j = some (.int (Int32.ofInt (spW (pW G he s x) G s (G 3).toNat K j)))) → rd w' 100 s = some (.int (Int32.ofInt (orI (pW G he s x) (G 3).toNat))) → rd w' 101 s = some (.int (Int32.ofInt (orI (lrW (pW G he s x) G K s) (G 3).toNat))) → (∀ c j, c ≠ 99 → ¬ (c = 100 ∧ j = s) → ¬ (c = 101 ∧ j = s) → ¬ (c = 90 ∧ j = 25) → rd w' c j = rd w0 c j) → post none w') → V l D tys A 236 5 0 0 post 0 0 77 [(0, .ref (ad 90)), (1, .int (Int32.ofInt ((s : Int)))), (2, .int (Int32.ofInt ((sWho G s : Int)))), (3, .int (Int32.ofInt ((sWhs G s : Int)))), (4, .int (Int32.ofInt ((sWhi G s : Int)))), (5, .int (Int32.ofInt ((sWhn G s : Int)))), (6, .int (Int32.ofInt ((f : Int))))] [] w
  | 0, f, w, hm, hG, hM, hK, hh, hl, ho, hk, kk => by
    obtain ⟨s91, e91, -⟩ := g91s
    have b3 := hB.b3
    obtain ⟨⟨w6, o6, i6, n24⟩, -⟩ := say_b hB hs
    have hW : W91 G w := fun j hj => (ho 91 j (by omega) (by omega) (by omega) (by omega)).trans (hW0 j hj)
    refine V_iload (v := Int32.ofInt ((f : Int))) mi_236_77 (by simp [stL, lv_args, Value.category]) ?_
    refine V_aload (v := ad 90) mi_236_79 (by simp [stL, lv_args, Value.category]) ?_
    refine V_getI mi_236_80 hG (rref gr1m (by omega) hG) ?_
    refine V_ipush mi_236_83 ?_
    refine V_aldX (j := 3) mi_236_84 rfl hG e91 (by omega) (by omega) (hW _ (by omega)) ?_
    refine V_cge mi_236_85 ⟨by omega, by omega⟩ ⟨by omega, by omega⟩ (fun q => ?_) (fun q => ?_)
    · have e : f = (G 3).toNat := by omega
      subst e
      exact V_retV mi_236_200 (kk w hG hM hK hh hl ho)
    · exact absurd q (by omega)
  | m + 1, f, w, hm, hG, hM, hK, hh, hl, ho, hk, kk => by
    obtain ⟨s91, e91, -⟩ := g91s
    have b3 := hB.b3
    obtain ⟨⟨w6, o6, i6, n24⟩, -⟩ := say_b hB hs
    have hW : W91 G w := fun j hj => (ho 91 j (by omega) (by omega) (by omega) (by omega)).trans (hW0 j hj)
    refine V_iload (v := Int32.ofInt ((f : Int))) mi_236_77 (by simp [stL, lv_args, Value.category]) ?_
    refine V_aload (v := ad 90) mi_236_79 (by simp [stL, lv_args, Value.category]) ?_
    refine V_getI mi_236_80 hG (rref gr1m (by omega) hG) ?_
    refine V_ipush mi_236_83 ?_
    refine V_aldX (j := 3) mi_236_84 rfl hG e91 (by omega) (by omega) (hW _ (by omega)) ?_
    refine V_cge mi_236_85 ⟨by omega, by omega⟩ ⟨by omega, by omega⟩ (fun q => ?_) (fun q => ?_)
    · exact absurd q (by omega)
    · refine V_iload (v := Int32.ofInt ((f : Int))) mi_236_88 (by simp [stL, lv_args, Value.category]) ?_
      refine V_iload (v := Int32.ofInt ((sWho G s : Int))) mi_236_90 (by simp [stL, lv_args, Value.category]) ?_
      refine V_ceq mi_236_91 ⟨by omega, by omega⟩ ⟨by omega, by omega⟩ (fun q2 => ?_) (fun q2 => ?_)
      · have pp : preP G s f = false := by unfold preP; rw [show f = sWho G s by omega, Nat.beq_refl]; rfl
        refine V_iinc (v := Int32.ofInt ((f : Int))) mi_236_194 (by simp [stL, lv_args, Value.category]) ?_
        rw [ia2]
        refine V_goto mi_236_197 ?_
        refine V_sub (lv' := [(0, .ref (ad 90)), (1, .int (Int32.ofInt ((s : Int)))), (2, .int (Int32.ofInt ((sWho G s : Int)))), (3, .int (Int32.ofInt ((sWhs G s : Int)))), (4, .int (Int32.ofInt ((sWhi G s : Int)))), (5, .int (Int32.ofInt ((sWhn G s : Int)))), (6, .int (Int32.ofInt (((f + 1 : Nat) : Int))))]) (fun q hq => ?_) ?_
        · simp only [List.mem_cons, List.not_mem_nil, or_false] at hq
          rcases hq with rfl | rfl | rfl | rfl | rfl | rfl | rfl <;> simp [stL, lv_args, Value.category]
        have pf : (pW G he s x) f = false := by unfold pW; rw [pp]; rfl
        have lf : lrW (pW G he s x) G K s f = false := by unfold lrW; rw [pf, Bool.false_and]
        exact syw_77 E hB hs hW0 m (f + 1) w (by omega) hG (by rw [E.dn s x f pp]; exact hM) (by rw [spW_skip pf]; exact hK) (by unfold orI; rw [pf, if_neg Bool.false_ne_true]; exact hh) (by unfold orI; rw [lf, if_neg Bool.false_ne_true]; exact hl) ho hk kk
      · have nb : Nat.beq f (sWho G s) = false := by
          cases h : Nat.beq f (sWho G s)
          · rfl
          · exact absurd (by rw [Nat.eq_of_beq_eq_true h]) q2
        refine V_aload (v := ad 90) mi_236_94 (by simp [stL, lv_args, Value.category]) ?_
        refine V_iload (v := Int32.ofInt ((f : Int))) mi_236_95 (by simp [stL, lv_args, Value.category]) ?_
        refine V_iload (v := Int32.ofInt ((sWhn G s : Int))) mi_236_97 (by simp [stL, lv_args, Value.category]) ?_
        refine V_callM (As := [.int (Int32.ofInt ((f : Int))), .int (Int32.ofInt ((sWhn G s : Int)))]) (st := []) mi_236_99 (by omega) (by decide +kernel) (by decide +kernel) hG (mpl_ct (f := f) (h := sWhn G s) hG hW hB (by omega) n24) (by omega) (show 2 = mN 207 by decide +kernel) (by simp [Value.category]) ?_
        rintro r w1 ⟨e1, rfl⟩
        rw [e1]
        refine V_aload (v := ad 90) mi_236_102 (by simp [stL, lv_args, Value.category]) ?_
        refine V_iload (v := Int32.ofInt ((sWho G s : Int))) mi_236_103 (by simp [stL, lv_args, Value.category]) ?_
        refine V_iload (v := Int32.ofInt ((sWhn G s : Int))) mi_236_104 (by simp [stL, lv_args, Value.category]) ?_
        refine V_callM (As := [.int (Int32.ofInt ((sWho G s : Int))), .int (Int32.ofInt ((sWhn G s : Int)))]) (st := [.int (Int32.ofInt (G (102 + (24 * f + sWhn G s))))]) mi_236_106 (by omega) (by decide +kernel) (by decide +kernel) hG (mpl_ct (f := sWho G s) (h := sWhn G s) hG hW hB w6 n24) (by omega) (show 2 = mN 207 by decide +kernel) (by simp [Value.category]) ?_
        rintro r w2 ⟨e2, rfl⟩
        rw [e2]
        have p1 := hB.bp (24 * f + sWhn G s) (by omega)
        have p2 := hB.bp (24 * sWho G s + sWhn G s) (by omega)
        refine V_cne mi_236_109 ⟨by omega, by omega⟩ ⟨by omega, by omega⟩ (fun q3 => ?_) (fun q3 => ?_)
        · have pp : preP G s f = false := by unfold preP; rw [decide_eq_false q3, Bool.and_false]
          refine V_iinc (v := Int32.ofInt ((f : Int))) mi_236_194 (by simp [stL, lv_args, Value.category]) ?_
          rw [ia2]
          refine V_goto mi_236_197 ?_
          refine V_sub (lv' := [(0, .ref (ad 90)), (1, .int (Int32.ofInt ((s : Int)))), (2, .int (Int32.ofInt ((sWho G s : Int)))), (3, .int (Int32.ofInt ((sWhs G s : Int)))), (4, .int (Int32.ofInt ((sWhi G s : Int)))), (5, .int (Int32.ofInt ((sWhn G s : Int)))), (6, .int (Int32.ofInt (((f + 1 : Nat) : Int))))]) (fun q hq => ?_) ?_
          · simp only [List.mem_cons, List.not_mem_nil, or_false] at hq
            rcases hq with rfl | rfl | rfl | rfl | rfl | rfl | rfl <;> simp [stL, lv_args, Value.category]
          have pf : (pW G he s x) f = false := by unfold pW; rw [pp]; rfl
          have lf : lrW (pW G he s x) G K s f = false := by unfold lrW; rw [pf, Bool.false_and]
          exact syw_77 E hB hs hW0 m (f + 1) w (by omega) hG (by rw [E.dn s x f pp]; exact hM) (by rw [spW_skip pf]; exact hK) (by unfold orI; rw [pf, if_neg Bool.false_ne_true]; exact hh) (by unfold orI; rw [lf, if_neg Bool.false_ne_true]; exact hl) ho hk kk
        · have pp : preP G s f = true := by unfold preP; rw [nb, decide_eq_true q3]; rfl
          obtain ⟨d5, hd5, c5⟩ := E.he s x f w hs (by omega) hG hW hM pp
          refine V_aload (v := ad 90) mi_236_112 (by simp [stL, lv_args, Value.category]) ?_
          refine V_iload (v := Int32.ofInt ((f : Int))) mi_236_113 (by simp [stL, lv_args, Value.category]) ?_
          refine V_iload (v := Int32.ofInt ((s : Int))) mi_236_115 (by simp [stL, lv_args, Value.category]) ?_
          refine V_callM (As := [.int (Int32.ofInt ((f : Int))), .int (Int32.ofInt ((s : Int)))]) (st := []) mi_236_116 (by omega) (by decide +kernel) (by decide +kernel) hG (c5) (by omega) (show 2 = mN 235 by decide +kernel) (by simp [Value.category]) ?_
          rintro r w3 ⟨e3, G3, M3, o3⟩
          rw [e3]
          have hK3 : ∀ j, j < 36 → rd w3 99 j = some (.int (Int32.ofInt (spW (pW G he s x) G s f K j))) := fun j hj => (o3 _ _ (by omega)).trans (hK j hj)
          have hh3 := (o3 100 s (by omega)).trans hh
          have hl3 := (o3 101 s (by omega)).trans hl
          have ho3 : ∀ c j, c ≠ 99 → ¬ (c = 100 ∧ j = s) → ¬ (c = 101 ∧ j = s) → ¬ (c = 90 ∧ j = 25) → rd w3 c j = rd w0 c j := fun c j h1 h2 h3 h4 => (o3 c j h4).trans (ho c j h1 h2 h3 h4)
          refine V_bne mi_236_119  (fun q4 => ?_) (fun q4 => ?_)
          · have pf : (pW G he s x) f = true := by unfold pW; rw [pp, q4]; rfl
            obtain ⟨s99, e99, f99⟩ := a99
            obtain ⟨s100, e100, f100⟩ := a100
            obtain ⟨s101, e101, f101⟩ := a101
            have bh := orI_bd (P := (pW G he s x)) (f := f) (by omega)
            have bl := orI_bd (P := lrW (pW G he s x) G K s) (f := f) (by omega)
            have bk := hk (6 * f + sWhs G s) (by omega)
            obtain ⟨t1, t2, t3⟩ := tb_k (a := K (6 * f + sWhs G s)) (i := (sWhi G s : Int)) bk.1 bk.2 (by omega) (by omega)
            have bb := bitO_bd bh.1 bh.2 (i := (f : Int)) (by omega) (by omega)
            have bc := bitO_bd bk.1 bk.2 (i := (sWhi G s : Int)) (by omega) (by omega)
            have hKn : rd w3 99 (6 * f + sWhs G s) = some (.int (Int32.ofInt (K (6 * f + sWhs G s)))) := by rw [hK3 _ (by omega), spW_new o6]
            refine V_aload (v := ad 90) mi_236_125 (by simp [stL, lv_args, Value.category]) ?_
            refine V_getI mi_236_126 G3 (rref gr19 (by omega) G3) ?_
            refine V_iload (v := Int32.ofInt ((s : Int))) mi_236_129 (by simp [stL, lv_args, Value.category]) ?_
            refine V_dup2 mi_236_130 (by simp [Value.category]) (by simp [Value.category]) ?_
            refine V_aldX (j := s) mi_236_131 rfl G3 e100 (by omega) (by omega) (hh3) ?_
            refine V_ipush mi_236_132 ?_
            refine V_iload (v := Int32.ofInt ((f : Int))) mi_236_133 (by simp [stL, lv_args, Value.category]) ?_
            refine V_ibin mi_236_135 (by omega) ?_
            refine V_ibin mi_236_136 (by omega) ?_
            rw [bitO_i]
            refine V_astX (j := s) mi_236_137 rfl G3 e100 hs (by omega) (f100 s hs) (by rw [Int32.toInt_ofInt_of_le (by omega) (by omega)]; omega) (by rw [Int32.toInt_ofInt_of_le (by omega) (by omega)]; omega) (fun w4 G4 U4 => ?_)
            refine V_aload (v := ad 90) mi_236_138 (by simp [stL, lv_args, Value.category]) ?_
            refine V_getI mi_236_139 G4 (rref gr20 (by omega) G4) ?_
            refine V_iload (v := Int32.ofInt ((s : Int))) mi_236_142 (by simp [stL, lv_args, Value.category]) ?_
            refine V_dup2 mi_236_143 (by simp [Value.category]) (by simp [Value.category]) ?_
            refine V_aldX (j := s) mi_236_144 rfl G4 e101 (by omega) (by omega) ((upd_ne U4 (by omega)).trans hl3) ?_
            refine V_aload (v := ad 90) mi_236_145 (by simp [stL, lv_args, Value.category]) ?_
            refine V_getI mi_236_146 G4 (rref gr17 (by omega) G4) ?_
            refine V_ipush mi_236_149 ?_
            refine V_iload (v := Int32.ofInt ((f : Int))) mi_236_151 (by simp [stL, lv_args, Value.category]) ?_
            refine V_ibin mi_236_153 (by omega) ?_
            rw [ib2]
            refine V_iload (v := Int32.ofInt ((sWhs G s : Int))) mi_236_154 (by simp [stL, lv_args, Value.category]) ?_
            refine V_ibin mi_236_155 (by omega) ?_
            rw [ib0]
            refine V_aldX (j := 6 * f + sWhs G s) mi_236_156 (by rw [show ((6) * ((f : Int))) + ((sWhs G s : Int)) = ((6 * f + sWhs G s : Nat) : Int) by omega]) G4 e99 (by omega) (by omega) ((upd_ne U4 (by omega)).trans hKn) ?_
            refine V_iload (v := Int32.ofInt ((sWhi G s : Int))) mi_236_157 (by simp [stL, lv_args, Value.category]) ?_
            refine V_stat (As := [.int (Int32.ofInt (K (6 * f + sWhs G s))), .int (Int32.ofInt ((sWhi G s : Int)))]) (st := [.int (Int32.ofInt (orI (lrW (pW G he s x) G K s) f)), .int (Int32.ofInt ((s : Int))), .ref (ad 101)]) mi_236_159 (by omega) (bit_ct _ _ _) (by omega) (show 2 = mN 195 by decide +kernel) (by simp [Value.category]) ⟨Nat.le_refl _, Nat.le_refl _⟩ ?_
            rintro r w5 ⟨e5, rfl⟩
            rw [e5, t1]
            change V l D tys A 236 5 0 0 _ 0 0 _ _ (.int (bI (tb (K (6 * f + sWhs G s)) (sWhi G s : Int))) :: _) _
            refine V_bne mi_236_162  (fun q5 => ?_) (fun q5 => ?_)
            · have lf : lrW (pW G he s x) G K s f = false := by unfold lrW; rw [pf, q5]; rfl
              refine V_ipush mi_236_172 ?_
              refine V_ibin mi_236_173 (by omega) ?_
              rw [or0]
              refine V_astX (j := s) mi_236_174 rfl G4 e101 hs (by omega) (f101 s hs) (by rw [Int32.toInt_ofInt_of_le (by omega) (by omega)]; omega) (by rw [Int32.toInt_ofInt_of_le (by omega) (by omega)]; omega) (fun w6 G6 U6 => ?_)
              refine V_aload (v := ad 90) mi_236_175 (by simp [stL, lv_args, Value.category]) ?_
              refine V_getI mi_236_176 G6 (rref gr17 (by omega) G6) ?_
              refine V_ipush mi_236_179 ?_
              refine V_iload (v := Int32.ofInt ((f : Int))) mi_236_181 (by simp [stL, lv_args, Value.category]) ?_
              refine V_ibin mi_236_183 (by omega) ?_
              rw [ib2]
              refine V_iload (v := Int32.ofInt ((sWhs G s : Int))) mi_236_184 (by simp [stL, lv_args, Value.category]) ?_
              refine V_ibin mi_236_185 (by omega) ?_
              rw [ib0]
              rw [show 6 * (f : Int) + (sWhs G s : Int) = ((6 * f + sWhs G s : Nat) : Int) by omega]
              refine V_dup2 mi_236_186 (by simp [Value.category]) (by simp [Value.category]) ?_
              refine V_aldX (j := 6 * f + sWhs G s) mi_236_187 rfl G6 e99 (by omega) (by omega) ((upd_ne U6 (by omega)).trans ((upd_ne U4 (by omega)).trans hKn)) ?_
              refine V_ipush mi_236_188 ?_
              refine V_iload (v := Int32.ofInt ((sWhi G s : Int))) mi_236_189 (by simp [stL, lv_args, Value.category]) ?_
              refine V_ibin mi_236_191 (by omega) ?_
              refine V_ibin mi_236_192 (by omega) ?_
              rw [bitO_i]
              refine V_astX (j := 6 * f + sWhs G s) mi_236_193 rfl G6 e99 (by omega) (by omega) (f99 _ (by omega)) (by rw [Int32.toInt_ofInt_of_le (by omega) (by omega)]; omega) (by rw [Int32.toInt_ofInt_of_le (by omega) (by omega)]; omega) (fun w7 G7 U7 => ?_)
              refine V_iinc (v := Int32.ofInt ((f : Int))) mi_236_194 (by simp [stL, lv_args, Value.category]) ?_
              rw [ia2]
              refine V_goto mi_236_197 ?_
              refine V_sub (lv' := [(0, .ref (ad 90)), (1, .int (Int32.ofInt ((s : Int)))), (2, .int (Int32.ofInt ((sWho G s : Int)))), (3, .int (Int32.ofInt ((sWhs G s : Int)))), (4, .int (Int32.ofInt ((sWhi G s : Int)))), (5, .int (Int32.ofInt ((sWhn G s : Int)))), (6, .int (Int32.ofInt (((f + 1 : Nat) : Int))))]) (fun q hq => ?_) ?_
              · simp only [List.mem_cons, List.not_mem_nil, or_false] at hq
                rcases hq with rfl | rfl | rfl | rfl | rfl | rfl | rfl <;> simp [stL, lv_args, Value.category]
              have oo : ∀ c j, c ≠ 99 → ¬ (c = 100 ∧ j = s) → ¬ (c = 101 ∧ j = s) → rd w7 c j = rd w3 c j := fun c j h1 h2 h3 => (upd_ne U7 (by omega)).trans ((upd_ne U6 (by omega)).trans (upd_ne U4 (by omega)))
              refine syw_77 E hB hs hW0 m (f + 1) w7 (by omega) G7 (E.kp _ w3 w7 M3 (fun c j h1 h2 => oo c j (by omega) (by omega) (by omega))) (fun j hj => ?_) ?_ ?_ (fun c j h1 h2 h3 h4 => (oo c j h1 h2 h3).trans (ho3 c j h1 h2 h3 h4)) hk kk
              · rw [spW_step pf o6]
                show _ = some (Value.int (Int32.ofInt (if j = 6 * f + sWhs G s then _ else _)))
                by_cases e : j = 6 * f + sWhs G s
                · rw [if_pos e, e]
                  exact upd_eq U7
                · rw [if_neg e]
                  exact (upd_ne U7 (by omega)).trans ((upd_ne U6 (by omega)).trans ((upd_ne U4 (by omega)).trans (hK3 j hj)))
              · unfold orI
                rw [pf, if_pos rfl]
                exact (upd_ne U7 (by omega)).trans ((upd_ne U6 (by omega)).trans (upd_eq U4))
              · unfold orI
                rw [lf, if_neg Bool.false_ne_true]
                exact (upd_ne U7 (by omega)).trans (upd_eq U6)
            · have lf : lrW (pW G he s x) G K s f = true := by unfold lrW; rw [pf, q5]; rfl
              have bd := bitO_bd bl.1 bl.2 (i := (f : Int)) (by omega) (by omega)
              refine V_ipush mi_236_165 ?_
              refine V_iload (v := Int32.ofInt ((f : Int))) mi_236_166 (by simp [stL, lv_args, Value.category]) ?_
              refine V_ibin mi_236_168 (by omega) ?_
              refine V_goto mi_236_169 ?_
              refine V_ibin mi_236_173 (by omega) ?_
              rw [bitO_i]
              refine V_astX (j := s) mi_236_174 rfl G4 e101 hs (by omega) (f101 s hs) (by rw [Int32.toInt_ofInt_of_le (by omega) (by omega)]; omega) (by rw [Int32.toInt_ofInt_of_le (by omega) (by omega)]; omega) (fun w6 G6 U6 => ?_)
              refine V_aload (v := ad 90) mi_236_175 (by simp [stL, lv_args, Value.category]) ?_
              refine V_getI mi_236_176 G6 (rref gr17 (by omega) G6) ?_
              refine V_ipush mi_236_179 ?_
              refine V_iload (v := Int32.ofInt ((f : Int))) mi_236_181 (by simp [stL, lv_args, Value.category]) ?_
              refine V_ibin mi_236_183 (by omega) ?_
              rw [ib2]
              refine V_iload (v := Int32.ofInt ((sWhs G s : Int))) mi_236_184 (by simp [stL, lv_args, Value.category]) ?_
              refine V_ibin mi_236_185 (by omega) ?_
              rw [ib0]
              rw [show 6 * (f : Int) + (sWhs G s : Int) = ((6 * f + sWhs G s : Nat) : Int) by omega]
              refine V_dup2 mi_236_186 (by simp [Value.category]) (by simp [Value.category]) ?_
              refine V_aldX (j := 6 * f + sWhs G s) mi_236_187 rfl G6 e99 (by omega) (by omega) ((upd_ne U6 (by omega)).trans ((upd_ne U4 (by omega)).trans hKn)) ?_
              refine V_ipush mi_236_188 ?_
              refine V_iload (v := Int32.ofInt ((sWhi G s : Int))) mi_236_189 (by simp [stL, lv_args, Value.category]) ?_
              refine V_ibin mi_236_191 (by omega) ?_
              refine V_ibin mi_236_192 (by omega) ?_
              rw [bitO_i]
              refine V_astX (j := 6 * f + sWhs G s) mi_236_193 rfl G6 e99 (by omega) (by omega) (f99 _ (by omega)) (by rw [Int32.toInt_ofInt_of_le (by omega) (by omega)]; omega) (by rw [Int32.toInt_ofInt_of_le (by omega) (by omega)]; omega) (fun w7 G7 U7 => ?_)
              refine V_iinc (v := Int32.ofInt ((f : Int))) mi_236_194 (by simp [stL, lv_args, Value.category]) ?_
              rw [ia2]
              refine V_goto mi_236_197 ?_
              refine V_sub (lv' := [(0, .ref (ad 90)), (1, .int (Int32.ofInt ((s : Int)))), (2, .int (Int32.ofInt ((sWho G s : Int)))), (3, .int (Int32.ofInt ((sWhs G s : Int)))), (4, .int (Int32.ofInt ((sWhi G s : Int)))), (5, .int (Int32.ofInt ((sWhn G s : Int)))), (6, .int (Int32.ofInt (((f + 1 : Nat) : Int))))]) (fun q hq => ?_) ?_
              · simp only [List.mem_cons, List.not_mem_nil, or_false] at hq
                rcases hq with rfl | rfl | rfl | rfl | rfl | rfl | rfl <;> simp [stL, lv_args, Value.category]
              have oo : ∀ c j, c ≠ 99 → ¬ (c = 100 ∧ j = s) → ¬ (c = 101 ∧ j = s) → rd w7 c j = rd w3 c j := fun c j h1 h2 h3 => (upd_ne U7 (by omega)).trans ((upd_ne U6 (by omega)).trans (upd_ne U4 (by omega)))
              refine syw_77 E hB hs hW0 m (f + 1) w7 (by omega) G7 (E.kp _ w3 w7 M3 (fun c j h1 h2 => oo c j (by omega) (by omega) (by omega))) (fun j hj => ?_) ?_ ?_ (fun c j h1 h2 h3 h4 => (oo c j h1 h2 h3).trans (ho3 c j h1 h2 h3 h4)) hk kk
              · rw [spW_step pf o6]
                show _ = some (Value.int (Int32.ofInt (if j = 6 * f + sWhs G s then _ else _)))
                by_cases e : j = 6 * f + sWhs G s
                · rw [if_pos e, e]
                  exact upd_eq U7
                · rw [if_neg e]
                  exact (upd_ne U7 (by omega)).trans ((upd_ne U6 (by omega)).trans ((upd_ne U4 (by omega)).trans (hK3 j hj)))
              · unfold orI
                rw [pf, if_pos rfl]
                exact (upd_ne U7 (by omega)).trans ((upd_ne U6 (by omega)).trans (upd_eq U4))
              · unfold orI
                rw [lf, if_pos rfl]
                exact (upd_ne U7 (by omega)).trans (upd_eq U6)
          · refine V_goto mi_236_122 ?_
            refine V_iinc (v := Int32.ofInt ((f : Int))) mi_236_194 (by simp [stL, lv_args, Value.category]) ?_
            rw [ia2]
            refine V_goto mi_236_197 ?_
            refine V_sub (lv' := [(0, .ref (ad 90)), (1, .int (Int32.ofInt ((s : Int)))), (2, .int (Int32.ofInt ((sWho G s : Int)))), (3, .int (Int32.ofInt ((sWhs G s : Int)))), (4, .int (Int32.ofInt ((sWhi G s : Int)))), (5, .int (Int32.ofInt ((sWhn G s : Int)))), (6, .int (Int32.ofInt (((f + 1 : Nat) : Int))))]) (fun q hq => ?_) ?_
            · simp only [List.mem_cons, List.not_mem_nil, or_false] at hq
              rcases hq with rfl | rfl | rfl | rfl | rfl | rfl | rfl <;> simp [stL, lv_args, Value.category]
            have pf : (pW G he s x) f = false := by unfold pW; rw [pp, q4]; rfl
            have lf : lrW (pW G he s x) G K s f = false := by unfold lrW; rw [pf, Bool.false_and]
            exact syw_77 E hB hs hW0 m (f + 1) w3 (by omega) G3 M3 (by rw [spW_skip pf]; exact hK3) (by unfold orI; rw [pf, if_neg Bool.false_ne_true]; exact hh3) (by unfold orI; rw [lf, if_neg Bool.false_ne_true]; exact hl3) ho3 hk kk
theorem sayw_ct (E : HEA l D tys A ad G hz hu he dx Mo) {S : TT × Int} {w0 : va_W} {s : Nat} (hB : HB G) (hs : s < 12) (hW0 : W91 G w0) (hT : TMW ad tys Mo S w0 ws) (hb0 : S.1.hb s = 0) (lb0 : S.1.lb s = 0) : CT l D tys A 236 5 0 0 [.ref (ad 90), .int (Int32.ofInt ((s : Int)))] ws (fun r w => r = none ∧ TMW ad tys Mo (oneW G hu he dx s S) w0 w) := by
  refine CT_of_V (by omega) (show (2 : Nat) ≤ mML 236 by decide +kernel) ?_
  obtain ⟨⟨w6, o6, i6, n24⟩, g0, g1, g2, g3⟩ := say_b hB hs
  obtain ⟨s99, e99, f99⟩ := a99
  have b3 := hB.b3
  have hW : W91 G ws := fun j hj => (hT.o 91 j (by omega) (by omega)).trans (hW0 j hj)
  have bk := hT.b (6 * sWho G s + sWhs G s) (by omega)
  obtain ⟨t1, t2, t3⟩ := tb_k (a := S.1.K (6 * sWho G s + sWhs G s)) (i := (sWhi G s : Int)) bk.1 bk.2 (by omega) (by omega)
  refine V_aload (v := ad 90) mi_236_0 (by simp [stL, lv_args, Value.category]) ?_
  refine V_iload (v := Int32.ofInt ((s : Int))) mi_236_1 (by simp [stL, lv_args, Value.category]) ?_
  refine V_ipush mi_236_2 ?_
  refine V_callM (As := [.int (Int32.ofInt ((s : Int))), .int (Int32.ofInt (0))]) (st := []) mi_236_3 (by omega) (by decide +kernel) (by decide +kernel) hT.g (mos_ct (k := s) (a := 0) hT.g hW hB hs (by omega)) (by omega) (show 2 = mN 208 by decide +kernel) (by simp [Value.category]) ?_
  rintro r w1 ⟨e1, rfl⟩
  rw [e1]
  rw [show G (246 + 4 * s + 0) = G (246 + 4 * s) from rfl, g0]
  refine V_istore mi_236_6 ?_
  refine V_aload (v := ad 90) mi_236_7 (by simp [stL, lv_args, Value.category]) ?_
  refine V_iload (v := Int32.ofInt ((s : Int))) mi_236_8 (by simp [stL, lv_args, Value.category]) ?_
  refine V_ipush mi_236_9 ?_
  refine V_callM (As := [.int (Int32.ofInt ((s : Int))), .int (Int32.ofInt (1))]) (st := []) mi_236_10 (by omega) (by decide +kernel) (by decide +kernel) hT.g (mos_ct (k := s) (a := 1) hT.g hW hB hs (by omega)) (by omega) (show 2 = mN 208 by decide +kernel) (by simp [Value.category]) ?_
  rintro r w1 ⟨e1, rfl⟩
  rw [e1]
  rw [g1]
  refine V_istore mi_236_13 ?_
  refine V_aload (v := ad 90) mi_236_14 (by simp [stL, lv_args, Value.category]) ?_
  refine V_iload (v := Int32.ofInt ((s : Int))) mi_236_15 (by simp [stL, lv_args, Value.category]) ?_
  refine V_ipush mi_236_16 ?_
  refine V_callM (As := [.int (Int32.ofInt ((s : Int))), .int (Int32.ofInt (2))]) (st := []) mi_236_17 (by omega) (by decide +kernel) (by decide +kernel) hT.g (mos_ct (k := s) (a := 2) hT.g hW hB hs (by omega)) (by omega) (show 2 = mN 208 by decide +kernel) (by simp [Value.category]) ?_
  rintro r w1 ⟨e1, rfl⟩
  rw [e1]
  rw [g2]
  refine V_istore mi_236_20 ?_
  refine V_aload (v := ad 90) mi_236_22 (by simp [stL, lv_args, Value.category]) ?_
  refine V_getI mi_236_23 hT.g (E.hz _ _ hT.m) ?_
  refine V_iload (v := Int32.ofInt ((s : Int))) mi_236_26 (by simp [stL, lv_args, Value.category]) ?_
  refine V_stat (As := [.int (hz), .int (Int32.ofInt ((s : Int)))]) (st := []) mi_236_27 (by omega) (bit_ct _ _ _) (by omega) (show 2 = mN 195 by decide +kernel) (by simp [Value.category]) ⟨Nat.le_refl _, Nat.le_refl _⟩ ?_
  rintro r w1 ⟨e1, rfl⟩
  rw [e1, E.hu s hs]
  change V l D tys A 236 5 0 0 _ 0 0 _ _ (.int (Int32.ofInt (if hu s = true then 1 else 0)) :: _) _
  refine V_ipush mi_236_30 ?_
  refine V_ceq mi_236_31 ⟨by split <;> omega, by split <;> omega⟩ ⟨by omega, by omega⟩ (fun q => ?_) (fun q => ?_)
  · have hz1 : ¬ (hu s = false ∧ canB G S.1.K s = true) := fun k => by
      rw [k.1, if_neg Bool.false_ne_true] at q
      omega
    refine V_retV mi_236_53 ⟨rfl, ?_⟩
    unfold oneW
    rw [if_neg hz1]
    exact hT
  · have hn : hu s = false := by
      cases c : hu s with
      | false => rfl
      | true => exact absurd (by rw [if_pos c]) q
    refine V_aload (v := ad 90) mi_236_34 (by simp [stL, lv_args, Value.category]) ?_
    refine V_getI mi_236_35 hT.g (rref gr17 (by omega) hT.g) ?_
    refine V_ipush mi_236_38 ?_
    refine V_iload (v := Int32.ofInt ((sWho G s : Int))) mi_236_40 (by simp [stL, lv_args, Value.category]) ?_
    refine V_ibin mi_236_41 (by omega) ?_
    rw [ib2]
    refine V_iload (v := Int32.ofInt ((sWhs G s : Int))) mi_236_42 (by simp [stL, lv_args, Value.category]) ?_
    refine V_ibin mi_236_43 (by omega) ?_
    rw [ib0]
    refine V_aldX (j := 6 * sWho G s + sWhs G s) mi_236_44 (by rw [show ((6) * ((sWho G s : Int))) + ((sWhs G s : Int)) = ((6 * sWho G s + sWhs G s : Nat) : Int) by omega]) hT.g e99 (by omega) (by omega) (hT.k _ (by omega)) ?_
    refine V_iload (v := Int32.ofInt ((sWhi G s : Int))) mi_236_45 (by simp [stL, lv_args, Value.category]) ?_
    refine V_stat (As := [.int (Int32.ofInt (S.1.K (6 * sWho G s + sWhs G s))), .int (Int32.ofInt ((sWhi G s : Int)))]) (st := []) mi_236_47 (by omega) (bit_ct _ _ _) (by omega) (show 2 = mN 195 by decide +kernel) (by simp [Value.category]) ⟨Nat.le_refl _, Nat.le_refl _⟩ ?_
    rintro r w2 ⟨e2, rfl⟩
    rw [e2, t1]
    change V l D tys A 236 5 0 0 _ 0 0 _ _ (.int (bI (canB G S.1.K s)) :: _) _
    refine V_bne mi_236_50  (fun q2 => ?_) (fun q2 => ?_)
    · refine V_aload (v := ad 90) mi_236_54 (by simp [stL, lv_args, Value.category]) ?_
      refine V_dup mi_236_55 (by simp [Value.category]) ?_
      refine V_getI mi_236_56 hT.g (hT.s) ?_
      refine V_ipush mi_236_59 ?_
      refine V_iload (v := Int32.ofInt ((s : Int))) mi_236_60 (by simp [stL, lv_args, Value.category]) ?_
      refine V_ibin mi_236_61 (by omega) ?_
      refine V_ibin mi_236_62 (by omega) ?_
      refine V_putI mi_236_63 hT.g f18m (by omega) rfl (by decide +kernel) (i32b _).1 (i32b _).2 (fun w3 G3 U3 => ?_)
      have hW3 : W91 G w3 := fun j hj => (upd_ne U3 (by omega)).trans (hW j hj)
      refine V_aload (v := ad 90) mi_236_66 (by simp [stL, lv_args, Value.category]) ?_
      refine V_iload (v := Int32.ofInt ((s : Int))) mi_236_67 (by simp [stL, lv_args, Value.category]) ?_
      refine V_ipush mi_236_68 ?_
      refine V_callM (As := [.int (Int32.ofInt ((s : Int))), .int (Int32.ofInt (3))]) (st := []) mi_236_69 (by omega) (by decide +kernel) (by decide +kernel) G3 (mos_ct (k := s) (a := 3) G3 hW3 hB hs (by omega)) (by omega) (show 2 = mN 208 by decide +kernel) (by simp [Value.category]) ?_
      rintro r w4 ⟨e4, rfl⟩
      rw [e4, g3]
      refine V_istore mi_236_72 ?_
      refine V_ipush mi_236_74 ?_
      refine V_istore mi_236_75 ?_
      refine V_sub (lv' := [(0, .ref (ad 90)), (1, .int (Int32.ofInt ((s : Int)))), (2, .int (Int32.ofInt ((sWho G s : Int)))), (3, .int (Int32.ofInt ((sWhs G s : Int)))), (4, .int (Int32.ofInt ((sWhi G s : Int)))), (5, .int (Int32.ofInt ((sWhn G s : Int)))), (6, .int (Int32.ofInt (((0 : Nat) : Int))))]) (fun q hq => ?_) ?_
      · simp only [List.mem_cons, List.not_mem_nil, or_false] at hq
        rcases hq with rfl | rfl | rfl | rfl | rfl | rfl | rfl <;> simp [stL, lv_args, Value.category]
      refine syw_77 E (K := S.1.K) (x := S.2) hB hs hW3 (G 3).toNat 0 w3 (by omega) G3 (by rw [E.d0]; exact E.kp _ ws w3 hT.m (fun c j h1 h2 => upd_ne U3 (by omega))) (by rw [spW_0]; exact fun j hj => (upd_ne U3 (by omega)).trans (hT.k j hj)) ((upd_ne U3 (by omega)).trans ((hT.h s hs).trans (by rw [hb0]; rfl))) ((upd_ne U3 (by omega)).trans ((hT.lr s hs).trans (by rw [lb0]; rfl))) (fun _ _ _ _ _ _ => rfl) hT.b (fun w5 G5 M5 k5 h5 l5 o5 => ?_)
      refine ⟨rfl, ?_⟩
      unfold oneW
      rw [if_pos ⟨hn, q2⟩]
      refine ⟨G5, k5, (o5 _ _ (by omega) (by omega) (by omega) (by omega)).trans (upd_eq U3), fun i hi => ?_, fun i hi => ?_, fun c j h1 h2 => (o5 _ _ (by omega) (by omega) (by omega) (by omega)).trans ((upd_ne U3 (by omega)).trans (hT.o c j h1 h2)), spW_ok hT.b i6, M5⟩
      · show _ = some (Value.int (Int32.ofInt (if i = s then _ else S.1.hb i)))
        by_cases e : i = s
        · rw [if_pos e, e]
          exact h5
        · rw [if_neg e]
          exact (o5 _ _ (by omega) (by omega) (by omega) (by omega)).trans ((upd_ne U3 (by omega)).trans (hT.h i hi))
      · show _ = some (Value.int (Int32.ofInt (if i = s then _ else S.1.lb i)))
        by_cases e : i = s
        · rw [if_pos e, e]
          exact l5
        · rw [if_neg e]
          exact (o5 _ _ (by omega) (by omega) (by omega) (by omega)).trans ((upd_ne U3 (by omega)).trans (hT.lr i hi))
    · refine V_retV mi_236_53 ⟨rfl, ?_⟩
      unfold oneW
      rw [if_neg (fun k => by rw [q2] at k; exact absurd k.2 Bool.false_ne_true)]
      exact hT
noncomputable def unW (G : Nat → Int) (S : TT × Int) (h s0 : Nat) : Prop := ∀ s, s < 12 → (h < sWhn G s ∨ (sWhn G s = h ∧ s0 ≤ s)) → S.1.hb s = 0 ∧ S.1.lb s = 0
theorem unW_one {G : Nat → Int} {S : TT × Int} {h s : Nat} (u : unW G S h s) (e : sWhn G s = h) : unW G (oneW G hu he dx s S) h (s + 1) := fun i hi hq => by
  have q := u i hi (by omega)
  have ne : i ≠ s := fun q => by rw [q] at hq; omega
  unfold oneW
  split
  · exact ⟨(updI_ne ne).trans q.1, (updI_ne ne).trans q.2⟩
  · exact q
theorem unW_skip {G : Nat → Int} {S : TT × Int} {h s : Nat} (u : unW G S h s) : unW G S h (s + 1) := fun i hi hq => u i hi (by omega)
theorem unW_next {G : Nat → Int} {S : TT × Int} {h s : Nat} (u : unW G S h s) : unW G S (h + 1) 0 := fun i hi hq => u i hi (by omega)
theorem TMW_re {S : TT × Int} {w0 w : va_W} (h : TMW ad tys Mo S w0 w) : TMW ad tys Mo S w w := ⟨h.g, h.k, h.s, h.h, h.lr, fun _ _ _ _ => rfl, h.b, h.m⟩
noncomputable def KNW (G : Nat → Int) (hu : Nat → Bool) (he : Nat → Int → Nat → Bool) (dx : Nat → Int → Nat → Int) (x0 : Int) (n : Nat) (w : va_W) : Prop := ∀ h, h < n → ∀ j, j < 36 → rd w 98 (36 * h + j) = some (.int (Int32.ofInt ((tellW G hu he dx x0 h).1.K j)))
theorem gow_113 (E : HEA l D tys A ad G hz hu he dx Mo) {S : TT × Int} {w0 : va_W} {post : Option Value → va_W → Prop} {h : Nat} (h24 : h ≤ 24) : ∀ (m k : Nat) (w : va_W), k + m = 36 → TMW ad tys Mo S w w → (∀ c j, c ≠ 98 → rd w c j = rd w0 c j) → (∀ j, j < 36 * h → rd w 98 j = rd w0 98 j) → (∀ j, j < k → rd w 98 (36 * h + j) = some (.int (Int32.ofInt (S.1.K j)))) → (∀ w' : va_W, TMW ad tys Mo S w' w' → (∀ c j, c ≠ 98 → rd w' c j = rd w0 c j) → (∀ j, j < 36 * h → rd w' 98 j = rd w0 98 j) → (∀ j, j < 36 → rd w' 98 (36 * h + j) = some (.int (Int32.ofInt (S.1.K j)))) → V l D tys A 237 7 0 0 post 0 0 145 [(0, .ref (ad 90)), (1, .int (Int32.ofInt ((h : Int))))] [] w') → V l D tys A 237 7 0 0 post 0 0 113 [(0, .ref (ad 90)), (1, .int (Int32.ofInt ((h : Int)))), (2, .int (Int32.ofInt ((k : Int))))] [] w
  | 0, k, w, hm, hT, ho, hp, hd, kk => by
    obtain ⟨s99, e99, f99⟩ := a99
    obtain ⟨s98, e98, f98⟩ := a98
    refine V_iload (v := Int32.ofInt ((k : Int))) mi_237_113 (by simp [stL, lv_args, Value.category]) ?_
    refine V_aload (v := ad 90) mi_237_114 (by simp [stL, lv_args, Value.category]) ?_
    refine V_getI mi_237_115 hT.g (rref gr17 (by omega) hT.g) ?_
    refine V_lenA mi_237_118 hT.g e99 ?_
    refine V_cge mi_237_119 ⟨by omega, by omega⟩ ⟨by omega, by omega⟩ (fun q => ?_) (fun q => ?_)
    · have e : k = 36 := by omega
      subst e
      refine V_sub (lv' := [(0, .ref (ad 90)), (1, .int (Int32.ofInt ((h : Int))))]) (fun q hq => ?_) ?_
      · simp only [List.mem_cons, List.not_mem_nil, or_false] at hq
        rcases hq with rfl | rfl <;> simp [stL, lv_args, Value.category]
      exact kk w hT ho hp hd
    · exact absurd q (by omega)
  | m + 1, k, w, hm, hT, ho, hp, hd, kk => by
    obtain ⟨s99, e99, f99⟩ := a99
    obtain ⟨s98, e98, f98⟩ := a98
    refine V_iload (v := Int32.ofInt ((k : Int))) mi_237_113 (by simp [stL, lv_args, Value.category]) ?_
    refine V_aload (v := ad 90) mi_237_114 (by simp [stL, lv_args, Value.category]) ?_
    refine V_getI mi_237_115 hT.g (rref gr17 (by omega) hT.g) ?_
    refine V_lenA mi_237_118 hT.g e99 ?_
    refine V_cge mi_237_119 ⟨by omega, by omega⟩ ⟨by omega, by omega⟩ (fun q => ?_) (fun q => ?_)
    · exact absurd q (by omega)
    · have bk := hT.b k (by omega)
      refine V_aload (v := ad 90) mi_237_122 (by simp [stL, lv_args, Value.category]) ?_
      refine V_getI mi_237_123 hT.g (rref gr16 (by omega) hT.g) ?_
      refine V_ipush mi_237_126 ?_
      refine V_iload (v := Int32.ofInt ((h : Int))) mi_237_128 (by simp [stL, lv_args, Value.category]) ?_
      refine V_ibin mi_237_129 (by omega) ?_
      rw [ib2]
      refine V_iload (v := Int32.ofInt ((k : Int))) mi_237_130 (by simp [stL, lv_args, Value.category]) ?_
      refine V_ibin mi_237_131 (by omega) ?_
      rw [ib0]
      refine V_aload (v := ad 90) mi_237_132 (by simp [stL, lv_args, Value.category]) ?_
      refine V_getI mi_237_133 hT.g (rref gr17 (by omega) hT.g) ?_
      refine V_iload (v := Int32.ofInt ((k : Int))) mi_237_136 (by simp [stL, lv_args, Value.category]) ?_
      refine V_aldX (j := k) mi_237_137 rfl hT.g e99 (by omega) (by omega) (hT.k _ (by omega)) ?_
      refine V_astX (j := 36 * h + k) mi_237_138 (by rw [show 36 * (h : Int) + (k : Int) = ((36 * h + k : Nat) : Int) by omega]) hT.g e98 (by omega) (by omega) (f98 _ (by omega)) (by rw [Int32.toInt_ofInt_of_le (by omega) (by omega)]; omega) (by rw [Int32.toInt_ofInt_of_le (by omega) (by omega)]; omega) (fun w2 Gw2 Uw2 => ?_)
      refine V_iinc (v := Int32.ofInt ((k : Int))) mi_237_139 (by simp [stL, lv_args, Value.category]) ?_
      rw [ia2]
      refine V_goto mi_237_142 ?_
      refine V_sub (lv' := [(0, .ref (ad 90)), (1, .int (Int32.ofInt ((h : Int)))), (2, .int (Int32.ofInt (((k + 1 : Nat) : Int))))]) (fun q hq => ?_) ?_
      · simp only [List.mem_cons, List.not_mem_nil, or_false] at hq
        rcases hq with rfl | rfl | rfl <;> simp [stL, lv_args, Value.category]
      refine gow_113 E h24 m (k + 1) w2 (by omega) ⟨Gw2, fun j hj => (upd_ne Uw2 (by omega)).trans (hT.k j hj), (upd_ne Uw2 (by omega)).trans hT.s, fun j hj => (upd_ne Uw2 (by omega)).trans (hT.h j hj), fun j hj => (upd_ne Uw2 (by omega)).trans (hT.lr j hj), fun _ _ _ _ => rfl, hT.b, E.kp _ w w2 hT.m (fun c j h1 h2 => upd_ne Uw2 (by omega))⟩ (fun c j hc => (upd_ne Uw2 (by omega)).trans (ho c j hc)) (fun j hj => (upd_ne Uw2 (by omega)).trans (hp j hj)) (fun j hj => ?_) kk
      by_cases e : j = k
      · subst e
        exact upd_eq Uw2
      · exact (upd_ne Uw2 (by omega)).trans (hd j (by omega))
theorem gow_147 (E : HEA l D tys A ad G hz hu he dx Mo) {w0 : va_W} {post : Option Value → va_W → Prop} {h : Nat} (hh : h ≤ 24) (hB : HB G) (hW0 : W91 G w0) : ∀ (m s : Nat) (S : TT × Int) (w : va_W), ((s + m : Nat) : Int) = G 4 → TMW ad tys Mo S w0 w → unW G S h s → (∀ w' : va_W, TMW ad tys Mo (sayW G hu he dx h m s S) w0 w' → unW G (sayW G hu he dx h m s S) h (s + m) → V l D tys A 237 7 0 0 post 0 0 178 [(0, .ref (ad 90)), (1, .int (Int32.ofInt ((h : Int))))] [] w') → V l D tys A 237 7 0 0 post 0 0 147 [(0, .ref (ad 90)), (1, .int (Int32.ofInt ((h : Int)))), (2, .int (Int32.ofInt ((s : Int))))] [] w
  | 0, s, S, w, hm, hT, u, kk => by
    obtain ⟨s91, e91, -⟩ := g91s
    have b4 := hB.b4
    have hW : W91 G w := fun j hj => (hT.o 91 j (by omega) (by omega)).trans (hW0 j hj)
    refine V_iload (v := Int32.ofInt ((s : Int))) mi_237_147 (by simp [stL, lv_args, Value.category]) ?_
    refine V_aload (v := ad 90) mi_237_148 (by simp [stL, lv_args, Value.category]) ?_
    refine V_getI mi_237_149 hT.g (rref gr1m (by omega) hT.g) ?_
    refine V_ipush mi_237_152 ?_
    refine V_aldX (j := 4) mi_237_153 rfl hT.g e91 (by omega) (by omega) (hW _ (by omega)) ?_
    refine V_cge mi_237_154 ⟨by omega, by omega⟩ ⟨by omega, by omega⟩ (fun q => ?_) (fun q => ?_)
    · refine V_sub (lv' := [(0, .ref (ad 90)), (1, .int (Int32.ofInt ((h : Int))))]) (fun q hq => ?_) ?_
      · simp only [List.mem_cons, List.not_mem_nil, or_false] at hq
        rcases hq with rfl | rfl <;> simp [stL, lv_args, Value.category]
      exact kk w hT u
    · exact absurd q (by omega)
  | m + 1, s, S, w, hm, hT, u, kk => by
    rw [show s + (m + 1) = s + 1 + m by omega] at kk
    obtain ⟨s91, e91, -⟩ := g91s
    have b4 := hB.b4
    have hW : W91 G w := fun j hj => (hT.o 91 j (by omega) (by omega)).trans (hW0 j hj)
    refine V_iload (v := Int32.ofInt ((s : Int))) mi_237_147 (by simp [stL, lv_args, Value.category]) ?_
    refine V_aload (v := ad 90) mi_237_148 (by simp [stL, lv_args, Value.category]) ?_
    refine V_getI mi_237_149 hT.g (rref gr1m (by omega) hT.g) ?_
    refine V_ipush mi_237_152 ?_
    refine V_aldX (j := 4) mi_237_153 rfl hT.g e91 (by omega) (by omega) (hW _ (by omega)) ?_
    refine V_cge mi_237_154 ⟨by omega, by omega⟩ ⟨by omega, by omega⟩ (fun q => ?_) (fun q => ?_)
    · exact absurd q (by omega)
    · obtain ⟨⟨w6, o6, i6, n24⟩, g0, g1, g2, g3⟩ := say_b hB (s := s) (by omega)
      refine V_aload (v := ad 90) mi_237_157 (by simp [stL, lv_args, Value.category]) ?_
      refine V_iload (v := Int32.ofInt ((s : Int))) mi_237_158 (by simp [stL, lv_args, Value.category]) ?_
      refine V_ipush mi_237_159 ?_
      refine V_callM (As := [.int (Int32.ofInt ((s : Int))), .int (Int32.ofInt (3))]) (st := []) mi_237_160 (by omega) (by decide +kernel) (by decide +kernel) hT.g (mos_ct (k := s) (a := 3) hT.g hW hB (by omega) (by omega)) (by omega) (show 2 = mN 208 by decide +kernel) (by simp [Value.category]) ?_
      rintro r w1 ⟨e1, rfl⟩
      rw [e1, g3]
      refine V_iload (v := Int32.ofInt ((h : Int))) mi_237_163 (by simp [stL, lv_args, Value.category]) ?_
      refine V_cne mi_237_164 ⟨by omega, by omega⟩ ⟨by omega, by omega⟩ (fun q2 => ?_) (fun q2 => ?_)
      · refine V_iinc (v := Int32.ofInt ((s : Int))) mi_237_172 (by simp [stL, lv_args, Value.category]) ?_
        rw [ia2]
        refine V_goto mi_237_175 ?_
        refine V_sub (lv' := [(0, .ref (ad 90)), (1, .int (Int32.ofInt ((h : Int)))), (2, .int (Int32.ofInt (((s + 1 : Nat) : Int))))]) (fun q hq => ?_) ?_
        · simp only [List.mem_cons, List.not_mem_nil, or_false] at hq
          rcases hq with rfl | rfl | rfl <;> simp [stL, lv_args, Value.category]
        have es : sayW G hu he dx h (m + 1) s S = sayW G hu he dx h m (s + 1) (S) := by
          show sayW G hu he dx h m (s + 1) (if sWhn G s = h then oneW G hu he dx s S else S) = _
          rw [if_neg (by omega)]
        rw [es] at kk
        exact gow_147 E hh hB hW0 m (s + 1) (S) w (by omega) hT (unW_skip u) kk
      · have z := u s (by omega) (by omega)
        refine V_aload (v := ad 90) mi_237_167 (by simp [stL, lv_args, Value.category]) ?_
        refine V_iload (v := Int32.ofInt ((s : Int))) mi_237_168 (by simp [stL, lv_args, Value.category]) ?_
        refine V_callM (As := [.int (Int32.ofInt ((s : Int)))]) (st := []) mi_237_169 (by omega) (by decide +kernel) (by decide +kernel) hT.g (sayw_ct E hB (by omega) hW0 hT z.1 z.2) (by omega) (show 1 = mN 236 by decide +kernel) (by simp [Value.category]) ?_
        rintro r w2 ⟨rfl, h2⟩
        refine V_iinc (v := Int32.ofInt ((s : Int))) mi_237_172 (by simp [stL, lv_args, Value.category]) ?_
        rw [ia2]
        refine V_goto mi_237_175 ?_
        refine V_sub (lv' := [(0, .ref (ad 90)), (1, .int (Int32.ofInt ((h : Int)))), (2, .int (Int32.ofInt (((s + 1 : Nat) : Int))))]) (fun q hq => ?_) ?_
        · simp only [List.mem_cons, List.not_mem_nil, or_false] at hq
          rcases hq with rfl | rfl | rfl <;> simp [stL, lv_args, Value.category]
        have es : sayW G hu he dx h (m + 1) s S = sayW G hu he dx h m (s + 1) (oneW G hu he dx s S) := by
          show sayW G hu he dx h m (s + 1) (if sWhn G s = h then oneW G hu he dx s S else S) = _
          rw [if_pos (by omega)]
        rw [es] at kk
        exact gow_147 E hh hB hW0 m (s + 1) (oneW G hu he dx s S) w2 (by omega) h2 (unW_one u (by omega)) kk
theorem gow_101 (E : HEA l D tys A ad G hz hu he dx Mo) {x0 : Int} {w0 : va_W} {post : Option Value → va_W → Prop} (hB : HB G) (hW0 : W91 G w0) : ∀ (m h : Nat) (w : va_W), ((h + m : Nat) : Int) = G 2 + 1 → TMW ad tys Mo (tellW G hu he dx x0 h) w w → unW G (tellW G hu he dx x0 h) h 0 → KNW G hu he dx x0 h w → (∀ c j, ¬ (98 ≤ c ∧ c ≤ 101) → ¬ (c = 90 ∧ (j = 18 ∨ j = 25)) → rd w c j = rd w0 c j) → (∀ w' : va_W, TMW ad tys Mo (tellW G hu he dx x0 ((G 2).toNat + 1)) w' w' → KNW G hu he dx x0 ((G 2).toNat + 1) w' → (∀ c j, ¬ (98 ≤ c ∧ c ≤ 101) → ¬ (c = 90 ∧ (j = 18 ∨ j = 25)) → rd w' c j = rd w0 c j) → post none w') → V l D tys A 237 7 0 0 post 0 0 101 [(0, .ref (ad 90)), (1, .int (Int32.ofInt ((h : Int))))] [] w
  | 0, h, w, hm, hT, u, hk, ho, kk => by
    obtain ⟨s91, e91, -⟩ := g91s
    have b2 := hB.b2
    have b4 := hB.b4
    have hW : W91 G w := fun j hj => (ho 91 j (by omega) (by omega)).trans (hW0 j hj)
    refine V_iload (v := Int32.ofInt ((h : Int))) mi_237_101 (by simp [stL, lv_args, Value.category]) ?_
    refine V_aload (v := ad 90) mi_237_102 (by simp [stL, lv_args, Value.category]) ?_
    refine V_getI mi_237_103 hT.g (rref gr1m (by omega) hT.g) ?_
    refine V_ipush mi_237_106 ?_
    refine V_aldX (j := 2) mi_237_107 rfl hT.g e91 (by omega) (by omega) (hW _ (by omega)) ?_
    refine V_cgt mi_237_108 ⟨by omega, by omega⟩ ⟨by omega, by omega⟩ (fun q => ?_) (fun q => ?_)
    · have e : h = (G 2).toNat + 1 := by omega
      rw [e] at hT hk
      exact V_retV mi_237_184 (kk w hT hk ho)
    · exact absurd q (by omega)
  | m + 1, h, w, hm, hT, u, hk, ho, kk => by
    obtain ⟨s91, e91, -⟩ := g91s
    have b2 := hB.b2
    have b4 := hB.b4
    have hW : W91 G w := fun j hj => (ho 91 j (by omega) (by omega)).trans (hW0 j hj)
    refine V_iload (v := Int32.ofInt ((h : Int))) mi_237_101 (by simp [stL, lv_args, Value.category]) ?_
    refine V_aload (v := ad 90) mi_237_102 (by simp [stL, lv_args, Value.category]) ?_
    refine V_getI mi_237_103 hT.g (rref gr1m (by omega) hT.g) ?_
    refine V_ipush mi_237_106 ?_
    refine V_aldX (j := 2) mi_237_107 rfl hT.g e91 (by omega) (by omega) (hW _ (by omega)) ?_
    refine V_cgt mi_237_108 ⟨by omega, by omega⟩ ⟨by omega, by omega⟩ (fun q => ?_) (fun q => ?_)
    · exact absurd q (by omega)
    · refine V_ipush mi_237_111 ?_
      refine V_istore mi_237_112 ?_
      refine V_sub (lv' := [(0, .ref (ad 90)), (1, .int (Int32.ofInt ((h : Int)))), (2, .int (Int32.ofInt (((0 : Nat) : Int))))]) (fun q hq => ?_) ?_
      · simp only [List.mem_cons, List.not_mem_nil, or_false] at hq
        rcases hq with rfl | rfl | rfl <;> simp [stL, lv_args, Value.category]
      refine gow_113 E (w0 := w) (by omega) 36 0 w (by omega) (TMW_re hT) (fun _ _ _ => rfl) (fun _ _ => rfl) (fun j hj => absurd hj (by omega)) (fun w2 T2 o2 p2 d2 => ?_)
      refine V_ipush mi_237_145 ?_
      refine V_istore mi_237_146 ?_
      refine V_sub (lv' := [(0, .ref (ad 90)), (1, .int (Int32.ofInt ((h : Int)))), (2, .int (Int32.ofInt (((0 : Nat) : Int))))]) (fun q hq => ?_) ?_
      · simp only [List.mem_cons, List.not_mem_nil, or_false] at hq
        rcases hq with rfl | rfl | rfl <;> simp [stL, lv_args, Value.category]
      have oo : ∀ c j, ¬ (98 ≤ c ∧ c ≤ 101) → ¬ (c = 90 ∧ (j = 18 ∨ j = 25)) → rd w2 c j = rd w0 c j := fun c j h1 h2 => (o2 c j (by omega)).trans (ho c j h1 h2)
      refine gow_147 E (w0 := w2) (by omega) hB (fun j hj => (oo 91 j (by omega) (by omega)).trans (hW0 j hj)) (G 4).toNat 0 (tellW G hu he dx x0 h) w2 (by rw [Nat.zero_add, Int.toNat_of_nonneg b4.1]) T2 u (fun w3 T3 u3 => ?_)
      refine V_iinc (v := Int32.ofInt ((h : Int))) mi_237_178 (by simp [stL, lv_args, Value.category]) ?_
      rw [ia2]
      refine V_goto mi_237_181 ?_
      refine V_sub (lv' := [(0, .ref (ad 90)), (1, .int (Int32.ofInt (((h + 1 : Nat) : Int))))]) (fun q hq => ?_) ?_
      · simp only [List.mem_cons, List.not_mem_nil, or_false] at hq
        rcases hq with rfl | rfl <;> simp [stL, lv_args, Value.category]
      refine gow_101 E hB hW0 m (h + 1) w3 (by omega) (show TMW ad tys Mo (tellW G hu he dx x0 (h + 1)) w3 w3 from TMW_re T3) (unW_next u3) (fun g hg j hj => ?_) (fun c j h1 h2 => (T3.o c j (by omega) h2).trans (oo c j h1 h2)) kk
      rw [T3.o _ _ (by omega) (by omega)]
      by_cases e : g = h
      · subst e
        exact d2 j hj
      · rw [p2 _ (by omega)]
        exact hk g (by omega) j hj
theorem gonw_ct (E : HEA l D tys A ad G hz hu he dx Mo) {x0 : Int} (hB : HB G) (hG : GOK ad tys GG ws) (hW : W91 G ws) (hM : Mo x0 ws) : CT l D tys A 237 7 0 0 [.ref (ad 90)] ws (fun r w => r = none ∧ TMW ad tys Mo (tellW G hu he dx x0 ((G 2).toNat + 1)) w w ∧ KNW G hu he dx x0 ((G 2).toNat + 1) w ∧ ∀ c j, ¬ (98 ≤ c ∧ c ≤ 101) → ¬ (c = 90 ∧ (j = 18 ∨ j = 25)) → rd w c j = rd ws c j) := by
  refine CT_of_V (by omega) (show (1 : Nat) ≤ mML 237 by decide +kernel) ?_
  refine V_aload (v := ad 90) mi_237_0 (by simp [stL, lv_args, Value.category]) ?_
  refine V_ipush mi_237_1 ?_
  refine V_putI mi_237_2 hG f18m (by omega) rfl (by decide +kernel) (i32b _).1 (i32b _).2 (fun w1 G1 U1 => ?_)
  refine V_ipush mi_237_5 ?_
  refine V_istore mi_237_6 ?_
  refine V_sub (lv' := [(0, .ref (ad 90)), (1, .int (Int32.ofInt (((0 : Nat) : Int))))]) (fun q hq => ?_) ?_
  · simp only [List.mem_cons, List.not_mem_nil, or_false] at hq
    rcases hq with rfl | rfl <;> simp [stL, lv_args, Value.category]
  refine go_7 (w0 := w1) 12 0 w1 (by omega) G1 (fun j hj => absurd hj (by omega)) (fun j hj => absurd hj (by omega)) (fun _ _ _ _ => rfl) (fun w2 G2 h2 l2 o2 => ?_)
  refine V_ipush mi_237_33 ?_
  refine V_istore mi_237_34 ?_
  refine V_sub (lv' := [(0, .ref (ad 90)), (1, .int (Int32.ofInt (((0 : Nat) : Int))))]) (fun q hq => ?_) ?_
  · simp only [List.mem_cons, List.not_mem_nil, or_false] at hq
    rcases hq with rfl | rfl <;> simp [stL, lv_args, Value.category]
  have hW2 : W91 G w2 := fun j hj => (o2 _ _ (by omega) (by omega)).trans ((upd_ne U1 (by omega)).trans (hW j hj))
  refine go_35 (w0 := w2) hB hW2 6 0 w2 (by omega) G2 (fun j hj => absurd hj (by omega)) (fun _ _ _ => rfl) (fun w3 G3 k3 o3 => ?_)
  refine V_ipush mi_237_99 ?_
  refine V_istore mi_237_100 ?_
  refine V_sub (lv' := [(0, .ref (ad 90)), (1, .int (Int32.ofInt (((0 : Nat) : Int))))]) (fun q hq => ?_) ?_
  · simp only [List.mem_cons, List.not_mem_nil, or_false] at hq
    rcases hq with rfl | rfl <;> simp [stL, lv_args, Value.category]
  have b2 := hB.b2
  have oo : ∀ c j, ¬ (98 ≤ c ∧ c ≤ 101) → ¬ (c = 90 ∧ j = 18) → rd w3 c j = rd ws c j := fun c j h1 h3 => (o3 c j (by omega)).trans ((o2 c j (by omega) (by omega)).trans (upd_ne U1 (by omega)))
  exact gow_101 E (w0 := ws) hB hW ((G 2).toNat + 1) 0 w3 (by omega) ⟨G3, k3, (o3 _ _ (by omega)).trans ((o2 _ _ (by omega) (by omega)).trans (upd_eq U1)), fun j hj => (o3 _ _ (by omega)).trans (h2 j hj), fun j hj => (o3 _ _ (by omega)).trans (l2 j hj), fun _ _ _ _ => rfl, ini_ok hB, E.kp _ ws w3 hM (fun c j h1 h2 => oo c j h1 h2)⟩ (fun i hi hq => ⟨rfl, rfl⟩) (fun h hh => absurd hh (by omega)) (fun c j h1 h2 => oo c j h1 (by omega)) (fun w T k o => ⟨rfl, T, k, o⟩)
end XUA
end
section
section XUB
variable {l : Launch} {D : va_G} {tys : List (ClassId × FieldType)} {A : Nat → Prop} {ad : Nat → Nat} {ws : va_W}
theorem sprw_28 {P : Nat → Bool} {G K : Nat → Int} {w0 : va_W} {s : Nat} {post : Option Value → va_W → Prop} (hB : HB G) (hs : s < 12) (hX0 : HX 4 G w0) (hk : kOK K) : ∀ (m f : Nat) (w : va_W), ((f + m : Nat) : Int) = G 3 → GOK ad tys GG w → XKN G (spW P G s f K) w → (∀ c j, c ≠ 31 → rd w c j = rd w0 c j) → (∀ w' : va_W, GOK ad tys GG w' → XKN G (spW P G s (G 3).toNat K) w' → (∀ c j, c ≠ 31 → rd w' c j = rd w0 c j) → post (some (.int (Int32.ofInt (orI (lrW P G K s) (G 3).toNat)))) w') → V l D tys A 92 2 0 0 post 0 0 28 [(0, .ref (ad 28)), (1, .ref (ad 4)), (2, .int (Int32.ofInt ((s : Int)))), (3, .int (Int32.ofInt (orI (P) (G 3).toNat))), (4, .int (Int32.ofInt ((sWhs G s : Int)))), (5, .int (ibF 8 (Int32.ofInt 1) (Int32.ofInt (sWhi G s : Int)))), (6, .int (Int32.ofInt (orI (lrW P G K s) f))), (7, .int (Int32.ofInt ((f : Int))))] [] w
  | 0, f, w, hm, hG, hK, ho, kk => by
    have hX : HX 4 G w := HX_keep hX0 (fun c' i h1 h2 => ho _ _ (by omega))
    have b3 := hB.b3
    have b4 := hB.b4
    obtain ⟨⟨w6, o6, i6, n24⟩, -⟩ := say_b hB (s := s) (by omega)
    refine V_iload (v := Int32.ofInt ((f : Int))) mi_92_28 (by simp [stL, lv_args, Value.category]) ?_
    refine V_aload (v := ad 4) mi_92_30 (by simp [stL, lv_args, Value.category]) ?_
    refine V_gO mi_92_31 g4o hG (show rd _ 4 4 = some (.int (Int32.ofInt (G 3))) from hx0 hX (i := 4) (by omega)) ?_
    refine V_cge mi_92_34 ⟨by omega, by omega⟩ ⟨by omega, by omega⟩ (fun q => ?_) (fun q => ?_)
    · have e : f = (G 3).toNat := by omega
      rw [e] at hK
      rw [e]
      refine V_iload (v := Int32.ofInt (orI (lrW P G K s) (G 3).toNat)) mi_92_101 (by simp [stL, lv_args, Value.category]) ?_
      exact V_retI mi_92_103 (fun h => absurd h (by decide +kernel)) (kk w hG hK ho)
    · exact absurd q (by omega)
  | m + 1, f, w, hm, hG, hK, ho, kk => by
    have hX : HX 4 G w := HX_keep hX0 (fun c' i h1 h2 => ho _ _ (by omega))
    have b3 := hB.b3
    have b4 := hB.b4
    obtain ⟨⟨w6, o6, i6, n24⟩, -⟩ := say_b hB (s := s) (by omega)
    refine V_iload (v := Int32.ofInt ((f : Int))) mi_92_28 (by simp [stL, lv_args, Value.category]) ?_
    refine V_aload (v := ad 4) mi_92_30 (by simp [stL, lv_args, Value.category]) ?_
    refine V_gO mi_92_31 g4o hG (show rd _ 4 4 = some (.int (Int32.ofInt (G 3))) from hx0 hX (i := 4) (by omega)) ?_
    refine V_cge mi_92_34 ⟨by omega, by omega⟩ ⟨by omega, by omega⟩ (fun q => ?_) (fun q => ?_)
    · exact absurd q (by omega)
    · have ob := orI_bd (P := P) (f := (G 3).toNat) (by omega)
      have p1 := (tb_k (a := orI (P) (G 3).toNat) (i := (f : Int)) ob.1 ob.2 (by omega) (by omega)).1
      rw [tb_orI (by omega) _ (by omega), decide_eq_true (show f < (G 3).toNat by omega), Bool.true_and] at p1
      have bk := hk (6 * f + sWhs G s) (by omega)
      obtain ⟨t1, t2, t3⟩ := tb_k (a := K (6 * f + sWhs G s)) (i := (sWhi G s : Int)) bk.1 bk.2 (by omega) (by omega)
      have hKn : rd w 31 (6 * f + sWhs G s) = some (.int (Int32.ofInt (K (6 * f + sWhs G s)))) := by rw [hK _ (by omega) (by omega), spW_new o6]
      refine V_iload (v := Int32.ofInt (orI (P) (G 3).toNat)) mi_92_37 (by simp [stL, lv_args, Value.category]) ?_
      refine V_iload (v := Int32.ofInt ((f : Int))) mi_92_38 (by simp [stL, lv_args, Value.category]) ?_
      refine V_ibin mi_92_40 (by omega) ?_
      refine V_ipush mi_92_41 ?_
      refine V_ibin mi_92_42 (by omega) ?_
      rw [p1]
      refine V_beq mi_92_43  (fun q2 => ?_) (fun q2 => ?_)
      · have lf : lrW P G K s f = false := by unfold lrW; rw [q2, Bool.false_and]
        rw [← orI_s0 (P := lrW P G K s) lf]
        refine V_iinc (v := Int32.ofInt ((f : Int))) mi_92_95 (by simp [stL, lv_args, Value.category]) ?_
        rw [ia2]
        refine V_goto mi_92_98 ?_
        refine V_sub (lv' := [(0, .ref (ad 28)), (1, .ref (ad 4)), (2, .int (Int32.ofInt ((s : Int)))), (3, .int (Int32.ofInt (orI (P) (G 3).toNat))), (4, .int (Int32.ofInt ((sWhs G s : Int)))), (5, .int (ibF 8 (Int32.ofInt 1) (Int32.ofInt (sWhi G s : Int)))), (6, .int (Int32.ofInt (orI (lrW P G K s) (f + 1)))), (7, .int (Int32.ofInt (((f + 1 : Nat) : Int))))]) (fun q hq => ?_) ?_
        · simp only [List.mem_cons, List.not_mem_nil, or_false] at hq
          rcases hq with rfl | rfl | rfl | rfl | rfl | rfl | rfl | rfl <;> simp [stL, lv_args, Value.category]
        exact sprw_28 hB hs hX0 hk m (f + 1) w (by omega) hG (by rw [spW_skip q2]; exact hK) ho kk
      · refine V_aload (v := ad 28) mi_92_46 (by simp [stL, lv_args, Value.category]) ?_
        refine V_iload (v := Int32.ofInt ((f : Int))) mi_92_47 (by simp [stL, lv_args, Value.category]) ?_
        refine V_iload (v := Int32.ofInt ((sWhs G s : Int))) mi_92_49 (by simp [stL, lv_args, Value.category]) ?_
        refine V_cO (As := [.int (Int32.ofInt ((f : Int))), .int (Int32.ofInt ((sWhs G s : Int)))]) (st := []) mi_92_51 (by omega) (by decide +kernel) (by decide +kernel) (by omega) g28o hG (bts_ct (f := f) (o := sWhs G s) hG (by omega) o6 hKn) (by omega) (show 2 = mN 88 by decide +kernel) (by simp [Value.category]) ?_
        rintro r w1 ⟨e1, rfl⟩
        rw [e1]
        refine V_iload (v := ibF 8 (Int32.ofInt 1) (Int32.ofInt (sWhi G s : Int))) mi_92_54 (by simp [stL, lv_args, Value.category]) ?_
        refine V_ibin mi_92_56 (by omega) ?_
        refine V_rne mi_92_57 (fun q3 => ?_) (fun q3 => ?_)
        · have tt : tb (K (6 * f + sWhs G s)) (sWhi G s : Int) = true := by
            cases h : tb (K (6 * f + sWhs G s)) (sWhi G s : Int)
            · exact absurd (t3.mpr h) q3
            · rfl
          have lf : lrW P G K s f = false := by unfold lrW; rw [q2, tt]; rfl
          rw [← orI_s0 (P := lrW P G K s) lf]
          refine V_iinc (v := Int32.ofInt ((f : Int))) mi_92_95 (by simp [stL, lv_args, Value.category]) ?_
          rw [ia2]
          refine V_goto mi_92_98 ?_
          refine V_sub (lv' := [(0, .ref (ad 28)), (1, .ref (ad 4)), (2, .int (Int32.ofInt ((s : Int)))), (3, .int (Int32.ofInt (orI (P) (G 3).toNat))), (4, .int (Int32.ofInt ((sWhs G s : Int)))), (5, .int (ibF 8 (Int32.ofInt 1) (Int32.ofInt (sWhi G s : Int)))), (6, .int (Int32.ofInt (orI (lrW P G K s) (f + 1)))), (7, .int (Int32.ofInt (((f + 1 : Nat) : Int))))]) (fun q hq => ?_) ?_
          · simp only [List.mem_cons, List.not_mem_nil, or_false] at hq
            rcases hq with rfl | rfl | rfl | rfl | rfl | rfl | rfl | rfl <;> simp [stL, lv_args, Value.category]
          refine sprw_28 hB hs hX0 hk m (f + 1) w (by omega) hG (fun j hj hp => ?_) ho kk
          rw [spW_step q2 o6]
          show _ = some (Value.int (Int32.ofInt (if j = 6 * f + sWhs G s then _ else _)))
          by_cases e : j = 6 * f + sWhs G s
          · rw [if_pos e, e, t2 tt]
            exact hKn
          · rw [if_neg e]
            exact hK j hj hp
        · have lf : lrW P G K s f = true := by unfold lrW; rw [q2, t3.mp q3]; rfl
          refine V_aload (v := ad 28) mi_92_60 (by simp [stL, lv_args, Value.category]) ?_
          refine V_gR mi_92_61 g28r2 (by omega) hG ?_
          refine V_iload (v := Int32.ofInt ((f : Int))) mi_92_64 (by simp [stL, lv_args, Value.category]) ?_
          refine V_ipush mi_92_66 ?_
          refine V_ibin mi_92_68 (by omega) ?_
          rw [ib2]
          refine V_iload (v := Int32.ofInt ((sWhs G s : Int))) mi_92_69 (by simp [stL, lv_args, Value.category]) ?_
          refine V_ibin mi_92_71 (by omega) ?_
          rw [ib0]
          rw [show (f : Int) * (6) + (sWhs G s : Int) = ((6 * f + sWhs G s : Nat) : Int) by omega]
          refine V_aload (v := ad 28) mi_92_72 (by simp [stL, lv_args, Value.category]) ?_
          refine V_iload (v := Int32.ofInt ((f : Int))) mi_92_73 (by simp [stL, lv_args, Value.category]) ?_
          refine V_iload (v := Int32.ofInt ((sWhs G s : Int))) mi_92_75 (by simp [stL, lv_args, Value.category]) ?_
          refine V_cO (As := [.int (Int32.ofInt ((f : Int))), .int (Int32.ofInt ((sWhs G s : Int)))]) (st := [.int (Int32.ofInt (((6 * f + sWhs G s : Nat) : Int))), .ref (ad 31)]) mi_92_77 (by omega) (by decide +kernel) (by decide +kernel) (by omega) g28o hG (bts_ct (f := f) (o := sWhs G s) hG (by omega) o6 hKn) (by omega) (show 2 = mN 88 by decide +kernel) (by simp [Value.category]) ?_
          rintro r w2 ⟨e2, rfl⟩
          rw [e2]
          refine V_iload (v := ibF 8 (Int32.ofInt 1) (Int32.ofInt (sWhi G s : Int))) mi_92_80 (by simp [stL, lv_args, Value.category]) ?_
          refine V_ibin mi_92_82 (by omega) ?_
          rw [bitO_i]
          refine V_stat (As := [.ref (ad 31), .int (Int32.ofInt (((6 * f + sWhs G s : Nat) : Int))), .int (Int32.ofInt (bitO (K (6 * f + sWhs G s)) (sWhi G s : Int)))]) (st := []) mi_92_83 (by omega) (putk_ct (j := 6 * f + sWhs G s) a31 hG (by omega) (by omega)) (by omega) (show 3 = mN 148 by decide +kernel) (by simp [Value.category]) ⟨Nat.le_refl _, Nat.le_refl _⟩ ?_
          rintro r w3 ⟨rfl, G3, U3⟩
          refine V_iload (v := Int32.ofInt (orI (lrW P G K s) f)) mi_92_86 (by simp [stL, lv_args, Value.category]) ?_
          refine V_ipush mi_92_88 ?_
          refine V_iload (v := Int32.ofInt ((f : Int))) mi_92_89 (by simp [stL, lv_args, Value.category]) ?_
          refine V_ibin mi_92_91 (by omega) ?_
          refine V_ibin mi_92_92 (by omega) ?_
          rw [bitO_i, ← orI_s1 (P := lrW P G K s) lf]
          refine V_istore mi_92_93 ?_
          refine V_iinc (v := Int32.ofInt ((f : Int))) mi_92_95 (by simp [stL, lv_args, Value.category]) ?_
          rw [ia2]
          refine V_goto mi_92_98 ?_
          refine V_sub (lv' := [(0, .ref (ad 28)), (1, .ref (ad 4)), (2, .int (Int32.ofInt ((s : Int)))), (3, .int (Int32.ofInt (orI (P) (G 3).toNat))), (4, .int (Int32.ofInt ((sWhs G s : Int)))), (5, .int (ibF 8 (Int32.ofInt 1) (Int32.ofInt (sWhi G s : Int)))), (6, .int (Int32.ofInt (orI (lrW P G K s) (f + 1)))), (7, .int (Int32.ofInt (((f + 1 : Nat) : Int))))]) (fun q hq => ?_) ?_
          · simp only [List.mem_cons, List.not_mem_nil, or_false] at hq
            rcases hq with rfl | rfl | rfl | rfl | rfl | rfl | rfl | rfl <;> simp [stL, lv_args, Value.category]
          · refine sprw_28 hB hs hX0 hk m (f + 1) w3 (by omega) G3 (fun j hj hp => ?_) (fun c j hc => (upd_ne U3 (by omega)).trans (ho c j hc)) kk
            rw [spW_step q2 o6]
            show _ = some (Value.int (Int32.ofInt (if j = 6 * f + sWhs G s then _ else _)))
            by_cases e : j = 6 * f + sWhs G s
            · rw [if_pos e, e]
              exact upd_eq U3
            · rw [if_neg e]
              exact (upd_ne U3 (by omega)).trans (hK j hj hp)
theorem sprw_ct {G : Nat → Int} (hG : GOK ad tys GG ws) (hX : HX 4 G ws) (hB : HB G) {P : Nat → Bool} {K : Nat → Int} (hk : kOK K) (hK : XKN G K ws) {s : Nat} (hs : s < 12) : CT l D tys A 92 2 0 0 [.ref (ad 28), .ref (ad 4), .int (Int32.ofInt ((s : Int))), .int (Int32.ofInt (orI (P) (G 3).toNat))] ws (fun r w => r = some (.int (Int32.ofInt (orI (lrW P G K s) (G 3).toNat))) ∧ GOK ad tys GG w ∧ XKN G (spW P G s (G 3).toNat K) w ∧ ∀ c j, c ≠ 31 → rd w c j = rd ws c j) := by
  refine CT_of_V (by omega) (show (4 : Nat) ≤ mML 92 by decide +kernel) ?_
  have b4 := hB.b4
  have b3 := hB.b3
  obtain ⟨⟨w6, o6, i6, n24⟩, g0, g1, g2, g3⟩ := say_b hB (s := s) (by omega)
  refine V_aload (v := ad 4) mi_92_0 (by simp [stL, lv_args, Value.category]) ?_
  refine V_gR mi_92_1 g4r14 (by omega) hG ?_
  refine V_iload (v := Int32.ofInt ((s : Int))) mi_92_4 (by simp [stL, lv_args, Value.category]) ?_
  refine V_stat (As := [.ref (ad 13), .int (Int32.ofInt ((s : Int)))]) (st := []) mi_92_5 (by omega) (atk_ct a13 hG (by omega) (by omega) (say_rd hX (k := s) (r := 1) (by omega) (by omega))) (by omega) (show 2 = mN 147 by decide +kernel) (by simp [Value.category]) ⟨Nat.le_refl _, Nat.le_refl _⟩ ?_
  rintro r w1 ⟨e1, rfl⟩
  rw [e1, g1]
  refine V_istore mi_92_8 ?_
  refine V_ipush mi_92_10 ?_
  refine V_aload (v := ad 4) mi_92_11 (by simp [stL, lv_args, Value.category]) ?_
  refine V_gR mi_92_12 g4r15 (by omega) hG ?_
  refine V_iload (v := Int32.ofInt ((s : Int))) mi_92_15 (by simp [stL, lv_args, Value.category]) ?_
  refine V_stat (As := [.ref (ad 14), .int (Int32.ofInt ((s : Int)))]) (st := [.int (Int32.ofInt (1))]) mi_92_16 (by omega) (atk_ct a14 hG (by omega) (by omega) (say_rd hX (k := s) (r := 2) (by omega) (by omega))) (by omega) (show 2 = mN 147 by decide +kernel) (by simp [Value.category]) ⟨Nat.le_refl _, Nat.le_refl _⟩ ?_
  rintro r w1 ⟨e1, rfl⟩
  rw [e1, g2]
  refine V_ibin mi_92_19 (by omega) ?_
  refine V_istore mi_92_20 ?_
  refine V_ipush mi_92_22 ?_
  refine V_istore mi_92_23 ?_
  refine V_ipush mi_92_25 ?_
  refine V_istore mi_92_26 ?_
  refine V_sub (lv' := [(0, .ref (ad 28)), (1, .ref (ad 4)), (2, .int (Int32.ofInt ((s : Int)))), (3, .int (Int32.ofInt (orI (P) (G 3).toNat))), (4, .int (Int32.ofInt ((sWhs G s : Int)))), (5, .int (ibF 8 (Int32.ofInt 1) (Int32.ofInt (sWhi G s : Int)))), (6, .int (Int32.ofInt (0))), (7, .int (Int32.ofInt (((0 : Nat) : Int))))]) (fun q hq => ?_) ?_
  · simp only [List.mem_cons, List.not_mem_nil, or_false] at hq
    rcases hq with rfl | rfl | rfl | rfl | rfl | rfl | rfl | rfl <;> simp [stL, lv_args, Value.category]
  exact sprw_28 (w0 := ws) hB hs hX hk (G 3).toNat 0 ws (by omega) hG (by rw [spW_0]; exact hK) (fun _ _ _ => rfl) (fun w2 G2 k2 o2 => ⟨rfl, G2, k2, o2⟩)
/-- the reference's frame -/
noncomputable def MTW (w0 w : va_W) : Prop := ∀ c j, ¬ (98 ≤ c ∧ c ≤ 101) → ¬ (c = 90 ∧ (j = 18 ∨ j = 21 ∨ j = 23 ∨ j = 25)) → rd w c j = rd w0 c j
theorem pairT_sw {kx km d1 d2 : Nat} {xs ms : List Value} {v : Int32} (hR : RELW ws) (h1 : d1 < 11) (h2 : d2 < 11) (c1 : CT l D tys A kx d1 0 0 xs ws (fun r w => (GOK ad tys GG w ∧ XSC ws w) ∧ r = some (.int v))) (c2 : ∀ w : va_W, GOK ad tys GG w → XSC ws w → CT l D tys A km d2 0 0 ms w (fun r w2 => (GOK ad tys GG w2 ∧ MTW w w2) ∧ r = some (.int v))) : PAIRT l D tys A ad kx km xs ms ws := by
  refine ⟨v, fun w => XSC ws w, ⟨d1, h1, CT_post c1 (fun r w h => ⟨h.2, h.1.1, h.1.2⟩)⟩, fun w hw K => ⟨d2, h2, CT_post (c2 w hw K) (fun r w2 h => ?_)⟩⟩
  obtain ⟨⟨g, o⟩, e⟩ := h
  have oo : ∀ c j, ¬ (c = 31 ∨ c = 37 ∨ c = 38 ∨ c = 48 ∨ c = 49 ∨ c = 51 ∨ c = 52) → ¬ (98 ≤ c ∧ c ≤ 101) → ¬ (c = 90 ∧ (j = 18 ∨ j = 21 ∨ j = 23 ∨ j = 25)) → rd w2 c j = rd ws c j := fun c j h3 h4 h5 => (o c j h4 h5).trans (K c j h3)
  exact ⟨e, g, relh_keep hR.1 (fun c hc j => oo c j (by omega) (by omega) (by omega)) (fun j hj => oo 90 j (by omega) (by omega) (fun q => by
      obtain ⟨-, q⟩ := q
      rcases q with rfl | rfl | rfl | rfl
      · exact absurd hj (by unfold spK; decide)
      · exact absurd hj (by unfold spK; decide)
      · exact absurd hj (by unfold spK; decide)
      · exact absurd hj (by unfold spK; decide))), aux_keep hR.2 (fun c j hc => oo c j (by omega) (by omega) (by omega))⟩
end XUB
end
section
section XUC
variable {l : Launch} {D : va_G} {tys : List (ClassId × FieldType)} {A : Nat → Prop} {ad : Nat → Nat} {ws : va_W}
theorem MTW_W {G : Nat → Int} {w0 w : va_W} (o : MTW w0 w) (h : W91 G w0) : W91 G w := fun j hj => (o 91 j (by omega) (by omega)).trans (h j hj)
end XUC
end
section
section XUD
variable {l : Launch} {D : va_G} {tys : List (ClassId × FieldType)} {A : Nat → Prop} {ad : Nat → Nat} {ws : va_W}
theorem V_putL {k d pc : Nat} {post : Option Value → va_W → Prop} {lv : List (Nat × Value)} {st : List Value} {a : Int} {x i : Nat} {v : Int64} (hi0 : mI k pc = (18, a, x, 11, i)) (hG : GOK ad tys GG ws) (hs : ∃ g, GG[90]? = some ((0, 11, 36), g) ∧ segAt g i = some (1, -9223372036854775808, 9223372036854775807)) (h36 : i < 36) (hty : clTy 11 i = .long) (hn : nfin 11 i = true) (kk : ∀ w : va_W, GOK ad tys GG w → Upd1 ws w 90 i (.long v) → V l D tys A k d 0 0 post 0 0 (pc + 3) lv st w) : V l D tys A k d 0 0 post 0 0 pc lv (.long v :: .ref (ad 90) :: st) ws := by
  obtain ⟨g, hg, hs⟩ := hs
  obtain ⟨e, a1, a2, a3⟩ := hG 90 _ hg
  obtain ⟨fs, rfl, hl⟩ := a2
  refine V_put hi0 a1 (by omega) (fun C T N hc => ?_) (by rw [hty]; rfl) (by rw [hty]; rfl) ?_
  · unfold nfin at hn
    rw [hc] at hn
    simpa using hn
  · obtain ⟨u1, u2⟩ := GOK_upd (e' := .inr (11, fs.set i (.long v))) hG hg a1 ⟨_, rfl, by rw [List.length_set]; exact hl⟩ (rdE_obj (by omega) _) hs ⟨v.toInt, by rw [Int64.ofInt_toInt], by have := v.le_toInt; show (-9223372036854775808 : Int) ≤ v.toInt; omega, by have := v.toInt_lt; show v.toInt ≤ (9223372036854775807 : Int); omega⟩
    exact kk _ u1 u2
theorem V_putB {k d pc : Nat} {post : Option Value → va_W → Prop} {lv : List (Nat × Value)} {st : List Value} {a : Int} {x i : Nat} {lo hi : Int} {v : Int32} (hi0 : mI k pc = (18, a, x, 11, i)) (hG : GOK ad tys GG ws) (hs : gF i lo hi) (h36 : i < 36) (hnar : narrow (clTy 11 i) (.int v) = .int v) (hfit : fits (clTy 11 i) (.int v) = true) (hn : nfin 11 i = true) (h1 : lo ≤ v.toInt) (h2 : v.toInt ≤ hi) (kk : ∀ w : va_W, GOK ad tys GG w → Upd1 ws w 90 i (.int v) → V l D tys A k d 0 0 post 0 0 (pc + 3) lv st w) : V l D tys A k d 0 0 post 0 0 pc lv (.int v :: .ref (ad 90) :: st) ws := by
  obtain ⟨g, hg, hs⟩ := hs
  obtain ⟨e, a1, a2, a3⟩ := hG 90 _ hg
  obtain ⟨fs, rfl, hl⟩ := a2
  refine V_put hi0 a1 (by omega) (fun C T N hc => ?_) hnar hfit ?_
  · unfold nfin at hn
    rw [hc] at hn
    simpa using hn
  · obtain ⟨u1, u2⟩ := GOK_upd (e' := .inr (11, fs.set i (.int v))) hG hg a1 ⟨_, rfl, by rw [List.length_set]; exact hl⟩ (rdE_obj (by omega) _) hs ⟨v.toInt, by rw [Int32.ofInt_toInt], h1, h2⟩
    exact kk _ u1 u2
theorem f25m : ∃ g, GG[90]? = some ((0, 11, 36), g) ∧ segAt g 25 = some (1, -9223372036854775808, 9223372036854775807) := ⟨_, rfl, by decide +kernel⟩
theorem f24m : gF 24 0 1 := ⟨_, rfl, by decide +kernel⟩
/-- the next draw -/
noncomputable def nxV (x : Int) : Int := (lbF 4 (lbF 0 (lbF 2 (Int64.ofInt 1103515245) (Int64.ofInt x)) (Int64.ofInt 12345)) (Int64.ofInt 2147483648)).toInt
theorem nx_i (x : Int) : lbF 4 (lbF 0 (lbF 2 (Int64.ofInt 1103515245) (Int64.ofInt x)) (Int64.ofInt 12345)) (Int64.ofInt 2147483648) = Int64.ofInt (nxV x) := by
  unfold nxV
  rw [Int64.ofInt_toInt]
noncomputable def dwZ (x : Int) : Int := (lbF 4 (lbF 3 (Int64.ofInt x) (Int64.ofInt 65536)) (Int64.ofInt 100)).toInt
theorem dw_i (x : Int) : lbF 4 (lbF 3 (Int64.ofInt x) (Int64.ofInt 65536)) (Int64.ofInt 100) = Int64.ofInt (dwZ x) := by
  unfold dwZ
  rw [Int64.ofInt_toInt]
theorem dw_bd (x : Int) : -99 ≤ dwZ x ∧ dwZ x ≤ 99 := by
  have h1 := (Int64.ofInt x).le_toInt
  have h2 := (Int64.ofInt x).toInt_lt
  have e1 : lbF 3 (Int64.ofInt x) (Int64.ofInt 65536) = Int64.ofInt ((Int64.ofInt x).toInt.tdiv 65536) := by
    have q := div64 (a := (Int64.ofInt x).toInt) (c := 65536) (by omega) (by omega) (by omega) (by omega)
    rw [Int64.ofInt_toInt] at q
    exact q
  have t := tdiv_bd (a := (Int64.ofInt x).toInt) (c := 65536) (by omega)
  generalize (Int64.ofInt x).toInt.tdiv 65536 = y at e1 t
  have yb : -9223372036854775808 ≤ y ∧ y ≤ 9223372036854775807 := by
    by_cases c : 0 ≤ (Int64.ofInt x).toInt
    · have := t.1 c
      omega
    · have := t.2 (by omega)
      omega
  have e2 : lbF 4 (Int64.ofInt y) (Int64.ofInt 100) = Int64.ofInt (y - y.tdiv 100 * 100) := by
    show Int64.ofInt y - Int64.ofInt y / Int64.ofInt 100 * Int64.ofInt 100 = _
    rw [div64 yb.1 yb.2 (by omega) (by omega), Int64.ofInt_sub, Int64.ofInt_mul]
  have r := rem_bd (a := y) (c := 100) (by omega)
  have rb : -99 ≤ y - y.tdiv 100 * 100 ∧ y - y.tdiv 100 * 100 ≤ 99 := by
    by_cases c : 0 ≤ y
    · have := r.1 c
      omega
    · have := r.2 (by omega)
      omega
  unfold dwZ
  rw [e1, e2, Int64.toInt_ofInt_of_le (by omega) (by omega)]
  exact rb
/-- the draws, saying by saying -/
noncomputable def dxD (G : Nat → Int) (s : Nat) (x : Int) : Nat → Int
  | 0 => x
  | f + 1 => if preP G s f = true then nxV (dxD G s x f) else dxD G s x f
noncomputable def heD (G : Nat → Int) (s : Nat) (x : Int) (f : Nat) : Bool := !(decide (dwZ (nxV (dxD G s x f)) < G (54 + f)))
theorem dxD_y {G : Nat → Int} {s f : Nat} {x : Int} (h : preP G s f = true) : dxD G s x (f + 1) = nxV (dxD G s x f) := if_pos h
theorem dxD_n {G : Nat → Int} {s f : Nat} {x : Int} (h : preP G s f = false) : dxD G s x (f + 1) = dxD G s x f := if_neg (by rw [h]; exact Bool.false_ne_true)
noncomputable def huF : Nat → Bool := fun _ => false
noncomputable def dwS (G : Nat → Int) (x0 : Int) (h : Nat) : TT × Int := tellW G huF (heD G) (dxD G) x0 h
theorem drw_ct {x : Int} (hG : GOK ad tys GG ws) (hx : rd ws 90 25 = some (.long (Int64.ofInt x))) : CT l D tys A 234 0 0 0 [.ref (ad 90)] ws (fun r w => r = some (.int (Int32.ofInt (dwZ (nxV x)))) ∧ GOK ad tys GG w ∧ Upd1 ws w 90 25 (.long (Int64.ofInt (nxV x)))) := by
  refine CT_of_V (by omega) (show (1 : Nat) ≤ mML 234 by decide +kernel) ?_
  refine V_aload (v := ad 90) mi_234_0 (by simp [stL, stL2, lv_args, Value.category]) ?_
  refine V_lpush mi_234_1 ?_
  refine V_aload (v := ad 90) mi_234_4 (by simp [stL, stL2, lv_args, Value.category]) ?_
  refine V_getI mi_234_5 hG (hx) ?_
  refine V_lbin mi_234_8 (by omega) ?_
  refine V_lpush mi_234_9 ?_
  refine V_lbin mi_234_12 (by omega) ?_
  refine V_lpush mi_234_13 ?_
  refine V_lbin mi_234_16 (fun _ => by decide) ?_
  rw [nx_i]
  refine V_putL mi_234_17 hG f25m (by omega) rfl (by decide +kernel) (fun w2 G2 U2 => ?_)
  refine V_aload (v := ad 90) mi_234_20 (by simp [stL, stL2, lv_args, Value.category]) ?_
  refine V_getI mi_234_21 G2 (upd_eq U2) ?_
  refine V_lpush mi_234_24 ?_
  refine V_lbin mi_234_27 (fun _ => by decide) ?_
  refine V_lpush mi_234_28 ?_
  refine V_lbin mi_234_31 (fun _ => by decide) ?_
  rw [dw_i]
  refine V_l2i mi_234_32 ?_
  rw [Int64.toInt32_ofInt]
  exact V_retI mi_234_33 (fun h => absurd h (by decide +kernel)) ⟨rfl, G2, U2⟩
theorem hed_ct {G : Nat → Int} {f s : Nat} {x : Int} (hB : HB G) (hf : f < 6) (hG : GOK ad tys GG ws) (hW : W91 G ws) (h24 : rd ws 90 24 = some (.int (Int32.ofInt 1))) (hx : rd ws 90 25 = some (.long (Int64.ofInt x))) : CT l D tys A 235 2 0 0 [.ref (ad 90), .int (Int32.ofInt ((f : Int))), .int (Int32.ofInt ((s : Int)))] ws (fun r w => r = some (.int (bI (!(decide (dwZ (nxV x) < G (54 + f)))))) ∧ GOK ad tys GG w ∧ Upd1 ws w 90 25 (.long (Int64.ofInt (nxV x)))) := by
  refine CT_of_V (by omega) (show (3 : Nat) ≤ mML 235 by decide +kernel) ?_
  obtain ⟨s91, e91, -⟩ := g91s
  have bd := hB.bd f hf
  have db := dw_bd (nxV x)
  refine V_aload (v := ad 90) mi_235_0 (by simp [stL, stL2, lv_args, Value.category]) ?_
  refine V_getI mi_235_1 hG (h24) ?_
  refine V_zeq mi_235_4 ⟨by omega, by omega⟩ (fun q => ?_) (fun q => ?_)
  · exact absurd q (by omega)
  · refine V_aload (v := ad 90) mi_235_7 (by simp [stL, stL2, lv_args, Value.category]) ?_
    refine V_callM (As := []) (st := []) mi_235_8 (by omega) (by decide +kernel) (by decide +kernel) hG (drw_ct hG hx) (by omega) (show 0 = mN 234 by decide +kernel) (by simp [Value.category]) ?_
    rintro r w1 ⟨e1, G1, U1⟩
    rw [e1]
    have hW1 : W91 G w1 := fun j hj => (upd_ne U1 (by omega)).trans (hW j hj)
    refine V_aload (v := ad 90) mi_235_11 (by simp [stL, stL2, lv_args, Value.category]) ?_
    refine V_getI mi_235_12 G1 (rref gr1m (by omega) G1) ?_
    refine V_ipush mi_235_15 ?_
    refine V_iload (v := Int32.ofInt ((f : Int))) mi_235_17 (by simp [stL, stL2, lv_args, Value.category]) ?_
    refine V_ibin mi_235_18 (by omega) ?_
    rw [ib0]
    refine V_aldX (j := 54 + f) mi_235_19 (by rw [show (54) + ((f : Int)) = ((54 + f : Nat) : Int) by omega]) G1 e91 (by omega) (by omega) (hW1 _ (by omega)) ?_
    refine V_clt mi_235_20 ⟨by omega, by omega⟩ ⟨by omega, by omega⟩ (fun q2 => ?_) (fun q2 => ?_)
    · refine V_ipush mi_235_27 ?_
      exact V_retI mi_235_28 (fun _ => by decide) ⟨by rw [decide_eq_true (show dwZ (nxV x) < G (54 + f) by omega)]; rfl, G1, U1⟩
    · refine V_ipush mi_235_23 ?_
      refine V_goto mi_235_24 ?_
      exact V_retI mi_235_28 (fun _ => by decide) ⟨by rw [decide_eq_false (show ¬ dwZ (nxV x) < G (54 + f) by omega)]; rfl, G1, U1⟩
noncomputable def MoD (x : Int) (w : va_W) : Prop := rd w 90 25 = some (.long (Int64.ofInt x)) ∧ rd w 90 24 = some (.int (Int32.ofInt 1)) ∧ rd w 90 21 = some (.int (Int32.ofInt 0))
theorem heaD {G : Nat → Int} (hB : HB G) : HEA l D tys A ad G (Int32.ofInt 0) huF (heD G) (dxD G) MoD :=
  ⟨fun x w w2 h o => ⟨(o _ _ (by omega) (by omega)).trans h.1, (o _ _ (by omega) (by omega)).trans h.2.1, (o _ _ (by omega) (by omega)).trans h.2.2⟩, fun x w h => h.2.2, fun s hs => by rw [hsh0 hs]; rfl, fun s x f w hs hf hG hW hM hp => ⟨2, by omega, CT_post (hed_ct (f := f) (s := s) hB (by have := hB.b3; omega) hG hW hM.2.1 hM.1) (fun r w2 h => by
    obtain ⟨e, g, u⟩ := h
    exact ⟨e, g, ⟨by rw [dxD_y hp]; exact upd_eq u, (upd_ne u (by omega)).trans hM.2.1, (upd_ne u (by omega)).trans hM.2.2⟩, fun c j hc => upd_ne u (by omega)⟩)⟩, fun s x f hp => dxD_n hp, fun _ _ => rfl⟩
theorem god_ct {G : Nat → Int} {x : Int} (hB : HB G) (hG : GOK ad tys GG ws) (hW : W91 G ws) (hx : rd ws 90 25 = some (.long (Int64.ofInt x))) (h24 : rd ws 90 24 = some (.int (Int32.ofInt 1))) : CT l D tys A 238 8 0 0 [.ref (ad 90)] ws (fun r w => r = none ∧ GOK ad tys GG w ∧ (∀ j, j < 36 → rd w 98 (36 * (G 2).toNat + j) = some (.int (Int32.ofInt ((dwS G x (G 2).toNat).1.K j)))) ∧ ∀ c j, ¬ (98 ≤ c ∧ c ≤ 101) → ¬ (c = 90 ∧ (j = 18 ∨ j = 21 ∨ j = 25)) → rd w c j = rd ws c j) := by
  refine CT_of_V (by omega) (show (1 : Nat) ≤ mML 238 by decide +kernel) ?_
  have b2 := hB.b2
  refine V_aload (v := ad 90) mi_238_0 (by simp [stL, stL2, lv_args, Value.category]) ?_
  refine V_ipush mi_238_1 ?_
  refine V_putI mi_238_2 hG f21m (by omega) rfl (by decide +kernel) (by rw [Int32.toInt_ofInt_of_le (by omega) (by omega)]; omega) (by rw [Int32.toInt_ofInt_of_le (by omega) (by omega)]; omega) (fun w1 G1 U1 => ?_)
  refine V_aload (v := ad 90) mi_238_5 (by simp [stL, stL2, lv_args, Value.category]) ?_
  refine V_callM (As := []) (st := []) mi_238_6 (by omega) (by decide +kernel) (by decide +kernel) G1 (gonw_ct (heaD hB) (x0 := x) hB G1 (fun j hj => (upd_ne U1 (by omega)).trans (hW j hj)) ⟨(upd_ne U1 (by omega)).trans hx, (upd_ne U1 (by omega)).trans h24, upd_eq U1⟩) (by omega) (show 0 = mN 237 by decide +kernel) (by simp [Value.category]) ?_
  rintro r w2 ⟨rfl, T2, k2, o2⟩
  exact V_retV mi_238_9 ⟨rfl, T2.g, fun j hj => k2 (G 2).toNat (by omega) j hj, fun c j h1 h2 => (o2 c j h1 (by omega)).trans (upd_ne U1 (by omega))⟩
theorem gdr_ct {G : Nat → Int} {x : Int} (hB : HB G) (hG : GOK ad tys GG ws) (hW : W91 G ws) (h24 : rd ws 90 24 = some (.int (Int32.ofInt 0))) : CT l D tys A 331 9 0 0 [.ref (ad 90), .long (Int64.ofInt (x))] ws (fun r w => r = none ∧ GOK ad tys GG w ∧ (∀ j, j < 36 → rd w 98 (36 * (G 2).toNat + j) = some (.int (Int32.ofInt ((dwS G x (G 2).toNat).1.K j)))) ∧ MTW ws w) := by
  refine CT_of_V (by omega) (show (3 : Nat) ≤ mML 331 by decide +kernel) ?_
  have b2 := hB.b2
  refine V_aload (v := ad 90) mi_331_0 (by simp [stL, stL2, lv_args, Value.category]) ?_
  refine V_lload (v := Int64.ofInt (x)) mi_331_1 (by simp [stL, stL2, lv_args, Value.category]) ?_
  refine V_putL mi_331_2 hG f25m (by omega) rfl (by decide +kernel) (fun w1 G1 U1 => ?_)
  refine V_aload (v := ad 90) mi_331_5 (by simp [stL, stL2, lv_args, Value.category]) ?_
  refine V_ipush mi_331_6 ?_
  refine V_putB mi_331_7 G1 f24m (by omega) rfl rfl (by decide +kernel) (by rw [Int32.toInt_ofInt_of_le (by omega) (by omega)]; omega) (by rw [Int32.toInt_ofInt_of_le (by omega) (by omega)]; omega) (fun w2 G2 U2 => ?_)
  refine V_aload (v := ad 90) mi_331_10 (by simp [stL, stL2, lv_args, Value.category]) ?_
  refine V_callM (As := []) (st := []) mi_331_11 (by omega) (by decide +kernel) (by decide +kernel) G2 (god_ct hB G2 (fun j hj => (upd_ne U2 (by omega)).trans ((upd_ne U1 (by omega)).trans (hW j hj))) ((upd_ne U2 (by omega)).trans (upd_eq U1)) (upd_eq U2)) (by omega) (show 0 = mN 238 by decide +kernel) (by simp [Value.category]) ?_
  rintro r w3 ⟨rfl, G3, k3, o3⟩
  refine V_aload (v := ad 90) mi_331_14 (by simp [stL, stL2, lv_args, Value.category]) ?_
  refine V_ipush mi_331_15 ?_
  refine V_putB mi_331_16 G3 f24m (by omega) rfl rfl (by decide +kernel) (by rw [Int32.toInt_ofInt_of_le (by omega) (by omega)]; omega) (by rw [Int32.toInt_ofInt_of_le (by omega) (by omega)]; omega) (fun w4 G4 U4 => ?_)
  refine V_retV mi_331_19 ⟨rfl, G4, fun j hj => (upd_ne U4 (by omega)).trans (k3 j hj), fun c j h1 h2 => ?_⟩
  by_cases e : c = 90 ∧ j = 24
  · rw [e.1, e.2, h24]
    exact upd_eq U4
  · exact (upd_ne U4 e).trans ((o3 c j h1 (by omega)).trans ((upd_ne U2 e).trans (upd_ne U1 (by omega))))
theorem orI_cg {P Q : Nat → Bool} : ∀ n : Nat, (∀ f, f < n → P f = Q f) → orI P n = orI Q n
  | 0, _ => rfl
  | n + 1, h => by
    unfold orI
    rw [orI_cg n (fun f hf => h f (by omega)), h n (by omega)]
theorem tb_cl {a : Int} {i j : Nat} (a0 : 0 ≤ a) (a1 : a ≤ 63) (hi : i < 6) (hj : j < 6) : tb (clB a (i : Int)) (j : Int) = (tb a (j : Int) && !(Nat.beq j i)) := by
  have q := List.all_eq_true.mp (List.all_eq_true.mp (List.all_eq_true.mp clC_all a.toNat (List.mem_range.mpr (by omega))) i (List.mem_range.mpr hi)) j (List.mem_range.mpr hj)
  rw [Int.toNat_of_nonneg a0, Bool.and_eq_true] at q
  simpa using q.1
/-- one who does not hear it is left out -/
theorem orI_cl {P Q : Nat → Bool} {i n : Nat} (hn : n ≤ 6) (hi : i < n) (h : ∀ f, f < n → Q f = (P f && !(Nat.beq f i))) : clB (orI P n) (i : Int) = orI Q n := by
  have bp := orI_bd (P := P) hn
  have bq := orI_bd (P := Q) hn
  refine tb_ext (clB_k (i := i) bp.1 bp.2 (by omega)).1 bq (fun j hj => ?_)
  rw [tb_cl bp.1 bp.2 (by omega) hj, tb_orI hj n hn, tb_orI hj n hn]
  by_cases c : j < n
  · rw [h j c, decide_eq_true c, Bool.true_and, Bool.true_and]
  · rw [decide_eq_false c, Bool.false_and, Bool.false_and, Bool.false_and]
theorem pd_49 {G : Nat → Int} (hG : GOK ad tys GG ws) (hX : HX 4 G ws) (hB : HB G) {s : Nat} {x x0 : Int} {iv : Int32} (hs : s < 12) (hprs : rd ws 30 s = some (.int (Int32.ofInt (orI (preP G s) (G 3).toNat)))) {post : Option Value → va_W → Prop} : ∀ (m p : Nat), ((p + m : Nat) : Int) = G 3 → V l D tys A 97 3 0 0 post 0 0 129 [(0, .ref (ad 28)), (1, .ref (ad 4)), (2, .long (Int64.ofInt (x0))), (4, .long (Int64.ofInt (dxD G s x (G 3).toNat))), (6, .int (iv)), (7, .int (Int32.ofInt ((s : Int)))), (8, .int (Int32.ofInt (orI (pW G (heD G) s x) (G 3).toNat)))] [] ws → V l D tys A 97 3 0 0 post 0 0 49 [(0, .ref (ad 28)), (1, .ref (ad 4)), (2, .long (Int64.ofInt (x0))), (4, .long (Int64.ofInt (dxD G s x p))), (6, .int (iv)), (7, .int (Int32.ofInt ((s : Int)))), (8, .int (Int32.ofInt (orI (fun f => preP G s f && (decide (p ≤ f) || heD G s x f)) (G 3).toNat))), (9, .int (Int32.ofInt ((p : Int))))] [] ws
  | 0, p, hm, kk => by
    have b3 := hB.b3
    refine V_iload (v := Int32.ofInt ((p : Int))) mi_97_49 (by simp [stL, stL2, lv_args, Value.category]) ?_
    refine V_aload (v := ad 4) mi_97_51 (by simp [stL, stL2, lv_args, Value.category]) ?_
    refine V_gO mi_97_52 g4o hG (show rd _ 4 4 = some (.int (Int32.ofInt (G 3))) from hx0 hX (i := 4) (by omega)) ?_
    refine V_cge mi_97_55 ⟨by omega, by omega⟩ ⟨by omega, by omega⟩ (fun q => ?_) (fun q => ?_)
    · have e : p = (G 3).toNat := by omega
      rw [e, show orI (fun f => preP G s f && (decide ((G 3).toNat ≤ f) || heD G s x f)) (G 3).toNat = orI (pW G (heD G) s x) (G 3).toNat from orI_cg _ (fun f hf => by unfold pW; rw [decide_eq_false (by omega), Bool.false_or])]
      refine V_sub (lv' := [(0, .ref (ad 28)), (1, .ref (ad 4)), (2, .long (Int64.ofInt (x0))), (4, .long (Int64.ofInt (dxD G s x (G 3).toNat))), (6, .int (iv)), (7, .int (Int32.ofInt ((s : Int)))), (8, .int (Int32.ofInt (orI (pW G (heD G) s x) (G 3).toNat)))]) (fun q hq => ?_) ?_
      · simp only [List.mem_cons, List.not_mem_nil, or_false] at hq
        rcases hq with rfl | rfl | rfl | rfl | rfl | rfl | rfl <;> simp [stL, stL2, lv_args, Value.category]
      exact kk
    · exact absurd q (by omega)
  | m + 1, p, hm, kk => by
    have b3 := hB.b3
    refine V_iload (v := Int32.ofInt ((p : Int))) mi_97_49 (by simp [stL, stL2, lv_args, Value.category]) ?_
    refine V_aload (v := ad 4) mi_97_51 (by simp [stL, stL2, lv_args, Value.category]) ?_
    refine V_gO mi_97_52 g4o hG (show rd _ 4 4 = some (.int (Int32.ofInt (G 3))) from hx0 hX (i := 4) (by omega)) ?_
    refine V_cge mi_97_55 ⟨by omega, by omega⟩ ⟨by omega, by omega⟩ (fun q => ?_) (fun q => ?_)
    · exact absurd q (by omega)
    · have ob := orI_bd (P := preP G s) (f := (G 3).toNat) (by omega)
      have p1 := (tb_k (a := orI (preP G s) (G 3).toNat) (i := (p : Int)) ob.1 ob.2 (by omega) (by omega)).1
      rw [tb_orI (by omega) _ (by omega), decide_eq_true (show p < (G 3).toNat by omega), Bool.true_and] at p1
      have ob2 := orI_bd (P := (fun f => preP G s f && (decide (p ≤ f) || heD G s x f))) (f := (G 3).toNat) (by omega)
      have bd := hB.bd p (by omega)
      refine V_aload (v := ad 28) mi_97_58 (by simp [stL, stL2, lv_args, Value.category]) ?_
      refine V_iload (v := Int32.ofInt ((s : Int))) mi_97_59 (by simp [stL, stL2, lv_args, Value.category]) ?_
      refine V_cO (As := [.int (Int32.ofInt ((s : Int)))]) (st := []) mi_97_61 (by omega) (by decide +kernel) (by decide +kernel) (by omega) g28o hG (prs_ct (s := s) hG hs hprs) (by omega) (show 1 = mN 89 by decide +kernel) (by simp [Value.category]) ?_
      rintro r w1 ⟨e1, rfl⟩
      rw [e1]
      refine V_iload (v := Int32.ofInt ((p : Int))) mi_97_64 (by simp [stL, stL2, lv_args, Value.category]) ?_
      refine V_ibin mi_97_66 (by omega) ?_
      refine V_ipush mi_97_67 ?_
      refine V_ibin mi_97_68 (by omega) ?_
      rw [p1]
      refine V_beq mi_97_69  (fun q2 => ?_) (fun q2 => ?_)
      · rw [← dxD_n (x := x) q2]
        rw [show orI (fun f => preP G s f && (decide (p ≤ f) || heD G s x f)) (G 3).toNat = orI (fun f => preP G s f && (decide (p + 1 ≤ f) || heD G s x f)) (G 3).toNat from orI_cg _ (fun f hf => by
          by_cases c : f = p
          · rw [c]; rw [q2]; rfl
          · rw [show decide (p ≤ f) = decide (p + 1 ≤ f) from decide_eq_decide.mpr (by omega)])]
        refine V_iinc (v := Int32.ofInt ((p : Int))) mi_97_123 (by simp [stL, stL2, lv_args, Value.category]) ?_
        rw [ia2]
        refine V_goto mi_97_126 ?_
        refine V_sub (lv' := [(0, .ref (ad 28)), (1, .ref (ad 4)), (2, .long (Int64.ofInt (x0))), (4, .long (Int64.ofInt (dxD G s x (p + 1)))), (6, .int (iv)), (7, .int (Int32.ofInt ((s : Int)))), (8, .int (Int32.ofInt (orI (fun f => preP G s f && (decide (p + 1 ≤ f) || heD G s x f)) (G 3).toNat))), (9, .int (Int32.ofInt (((p + 1 : Nat) : Int))))]) (fun q hq => ?_) ?_
        · simp only [List.mem_cons, List.not_mem_nil, or_false] at hq
          rcases hq with rfl | rfl | rfl | rfl | rfl | rfl | rfl | rfl <;> simp [stL, stL2, lv_args, Value.category]
        exact pd_49 hG hX hB hs hprs m (p + 1) (by omega) kk
      · refine V_lpush mi_97_72 ?_
        refine V_lload (v := Int64.ofInt (dxD G s x p)) mi_97_75 (by simp [stL, stL2, lv_args, Value.category]) ?_
        refine V_lbin mi_97_77 (by omega) ?_
        refine V_lpush mi_97_78 ?_
        refine V_lbin mi_97_81 (by omega) ?_
        refine V_lpush mi_97_82 ?_
        refine V_lbin mi_97_85 (fun _ => by decide) ?_
        rw [nx_i, ← dxD_y (x := x) q2]
        refine V_lstore mi_97_86 ?_
        have db := dw_bd (dxD G s x (p + 1))
        refine V_lload (v := Int64.ofInt (dxD G s x (p + 1))) mi_97_88 (by simp [stL, stL2, lv_args, Value.category]) ?_
        refine V_lpush mi_97_90 ?_
        refine V_lbin mi_97_93 (fun _ => by decide) ?_
        refine V_lpush mi_97_94 ?_
        refine V_lbin mi_97_97 (fun _ => by decide) ?_
        rw [dw_i]
        refine V_aload (v := ad 4) mi_97_98 (by simp [stL, stL2, lv_args, Value.category]) ?_
        refine V_gR mi_97_99 g4r9 (by omega) hG ?_
        refine V_iload (v := Int32.ofInt ((p : Int))) mi_97_102 (by simp [stL, stL2, lv_args, Value.category]) ?_
        refine V_stat (As := [.ref (ad 8), .int (Int32.ofInt ((p : Int)))]) (st := [.long (Int64.ofInt (dwZ (dxD G s x (p + 1))))]) mi_97_104 (by omega) (atk_ct (j := p) a8 hG (by omega) (by omega) (HX_HY hX 4 (by omega) p (show p < 6 by omega))) (by omega) (show 2 = mN 147 by decide +kernel) (by simp [Value.category]) ⟨Nat.le_refl _, Nat.le_refl _⟩ ?_
        rintro r w2 ⟨e2, rfl⟩
        rw [e2, show G (hxJ 4 p) = G (54 + p) from rfl]
        refine V_i2l mi_97_107 ?_
        rw [i2lx ⟨by omega, by omega⟩]
        refine V_lcmp mi_97_108 ?_
        have cl := cdL_iff (x := 3) (a := dwZ (dxD G s x (p + 1))) (b := G (54 + p)) (by omega) (by omega) (by omega) (by omega)
        have ed : dxD G s x (p + 1) = nxV (dxD G s x p) := dxD_y q2
        refine V_if mi_97_109 (fun q3 => ?_) (fun q3 => ?_)
        · have q4 : 0 ≤ dwZ (dxD G s x (p + 1)) - G (54 + p) := cl.mp q3
          have eh : heD G s x p = true := by unfold heD; rw [← ed, decide_eq_false (by omega)]; rfl
          rw [show orI (fun f => preP G s f && (decide (p ≤ f) || heD G s x f)) (G 3).toNat = orI (fun f => preP G s f && (decide (p + 1 ≤ f) || heD G s x f)) (G 3).toNat from orI_cg _ (fun f hf => by
            by_cases c : f = p
            · rw [c]; rw [q2, eh, Bool.or_true, Bool.or_true]
            · rw [show decide (p ≤ f) = decide (p + 1 ≤ f) from decide_eq_decide.mpr (by omega)])]
          refine V_iinc (v := Int32.ofInt ((p : Int))) mi_97_123 (by simp [stL, stL2, lv_args, Value.category]) ?_
          rw [ia2]
          refine V_goto mi_97_126 ?_
          refine V_sub (lv' := [(0, .ref (ad 28)), (1, .ref (ad 4)), (2, .long (Int64.ofInt (x0))), (4, .long (Int64.ofInt (dxD G s x (p + 1)))), (6, .int (iv)), (7, .int (Int32.ofInt ((s : Int)))), (8, .int (Int32.ofInt (orI (fun f => preP G s f && (decide (p + 1 ≤ f) || heD G s x f)) (G 3).toNat))), (9, .int (Int32.ofInt (((p + 1 : Nat) : Int))))]) (fun q hq => ?_) ?_
          · simp only [List.mem_cons, List.not_mem_nil, or_false] at hq
            rcases hq with rfl | rfl | rfl | rfl | rfl | rfl | rfl | rfl <;> simp [stL, stL2, lv_args, Value.category]
          exact pd_49 hG hX hB hs hprs m (p + 1) (by omega) kk
        · have q4 : ¬ 0 ≤ dwZ (dxD G s x (p + 1)) - G (54 + p) := fun h => q3 (cl.mpr h)
          have eh : heD G s x p = false := by unfold heD; rw [← ed, decide_eq_true (by omega)]; rfl
          refine V_iload (v := Int32.ofInt (orI (fun f => preP G s f && (decide (p ≤ f) || heD G s x f)) (G 3).toNat)) mi_97_112 (by simp [stL, stL2, lv_args, Value.category]) ?_
          refine V_ipush mi_97_114 ?_
          refine V_iload (v := Int32.ofInt ((p : Int))) mi_97_115 (by simp [stL, stL2, lv_args, Value.category]) ?_
          refine V_ibin mi_97_117 (by omega) ?_
          refine V_ipush mi_97_118 ?_
          refine V_ibin mi_97_119 (by omega) ?_
          refine V_ibin mi_97_120 (by omega) ?_
          rw [clB_i, orI_cl (Q := (fun f => preP G s f && (decide (p + 1 ≤ f) || heD G s x f))) (by omega) (by omega) (fun f hf => ?hq)]
          case hq =>
            by_cases c : f = p
            · rw [c, Nat.beq_refl, eh, decide_eq_false (by omega), Bool.or_false, Bool.and_false, Bool.not_true, Bool.and_false]
            · rw [show Nat.beq f p = false from Bool.eq_false_iff.mpr (fun e => c (Nat.eq_of_beq_eq_true e)), Bool.not_false, Bool.and_true, show decide (p ≤ f) = decide (p + 1 ≤ f) from decide_eq_decide.mpr (by omega)]
          refine V_istore mi_97_121 ?_
          refine V_iinc (v := Int32.ofInt ((p : Int))) mi_97_123 (by simp [stL, stL2, lv_args, Value.category]) ?_
          rw [ia2]
          refine V_goto mi_97_126 ?_
          refine V_sub (lv' := [(0, .ref (ad 28)), (1, .ref (ad 4)), (2, .long (Int64.ofInt (x0))), (4, .long (Int64.ofInt (dxD G s x (p + 1)))), (6, .int (iv)), (7, .int (Int32.ofInt ((s : Int)))), (8, .int (Int32.ofInt (orI (fun f => preP G s f && (decide (p + 1 ≤ f) || heD G s x f)) (G 3).toNat))), (9, .int (Int32.ofInt (((p + 1 : Nat) : Int))))]) (fun q hq => ?_) ?_
          · simp only [List.mem_cons, List.not_mem_nil, or_false] at hq
            rcases hq with rfl | rfl | rfl | rfl | rfl | rfl | rfl | rfl <;> simp [stL, stL2, lv_args, Value.category]
          exact pd_49 hG hX hB hs hprs m (p + 1) (by omega) kk
theorem pdx_11 {G : Nat → Int} {w0 : va_W} (hX0 : HX 4 G w0) (hS0 : STO G w0) (hB : HB G) (wf : WF G) {x0 : Int} {h : Nat} {post : Option Value → va_W → Prop} : ∀ (m s : Nat) (S : TT × Int) (ws : va_W), s + m = (G 4).toNat → kOK S.1.K → GOK ad tys GG ws → XSC w0 ws → XKN G S.1.K ws → (∀ w : va_W, GOK ad tys GG w → XSC w0 w → XKN G (sayW G huF (heD G) (dxD G) h m s S).1.K w → kOK (sayW G huF (heD G) (dxD G) h m s S).1.K → V l D tys A 97 3 0 0 post 0 0 11 [(0, .ref (ad 28)), (1, .ref (ad 4)), (2, .long (Int64.ofInt (x0))), (4, .long (Int64.ofInt ((sayW G huF (heD G) (dxD G) h m s S).2))), (6, .int (Int32.ofInt (((cntH G (G 4).toNat (h + 1) : Nat) : Int))))] [] w) → V l D tys A 97 3 0 0 post 0 0 11 [(0, .ref (ad 28)), (1, .ref (ad 4)), (2, .long (Int64.ofInt (x0))), (4, .long (Int64.ofInt (S.2))), (6, .int (Int32.ofInt (((cntH G (G 4).toNat h + cntS G h s : Nat) : Int))))] [] ws
  | 0, s, S, ws, hm, hk, hG, hO, hK, kk => by
    have e : cntH G (G 4).toNat (h + 1) = cntH G (G 4).toNat h + cntS G h s := by rw [show s = (G 4).toNat by omega]; rfl
    rw [e] at kk
    exact kk ws hG hO hK hk
  | m + 1, s, S, ws, hm, hk, hG, hO, hK, kk => by
    by_cases e : sWhn G s = h
    · have hX : HX 4 G ws := XSC_X hO hX0
      have b4 := hB.b4
      have b3 := hB.b3
      have wn := WF_n hB wf
      have ep : pos G (G 4).toNat s = cntH G (G 4).toNat h + cntS G h s := by unfold pos; rw [e]
      have pn : pos G (G 4).toNat s < (G 4).toNat := pos_n wn (by omega)
      obtain ⟨⟨w6, o6, i6, n24⟩, g0, g1, g2, g3⟩ := say_b hB (s := s) (by omega)
      have hord : rd ws 29 (cntH G (G 4).toNat h + cntS G h s) = some (.int (Int32.ofInt (s : Int))) := by rw [← ep]; exact (hO 29 _ (by omega)).trans (hS0.1 s (by omega))
      have hprs : rd ws 30 s = some (.int (Int32.ofInt (orI (preP G s) (G 3).toNat))) := (hO 30 _ (by omega)).trans (hS0.2.1 s (by omega))
      have ec : cntS G h (s + 1) = cntS G h s + 1 := cntS_hit e
      have es : sayW G huF (heD G) (dxD G) h (m + 1) s S = sayW G huF (heD G) (dxD G) h m (s + 1) (oneW G huF (heD G) (dxD G) s S) := by
        show sayW G huF (heD G) (dxD G) h m (s + 1) (if sWhn G s = h then oneW G huF (heD G) (dxD G) s S else S) = _
        rw [if_pos e]
      rw [es] at kk
      refine V_iload (v := Int32.ofInt (((cntH G (G 4).toNat h + cntS G h s : Nat) : Int))) mi_97_11 (by simp [stL, stL2, lv_args, Value.category]) ?_
      refine V_aload (v := ad 4) mi_97_13 (by simp [stL, stL2, lv_args, Value.category]) ?_
      refine V_gO mi_97_14 g4o hG (show rd _ 4 5 = some (.int (Int32.ofInt (G 4))) from hx0 hX (i := 5) (by omega)) ?_
      refine V_cge mi_97_17 ⟨by omega, by omega⟩ ⟨by omega, by omega⟩ (fun q => ?_) (fun q => ?_)
      · exact absurd q (by omega)
      · refine V_aload (v := ad 28) mi_97_20 (by simp [stL, stL2, lv_args, Value.category]) ?_
        refine V_iload (v := Int32.ofInt (((cntH G (G 4).toNat h + cntS G h s : Nat) : Int))) mi_97_21 (by simp [stL, stL2, lv_args, Value.category]) ?_
        refine V_cO (As := [.int (Int32.ofInt (((cntH G (G 4).toNat h + cntS G h s : Nat) : Int)))]) (st := []) mi_97_23 (by omega) (by decide +kernel) (by decide +kernel) (by omega) g28o hG (ino_ct (s := cntH G (G 4).toNat h + cntS G h s) hG (by omega) hord) (by omega) (show 1 = mN 90 by decide +kernel) (by simp [Value.category]) ?_
        rintro r w1 ⟨e1, rfl⟩
        rw [e1]
        refine V_istore mi_97_26 ?_
        refine V_aload (v := ad 28) mi_97_28 (by simp [stL, stL2, lv_args, Value.category]) ?_
        refine V_aload (v := ad 4) mi_97_29 (by simp [stL, stL2, lv_args, Value.category]) ?_
        refine V_iload (v := Int32.ofInt ((s : Int))) mi_97_30 (by simp [stL, stL2, lv_args, Value.category]) ?_
        refine V_cO (As := [.ref (ad 4), .int (Int32.ofInt ((s : Int)))]) (st := []) mi_97_32 (by omega) (by decide +kernel) (by decide +kernel) (by omega) g28o hG (csy_ct hG hX hB wf hk hK (s := s) (by omega)) (by omega) (show 2 = mN 91 by decide +kernel) (by simp [Value.category]) ?_
        rintro r w2 ⟨e2, rfl⟩
        rw [e2]
        refine V_beq mi_97_35  (fun q3 => ?_) (fun q3 => ?_)
        · have e1w : oneW G huF (heD G) (dxD G) s S = S := by unfold oneW; rw [if_neg (fun k => by rw [q3] at k; exact absurd k.2 Bool.false_ne_true)]
          rw [e1w] at kk
          refine V_iinc (v := Int32.ofInt (((cntH G (G 4).toNat h + cntS G h s : Nat) : Int))) mi_97_139 (by simp [stL, stL2, lv_args, Value.category]) ?_
          rw [ia2]
          rw [show ((cntH G (G 4).toNat h + cntS G h s : Nat) : Int) + (1) = ((cntH G (G 4).toNat h + cntS G h (s + 1) : Nat) : Int) by omega]
          refine V_goto mi_97_142 ?_
          refine V_sub (lv' := [(0, .ref (ad 28)), (1, .ref (ad 4)), (2, .long (Int64.ofInt (x0))), (4, .long (Int64.ofInt (S.2))), (6, .int (Int32.ofInt (((cntH G (G 4).toNat h + cntS G h (s + 1) : Nat) : Int))))]) (fun q hq => ?_) ?_
          · simp only [List.mem_cons, List.not_mem_nil, or_false] at hq
            rcases hq with rfl | rfl | rfl | rfl | rfl <;> simp [stL, stL2, lv_args, Value.category]
          exact pdx_11 hX0 hS0 hB wf m (s + 1) S ws (by omega) hk hG hO hK kk
        · have e1w : oneW G huF (heD G) (dxD G) s S = ((spW (pW G (heD G) s S.2) G s (G 3).toNat S.1.K, ibF 6 S.1.sd (ibF 8 (Int32.ofInt 1) (Int32.ofInt (s : Int))), updI S.1.hb s (orI (pW G (heD G) s S.2) (G 3).toNat), updI S.1.lb s (orI (lrW (pW G (heD G) s S.2) G S.1.K s) (G 3).toNat)), dxD G s S.2 (G 3).toNat) := by unfold oneW; rw [if_pos ⟨rfl, q3⟩]
          rw [e1w] at kk
          refine V_aload (v := ad 28) mi_97_38 (by simp [stL, stL2, lv_args, Value.category]) ?_
          refine V_iload (v := Int32.ofInt ((s : Int))) mi_97_39 (by simp [stL, stL2, lv_args, Value.category]) ?_
          refine V_cO (As := [.int (Int32.ofInt ((s : Int)))]) (st := []) mi_97_41 (by omega) (by decide +kernel) (by decide +kernel) (by omega) g28o hG (prs_ct (s := s) hG (by omega) hprs) (by omega) (show 1 = mN 89 by decide +kernel) (by simp [Value.category]) ?_
          rintro r w3 ⟨e3, rfl⟩
          rw [e3, show orI (preP G s) (G 3).toNat = orI (fun f => preP G s f && (decide (0 ≤ f) || heD G s S.2 f)) (G 3).toNat from orI_cg _ (fun f hf => by rw [decide_eq_true (Nat.zero_le f), Bool.true_or, Bool.and_true])]
          refine V_istore mi_97_44 ?_
          refine V_ipush mi_97_46 ?_
          refine V_istore mi_97_47 ?_
          have iK : kOK (spW (pW G (heD G) s S.2) G s (G 3).toNat S.1.K) := spW_ok hk i6
          refine V_sub (lv' := [(0, .ref (ad 28)), (1, .ref (ad 4)), (2, .long (Int64.ofInt (x0))), (4, .long (Int64.ofInt (S.2))), (6, .int (Int32.ofInt (((cntH G (G 4).toNat h + cntS G h s : Nat) : Int)))), (7, .int (Int32.ofInt ((s : Int)))), (8, .int (Int32.ofInt (orI (fun f => preP G s f && (decide (0 ≤ f) || heD G s S.2 f)) (G 3).toNat))), (9, .int (Int32.ofInt (((0 : Nat) : Int))))]) (fun q hq => ?_) ?_
          · simp only [List.mem_cons, List.not_mem_nil, or_false] at hq
            rcases hq with rfl | rfl | rfl | rfl | rfl | rfl | rfl | rfl <;> simp [stL, stL2, lv_args, Value.category]
          refine pd_49 (x := S.2) hG hX hB (by omega) hprs (G 3).toNat 0 (by omega) ?_
          refine V_aload (v := ad 28) mi_97_129 (by simp [stL, stL2, lv_args, Value.category]) ?_
          refine V_aload (v := ad 4) mi_97_130 (by simp [stL, stL2, lv_args, Value.category]) ?_
          refine V_iload (v := Int32.ofInt ((s : Int))) mi_97_131 (by simp [stL, stL2, lv_args, Value.category]) ?_
          refine V_iload (v := Int32.ofInt (orI (pW G (heD G) s S.2) (G 3).toNat)) mi_97_133 (by simp [stL, stL2, lv_args, Value.category]) ?_
          refine V_cO (As := [.ref (ad 4), .int (Int32.ofInt ((s : Int))), .int (Int32.ofInt (orI (pW G (heD G) s S.2) (G 3).toNat))]) (st := []) mi_97_135 (by omega) (by decide +kernel) (by decide +kernel) (by omega) g28o hG (sprw_ct (P := pW G (heD G) s S.2) hG hX hB hk hK (s := s) (by omega)) (by omega) (show 3 = mN 92 by decide +kernel) (by simp [Value.category]) ?_
          rintro r w4 ⟨rfl, G4, k4, o4⟩
          refine V_pop mi_97_138 (by simp [Value.category]) ?_
          refine V_iinc (v := Int32.ofInt (((cntH G (G 4).toNat h + cntS G h s : Nat) : Int))) mi_97_139 (by simp [stL, stL2, lv_args, Value.category]) ?_
          rw [ia2]
          rw [show ((cntH G (G 4).toNat h + cntS G h s : Nat) : Int) + (1) = ((cntH G (G 4).toNat h + cntS G h (s + 1) : Nat) : Int) by omega]
          refine V_goto mi_97_142 ?_
          refine V_sub (lv' := [(0, .ref (ad 28)), (1, .ref (ad 4)), (2, .long (Int64.ofInt (x0))), (4, .long (Int64.ofInt (dxD G s S.2 (G 3).toNat))), (6, .int (Int32.ofInt (((cntH G (G 4).toNat h + cntS G h (s + 1) : Nat) : Int))))]) (fun q hq => ?_) ?_
          · simp only [List.mem_cons, List.not_mem_nil, or_false] at hq
            rcases hq with rfl | rfl | rfl | rfl | rfl <;> simp [stL, stL2, lv_args, Value.category]
          exact pdx_11 hX0 hS0 hB wf m (s + 1) ((spW (pW G (heD G) s S.2) G s (G 3).toNat S.1.K, _, _, _), dxD G s S.2 (G 3).toNat) w4 (by omega) iK G4 (fun c j hc => (o4 c j (by omega)).trans (hO c j hc)) k4 kk
    · have es : sayW G huF (heD G) (dxD G) h (m + 1) s S = sayW G huF (heD G) (dxD G) h m (s + 1) S := by
        show sayW G huF (heD G) (dxD G) h m (s + 1) (if sWhn G s = h then _ else S) = _
        rw [if_neg e]
      rw [es] at kk
      rw [← cntS_no e]
      exact pdx_11 hX0 hS0 hB wf m (s + 1) S ws (by omega) hk hG hO hK kk
theorem pdh_11 {G : Nat → Int} {w0 : va_W} (hX0 : HX 4 G w0) (hS0 : STO G w0) (hB : HB G) (wf : WF G) {x0 : Int} {post : Option Value → va_W → Prop} : ∀ (m h : Nat) (ws : va_W), ((h + m : Nat) : Int) = G 2 → kOK (dwS G x0 h).1.K → GOK ad tys GG ws → XSC w0 ws → XKN G (dwS G x0 h).1.K ws → (∀ w : va_W, GOK ad tys GG w → XSC w0 w → XKN G (dwS G x0 (G 2).toNat).1.K w → post none w) → V l D tys A 97 3 0 0 post 0 0 11 [(0, .ref (ad 28)), (1, .ref (ad 4)), (2, .long (Int64.ofInt (x0))), (4, .long (Int64.ofInt ((dwS G x0 h).2))), (6, .int (Int32.ofInt (((cntH G (G 4).toNat h : Nat) : Int))))] [] ws
  | 0, h, ws, hm, hk, hG, hO, hK, kk => by
    have hX : HX 4 G ws := XSC_X hO hX0
    have b4 := hB.b4
    have e0 : h = (G 2).toNat := by omega
    have ec : cntH G (G 4).toNat h = (G 4).toNat := by rw [e0]; exact cntH_all _ (WF_n hB wf)
    rw [e0] at hK
    refine V_iload (v := Int32.ofInt (((cntH G (G 4).toNat h : Nat) : Int))) mi_97_11 (by simp [stL, stL2, lv_args, Value.category]) ?_
    refine V_aload (v := ad 4) mi_97_13 (by simp [stL, stL2, lv_args, Value.category]) ?_
    refine V_gO mi_97_14 g4o hG (show rd _ 4 5 = some (.int (Int32.ofInt (G 4))) from hx0 hX (i := 5) (by omega)) ?_
    refine V_cge mi_97_17 ⟨by omega, by omega⟩ ⟨by omega, by omega⟩ (fun q => ?_) (fun q => ?_)
    · exact V_retV mi_97_145 (kk ws hG hO hK)
    · exact absurd q (by omega)
  | m + 1, h, ws, hm, hk, hG, hO, hK, kk => by
    have b4 := hB.b4
    exact pdx_11 hX0 hS0 hB wf (h := h) (G 4).toNat 0 (dwS G x0 h) ws (by omega) hk hG hO hK (fun w g o' k kk2 => pdh_11 hX0 hS0 hB wf m (h + 1) w (by omega) kk2 g o' k kk)
theorem pld_ct {G : Nat → Int} (hG : GOK ad tys GG ws) (hX : HX 4 G ws) (hS : STO G ws) (hB : HB G) (wf : WF G) {x0 : Int} : CT l D tys A 97 3 0 0 [.ref (ad 28), .ref (ad 4), .long (Int64.ofInt (x0))] ws (fun r w => r = none ∧ GOK ad tys GG w ∧ XSC ws w ∧ XKN G (dwS G x0 (G 2).toNat).1.K w) := by
  refine CT_of_V (by omega) (show (4 : Nat) ≤ mML 97 by decide +kernel) ?_
  have b2 := hB.b2
  refine V_lload (v := Int64.ofInt (x0)) mi_97_0 (by simp [stL, stL2, lv_args, Value.category]) ?_
  refine V_lstore mi_97_1 ?_
  refine V_aload (v := ad 28) mi_97_3 (by simp [stL, stL2, lv_args, Value.category]) ?_
  refine V_aload (v := ad 4) mi_97_4 (by simp [stL, stL2, lv_args, Value.category]) ?_
  refine V_cO (As := [.ref (ad 4)]) (st := []) mi_97_5 (by omega) (by decide +kernel) (by decide +kernel) (by omega) g28o hG (bgn_ct hG hX hB) (by omega) (show 1 = mN 87 by decide +kernel) (by simp [Value.category]) ?_
  rintro r w1 ⟨rfl, G1, k1, o1⟩
  refine V_ipush mi_97_8 ?_
  refine V_istore mi_97_9 ?_
  refine V_sub (lv' := [(0, .ref (ad 28)), (1, .ref (ad 4)), (2, .long (Int64.ofInt (x0))), (4, .long (Int64.ofInt (x0))), (6, .int (Int32.ofInt (0)))]) (fun q hq => ?_) ?_
  · simp only [List.mem_cons, List.not_mem_nil, or_false] at hq
    rcases hq with rfl | rfl | rfl | rfl | rfl <;> simp [stL, stL2, lv_args, Value.category]
  rw [show Int32.ofInt (0 : Int) = Int32.ofInt ((cntH G (G 4).toNat 0 : Nat) : Int) from rfl]
  exact pdh_11 hX hS hB wf (G 2).toNat 0 w1 (by omega) (ini_ok hB) G1 (fun c j hc => o1 c j (by omega)) k1 (fun w g o2 k => ⟨rfl, g, o2, k⟩)
theorem dwnX_ct {G : Nat → Int} (hG : GOK ad tys GG ws) (hX : HX 4 G ws) (hB : HB G) (hS : STO G ws) (wf : WF G) {s f o : Int} (sI : I32 s) (fI : I32 f) (oI : I32 o) : CT l D tys A 64 4 0 0 [.ref (ad 0), .int (Int32.ofInt (s)), .int (Int32.ofInt (f)), .int (Int32.ofInt (o))] ws (fun r w => (GOK ad tys GG w ∧ XSC ws w) ∧ r = some (.int (if (0 ≤ s ∧ s ≤ 2000000000) ∧ (0 ≤ f ∧ f < G 3) ∧ (0 ≤ o ∧ o < G 3) then Int32.ofInt ((dwS G s (G 2).toNat).1.K (6 * f.toNat + o.toNat)) else Int32.ofInt (-2)))) := by
  refine CT_of_V (by omega) (show (4 : Nat) ≤ mML 64 by decide +kernel) ?_
  have b3 := hB.b3
  have b2 := hB.b2
  have s1 := sI.1
  have s2 := sI.2
  refine V_iload (v := Int32.ofInt (s)) mi_64_0 (by simp [stL, stL2, lv_args, Value.category]) ?_
  refine V_zlt mi_64_1 sI (fun q => ?_) (fun q => ?_)
  · refine V_ipush mi_64_33 ?_
    exact V_retI mi_64_35 (fun h => absurd h (by decide +kernel)) ⟨⟨hG, fun _ _ _ => rfl⟩, by rw [if_neg (fun k => by have := k.1.1; omega)]⟩
  · refine V_iload (v := Int32.ofInt (s)) mi_64_4 (by simp [stL, stL2, lv_args, Value.category]) ?_
    refine V_ipush mi_64_5 ?_
    refine V_cgt mi_64_8 ⟨by omega, by omega⟩ ⟨by omega, by omega⟩ (fun q2 => ?_) (fun q2 => ?_)
    · refine V_ipush mi_64_33 ?_
      exact V_retI mi_64_35 (fun h => absurd h (by decide +kernel)) ⟨⟨hG, fun _ _ _ => rfl⟩, by rw [if_neg (fun k => by have := k.1.2; omega)]⟩
    · refine V_aload (v := ad 0) mi_64_11 (by simp [stL, stL2, lv_args, Value.category]) ?_
      refine V_gR mi_64_12 g0r2 (by omega) hG ?_
      refine V_iload (v := Int32.ofInt (f)) mi_64_15 (by simp [stL, stL2, lv_args, Value.category]) ?_
      refine V_cO (As := [.int (Int32.ofInt (f))]) (st := []) mi_64_16 (by omega) (by decide +kernel) (by decide +kernel) (by omega) g4o hG (hfk_ct hG hX hB fI) (by omega) (show 1 = mN 102 by decide +kernel) (by simp [Value.category]) ?_
      rintro r w1 ⟨rfl, rfl⟩
      refine V_beq mi_64_19  (fun c1 => ?_) (fun c1 => ?_)
      · refine V_ipush mi_64_33 ?_
        exact V_retI mi_64_35 (fun h => absurd h (by decide +kernel)) ⟨⟨hG, fun _ _ _ => rfl⟩, by rw [if_neg (fun k => of_decide_eq_false c1 k.2.1)]⟩
      · refine V_aload (v := ad 0) mi_64_22 (by simp [stL, stL2, lv_args, Value.category]) ?_
        refine V_gR mi_64_23 g0r2 (by omega) hG ?_
        refine V_iload (v := Int32.ofInt (o)) mi_64_26 (by simp [stL, stL2, lv_args, Value.category]) ?_
        refine V_cO (As := [.int (Int32.ofInt (o))]) (st := []) mi_64_27 (by omega) (by decide +kernel) (by decide +kernel) (by omega) g4o hG (hfk_ct hG hX hB oI) (by omega) (show 1 = mN 102 by decide +kernel) (by simp [Value.category]) ?_
        rintro r w2 ⟨rfl, rfl⟩
        refine V_bne mi_64_30  (fun c2 => ?_) (fun c2 => ?_)
        · have k1 := of_decide_eq_true c1
          have k2 := of_decide_eq_true c2
          obtain ⟨m, rfl⟩ := Int.eq_ofNat_of_zero_le k1.1
          obtain ⟨n, rfl⟩ := Int.eq_ofNat_of_zero_le k2.1
          refine V_aload (v := ad 0) mi_64_36 (by simp [stL, stL2, lv_args, Value.category]) ?_
          refine V_gR mi_64_37 g0r4 (by omega) hG ?_
          refine V_aload (v := ad 0) mi_64_40 (by simp [stL, stL2, lv_args, Value.category]) ?_
          refine V_gR mi_64_41 g0r2 (by omega) hG ?_
          refine V_iload (v := Int32.ofInt (s)) mi_64_44 (by simp [stL, stL2, lv_args, Value.category]) ?_
          refine V_i2l mi_64_45 ?_
          rw [i2lx ⟨by omega, by omega⟩]
          refine V_cO (As := [.ref (ad 4), .long (Int64.ofInt (s))]) (st := []) mi_64_46 (by omega) (by decide +kernel) (by decide +kernel) (by omega) g28o hG (pld_ct (x0 := s) hG hX hS hB wf) (by omega) (show 2 = mN 97 by decide +kernel) (by simp [Value.category]) ?_
          rintro r w3 ⟨rfl, G3, o3, k3⟩
          refine V_aload (v := ad 0) mi_64_49 (by simp [stL, stL2, lv_args, Value.category]) ?_
          refine V_gR mi_64_50 g0r4 (by omega) G3 ?_
          refine V_iload (v := Int32.ofInt ((m : Int))) mi_64_53 (by simp [stL, stL2, lv_args, Value.category]) ?_
          refine V_iload (v := Int32.ofInt ((n : Int))) mi_64_54 (by simp [stL, stL2, lv_args, Value.category]) ?_
          refine V_cO (As := [.int (Int32.ofInt ((m : Int))), .int (Int32.ofInt ((n : Int)))]) (st := []) mi_64_55 (by omega) (by decide +kernel) (by decide +kernel) (by omega) g28o G3 (bts_ct (f := m) (o := n) G3 (by omega) (by omega) (k3 _ (by omega) (by omega))) (by omega) (show 2 = mN 88 by decide +kernel) (by simp [Value.category]) ?_
          rintro r w4 ⟨rfl, rfl⟩
          exact V_retI mi_64_58 (fun h => absurd h (by decide +kernel)) ⟨⟨G3, o3⟩, by rw [if_pos ⟨⟨q, q2⟩, k1, k2⟩, Int.toNat_natCast, Int.toNat_natCast]⟩
        · refine V_ipush mi_64_33 ?_
          exact V_retI mi_64_35 (fun h => absurd h (by decide +kernel)) ⟨⟨hG, fun _ _ _ => rfl⟩, by rw [if_neg (fun k => of_decide_eq_false c2 k.2.2)]⟩
theorem see_ct {s : Int} (sI : I32 s) : CT l D tys A 332 1 0 0 [.int (Int32.ofInt (s))] ws (fun r w => w = ws ∧ r = some (.int (bI (decide (0 ≤ s ∧ s ≤ 2000000000))))) := by
  refine CT_of_V (by omega) (show (1 : Nat) ≤ mML 332 by decide +kernel) ?_
  have s1 := sI.1
  have s2 := sI.2
  refine V_iload (v := Int32.ofInt (s)) mi_332_0 (by simp [stL, stL2, lv_args, Value.category]) ?_
  refine V_i2l mi_332_1 ?_
  rw [i2lx ⟨by omega, by omega⟩]
  refine V_lpush mi_332_2 ?_
  refine V_lpush mi_332_3 ?_
  refine V_stat (As := [.long (Int64.ofInt (s)), .long (Int64.ofInt (0)), .long (Int64.ofInt (2000000000))]) (st := []) mi_332_6 (by omega) (inM2 (m := s) (lo := 0) (hi := 2000000000) (by omega) (by omega) (by omega) (by omega) (by omega) (by omega)) (by omega) (show 3 = mN 193 by decide +kernel) (by simp [Value.category]) ⟨Nat.le_refl _, Nat.le_refl _⟩ ?_
  rintro r w2 ⟨rfl, rfl⟩
  exact V_retI mi_332_9 (fun _ => by cases decide (0 ≤ s ∧ s ≤ 2000000000) <;> decide) ⟨rfl, rfl⟩
theorem itz_ct {G : Nat → Int} (hB : HB G) (hG : GOK ad tys GG ws) (hW : W91 G ws) {f o : Nat} {z : Int} (hf : f < 6) (ho : o < 6) (hz : rd ws 98 (36 * (G 2).toNat + (6 * f + o)) = some (.int (Int32.ofInt z))) : CT l D tys A 240 1 0 0 [.ref (ad 90), .int (Int32.ofInt ((f : Int))), .int (Int32.ofInt ((o : Int)))] ws (fun r w => w = ws ∧ r = some (.int (Int32.ofInt z))) := by
  refine CT_of_V (by omega) (show (3 : Nat) ≤ mML 240 by decide +kernel) ?_
  obtain ⟨s91, e91, -⟩ := g91s
  have b2 := hB.b2
  refine V_aload (v := ad 90) mi_240_0 (by simp [stL, stL2, lv_args, Value.category]) ?_
  refine V_iload (v := Int32.ofInt ((f : Int))) mi_240_1 (by simp [stL, stL2, lv_args, Value.category]) ?_
  refine V_iload (v := Int32.ofInt ((o : Int))) mi_240_2 (by simp [stL, stL2, lv_args, Value.category]) ?_
  refine V_aload (v := ad 90) mi_240_3 (by simp [stL, stL2, lv_args, Value.category]) ?_
  refine V_getI mi_240_4 hG (rref gr1m (by omega) hG) ?_
  refine V_ipush mi_240_7 ?_
  refine V_aldX (j := 2) mi_240_8 rfl hG e91 (by omega) (by omega) (hW _ (by omega)) ?_
  rw [show G 2 = (((G 2).toNat : Nat) : Int) by omega]
  refine V_callM (As := [.int (Int32.ofInt ((f : Int))), .int (Int32.ofInt ((o : Int))), .int (Int32.ofInt (((G 2).toNat : Int)))]) (st := []) mi_240_9 (by omega) (by decide +kernel) (by decide +kernel) hG (kah_ct (f := f) (o := o) (g := (G 2).toNat) hG hf ho (by omega) hz) (by omega) (show 3 = mN 239 by decide +kernel) (by simp [Value.category]) ?_
  rintro r w2 ⟨rfl, rfl⟩
  exact V_retI mi_240_12 (fun h => absurd h (by decide +kernel)) ⟨rfl, rfl⟩
theorem dwnM_ct {G : Nat → Int} (hG : GOK ad tys GG ws) (hW : W91 G ws) (hB : HB G) (h24 : rd ws 90 24 = some (.int (Int32.ofInt 0))) (h22 : rd ws 90 22 = some (.int (Int32.ofInt (-1)))) {s f o : Int} (sI : I32 s) (fI : I32 f) (oI : I32 o) : CT l D tys A 333 10 0 0 [.ref (ad 90), .int (Int32.ofInt (s)), .int (Int32.ofInt (f)), .int (Int32.ofInt (o))] ws (fun r w => (GOK ad tys GG w ∧ MTW ws w) ∧ r = some (.int (if (0 ≤ s ∧ s ≤ 2000000000) ∧ (0 ≤ f ∧ f < G 3) ∧ (0 ≤ o ∧ o < G 3) then Int32.ofInt ((dwS G s (G 2).toNat).1.K (6 * f.toNat + o.toNat)) else Int32.ofInt (-2)))) := by
  refine CT_of_V (by omega) (show (4 : Nat) ≤ mML 333 by decide +kernel) ?_
  have b3 := hB.b3
  have b2 := hB.b2
  have s1 := sI.1
  have s2 := sI.2
  refine V_iload (v := Int32.ofInt (s)) mi_333_0 (by simp [stL, stL2, lv_args, Value.category]) ?_
  refine V_stat (As := [.int (Int32.ofInt (s))]) (st := []) mi_333_1 (by omega) (see_ct sI) (by omega) (show 1 = mN 332 by decide +kernel) (by simp [Value.category]) ⟨Nat.le_refl _, Nat.le_refl _⟩ ?_
  rintro r w1 ⟨rfl, rfl⟩
  refine V_beq mi_333_4  (fun c0 => ?_) (fun c0 => ?_)
  · refine V_ipush mi_333_23 ?_
    exact V_retI mi_333_25 (fun h => absurd h (by decide +kernel)) ⟨⟨hG, fun _ _ _ _ => rfl⟩, by rw [if_neg (fun k => of_decide_eq_false c0 k.1)]⟩
  · refine V_aload (v := ad 90) mi_333_7 (by simp [stL, stL2, lv_args, Value.category]) ?_
    refine V_iload (v := Int32.ofInt (f)) mi_333_8 (by simp [stL, stL2, lv_args, Value.category]) ?_
    refine V_callM (As := [.int (Int32.ofInt (f))]) (st := []) mi_333_9 (by omega) (by decide +kernel) (by decide +kernel) hG (mfk_ct hG hW hB fI) (by omega) (show 1 = mN 199 by decide +kernel) (by simp [Value.category]) ?_
    rintro r w1 ⟨rfl, rfl⟩
    refine V_beq mi_333_12  (fun c1 => ?_) (fun c1 => ?_)
    · refine V_ipush mi_333_23 ?_
      exact V_retI mi_333_25 (fun h => absurd h (by decide +kernel)) ⟨⟨hG, fun _ _ _ _ => rfl⟩, by rw [if_neg (fun k => of_decide_eq_false c1 k.2.1)]⟩
    · refine V_aload (v := ad 90) mi_333_15 (by simp [stL, stL2, lv_args, Value.category]) ?_
      refine V_iload (v := Int32.ofInt (o)) mi_333_16 (by simp [stL, stL2, lv_args, Value.category]) ?_
      refine V_callM (As := [.int (Int32.ofInt (o))]) (st := []) mi_333_17 (by omega) (by decide +kernel) (by decide +kernel) hG (mfk_ct hG hW hB oI) (by omega) (show 1 = mN 199 by decide +kernel) (by simp [Value.category]) ?_
      rintro r w2 ⟨rfl, rfl⟩
      refine V_bne mi_333_20  (fun c2 => ?_) (fun c2 => ?_)
      · have k0 := of_decide_eq_true c0
        have k1 := of_decide_eq_true c1
        have k2 := of_decide_eq_true c2
        obtain ⟨m, rfl⟩ := Int.eq_ofNat_of_zero_le k1.1
        obtain ⟨n, rfl⟩ := Int.eq_ofNat_of_zero_le k2.1
        refine V_aload (v := ad 90) mi_333_26 (by simp [stL, stL2, lv_args, Value.category]) ?_
        refine V_iload (v := Int32.ofInt (s)) mi_333_27 (by simp [stL, stL2, lv_args, Value.category]) ?_
        refine V_i2l mi_333_28 ?_
        rw [i2lx ⟨by omega, by omega⟩]
        refine V_callM (As := [.long (Int64.ofInt (s))]) (st := []) mi_333_29 (by omega) (by decide +kernel) (by decide +kernel) hG (gdr_ct (x := s) hB hG hW h24) (by omega) (show 1 = mN 331 by decide +kernel) (by simp [Value.category]) ?_
        rintro r w3 ⟨rfl, G3, k3, o3⟩
        refine V_aload (v := ad 90) mi_333_32 (by simp [stL, stL2, lv_args, Value.category]) ?_
        refine V_iload (v := Int32.ofInt ((m : Int))) mi_333_33 (by simp [stL, stL2, lv_args, Value.category]) ?_
        refine V_iload (v := Int32.ofInt ((n : Int))) mi_333_34 (by simp [stL, stL2, lv_args, Value.category]) ?_
        refine V_callM (As := [.int (Int32.ofInt ((m : Int))), .int (Int32.ofInt ((n : Int)))]) (st := []) mi_333_35 (by omega) (by decide +kernel) (by decide +kernel) G3 (itz_ct (f := m) (o := n) hB G3 (MTW_W o3 hW) (by omega) (by omega) (k3 _ (by omega))) (by omega) (show 2 = mN 240 by decide +kernel) (by simp [Value.category]) ?_
        rintro r w4 ⟨rfl, rfl⟩
        exact V_retI mi_333_38 (fun h => absurd h (by decide +kernel)) ⟨⟨G3, o3⟩, by rw [if_pos ⟨k0, k1, k2⟩, Int.toNat_natCast, Int.toNat_natCast]⟩
      · refine V_ipush mi_333_23 ?_
        exact V_retI mi_333_25 (fun h => absurd h (by decide +kernel)) ⟨⟨hG, fun _ _ _ _ => rfl⟩, by rw [if_neg (fun k => of_decide_eq_false c2 k.2.2)]⟩
theorem pairT_drawn (hAD : ∀ i : Nat, ad (1000 + i) = D.2 1000 i) (hG : GOK ad tys GG ws) (hR : RELW ws) (a1 a2 a3 : Int32) : PAIRT l D tys A ad 64 333 [.ref (ad 0), .int a1, .int a2, .int a3] [.ref (ad 90), .int a1, .int a2, .int a3] ws := by
  obtain ⟨G0, o0, x0, y0⟩ := hR.1.2.1
  obtain ⟨G, o, x, y, hb, wf, hS⟩ := aux_sto hR.2 x0 y0 o0 (hb_of hG y0 o0)
  have c1 := dwnX_ct (l := l) (D := D) (A := A) hG x hb hS wf (i32b a1) (i32b a2) (i32b a3)
  have c2 := fun (w : va_W) (hw : GOK ad tys GG w) (K : XSC ws w) => dwnM_ct (l := l) (D := D) (A := A) hw (XSC_W K y) hb ((K _ _ (by omega)).trans hR.2.2.2.2.2) ((K _ _ (by omega)).trans hR.2.2.2.2.1) (i32b a1) (i32b a2) (i32b a3)
  simp only [oi] at c1 c2
  exact pairT_sw hR (by omega) (by omega) c1 c2
end XUD
end
