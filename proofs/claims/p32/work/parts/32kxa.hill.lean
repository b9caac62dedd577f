section
section XTA
variable {l : Launch} {D : va_G} {tys : List (ClassId × FieldType)} {A : Nat → Prop} {ad : Nat → Nat} {ws : va_W}
noncomputable def orr (a b : Int) : Int := (ibF 6 (Int32.ofInt a) (Int32.ofInt b)).toInt
theorem orr_i (a b : Int) : ibF 6 (Int32.ofInt a) (Int32.ofInt b) = Int32.ofInt (orr a b) := by
  unfold orr
  rw [Int32.ofInt_toInt]
/-- what those below n of a set know of f's name, together -/
noncomputable def gaS (K : Nat → Int) (t : Int) (f : Nat) : Nat → Int
  | 0 => 0
  | p + 1 => if tb t (p : Int) = true then orr (gaS K t f p) (K (6 * p + f)) else gaS K t f p
theorem gaS_0 {K : Nat → Int} {t : Int} {f p : Nat} (h : tb t (p : Int) = false) : gaS K t f (p + 1) = gaS K t f p := by
  show (if tb t (p : Int) = true then _ else _) = _
  rw [h, if_neg Bool.false_ne_true]
theorem gaS_1 {K : Nat → Int} {t : Int} {f p : Nat} (h : tb t (p : Int) = true) : gaS K t f (p + 1) = orr (gaS K t f p) (K (6 * p + f)) := by
  show (if tb t (p : Int) = true then _ else _) = _
  rw [if_pos h]
theorem gaI {K : Nat → Int} {t : Int} {f : Nat} : ∀ n : Nat, I32 (gaS K t f n)
  | 0 => ⟨by show (-2147483648 : Int) ≤ 0; omega, by show (0 : Int) ≤ 2147483647; omega⟩
  | p + 1 => by
    unfold gaS
    split
    · exact i32b _
    · exact gaI p
noncomputable def togP (G : Nat → Int) (g f : Nat) (t : Int) : Bool := decide (gaS (tellT G g).K t f (G 3).toNat = allV (G (6 + 7 * f)))
theorem bI_if (b : Bool) : bI b = Int32.ofInt (if b = true then 1 else 0) := by cases b <;> rfl
theorem all_i (n : Int) : some (Value.int (ibF 1 (ibF 8 (Int32.ofInt (1)) (Int32.ofInt (n))) (Int32.ofInt (1)))) = some (.int (Int32.ofInt (allV n))) := by
  unfold allV
  rw [Int32.ofInt_toInt]
theorem all6_all : (List.range 7).all (fun n => decide (0 ≤ allV (n : Nat) ∧ allV (n : Nat) ≤ 63)) = true := by decide +kernel
theorem all6 {n : Int} (h : 0 ≤ n ∧ n ≤ 6) : 0 ≤ allV n ∧ allV n ≤ 63 := by
  have q := of_decide_eq_true (List.all_eq_true.mp all6_all n.toNat (List.mem_range.mpr (by omega)))
  rw [Int.toNat_of_nonneg h.1] at q
  exact q
theorem evy_ct {G : Nat → Int} (hG : GOK ad tys GG ws) (hX : HX 4 G ws) (hB : HB G) : CT l D tys A 109 0 0 0 [.ref (ad 4)] ws (fun r w => w = ws ∧ r = some (.int (Int32.ofInt (allV (G 3))))) := by
  refine CT_of_V (by omega) (show (1 : Nat) ≤ mML 109 by decide +kernel) ?_
  refine V_ipush mi_109_0 ?_
  refine V_aload (v := ad 4) mi_109_1 (by simp [stL, lv_args, Value.category]) ?_
  refine V_gO mi_109_2 g4o hG (show rd _ 4 4 = some (.int (Int32.ofInt (G 3))) from hx0 hX (i := 4) (by omega)) ?_
  refine V_ibin mi_109_5 (by omega) ?_
  refine V_ipush mi_109_6 ?_
  refine V_ibin mi_109_7 (by omega) ?_
  exact V_retI mi_109_8 (fun h => absurd h (by decide +kernel)) ⟨rfl, all_i (G 3)⟩
theorem alm_ct {G : Nat → Int} (hG : GOK ad tys GG ws) (hW : W91 G ws) : CT l D tys A 209 0 0 0 [.ref (ad 90)] ws (fun r w => w = ws ∧ r = some (.int (Int32.ofInt (allV (G 3))))) := by
  refine CT_of_V (by omega) (show (1 : Nat) ≤ mML 209 by decide +kernel) ?_
  obtain ⟨s91, e91, -⟩ := g91s
  
  refine V_ipush mi_209_0 ?_
  refine V_aload (v := ad 90) mi_209_1 (by simp [stL, lv_args, Value.category]) ?_
  refine V_getI mi_209_2 hG (rref gr1m (by omega) hG) ?_
  refine V_ipush mi_209_5 ?_
  refine V_aldX (j := 3) mi_209_6 rfl hG e91 (by omega) (by omega) (hW _ (by omega)) ?_
  refine V_ibin mi_209_7 (by omega) ?_
  refine V_ipush mi_209_8 ?_
  refine V_ibin mi_209_9 (by omega) ?_
  exact V_retI mi_209_10 (fun h => absurd h (by decide +kernel)) ⟨rfl, all_i (G 3)⟩
end XTA
end
section
section XTB
variable {l : Launch} {D : va_G} {tys : List (ClassId × FieldType)} {A : Nat → Prop} {ad : Nat → Nat} {ws : va_W}
/-- the least of the fewest among the sets from p on, m of them, that P holds of; a so far -/
noncomputable def slS (P : Nat → Bool) : Nat → Nat → Int → Int
  | 0, _, a => a
  | m + 1, p, a => if P p = true ∧ (a = -1 ∨ bcS (p : Int) 6 < bcS a 6) then slS P m (p + 1) (p : Int) else slS P m (p + 1) a
theorem slS_y {P : Nat → Bool} {m p : Nat} {a : Int} (h : P p = true ∧ (a = -1 ∨ bcS (p : Int) 6 < bcS a 6)) : slS P (m + 1) p a = slS P m (p + 1) (p : Int) := if_pos h
theorem slS_n {P : Nat → Bool} {m p : Nat} {a : Int} (h : ¬ (P p = true ∧ (a = -1 ∨ bcS (p : Int) 6 < bcS a 6))) : slS P (m + 1) p a = slS P m (p + 1) a := if_neg h
theorem slS_bd {P : Nat → Bool} : ∀ (m p : Nat) (a : Int), p + m ≤ 64 → (-1 ≤ a ∧ a ≤ 63) → -1 ≤ slS P m p a ∧ slS P m p a ≤ 63
  | 0, p, a, _, h => h
  | m + 1, p, a, hm, h => by
    unfold slS
    split
    · exact slS_bd m (p + 1) (p : Int) (by omega) ⟨by omega, by omega⟩
    · exact slS_bd m (p + 1) a (by omega) h
noncomputable def szI (a : Int) : Int := if a = -1 then 7 else bcS a 6
theorem szI_c {a : Int} : (a = -1 ∧ szI a = 7) ∨ (¬ a = -1 ∧ szI a = bcS a 6) := by
  unfold szI
  by_cases c : a = -1
  · exact Or.inl ⟨c, if_pos c⟩
  · exact Or.inr ⟨c, if_neg c⟩
theorem szI_p {p : Nat} : szI (p : Int) = bcS (p : Int) 6 := by
  unfold szI
  rw [if_neg (by omega)]
noncomputable def sozV (a : Int) : Int := if a < 0 then -1 else bcS a 6
theorem soz_ct {a : Int} (a0 : -1 ≤ a) (a1 : a ≤ 63) : CT l D tys A 76 1 0 0 [.int (Int32.ofInt (a))] ws (fun r w => w = ws ∧ r = some (.int (Int32.ofInt (sozV a)))) := by
  refine CT_of_V (by omega) (show (1 : Nat) ≤ mML 76 by decide +kernel) ?_
  refine V_iload (v := Int32.ofInt (a)) mi_76_0 (by simp [stL, lv_args, Value.category]) ?_
  refine V_zge mi_76_1 ⟨by omega, by omega⟩ (fun q => ?_) (fun q => ?_)
  · refine V_iload (v := Int32.ofInt (a)) mi_76_8 (by simp [stL, lv_args, Value.category]) ?_
    refine V_stat (As := [.int (Int32.ofInt (a))]) (st := []) mi_76_9 (by omega) (bcx_ct (a := a) q a1) (by omega) (show 1 = mN 344 by decide +kernel) (by simp [Value.category]) ⟨Nat.le_refl _, Nat.le_refl _⟩ ?_
    rintro r w1 ⟨e1, rfl⟩
    rw [e1]
    exact V_retI mi_76_12 (fun h => absurd h (by decide +kernel)) ⟨rfl, by unfold sozV; rw [if_neg (by omega)]⟩
  · refine V_ipush mi_76_4 ?_
    refine V_goto mi_76_5 ?_
    exact V_retI mi_76_12 (fun h => absurd h (by decide +kernel)) ⟨rfl, by unfold sozV; rw [if_pos q]⟩
end XTB
end
section
section XTC
variable {l : Launch} {D : va_G} {tys : List (ClassId × FieldType)} {A : Nat → Prop} {ad : Nat → Nat} {ws : va_W}
theorem g0r6 : gOr 0 10 13 6 36 := ⟨_, rfl, by decide +kernel⟩
theorem g36o : gO 36 0 2 := ⟨_, rfl⟩
theorem g36r0 : gOr 36 0 2 0 37 := ⟨_, rfl, by decide +kernel⟩
theorem a37 : gA 37 6 (-2147483648) 2147483647 := gA_of rfl
theorem orr_c (a b c : Int) : orr (orr a b) c = orr (orr a c) b := by
  unfold orr
  rw [Int32.ofInt_toInt, Int32.ofInt_toInt]
  show ((Int32.ofInt a ||| Int32.ofInt b) ||| Int32.ofInt c).toInt = ((Int32.ofInt a ||| Int32.ofInt c) ||| Int32.ofInt b).toInt
  rw [Int32.or_assoc, Int32.or_comm (Int32.ofInt b), ← Int32.or_assoc]
theorem orr_all : (List.range 64).all (fun a => decide (orr 0 (a : Nat) = (a : Nat))) = true := by decide +kernel
theorem orr_0 {a : Int} (h : 0 ≤ a ∧ a ≤ 63) : orr 0 a = a := by
  have q := of_decide_eq_true (List.all_eq_true.mp orr_all a.toNat (List.mem_range.mpr (by omega)))
  rw [Int.toNat_of_nonneg h.1] at q
  exact q
theorem tb_0 {j : Nat} (hj : j < 6) : tb 0 (j : Int) = false := by
  have q := List.all_eq_true.mp tb_z j (List.mem_range.mpr hj)
  simpa using q
theorem gaS_z {K : Nat → Int} {f : Nat} : ∀ n : Nat, n ≤ 6 → gaS K 0 f n = 0
  | 0, _ => rfl
  | p + 1, h => by rw [gaS_0 (tb_0 (by omega))]; exact gaS_z p (by omega)
/-- one more of them -/
theorem gaS_add {K : Nat → Int} {t : Int} {f q : Nat} (t0 : 0 ≤ t) (t1 : t ≤ 63) (hq : q < 6) (h : tb t (q : Int) = false) : ∀ n : Nat, n ≤ 6 → gaS K (bitO t (q : Int)) f n = if q < n then orr (gaS K t f n) (K (6 * q + f)) else gaS K t f n
  | 0, _ => by rw [if_neg (by omega)]; rfl
  | n + 1, hn => by
    have ih := gaS_add (K := K) (f := f) t0 t1 hq h n (by omega)
    have eb := tb_bo (j := n) t0 t1 hq (by omega)
    by_cases e : n = q
    · subst e
      rw [decide_eq_true rfl, Bool.true_or] at eb
      rw [if_neg (by omega)] at ih
      rw [gaS_1 eb, ih, if_pos (by omega), gaS_0 h]
    · rw [decide_eq_false e, Bool.false_or] at eb
      cases c : tb t (n : Int) with
      | false =>
        rw [c] at eb
        rw [gaS_0 eb, ih, gaS_0 c]
        by_cases l : q < n
        · rw [if_pos l, if_pos (by omega)]
        · rw [if_neg l, if_neg (by omega)]
      | true =>
        rw [c] at eb
        rw [gaS_1 eb, ih, gaS_1 c]
        by_cases l : q < n
        · rw [if_pos l, if_pos (by omega), orr_c]
        · rw [if_neg l, if_neg (by omega)]
/-- all but i -/
noncomputable def clB (t i : Int) : Int := (ibF 5 (Int32.ofInt t) (ibF 7 (ibF 8 (Int32.ofInt 1) (Int32.ofInt i)) (Int32.ofInt (-1)))).toInt
theorem clB_all : (List.range 64).all (fun a => (List.range 6).all (fun i => decide (0 ≤ clB (a : Nat) (i : Nat) ∧ clB (a : Nat) (i : Nat) ≤ 63) && (tb (a : Nat) (i : Nat) || decide (clB (bitO (a : Nat) (i : Nat)) (i : Nat) = (a : Nat))) && (!(tb (a : Nat) (i : Nat)) || decide (bitO (clB (a : Nat) (i : Nat)) (i : Nat) = (a : Nat))) && decide (bcS (bitO (a : Nat) (i : Nat)) 6 = bcS (a : Nat) 6 + (if tb (a : Nat) (i : Nat) = true then 0 else 1)))) = true := by decide +kernel
theorem clB_k {a : Int} {i : Nat} (a0 : 0 ≤ a) (a1 : a ≤ 63) (hi : i < 6) : (0 ≤ clB a (i : Int) ∧ clB a (i : Int) ≤ 63) ∧ (tb a (i : Int) = false → clB (bitO a (i : Int)) (i : Int) = a) ∧ (tb a (i : Int) = true → bitO (clB a (i : Int)) (i : Int) = a) ∧ bcS (bitO a (i : Int)) 6 = bcS a 6 + (if tb a (i : Int) = true then 0 else 1) := by
  have q := List.all_eq_true.mp (List.all_eq_true.mp clB_all a.toNat (List.mem_range.mpr (by omega))) i (List.mem_range.mpr hi)
  rw [Int.toNat_of_nonneg a0, Bool.and_eq_true, Bool.and_eq_true, Bool.and_eq_true, decide_eq_true_eq, decide_eq_true_eq] at q
  obtain ⟨⟨⟨q1, q2⟩, q3⟩, q4⟩ := q
  refine ⟨q1, fun e => ?_, fun e => ?_, q4⟩
  · rw [e, Bool.false_or, decide_eq_true_eq] at q2
    exact q2
  · rw [e, Bool.not_true, Bool.false_or, decide_eq_true_eq] at q3
    exact q3
theorem clC_all : (List.range 64).all (fun a => (List.range 6).all (fun i => (List.range 6).all (fun j => (tb (clB (a : Nat) (i : Nat)) (j : Nat) == (tb (a : Nat) (j : Nat) && !(Nat.beq j i))) && (Nat.beq j i || decide (clB (bitO (a : Nat) (j : Nat)) (i : Nat) = bitO (clB (a : Nat) (i : Nat)) (j : Nat)))))) = true := by decide +kernel
theorem clC_k {a : Int} {i j : Nat} (a0 : 0 ≤ a) (a1 : a ≤ 63) (hi : i < 6) (hj : j < 6) (e : j ≠ i) : tb (clB a (i : Int)) (j : Int) = tb a (j : Int) ∧ clB (bitO a (j : Int)) (i : Int) = bitO (clB a (i : Int)) (j : Int) := by
  have q := List.all_eq_true.mp (List.all_eq_true.mp (List.all_eq_true.mp clC_all a.toNat (List.mem_range.mpr (by omega))) i (List.mem_range.mpr hi)) j (List.mem_range.mpr hj)
  have eb : Nat.beq j i = false := by
    cases h : Nat.beq j i
    · rfl
    · exact absurd (Nat.eq_of_beq_eq_true h) e
  rw [Int.toNat_of_nonneg a0, eb, Bool.and_eq_true, Bool.not_false, Bool.and_true, Bool.false_or, decide_eq_true_eq] at q
  exact ⟨by simpa using q.1, q.2⟩
theorem opA_all : (List.range 64).all (fun a => (List.range 6).all (fun i => decide (ibF 5 (Int32.ofInt (a : Nat)) (ibF 8 (Int32.ofInt 1) (Int32.ofInt (i : Nat))) = if tb (a : Nat) (i : Nat) = true then ibF 8 (Int32.ofInt 1) (Int32.ofInt (i : Nat)) else 0) && (decide (ibF 5 (ibF 8 (Int32.ofInt 1) (Int32.ofInt (i : Nat))) (ibF 7 (Int32.ofInt (a : Nat)) (Int32.ofInt (-1))) = 0) == tb (a : Nat) (i : Nat)))) = true := by decide +kernel
theorem opA_k {a : Int} {i : Nat} (a0 : 0 ≤ a) (a1 : a ≤ 63) (hi : i < 6) : ibF 5 (Int32.ofInt a) (ibF 8 (Int32.ofInt 1) (Int32.ofInt (i : Int))) = (if tb a (i : Int) = true then ibF 8 (Int32.ofInt 1) (Int32.ofInt (i : Int)) else 0) ∧ (ibF 5 (ibF 8 (Int32.ofInt 1) (Int32.ofInt (i : Int))) (ibF 7 (Int32.ofInt a) (Int32.ofInt (-1))) = 0 ↔ tb a (i : Int) = true) := by
  have q := List.all_eq_true.mp (List.all_eq_true.mp opA_all a.toNat (List.mem_range.mpr (by omega))) i (List.mem_range.mpr hi)
  rw [Int.toNat_of_nonneg a0, Bool.and_eq_true, decide_eq_true_eq] at q
  refine ⟨q.1, ?_⟩
  have q2 : decide (ibF 5 (ibF 8 (Int32.ofInt 1) (Int32.ofInt (i : Int))) (ibF 7 (Int32.ofInt a) (Int32.ofInt (-1))) = 0) = tb a (i : Int) := by simpa using q.2
  constructor
  · intro h
    rw [← q2]
    exact decide_eq_true h
  · intro h
    rw [h] at q2
    exact of_decide_eq_true q2
theorem opn {so bd : Int} {p : Nat} (s0 : 0 ≤ so) (s1 : so ≤ 63) (b0 : 0 ≤ bd) (b1 : bd ≤ 63) (hp : p < 6) : ibF 5 (ibF 5 (Int32.ofInt so) (ibF 7 (Int32.ofInt bd) (Int32.ofInt (-1)))) (ibF 8 (Int32.ofInt 1) (Int32.ofInt (p : Int))) = 0 ↔ ¬ (tb so (p : Int) = true ∧ tb bd (p : Int) = false) := by
  have e : ∀ x y z : Int32, ibF 5 (ibF 5 x y) z = ibF 5 (ibF 5 x z) y := fun x y z => by
    show (x &&& y) &&& z = (x &&& z) &&& y
    rw [Int32.and_assoc, Int32.and_comm y z, ← Int32.and_assoc]
  have a := (opA_k (i := p) s0 s1 hp).1
  have b := (opA_k (i := p) b0 b1 hp).2
  rw [e, a]
  cases c : tb so (p : Int) with
  | false =>
    rw [if_neg Bool.false_ne_true]
    refine ⟨fun _ k => absurd k.1 Bool.false_ne_true, fun _ => ?_⟩
    show (0 : Int32) &&& _ = 0
    exact Int32.zero_and
  | true =>
    rw [if_pos rfl, b]
    constructor
    · intro h k
      rw [h] at k
      exact absurd k.2 (by decide)
    · intro h
      cases c2 : tb bd (p : Int) with
      | true => rfl
      | false => exact absurd ⟨rfl, c2⟩ h
/-- who is brought in, one look at each from p on -/
noncomputable def scS (Q : Int → Nat → Bool) (so : Int) : Nat → Nat → Int → Int
  | 0, _, t => t
  | m + 1, p, t => if tb so (p : Int) = true ∧ tb t (p : Int) = false ∧ Q t p = true then scS Q so m (p + 1) (bitO t (p : Int)) else scS Q so m (p + 1) t
theorem scS_y {Q : Int → Nat → Bool} {so t : Int} {m p : Nat} (h : tb so (p : Int) = true ∧ tb t (p : Int) = false ∧ Q t p = true) : scS Q so (m + 1) p t = scS Q so m (p + 1) (bitO t (p : Int)) := if_pos h
theorem scS_n {Q : Int → Nat → Bool} {so t : Int} {m p : Nat} (h : ¬ (tb so (p : Int) = true ∧ tb t (p : Int) = false ∧ Q t p = true)) : scS Q so (m + 1) p t = scS Q so m (p + 1) t := if_neg h
theorem scS_bd {Q : Int → Nat → Bool} {so : Int} {f : Nat} (hf : f < 6) : ∀ (m p : Nat) (t : Int), p + m ≤ 6 → (0 ≤ t ∧ t ≤ 63) → (0 ≤ scS Q so m p t ∧ scS Q so m p t ≤ 63) ∧ bcS t 6 ≤ bcS (scS Q so m p t) 6 ∧ (tb t (f : Int) = true → tb (scS Q so m p t) (f : Int) = true)
  | 0, p, t, _, h => ⟨h, Int.le_refl _, id⟩
  | m + 1, p, t, hm, h => by
    unfold scS
    split
    · rename_i k
      have b := bitO_bd (i := (p : Int)) h.1 h.2 (by omega) (by omega)
      have c := (clB_k (i := p) h.1 h.2 (by omega)).2.2.2
      rw [if_neg (by rw [k.2.1]; exact Bool.false_ne_true)] at c
      have ih := scS_bd (Q := Q) (so := so) hf m (p + 1) (bitO t (p : Int)) (by omega) b
      refine ⟨ih.1, by omega, fun e => ih.2.2 ?_⟩
      rw [tb_bo h.1 h.2 (by omega) hf, e, Bool.or_true]
    · exact scS_bd hf m (p + 1) t (by omega) h
noncomputable def scN (Q : Int → Nat → Bool) (so : Int) (n : Nat) : Nat → Int → Int
  | 0, t => t
  | k + 1, t => scN Q so n k (scS Q so n 0 t)
theorem scN_bd {Q : Int → Nat → Bool} {so : Int} {n f : Nat} (hn : n ≤ 6) (hf : f < 6) : ∀ (k : Nat) (t : Int), (0 ≤ t ∧ t ≤ 63) → (0 ≤ scN Q so n k t ∧ scN Q so n k t ≤ 63) ∧ (tb t (f : Int) = true → tb (scN Q so n k t) (f : Int) = true)
  | 0, t, h => ⟨h, id⟩
  | k + 1, t, h => by
    have b := scS_bd (Q := Q) (so := so) hf n 0 t (by omega) h
    have ih := scN_bd (Q := Q) (so := so) hn hf k (scS Q so n 0 t) b.1
    exact ⟨ih.1, fun e => ih.2 (b.2.2 e)⟩
theorem scN_fx {Q : Int → Nat → Bool} {so : Int} {n : Nat} {t : Int} (h : scS Q so n 0 t = t) : ∀ k : Nat, scN Q so n k t = t
  | 0 => rfl
  | k + 1 => by
    show scN Q so n k (scS Q so n 0 t) = t
    rw [h]
    exact scN_fx h k
/-- those below n that know p's name whole together with the asker -/
noncomputable def brQ (G : Nat → Int) (t : Int) (p : Nat) : Bool := togP G (G 2).toNat p t
noncomputable def brV (G : Nat → Int) (so : Int) (f : Nat) : Int := scN (brQ G) so (G 3).toNat 6 (bitO 0 (f : Int))
theorem bit0_all : (List.range 6).all (fun f => decide ((0 ≤ bitO 0 (f : Nat) ∧ bitO 0 (f : Nat) ≤ 63) ∧ bcS (bitO 0 (f : Nat)) 6 = 1 ∧ clB (bitO 0 (f : Nat)) (f : Nat) = 0 ∧ tb (bitO 0 (f : Nat)) (f : Nat) = true ∧ ibF 8 (Int32.ofInt 1) (Int32.ofInt (f : Nat)) = Int32.ofInt (bitO 0 (f : Nat)))) = true := by decide +kernel
theorem bit0 {f : Nat} (hf : f < 6) : (0 ≤ bitO 0 (f : Int) ∧ bitO 0 (f : Int) ≤ 63) ∧ bcS (bitO 0 (f : Int)) 6 = 1 ∧ clB (bitO 0 (f : Int)) (f : Int) = 0 ∧ tb (bitO 0 (f : Int)) (f : Int) = true ∧ ibF 8 (Int32.ofInt 1) (Int32.ofInt (f : Int)) = Int32.ofInt (bitO 0 (f : Int)) :=
  of_decide_eq_true (List.all_eq_true.mp bit0_all f (List.mem_range.mpr hf))
theorem brV_bd {G : Nat → Int} {so : Int} {f : Nat} (hB : HB G) (hf : f < 6) : (0 ≤ brV G so f ∧ brV G so f ≤ 63) ∧ tb (brV G so f) (f : Int) = true := by
  have b3 := hB.b3
  have h0 := bit0 hf
  have h := scN_bd (Q := brQ G) (so := so) (n := (G 3).toNat) (by omega) hf 6 _ h0.1
  exact ⟨h.1, h.2 h0.2.2.2.1⟩
/-- the class's world but for its own scratch rows -/
noncomputable def XSC (w0 w : va_W) : Prop := ∀ c j, ¬ (c = 31 ∨ c = 37 ∨ c = 38 ∨ c = 48 ∨ c = 49 ∨ c = 51 ∨ c = 52) → rd w c j = rd w0 c j
theorem pairT_sc {kx km d1 d2 : Nat} {xs ms : List Value} {v : Int32} (hR : RELW ws) (h1 : d1 < 11) (h2 : d2 < 11) (c1 : CT l D tys A kx d1 0 0 xs ws (fun r w => (GOK ad tys GG w ∧ XSC ws w) ∧ r = some (.int v))) (c2 : ∀ w : va_W, GOK ad tys GG w → XSC ws w → CT l D tys A km d2 0 0 ms w (fun r w2 => (GOK ad tys GG w2 ∧ MTO w w2) ∧ r = some (.int v))) : PAIRT l D tys A ad kx km xs ms ws := by
  refine ⟨v, fun w => XSC ws w, ⟨d1, h1, CT_post c1 (fun r w h => ⟨h.2, h.1.1, h.1.2⟩)⟩, fun w hw K => ⟨d2, h2, CT_post (c2 w hw K) (fun r w2 h => ?_)⟩⟩
  obtain ⟨⟨g, o⟩, e⟩ := h
  have oo : ∀ c j, ¬ (c = 31 ∨ c = 37 ∨ c = 38 ∨ c = 48 ∨ c = 49 ∨ c = 51 ∨ c = 52) → ¬ (98 ≤ c ∧ c ≤ 101) → ¬ (c = 90 ∧ (j = 18 ∨ j = 21)) → rd w2 c j = rd ws c j := fun c j h3 h4 h5 => (o c j h4 h5).trans (K c j h3)
  exact ⟨e, g, relh_keep hR.1 (fun c hc j => oo c j (by omega) (by omega) (by omega)) (fun j hj => oo 90 j (by omega) (by omega) (fun q => by
      obtain ⟨-, q⟩ := q
      rcases q with rfl | rfl
      · exact absurd hj (by unfold spK; decide)
      · exact absurd hj (by unfold spK; decide))), aux_keep hR.2 (fun c j hc => oo c j (by omega) (by omega) (by omega))⟩
theorem XSC_X {G : Nat → Int} {w0 w : va_W} (o : XSC w0 w) (h : HX 4 G w0) : HX 4 G w := HX_keep h (fun c i h1 h2 => o c i (by omega))
theorem XSC_W {G : Nat → Int} {w0 w : va_W} (o : XSC w0 w) (h : W91 G w0) : W91 G w := fun j hj => (o 91 j (by omega)).trans (h j hj)
/-- what is gathered, by those that are in -/
noncomputable def GTH (G : Nat → Int) (t : Int) (w : va_W) : Prop := ∀ p, p < (G 3).toNat → rd w 37 p = some (.int (Int32.ofInt (gaS (tellT G (G 2).toNat).K t p (G 3).toNat)))
theorem gth_3 {G : Nat → Int} {w0 : va_W} (hX0 : HX 4 G w0) (hS0 : STO G w0) (hB : HB G) {q : Nat} {t : Int} (hq : (q : Int) < G 3) (t0 : 0 ≤ t) (t1 : t ≤ 63) (hn : tb t (q : Int) = false) {post : Option Value → va_W → Prop} : ∀ (m o : Nat) (ws : va_W), ((o + m : Nat) : Int) = G 3 → GOK ad tys GG ws → XSC w0 ws → (∀ p, p < o → p < (G 3).toNat → rd ws 37 p = some (.int (Int32.ofInt (gaS (tellT G (G 2).toNat).K (bitO t (q : Int)) p (G 3).toNat)))) → (∀ p, o ≤ p → p < (G 3).toNat → rd ws 37 p = some (.int (Int32.ofInt (gaS (tellT G (G 2).toNat).K t p (G 3).toNat)))) → (∀ w : va_W, GOK ad tys GG w → XSC w0 w → GTH G (bitO t (q : Int)) w → post none w) → V l D tys A 79 2 0 0 post 0 0 3 [(0, .ref (ad 36)), (1, .ref (ad 4)), (2, .ref (ad 32)), (3, .int (Int32.ofInt ((q : Int)))), (4, .int (Int32.ofInt ((o : Int))))] [] ws
  | 0, o, ws, hm, hG, hO, hlt, hge, kk => by
    have hX : HX 4 G ws := XSC_X hO hX0
    have b3 := hB.b3
    have b2 := hB.b2
    refine V_iload (v := Int32.ofInt ((o : Int))) mi_79_3 (by simp [stL, lv_args, Value.category]) ?_
    refine V_aload (v := ad 4) mi_79_5 (by simp [stL, lv_args, Value.category]) ?_
    refine V_gO mi_79_6 g4o hG (show rd _ 4 4 = some (.int (Int32.ofInt (G 3))) from hx0 hX (i := 4) (by omega)) ?_
    refine V_cge mi_79_9 ⟨by omega, by omega⟩ ⟨by omega, by omega⟩ (fun z1 => ?_) (fun z1 => ?_)
    · exact V_retV mi_79_48 (kk ws hG hO (fun p hp => hlt p (by omega) hp))
    · exact absurd z1 (by omega)
  | m + 1, o, ws, hm, hG, hO, hlt, hge, kk => by
    have hX : HX 4 G ws := XSC_X hO hX0
    have b3 := hB.b3
    have b2 := hB.b2
    refine V_iload (v := Int32.ofInt ((o : Int))) mi_79_3 (by simp [stL, lv_args, Value.category]) ?_
    refine V_aload (v := ad 4) mi_79_5 (by simp [stL, lv_args, Value.category]) ?_
    refine V_gO mi_79_6 g4o hG (show rd _ 4 4 = some (.int (Int32.ofInt (G 3))) from hx0 hX (i := 4) (by omega)) ?_
    refine V_cge mi_79_9 ⟨by omega, by omega⟩ ⟨by omega, by omega⟩ (fun z1 => ?_) (fun z1 => ?_)
    · exact absurd z1 (by omega)
    · refine V_aload (v := ad 36) mi_79_12 (by simp [stL, lv_args, Value.category]) ?_
      refine V_gR mi_79_13 g36r0 (by omega) hG ?_
      refine V_iload (v := Int32.ofInt ((o : Int))) mi_79_16 (by simp [stL, lv_args, Value.category]) ?_
      refine V_aload (v := ad 36) mi_79_18 (by simp [stL, lv_args, Value.category]) ?_
      refine V_gR mi_79_19 g36r0 (by omega) hG ?_
      refine V_iload (v := Int32.ofInt ((o : Int))) mi_79_22 (by simp [stL, lv_args, Value.category]) ?_
      refine V_stat (As := [.ref (ad 37), .int (Int32.ofInt ((o : Int)))]) (st := [.int (Int32.ofInt ((o : Int))), .ref (ad 37)]) mi_79_24 (by omega) (atk_ct (j := o) a37 hG (by omega) (by omega) (hge o (by omega) (by omega))) (by omega) (show 2 = mN 147 by decide +kernel) (by simp [Value.category]) ⟨Nat.le_refl _, Nat.le_refl _⟩ ?_
      rintro r w1 ⟨e1, rfl⟩
      rw [e1]
      refine V_aload (v := ad 32) mi_79_27 (by simp [stL, lv_args, Value.category]) ?_
      refine V_iload (v := Int32.ofInt ((q : Int))) mi_79_28 (by simp [stL, lv_args, Value.category]) ?_
      refine V_iload (v := Int32.ofInt ((o : Int))) mi_79_29 (by simp [stL, lv_args, Value.category]) ?_
      refine V_aload (v := ad 4) mi_79_31 (by simp [stL, lv_args, Value.category]) ?_
      refine V_gO mi_79_32 g4o hG (show rd _ 4 3 = some (.int (Int32.ofInt (G 2))) from hx0 hX (i := 3) (by omega)) ?_
      rw [show G 2 = (((G 2).toNat : Nat) : Int) by omega]
      refine V_cO (As := [.int (Int32.ofInt ((q : Int))), .int (Int32.ofInt ((o : Int))), .int (Int32.ofInt (((G 2).toNat : Int)))]) (st := [.int (Int32.ofInt (gaS (tellT G (G 2).toNat).K t o (G 3).toNat)), .int (Int32.ofInt ((o : Int))), .ref (ad 37)]) mi_79_35 (by omega) (by decide +kernel) (by decide +kernel) (by omega) g32o hG (stb_ct (f := q) (o := o) (g := (G 2).toNat) hG (by omega) (by omega) (by omega) ((hO 33 _ (by omega)).trans (sto_k hB hS0 (by omega) (by omega) (by omega)))) (by omega) (show 3 = mN 176 by decide +kernel) (by simp [Value.category]) ?_
      rintro r w2 ⟨e2, rfl⟩
      rw [e2]
      refine V_ibin mi_79_38 (by omega) ?_
      rw [orr_i]
      refine V_stat (As := [.ref (ad 37), .int (Int32.ofInt ((o : Int))), .int (Int32.ofInt (orr (gaS (tellT G (G 2).toNat).K t o (G 3).toNat) ((tellT G (G 2).toNat).K (6 * q + o))))]) (st := []) mi_79_39 (by omega) (putk_ct (j := o) a37 hG (by omega) (by omega)) (by omega) (show 3 = mN 148 by decide +kernel) (by simp [Value.category]) ⟨Nat.le_refl _, Nat.le_refl _⟩ ?_
      rintro r w3 ⟨rfl, G3, U3⟩
      refine V_iinc (v := Int32.ofInt ((o : Int))) mi_79_42 (by simp [stL, lv_args, Value.category]) ?_
      rw [ia2]
      refine V_goto mi_79_45 ?_
      refine V_sub (lv' := [(0, .ref (ad 36)), (1, .ref (ad 4)), (2, .ref (ad 32)), (3, .int (Int32.ofInt ((q : Int)))), (4, .int (Int32.ofInt (((o + 1 : Nat) : Int))))]) (fun q hq => ?_) ?_
      · simp only [List.mem_cons, List.not_mem_nil, or_false] at hq
        rcases hq with rfl | rfl | rfl | rfl | rfl <;> simp [stL, lv_args, Value.category]
      exact gth_3 hX0 hS0 hB hq t0 t1 hn m (o + 1) w3 (by omega) G3 (fun c j hc => (upd_ne U3 (by omega)).trans (hO c j hc)) (fun p h1 h2 => by
        by_cases e : p = o
        · rw [e, gaS_add t0 t1 (by omega) hn _ (by omega), if_pos (by omega)]
          exact upd_eq U3
        · exact (upd_ne U3 (by omega)).trans (hlt p (by omega) (by omega))) (fun p h1 h2 => (upd_ne U3 (by omega)).trans (hge p (by omega) h2)) kk
theorem gath_ct {G : Nat → Int} {w0 : va_W} (hX0 : HX 4 G w0) (hS0 : STO G w0) (hB : HB G) {q : Nat} {t : Int} (hq : (q : Int) < G 3) (t0 : 0 ≤ t) (t1 : t ≤ 63) (hn : tb t (q : Int) = false) (hG : GOK ad tys GG ws) (hO : XSC w0 ws) (hT : GTH G t ws) : CT l D tys A 79 2 0 0 [.ref (ad 36), .ref (ad 4), .ref (ad 32), .int (Int32.ofInt ((q : Int)))] ws (fun r w => r = none ∧ GOK ad tys GG w ∧ XSC w0 w ∧ GTH G (bitO t (q : Int)) w) := by
  refine CT_of_V (by omega) (show (4 : Nat) ≤ mML 79 by decide +kernel) ?_
  refine V_ipush mi_79_0 ?_
  refine V_istore mi_79_1 ?_
  refine V_sub (lv' := [(0, .ref (ad 36)), (1, .ref (ad 4)), (2, .ref (ad 32)), (3, .int (Int32.ofInt ((q : Int)))), (4, .int (Int32.ofInt (((0 : Nat) : Int))))]) (fun q hq => ?_) ?_
  · simp only [List.mem_cons, List.not_mem_nil, or_false] at hq
    rcases hq with rfl | rfl | rfl | rfl | rfl <;> simp [stL, lv_args, Value.category]
  exact gth_3 hX0 hS0 hB hq t0 t1 hn (G 3).toNat 0 ws (by have := hB.b3; omega) hG hO (fun p h1 _ => absurd h1 (by omega)) (fun p _ hp => hT p hp) (fun w a b c => ⟨rfl, a, b, c⟩)
theorem bri_54 {G : Nat → Int} {w0 : va_W} (hX0 : HX 4 G w0) (hS0 : STO G w0) (hB : HB G) {f u : Nat} {so : Int} (hf : f < 6) (s0 : 0 ≤ so) (s1 : so ≤ 63) {post : Option Value → va_W → Prop} : ∀ (m p : Nat) (t : Int) (ws : va_W), ((p + m : Nat) : Int) = G 3 → 0 ≤ t → t ≤ 63 → tb t (f : Int) = true → GOK ad tys GG ws → XSC w0 ws → GTH G t ws → (∀ w : va_W, GOK ad tys GG w → XSC w0 w → GTH G (scS (brQ G) so m p t) w → V l D tys A 78 3 0 0 post 0 0 44 [(0, .ref (ad 36)), (1, .ref (ad 4)), (2, .ref (ad 32)), (3, .int (Int32.ofInt ((f : Int)))), (4, .int (Int32.ofInt (so))), (5, .int (Int32.ofInt (clB (scS (brQ G) so m p t) (f : Int)))), (6, .int (Int32.ofInt (((u + 1 : Nat) : Int))))] [] w) → V l D tys A 78 3 0 0 post 0 0 54 [(0, .ref (ad 36)), (1, .ref (ad 4)), (2, .ref (ad 32)), (3, .int (Int32.ofInt ((f : Int)))), (4, .int (Int32.ofInt (so))), (5, .int (Int32.ofInt (clB (t) (f : Int)))), (6, .int (Int32.ofInt ((u : Int)))), (7, .int (Int32.ofInt ((p : Int))))] [] ws
  | 0, p, t, ws, hm, t0, t1, hb, hG, hO, hT, kk => by
    have hX : HX 4 G ws := XSC_X hO hX0
    have b3 := hB.b3
    have b2 := hB.b2
    refine V_iload (v := Int32.ofInt ((p : Int))) mi_78_54 (by simp [stL, lv_args, Value.category]) ?_
    refine V_aload (v := ad 4) mi_78_56 (by simp [stL, lv_args, Value.category]) ?_
    refine V_gO mi_78_57 g4o hG (show rd _ 4 4 = some (.int (Int32.ofInt (G 3))) from hx0 hX (i := 4) (by omega)) ?_
    refine V_cge mi_78_60 ⟨by omega, by omega⟩ ⟨by omega, by omega⟩ (fun q => ?_) (fun q => ?_)
    · refine V_iinc (v := Int32.ofInt ((u : Int))) mi_78_137 (by simp [stL, lv_args, Value.category]) ?_
      rw [ia2]
      rw [show (u : Int) + (1) = ((u + 1 : Nat) : Int) by omega]
      refine V_goto mi_78_140 ?_
      refine V_sub (lv' := [(0, .ref (ad 36)), (1, .ref (ad 4)), (2, .ref (ad 32)), (3, .int (Int32.ofInt ((f : Int)))), (4, .int (Int32.ofInt (so))), (5, .int (Int32.ofInt (clB (t) (f : Int)))), (6, .int (Int32.ofInt (((u + 1 : Nat) : Int))))]) (fun q hq => ?_) ?_
      · simp only [List.mem_cons, List.not_mem_nil, or_false] at hq
        rcases hq with rfl | rfl | rfl | rfl | rfl | rfl | rfl | rfl <;> simp [stL, lv_args, Value.category]
      exact kk ws hG hO hT
    · exact absurd q (by omega)
  | m + 1, p, t, ws, hm, t0, t1, hb, hG, hO, hT, kk => by
    have hX : HX 4 G ws := XSC_X hO hX0
    have b3 := hB.b3
    have b2 := hB.b2
    refine V_iload (v := Int32.ofInt ((p : Int))) mi_78_54 (by simp [stL, lv_args, Value.category]) ?_
    refine V_aload (v := ad 4) mi_78_56 (by simp [stL, lv_args, Value.category]) ?_
    refine V_gO mi_78_57 g4o hG (show rd _ 4 4 = some (.int (Int32.ofInt (G 3))) from hx0 hX (i := 4) (by omega)) ?_
    refine V_cge mi_78_60 ⟨by omega, by omega⟩ ⟨by omega, by omega⟩ (fun q => ?_) (fun q => ?_)
    · exact absurd q (by omega)
    · have ck := clB_k (i := f) t0 t1 hf
      refine V_iload (v := Int32.ofInt ((p : Int))) mi_78_63 (by simp [stL, lv_args, Value.category]) ?_
      refine V_iload (v := Int32.ofInt ((f : Int))) mi_78_65 (by simp [stL, lv_args, Value.category]) ?_
      refine V_ceq mi_78_66 ⟨by omega, by omega⟩ ⟨by omega, by omega⟩ (fun q2 => ?_) (fun q2 => ?_)
      · refine V_ipush mi_78_88 ?_
        refine V_istore mi_78_89 ?_
        refine V_iload (v := Int32.ofInt (0)) mi_78_91 (by simp [stL, lv_args, Value.category]) ?_
        have ef : p = f := by omega
        refine V_zeq mi_78_93 ⟨by omega, by omega⟩ (fun q3 => ?_) (fun q3 => ?_)
        · refine V_iinc (v := Int32.ofInt ((p : Int))) mi_78_131 (by simp [stL, lv_args, Value.category]) ?_
          rw [ia2]
          refine V_goto mi_78_134 ?_
          refine V_sub (lv' := [(0, .ref (ad 36)), (1, .ref (ad 4)), (2, .ref (ad 32)), (3, .int (Int32.ofInt ((f : Int)))), (4, .int (Int32.ofInt (so))), (5, .int (Int32.ofInt (clB (t) (f : Int)))), (6, .int (Int32.ofInt ((u : Int)))), (7, .int (Int32.ofInt (((p + 1 : Nat) : Int))))]) (fun q hq => ?_) ?_
          · simp only [List.mem_cons, List.not_mem_nil, or_false] at hq
            rcases hq with rfl | rfl | rfl | rfl | rfl | rfl | rfl | rfl <;> simp [stL, lv_args, Value.category]
          rw [scS_n (fun k => by rw [ef, hb] at k; exact absurd k.2.1 (by decide))] at kk
          exact bri_54 hX0 hS0 hB hf s0 s1 m (p + 1) t ws (by omega) t0 t1 hb hG hO hT kk
        · exact absurd rfl q3
      · have nf : p ≠ f := by omega
        have cc := clC_k (i := f) (j := p) t0 t1 hf (by omega) nf
        have op := opn (so := so) (bd := clB t (f : Int)) (p := p) s0 s1 ck.1.1 ck.1.2 (by omega)
        rw [cc.1] at op
        refine V_iload (v := Int32.ofInt (so)) mi_78_69 (by simp [stL, lv_args, Value.category]) ?_
        refine V_iload (v := Int32.ofInt (clB (t) (f : Int))) mi_78_71 (by simp [stL, lv_args, Value.category]) ?_
        refine V_ipush mi_78_73 ?_
        refine V_ibin mi_78_74 (by omega) ?_
        refine V_ibin mi_78_75 (by omega) ?_
        refine V_ipush mi_78_76 ?_
        refine V_iload (v := Int32.ofInt ((p : Int))) mi_78_77 (by simp [stL, lv_args, Value.category]) ?_
        refine V_ibin mi_78_79 (by omega) ?_
        refine V_ibin mi_78_80 (by omega) ?_
        refine V_if mi_78_81 (fun q4 => ?_) (fun q4 => ?_)
        · refine V_ipush mi_78_88 ?_
          refine V_istore mi_78_89 ?_
          refine V_iload (v := Int32.ofInt (0)) mi_78_91 (by simp [stL, lv_args, Value.category]) ?_
          refine V_zeq mi_78_93 ⟨by omega, by omega⟩ (fun q3 => ?_) (fun q3 => ?_)
          · refine V_iinc (v := Int32.ofInt ((p : Int))) mi_78_131 (by simp [stL, lv_args, Value.category]) ?_
            rw [ia2]
            refine V_goto mi_78_134 ?_
            refine V_sub (lv' := [(0, .ref (ad 36)), (1, .ref (ad 4)), (2, .ref (ad 32)), (3, .int (Int32.ofInt ((f : Int)))), (4, .int (Int32.ofInt (so))), (5, .int (Int32.ofInt (clB (t) (f : Int)))), (6, .int (Int32.ofInt ((u : Int)))), (7, .int (Int32.ofInt (((p + 1 : Nat) : Int))))]) (fun q hq => ?_) ?_
            · simp only [List.mem_cons, List.not_mem_nil, or_false] at hq
              rcases hq with rfl | rfl | rfl | rfl | rfl | rfl | rfl | rfl <;> simp [stL, lv_args, Value.category]
            rw [scS_n (fun k => (op.mp q4) ⟨k.1, k.2.1⟩)] at kk
            exact bri_54 hX0 hS0 hB hf s0 s1 m (p + 1) t ws (by omega) t0 t1 hb hG hO hT kk
          · exact absurd rfl q3
        · have hop : tb so (p : Int) = true ∧ tb t (p : Int) = false := Decidable.of_not_not (fun h => q4 (op.mpr h))
          refine V_ipush mi_78_84 ?_
          refine V_goto mi_78_85 ?_
          refine V_istore mi_78_89 ?_
          refine V_iload (v := Int32.ofInt (1)) mi_78_91 (by simp [stL, lv_args, Value.category]) ?_
          refine V_zeq mi_78_93 ⟨by omega, by omega⟩ (fun q3 => ?_) (fun q3 => ?_)
          · exact absurd q3 (by omega)
          · refine V_aload (v := ad 36) mi_78_96 (by simp [stL, lv_args, Value.category]) ?_
            refine V_gR mi_78_97 g36r0 (by omega) hG ?_
            refine V_iload (v := Int32.ofInt ((p : Int))) mi_78_100 (by simp [stL, lv_args, Value.category]) ?_
            refine V_stat (As := [.ref (ad 37), .int (Int32.ofInt ((p : Int)))]) (st := []) mi_78_102 (by omega) (atk_ct (j := p) a37 hG (by omega) (by omega) (hT p (by omega))) (by omega) (show 2 = mN 147 by decide +kernel) (by simp [Value.category]) ⟨Nat.le_refl _, Nat.le_refl _⟩ ?_
            rintro r w1 ⟨e1, rfl⟩
            rw [e1]
            refine V_aload (v := ad 4) mi_78_105 (by simp [stL, lv_args, Value.category]) ?_
            refine V_iload (v := Int32.ofInt ((p : Int))) mi_78_106 (by simp [stL, lv_args, Value.category]) ?_
            refine V_cO (As := [.int (Int32.ofInt ((p : Int)))]) (st := [.int (Int32.ofInt (gaS (tellT G (G 2).toNat).K t p (G 3).toNat))]) mi_78_108 (by omega) (by decide +kernel) (by decide +kernel) (by omega) g4o hG (alf_ct (f := p) hG hX hB (by omega)) (by omega) (show 1 = mN 108 by decide +kernel) (by simp [Value.category]) ?_
            rintro r w2 ⟨e2, rfl⟩
            rw [e2]
            have ia := gaI (K := (tellT G (G 2).toNat).K) (t := t) (f := p) (G 3).toNat
            have ib : I32 (allV (G (6 + 7 * p))) := i32b _
            refine V_cne mi_78_111 ia ib (fun q5 => ?_) (fun q5 => ?_)
            · refine V_iinc (v := Int32.ofInt ((p : Int))) mi_78_131 (by simp [stL, lv_args, Value.category]) ?_
              rw [ia2]
              refine V_goto mi_78_134 ?_
              refine V_sub (lv' := [(0, .ref (ad 36)), (1, .ref (ad 4)), (2, .ref (ad 32)), (3, .int (Int32.ofInt ((f : Int)))), (4, .int (Int32.ofInt (so))), (5, .int (Int32.ofInt (clB (t) (f : Int)))), (6, .int (Int32.ofInt ((u : Int)))), (7, .int (Int32.ofInt (((p + 1 : Nat) : Int))))]) (fun q hq => ?_) ?_
              · simp only [List.mem_cons, List.not_mem_nil, or_false] at hq
                rcases hq with rfl | rfl | rfl | rfl | rfl | rfl | rfl | rfl <;> simp [stL, lv_args, Value.category]
              rw [scS_n (fun k => q5 (of_decide_eq_true k.2.2))] at kk
              exact bri_54 hX0 hS0 hB hf s0 s1 m (p + 1) t ws (by omega) t0 t1 hb hG hO hT kk
            · refine V_iload (v := Int32.ofInt (clB (t) (f : Int))) mi_78_114 (by simp [stL, lv_args, Value.category]) ?_
              refine V_ipush mi_78_116 ?_
              refine V_iload (v := Int32.ofInt ((p : Int))) mi_78_117 (by simp [stL, lv_args, Value.category]) ?_
              refine V_ibin mi_78_119 (by omega) ?_
              refine V_ibin mi_78_120 (by omega) ?_
              rw [bitO_i, ← cc.2]
              refine V_istore mi_78_121 ?_
              refine V_aload (v := ad 36) mi_78_123 (by simp [stL, lv_args, Value.category]) ?_
              refine V_aload (v := ad 4) mi_78_124 (by simp [stL, lv_args, Value.category]) ?_
              refine V_aload (v := ad 32) mi_78_125 (by simp [stL, lv_args, Value.category]) ?_
              refine V_iload (v := Int32.ofInt ((p : Int))) mi_78_126 (by simp [stL, lv_args, Value.category]) ?_
              refine V_cO (As := [.ref (ad 4), .ref (ad 32), .int (Int32.ofInt ((p : Int)))]) (st := []) mi_78_128 (by omega) (by decide +kernel) (by decide +kernel) (by omega) g36o hG (gath_ct (q := p) (t := t) hX0 hS0 hB (by omega) t0 t1 hop.2 hG hO hT) (by omega) (show 3 = mN 79 by decide +kernel) (by simp [Value.category]) ?_
              rintro r w3 ⟨rfl, G3, O3, T3⟩
              have bb := bitO_bd (i := (p : Int)) t0 t1 (by omega) (by omega)
              have b2f : tb (bitO t (p : Int)) (f : Int) = true := by rw [tb_bo t0 t1 (by omega) hf, hb, Bool.or_true]
              refine V_iinc (v := Int32.ofInt ((p : Int))) mi_78_131 (by simp [stL, lv_args, Value.category]) ?_
              rw [ia2]
              refine V_goto mi_78_134 ?_
              refine V_sub (lv' := [(0, .ref (ad 36)), (1, .ref (ad 4)), (2, .ref (ad 32)), (3, .int (Int32.ofInt ((f : Int)))), (4, .int (Int32.ofInt (so))), (5, .int (Int32.ofInt (clB (bitO t (p : Int)) (f : Int)))), (6, .int (Int32.ofInt ((u : Int)))), (7, .int (Int32.ofInt (((p + 1 : Nat) : Int))))]) (fun q hq => ?_) ?_
              · simp only [List.mem_cons, List.not_mem_nil, or_false] at hq
                rcases hq with rfl | rfl | rfl | rfl | rfl | rfl | rfl | rfl <;> simp [stL, lv_args, Value.category]
              rw [scS_y ⟨hop.1, hop.2, decide_eq_true q5⟩] at kk
              exact bri_54 hX0 hS0 hB hf s0 s1 m (p + 1) _ w3 (by omega) bb.1 bb.2 b2f G3 O3 T3 kk
theorem brr_44 {G : Nat → Int} {w0 : va_W} (hX0 : HX 4 G w0) (hS0 : STO G w0) (hB : HB G) {f : Nat} {so : Int} (hf : f < 6) (s0 : 0 ≤ so) (s1 : so ≤ 63) {post : Option Value → va_W → Prop} : ∀ (k u : Nat) (t : Int) (ws : va_W), u + k = 6 → 0 ≤ t → t ≤ 63 → tb t (f : Int) = true → GOK ad tys GG ws → XSC w0 ws → GTH G t ws → (∀ w : va_W, GOK ad tys GG w → XSC w0 w → post (some (.int (Int32.ofInt (clB (scN (brQ G) so (G 3).toNat k t) (f : Int))))) w) → V l D tys A 78 3 0 0 post 0 0 44 [(0, .ref (ad 36)), (1, .ref (ad 4)), (2, .ref (ad 32)), (3, .int (Int32.ofInt ((f : Int)))), (4, .int (Int32.ofInt (so))), (5, .int (Int32.ofInt (clB (t) (f : Int)))), (6, .int (Int32.ofInt ((u : Int))))] [] ws
  | 0, u, t, ws, hm, t0, t1, hb, hG, hO, hT, kk => by
    refine V_iload (v := Int32.ofInt ((u : Int))) mi_78_44 (by simp [stL, lv_args, Value.category]) ?_
    refine V_ipush mi_78_46 ?_
    refine V_cge mi_78_48 ⟨by omega, by omega⟩ ⟨by omega, by omega⟩ (fun q => ?_) (fun q => ?_)
    · refine V_iload (v := Int32.ofInt (clB (t) (f : Int))) mi_78_143 (by simp [stL, lv_args, Value.category]) ?_
      exact V_retI mi_78_145 (fun h => absurd h (by decide +kernel)) (kk ws hG hO)
    · exact absurd q (by omega)
  | k + 1, u, t, ws, hm, t0, t1, hb, hG, hO, hT, kk => by
    have b3 := hB.b3
    refine V_iload (v := Int32.ofInt ((u : Int))) mi_78_44 (by simp [stL, lv_args, Value.category]) ?_
    refine V_ipush mi_78_46 ?_
    refine V_cge mi_78_48 ⟨by omega, by omega⟩ ⟨by omega, by omega⟩ (fun q => ?_) (fun q => ?_)
    · exact absurd q (by omega)
    · refine V_ipush mi_78_51 ?_
      refine V_istore mi_78_52 ?_
      refine V_sub (lv' := [(0, .ref (ad 36)), (1, .ref (ad 4)), (2, .ref (ad 32)), (3, .int (Int32.ofInt ((f : Int)))), (4, .int (Int32.ofInt (so))), (5, .int (Int32.ofInt (clB (t) (f : Int)))), (6, .int (Int32.ofInt ((u : Int)))), (7, .int (Int32.ofInt (((0 : Nat) : Int))))]) (fun q hq => ?_) ?_
      · simp only [List.mem_cons, List.not_mem_nil, or_false] at hq
        rcases hq with rfl | rfl | rfl | rfl | rfl | rfl | rfl | rfl <;> simp [stL, lv_args, Value.category]
      have sb := scS_bd (Q := brQ G) (so := so) hf (G 3).toNat 0 t (by omega) ⟨t0, t1⟩
      exact bri_54 hX0 hS0 hB hf s0 s1 (G 3).toNat 0 t ws (by omega) t0 t1 hb hG hO hT (fun w g o h => brr_44 hX0 hS0 hB hf s0 s1 k (u + 1) _ w (by omega) sb.1.1 sb.1.2 (sb.2.2 hb) g o h kk)
theorem br0_3 {G : Nat → Int} {w0 : va_W} (hX0 : HX 4 G w0) (hS0 : STO G w0) (hB : HB G) {f : Nat} {so : Int} (hf : (f : Int) < G 3) {post : Option Value → va_W → Prop} : ∀ (m o : Nat) (ws : va_W), ((o + m : Nat) : Int) = G 3 → GOK ad tys GG ws → XSC w0 ws → (∀ p, p < o → rd ws 37 p = some (.int (Int32.ofInt ((tellT G (G 2).toNat).K (6 * f + p))))) → (∀ w : va_W, GOK ad tys GG w → XSC w0 w → GTH G (bitO 0 (f : Int)) w → V l D tys A 78 3 0 0 post 0 0 44 [(0, .ref (ad 36)), (1, .ref (ad 4)), (2, .ref (ad 32)), (3, .int (Int32.ofInt ((f : Int)))), (4, .int (Int32.ofInt (so))), (5, .int (Int32.ofInt (0))), (6, .int (Int32.ofInt (0)))] [] w) → V l D tys A 78 3 0 0 post 0 0 3 [(0, .ref (ad 36)), (1, .ref (ad 4)), (2, .ref (ad 32)), (3, .int (Int32.ofInt ((f : Int)))), (4, .int (Int32.ofInt (so))), (5, .int (Int32.ofInt ((o : Int))))] [] ws
  | 0, o, ws, hm, hG, hO, hlt, kk => by
    have hX : HX 4 G ws := XSC_X hO hX0
    have b3 := hB.b3
    have b2 := hB.b2
    refine V_iload (v := Int32.ofInt ((o : Int))) mi_78_3 (by simp [stL, lv_args, Value.category]) ?_
    refine V_aload (v := ad 4) mi_78_5 (by simp [stL, lv_args, Value.category]) ?_
    refine V_gO mi_78_6 g4o hG (show rd _ 4 4 = some (.int (Int32.ofInt (G 3))) from hx0 hX (i := 4) (by omega)) ?_
    refine V_cge mi_78_9 ⟨by omega, by omega⟩ ⟨by omega, by omega⟩ (fun q => ?_) (fun q => ?_)
    · refine V_ipush mi_78_38 ?_
      refine V_istore mi_78_39 ?_
      refine V_ipush mi_78_41 ?_
      refine V_istore mi_78_42 ?_
      refine V_sub (lv' := [(0, .ref (ad 36)), (1, .ref (ad 4)), (2, .ref (ad 32)), (3, .int (Int32.ofInt ((f : Int)))), (4, .int (Int32.ofInt (so))), (5, .int (Int32.ofInt (0))), (6, .int (Int32.ofInt (0)))]) (fun q hq => ?_) ?_
      · simp only [List.mem_cons, List.not_mem_nil, or_false] at hq
        rcases hq with rfl | rfl | rfl | rfl | rfl | rfl | rfl <;> simp [stL, lv_args, Value.category]
      refine kk ws hG hO (fun p hp => ?_)
      rw [gaS_add (Int.le_refl 0) (by omega) (by omega) (tb_0 (by omega)) _ (by omega), if_pos (by omega), gaS_z _ (by omega), orr_0 (tell_ok hB _ _ (by omega))]
      exact hlt p (by omega)
    · exact absurd q (by omega)
  | m + 1, o, ws, hm, hG, hO, hlt, kk => by
    have hX : HX 4 G ws := XSC_X hO hX0
    have b3 := hB.b3
    have b2 := hB.b2
    refine V_iload (v := Int32.ofInt ((o : Int))) mi_78_3 (by simp [stL, lv_args, Value.category]) ?_
    refine V_aload (v := ad 4) mi_78_5 (by simp [stL, lv_args, Value.category]) ?_
    refine V_gO mi_78_6 g4o hG (show rd _ 4 4 = some (.int (Int32.ofInt (G 3))) from hx0 hX (i := 4) (by omega)) ?_
    refine V_cge mi_78_9 ⟨by omega, by omega⟩ ⟨by omega, by omega⟩ (fun q => ?_) (fun q => ?_)
    · exact absurd q (by omega)
    · refine V_aload (v := ad 36) mi_78_12 (by simp [stL, lv_args, Value.category]) ?_
      refine V_gR mi_78_13 g36r0 (by omega) hG ?_
      refine V_iload (v := Int32.ofInt ((o : Int))) mi_78_16 (by simp [stL, lv_args, Value.category]) ?_
      refine V_aload (v := ad 32) mi_78_18 (by simp [stL, lv_args, Value.category]) ?_
      refine V_iload (v := Int32.ofInt ((f : Int))) mi_78_19 (by simp [stL, lv_args, Value.category]) ?_
      refine V_iload (v := Int32.ofInt ((o : Int))) mi_78_20 (by simp [stL, lv_args, Value.category]) ?_
      refine V_aload (v := ad 4) mi_78_22 (by simp [stL, lv_args, Value.category]) ?_
      refine V_gO mi_78_23 g4o hG (show rd _ 4 3 = some (.int (Int32.ofInt (G 2))) from hx0 hX (i := 3) (by omega)) ?_
      rw [show G 2 = (((G 2).toNat : Nat) : Int) by omega]
      refine V_cO (As := [.int (Int32.ofInt ((f : Int))), .int (Int32.ofInt ((o : Int))), .int (Int32.ofInt (((G 2).toNat : Int)))]) (st := [.int (Int32.ofInt ((o : Int))), .ref (ad 37)]) mi_78_26 (by omega) (by decide +kernel) (by decide +kernel) (by omega) g32o hG (stb_ct (f := f) (o := o) (g := (G 2).toNat) hG (by omega) (by omega) (by omega) ((hO 33 _ (by omega)).trans (sto_k hB hS0 (by omega) (by omega) (by omega)))) (by omega) (show 3 = mN 176 by decide +kernel) (by simp [Value.category]) ?_
      rintro r w2 ⟨e2, rfl⟩
      rw [e2]
      refine V_stat (As := [.ref (ad 37), .int (Int32.ofInt ((o : Int))), .int (Int32.ofInt ((tellT G (G 2).toNat).K (6 * f + o)))]) (st := []) mi_78_29 (by omega) (putk_ct (j := o) a37 hG (by omega) (by omega)) (by omega) (show 3 = mN 148 by decide +kernel) (by simp [Value.category]) ⟨Nat.le_refl _, Nat.le_refl _⟩ ?_
      rintro r w3 ⟨rfl, G3, U3⟩
      refine V_iinc (v := Int32.ofInt ((o : Int))) mi_78_32 (by simp [stL, lv_args, Value.category]) ?_
      rw [ia2]
      refine V_goto mi_78_35 ?_
      refine V_sub (lv' := [(0, .ref (ad 36)), (1, .ref (ad 4)), (2, .ref (ad 32)), (3, .int (Int32.ofInt ((f : Int)))), (4, .int (Int32.ofInt (so))), (5, .int (Int32.ofInt (((o + 1 : Nat) : Int))))]) (fun q hq => ?_) ?_
      · simp only [List.mem_cons, List.not_mem_nil, or_false] at hq
        rcases hq with rfl | rfl | rfl | rfl | rfl | rfl <;> simp [stL, lv_args, Value.category]
      exact br0_3 hX0 hS0 hB hf m (o + 1) w3 (by omega) G3 (fun c j hc => (upd_ne U3 (by omega)).trans (hO c j hc)) (fun p hp => by
        by_cases e : p = o
        · rw [e]
          exact upd_eq U3
        · exact (upd_ne U3 (by omega)).trans (hlt p (by omega))) kk
theorem brou_ct {G : Nat → Int} {w0 : va_W} (hX0 : HX 4 G w0) (hS0 : STO G w0) (hB : HB G) {f : Nat} {so : Int} (hf : (f : Int) < G 3) (s0 : 0 ≤ so) (s1 : so ≤ 63) (hG : GOK ad tys GG ws) (hO : XSC w0 ws) : CT l D tys A 78 3 0 0 [.ref (ad 36), .ref (ad 4), .ref (ad 32), .int (Int32.ofInt ((f : Int))), .int (Int32.ofInt (so))] ws (fun r w => (GOK ad tys GG w ∧ XSC w0 w) ∧ r = some (.int (Int32.ofInt (clB (brV G so f) (f : Int))))) := by
  refine CT_of_V (by omega) (show (5 : Nat) ≤ mML 78 by decide +kernel) ?_
  have b3 := hB.b3
  have h0 := bit0 (f := f) (by omega)
  refine V_ipush mi_78_0 ?_
  refine V_istore mi_78_1 ?_
  refine V_sub (lv' := [(0, .ref (ad 36)), (1, .ref (ad 4)), (2, .ref (ad 32)), (3, .int (Int32.ofInt ((f : Int)))), (4, .int (Int32.ofInt (so))), (5, .int (Int32.ofInt (((0 : Nat) : Int))))]) (fun q hq => ?_) ?_
  · simp only [List.mem_cons, List.not_mem_nil, or_false] at hq
    rcases hq with rfl | rfl | rfl | rfl | rfl | rfl <;> simp [stL, lv_args, Value.category]
  refine br0_3 hX0 hS0 hB hf (G 3).toNat 0 ws (by omega) hG hO (fun p h1 => absurd h1 (by omega)) (fun w1 g1 o1 t1 => ?_)
  have k := brr_44 (l := l) (D := D) (A := A) (post := fun r w => (GOK ad tys GG w ∧ XSC w0 w) ∧ r = some (.int (Int32.ofInt (clB (brV G so f) (f : Int))))) hX0 hS0 hB (f := f) (by omega) s0 s1 6 0 _ w1 (by omega) h0.1.1 h0.1.2 h0.2.2.2.1 g1 o1 t1 (fun w a b => ⟨⟨a, b⟩, rfl⟩)
  rw [h0.2.2.1] at k
  exact k
end XTC
end
section
section XTD
variable {l : Launch} {D : va_G} {tys : List (ClassId × FieldType)} {A : Nat → Prop} {ad : Nat → Nat} {ws : va_W}
/-- the sets that lead to o -/
noncomputable def viP (G : Nat → Int) (f o p : Nat) : Bool := (tb (p : Int) (o : Int) && !(tb (p : Int) (f : Int))) && decide (brV G (p : Int) f = bitO (p : Int) (f : Int))
theorem viP_cl {G : Nat → Int} {f p : Nat} (hB : HB G) (hf : f < 6) (hp : p < 64) (h : tb (p : Int) (f : Int) = false) : (clB (brV G (p : Int) f) (f : Int) = (p : Int)) ↔ brV G (p : Int) f = bitO (p : Int) (f : Int) := by
  have b := brV_bd (so := (p : Int)) hB hf
  have c := clB_k (i := f) b.1.1 b.1.2 hf
  have d := clB_k (a := (p : Int)) (i := f) (by omega) (by omega) hf
  constructor
  · intro e
    have q := (c.2.2.1 b.2).symm
    rw [e] at q
    exact q
  · intro e
    rw [e]
    exact d.2.1 h
theorem ite_ct {G : Nat → Int} {w0 : va_W} (hT : MT ad tys G w0 ws) (hW : W91 G ws) (hB : HB G) {f o : Nat} (hf : f < 6) (ho : o < 6) : CT l D tys A 240 1 0 0 [.ref (ad 90), .int (Int32.ofInt ((f : Int))), .int (Int32.ofInt ((o : Int)))] ws (fun r w => w = ws ∧ r = some (.int (Int32.ofInt ((tellT G (G 2).toNat).K (6 * f + o))))) := by
  refine CT_of_V (by omega) (show (3 : Nat) ≤ mML 240 by decide +kernel) ?_
  obtain ⟨s91, e91, -⟩ := g91s
  have b3 := hB.b3
  have b2 := hB.b2
  refine V_aload (v := ad 90) mi_240_0 (by simp [stL, lv_args, Value.category]) ?_
  refine V_iload (v := Int32.ofInt ((f : Int))) mi_240_1 (by simp [stL, lv_args, Value.category]) ?_
  refine V_iload (v := Int32.ofInt ((o : Int))) mi_240_2 (by simp [stL, lv_args, Value.category]) ?_
  refine V_aload (v := ad 90) mi_240_3 (by simp [stL, lv_args, Value.category]) ?_
  refine V_getI mi_240_4 hT.1 (rref gr1m (by omega) hT.1) ?_
  refine V_ipush mi_240_7 ?_
  refine V_aldX (j := 2) mi_240_8 rfl hT.1 e91 (by omega) (by omega) (hW _ (by omega)) ?_
  rw [show G 2 = (((G 2).toNat : Nat) : Int) by omega]
  refine V_callM (As := [.int (Int32.ofInt ((f : Int))), .int (Int32.ofInt ((o : Int))), .int (Int32.ofInt (((G 2).toNat : Int)))]) (st := []) mi_240_9 (by omega) (by decide +kernel) (by decide +kernel) hT.1 (kah_ct (f := f) (o := o) (g := (G 2).toNat) hT.1 hf ho (by omega) (mt_k hT hf ho (by omega))) (by omega) (show 3 = mN 239 by decide +kernel) (by simp [Value.category]) ?_
  rintro r w2 ⟨rfl, rfl⟩
  exact V_retI mi_240_12 (fun h => absurd h (by decide +kernel)) ⟨rfl, rfl⟩
theorem knt_5 {G : Nat → Int} {w0 : va_W} (hT : MT ad tys G w0 ws) (hW : W91 G ws) (hB : HB G) {f : Nat} {post : Option Value → va_W → Prop} (hf : f < 6) {t : Int} (t0 : 0 ≤ t) (t1 : t ≤ 63) : ∀ (m p : Nat), ((p + m : Nat) : Int) = G 3 → post (some (.int (bI (brQ G t f)))) ws → V l D tys A 276 2 0 0 post 0 0 5 [(0, .ref (ad 90)), (1, .int (Int32.ofInt (t))), (2, .int (Int32.ofInt ((f : Int)))), (3, .int (Int32.ofInt (gaS (tellT G (G 2).toNat).K t f p))), (4, .int (Int32.ofInt ((p : Int))))] [] ws
  | 0, p, hm, kk => by
    obtain ⟨s91, e91, -⟩ := g91s
    have b3 := hB.b3
    have b2 := hB.b2
    refine V_iload (v := Int32.ofInt ((p : Int))) mi_276_5 (by simp [stL, lv_args, Value.category]) ?_
    refine V_aload (v := ad 90) mi_276_7 (by simp [stL, lv_args, Value.category]) ?_
    refine V_getI mi_276_8 hT.1 (rref gr1m (by omega) hT.1) ?_
    refine V_ipush mi_276_11 ?_
    refine V_aldX (j := 3) mi_276_12 rfl hT.1 e91 (by omega) (by omega) (hW _ (by omega)) ?_
    refine V_cge mi_276_13 ⟨by omega, by omega⟩ ⟨by omega, by omega⟩ (fun q => ?_) (fun q => ?_)
    · have e : p = (G 3).toNat := by omega
      have ia := gaI (K := (tellT G (G 2).toNat).K) (t := t) (f := f) p
      have ib : I32 (allV (G (6 + 7 * f))) := i32b _
      refine V_iload (v := Int32.ofInt (gaS (tellT G (G 2).toNat).K t f p)) mi_276_46 (by simp [stL, lv_args, Value.category]) ?_
      refine V_aload (v := ad 90) mi_276_47 (by simp [stL, lv_args, Value.category]) ?_
      refine V_iload (v := Int32.ofInt ((f : Int))) mi_276_48 (by simp [stL, lv_args, Value.category]) ?_
      refine V_callM (As := [.int (Int32.ofInt ((f : Int)))]) (st := [.int (Int32.ofInt (gaS (tellT G (G 2).toNat).K t f p))]) mi_276_49 (by omega) (by decide +kernel) (by decide +kernel) hT.1 (who_ct (o := f) (by omega) hT.1 hW hB) (by omega) (show 1 = mN 206 by decide +kernel) (by simp [Value.category]) ?_
      rintro r w2 ⟨e2, rfl⟩
      rw [e2]
      refine V_cne mi_276_52 ia ib (fun q2 => ?_) (fun q2 => ?_)
      · refine V_ipush mi_276_59 ?_
        exact V_retI mi_276_60 (fun _ => by decide) (by rw [e] at q2; rw [show brQ G t f = false from decide_eq_false q2] at kk; exact kk)
      · refine V_ipush mi_276_55 ?_
        refine V_goto mi_276_56 ?_
        exact V_retI mi_276_60 (fun _ => by decide) (by rw [e] at q2; rw [show brQ G t f = true from decide_eq_true q2] at kk; exact kk)
    · exact absurd q (by omega)
  | m + 1, p, hm, kk => by
    obtain ⟨s91, e91, -⟩ := g91s
    have b3 := hB.b3
    have b2 := hB.b2
    refine V_iload (v := Int32.ofInt ((p : Int))) mi_276_5 (by simp [stL, lv_args, Value.category]) ?_
    refine V_aload (v := ad 90) mi_276_7 (by simp [stL, lv_args, Value.category]) ?_
    refine V_getI mi_276_8 hT.1 (rref gr1m (by omega) hT.1) ?_
    refine V_ipush mi_276_11 ?_
    refine V_aldX (j := 3) mi_276_12 rfl hT.1 e91 (by omega) (by omega) (hW _ (by omega)) ?_
    refine V_cge mi_276_13 ⟨by omega, by omega⟩ ⟨by omega, by omega⟩ (fun q => ?_) (fun q => ?_)
    · exact absurd q (by omega)
    · refine V_iload (v := Int32.ofInt (gaS (tellT G (G 2).toNat).K t f p)) mi_276_16 (by simp [stL, lv_args, Value.category]) ?_
      refine V_iload (v := Int32.ofInt (t)) mi_276_17 (by simp [stL, lv_args, Value.category]) ?_
      refine V_iload (v := Int32.ofInt ((p : Int))) mi_276_18 (by simp [stL, lv_args, Value.category]) ?_
      refine V_stat (As := [.int (Int32.ofInt (t)), .int (Int32.ofInt ((p : Int)))]) (st := [.int (Int32.ofInt (gaS (tellT G (G 2).toNat).K t f p))]) mi_276_20 (by omega) (bit_ct _ _ _) (by omega) (show 2 = mN 195 by decide +kernel) (by simp [Value.category]) ⟨Nat.le_refl _, Nat.le_refl _⟩ ?_
      rintro r w1 ⟨e1, rfl⟩
      rw [e1, (tb_k (i := (p : Int)) t0 t1 (by omega) (by omega)).1, bI_if]
      refine V_ipush mi_276_23 ?_
      refine V_cne mi_276_24 ⟨by split <;> omega, by split <;> omega⟩ ⟨by omega, by omega⟩ (fun q2 => ?_) (fun q2 => ?_)
      · have q3 : tb t (p : Int) = false := by
          cases c : tb t (p : Int) with
          | false => rfl
          | true => exact absurd (by rw [if_pos c]) q2
        refine V_ipush mi_276_37 ?_
        refine V_ibin mi_276_38 (by omega) ?_
        rw [or0, ← gaS_0 (K := (tellT G (G 2).toNat).K) (f := f) q3]
        refine V_istore mi_276_39 ?_
        refine V_iinc (v := Int32.ofInt ((p : Int))) mi_276_40 (by simp [stL, lv_args, Value.category]) ?_
        rw [ia2]
        refine V_goto mi_276_43 ?_
        refine V_sub (lv' := [(0, .ref (ad 90)), (1, .int (Int32.ofInt (t))), (2, .int (Int32.ofInt ((f : Int)))), (3, .int (Int32.ofInt (gaS (tellT G (G 2).toNat).K t f (p + 1)))), (4, .int (Int32.ofInt (((p + 1 : Nat) : Int))))]) (fun q hq => ?_) ?_
        · simp only [List.mem_cons, List.not_mem_nil, or_false] at hq
          rcases hq with rfl | rfl | rfl | rfl | rfl <;> simp [stL, lv_args, Value.category]
        exact knt_5 hT hW hB hf t0 t1 m (p + 1) (by omega) kk
      · have q3 : tb t (p : Int) = true := by
          cases c : tb t (p : Int) with
          | true => rfl
          | false => exact absurd q2 (by rw [c, if_neg Bool.false_ne_true]; omega)
        refine V_aload (v := ad 90) mi_276_27 (by simp [stL, lv_args, Value.category]) ?_
        refine V_iload (v := Int32.ofInt ((p : Int))) mi_276_28 (by simp [stL, lv_args, Value.category]) ?_
        refine V_iload (v := Int32.ofInt ((f : Int))) mi_276_30 (by simp [stL, lv_args, Value.category]) ?_
        refine V_callM (As := [.int (Int32.ofInt ((p : Int))), .int (Int32.ofInt ((f : Int)))]) (st := [.int (Int32.ofInt (gaS (tellT G (G 2).toNat).K t f p))]) mi_276_31 (by omega) (by decide +kernel) (by decide +kernel) hT.1 (ite_ct (f := p) (o := f) hT hW hB (by omega) hf) (by omega) (show 2 = mN 240 by decide +kernel) (by simp [Value.category]) ?_
        rintro r w2 ⟨e2, rfl⟩
        rw [e2]
        refine V_goto mi_276_34 ?_
        refine V_ibin mi_276_38 (by omega) ?_
        rw [orr_i, ← gaS_1 q3]
        refine V_istore mi_276_39 ?_
        refine V_iinc (v := Int32.ofInt ((p : Int))) mi_276_40 (by simp [stL, lv_args, Value.category]) ?_
        rw [ia2]
        refine V_goto mi_276_43 ?_
        refine V_sub (lv' := [(0, .ref (ad 90)), (1, .int (Int32.ofInt (t))), (2, .int (Int32.ofInt ((f : Int)))), (3, .int (Int32.ofInt (gaS (tellT G (G 2).toNat).K t f (p + 1)))), (4, .int (Int32.ofInt (((p + 1 : Nat) : Int))))]) (fun q hq => ?_) ?_
        · simp only [List.mem_cons, List.not_mem_nil, or_false] at hq
          rcases hq with rfl | rfl | rfl | rfl | rfl <;> simp [stL, lv_args, Value.category]
        exact knt_5 hT hW hB hf t0 t1 m (p + 1) (by omega) kk
theorem knt_ct {G : Nat → Int} {w0 : va_W} (hT : MT ad tys G w0 ws) (hW : W91 G ws) (hB : HB G) {f : Nat} (hf : f < 6) {t : Int} (t0 : 0 ≤ t) (t1 : t ≤ 63) : CT l D tys A 276 2 0 0 [.ref (ad 90), .int (Int32.ofInt (t)), .int (Int32.ofInt ((f : Int)))] ws (fun r w => w = ws ∧ r = some (.int (bI (brQ G t f)))) := by
  refine CT_of_V (by omega) (show (3 : Nat) ≤ mML 276 by decide +kernel) ?_
  have b3 := hB.b3
  refine V_ipush mi_276_0 ?_
  refine V_istore mi_276_1 ?_
  refine V_ipush mi_276_2 ?_
  refine V_istore mi_276_3 ?_
  refine V_sub (lv' := [(0, .ref (ad 90)), (1, .int (Int32.ofInt (t))), (2, .int (Int32.ofInt ((f : Int)))), (3, .int (Int32.ofInt (0))), (4, .int (Int32.ofInt (((0 : Nat) : Int))))]) (fun q hq => ?_) ?_
  · simp only [List.mem_cons, List.not_mem_nil, or_false] at hq
    rcases hq with rfl | rfl | rfl | rfl | rfl <;> simp [stL, lv_args, Value.category]
  exact knt_5 hT hW hB hf t0 t1 (G 3).toNat 0 (by omega) ⟨rfl, rfl⟩
theorem bru_29 {G : Nat → Int} {w0 : va_W} (hT : MT ad tys G w0 ws) (hW : W91 G ws) (hB : HB G) {f p : Nat} {so t mo : Int} (s0 : 0 ≤ so) (s1 : so ≤ 63) (t0 : 0 ≤ t) (t1 : t ≤ 63) (hp : (p : Int) < G 3) {post : Option Value → va_W → Prop} (kn : ¬ (tb so (p : Int) = true ∧ tb t (p : Int) = false ∧ brQ G t p = true) → V l D tys A 277 3 0 0 post 0 0 18 [(0, .ref (ad 90)), (1, .int (Int32.ofInt ((f : Int)))), (2, .int (Int32.ofInt (so))), (3, .int (Int32.ofInt (t))), (4, .int (Int32.ofInt (mo))), (5, .int (Int32.ofInt (((p + 1 : Nat) : Int))))] [] ws) (ky : (tb so (p : Int) = true ∧ tb t (p : Int) = false ∧ brQ G t p = true) → V l D tys A 277 3 0 0 post 0 0 18 [(0, .ref (ad 90)), (1, .int (Int32.ofInt ((f : Int)))), (2, .int (Int32.ofInt (so))), (3, .int (Int32.ofInt (bitO t (p : Int)))), (4, .int (Int32.ofInt (1))), (5, .int (Int32.ofInt (((p + 1 : Nat) : Int))))] [] ws) : V l D tys A 277 3 0 0 post 0 0 29 [(0, .ref (ad 90)), (1, .int (Int32.ofInt ((f : Int)))), (2, .int (Int32.ofInt (so))), (3, .int (Int32.ofInt (t))), (4, .int (Int32.ofInt (mo))), (5, .int (Int32.ofInt ((p : Int))))] [] ws := by
  have b3 := hB.b3
  refine V_iload (v := Int32.ofInt (so)) mi_277_29 (by simp [stL, lv_args, Value.category]) ?_
  refine V_iload (v := Int32.ofInt ((p : Int))) mi_277_30 (by simp [stL, lv_args, Value.category]) ?_
  refine V_stat (As := [.int (Int32.ofInt (so)), .int (Int32.ofInt ((p : Int)))]) (st := []) mi_277_32 (by omega) (bit_ct _ _ _) (by omega) (show 2 = mN 195 by decide +kernel) (by simp [Value.category]) ⟨Nat.le_refl _, Nat.le_refl _⟩ ?_
  rintro r w1 ⟨e1, rfl⟩
  rw [e1, (tb_k (a := so) (i := (p : Int)) s0 s1 (by omega) (by omega)).1]
  refine V_beq mi_277_35  (fun q2 => ?_) (fun q2 => ?_)
  · refine V_iinc (v := Int32.ofInt ((p : Int))) mi_277_71 (by simp [stL, lv_args, Value.category]) ?_
    rw [ia2]
    refine V_goto mi_277_74 ?_
    refine V_sub (lv' := [(0, .ref (ad 90)), (1, .int (Int32.ofInt ((f : Int)))), (2, .int (Int32.ofInt (so))), (3, .int (Int32.ofInt (t))), (4, .int (Int32.ofInt (mo))), (5, .int (Int32.ofInt (((p + 1 : Nat) : Int))))]) (fun q hq => ?_) ?_
    · simp only [List.mem_cons, List.not_mem_nil, or_false] at hq
      rcases hq with rfl | rfl | rfl | rfl | rfl | rfl <;> simp [stL, lv_args, Value.category]
    exact kn (fun k => by rw [q2] at k; exact absurd k.1 Bool.false_ne_true)
  · refine V_iload (v := Int32.ofInt (t)) mi_277_38 (by simp [stL, lv_args, Value.category]) ?_
    refine V_iload (v := Int32.ofInt ((p : Int))) mi_277_39 (by simp [stL, lv_args, Value.category]) ?_
    refine V_stat (As := [.int (Int32.ofInt (t)), .int (Int32.ofInt ((p : Int)))]) (st := []) mi_277_41 (by omega) (bit_ct _ _ _) (by omega) (show 2 = mN 195 by decide +kernel) (by simp [Value.category]) ⟨Nat.le_refl _, Nat.le_refl _⟩ ?_
    rintro r w2 ⟨e2, rfl⟩
    rw [e2, (tb_k (a := t) (i := (p : Int)) t0 t1 (by omega) (by omega)).1, bI_if]
    refine V_ipush mi_277_44 ?_
    refine V_ceq mi_277_45 ⟨by split <;> omega, by split <;> omega⟩ ⟨by omega, by omega⟩ (fun q3 => ?_) (fun q3 => ?_)
    · refine V_iinc (v := Int32.ofInt ((p : Int))) mi_277_71 (by simp [stL, lv_args, Value.category]) ?_
      rw [ia2]
      refine V_goto mi_277_74 ?_
      refine V_sub (lv' := [(0, .ref (ad 90)), (1, .int (Int32.ofInt ((f : Int)))), (2, .int (Int32.ofInt (so))), (3, .int (Int32.ofInt (t))), (4, .int (Int32.ofInt (mo))), (5, .int (Int32.ofInt (((p + 1 : Nat) : Int))))]) (fun q hq => ?_) ?_
      · simp only [List.mem_cons, List.not_mem_nil, or_false] at hq
        rcases hq with rfl | rfl | rfl | rfl | rfl | rfl <;> simp [stL, lv_args, Value.category]
      exact kn (fun k => by rw [k.2.1, if_neg Bool.false_ne_true] at q3; omega)
    · have q4 : tb t (p : Int) = false := by
        cases c : tb t (p : Int) with
        | false => rfl
        | true => exact absurd (by rw [if_pos c]) q3
      refine V_aload (v := ad 90) mi_277_48 (by simp [stL, lv_args, Value.category]) ?_
      refine V_iload (v := Int32.ofInt (t)) mi_277_49 (by simp [stL, lv_args, Value.category]) ?_
      refine V_iload (v := Int32.ofInt ((p : Int))) mi_277_50 (by simp [stL, lv_args, Value.category]) ?_
      refine V_callM (As := [.int (Int32.ofInt (t)), .int (Int32.ofInt ((p : Int)))]) (st := []) mi_277_52 (by omega) (by decide +kernel) (by decide +kernel) hT.1 (knt_ct (f := p) (t := t) hT hW hB (by omega) t0 t1) (by omega) (show 2 = mN 276 by decide +kernel) (by simp [Value.category]) ?_
      rintro r w3 ⟨e3, rfl⟩
      rw [e3]
      refine V_bne mi_277_55  (fun q5 => ?_) (fun q5 => ?_)
      · refine V_iload (v := Int32.ofInt (t)) mi_277_61 (by simp [stL, lv_args, Value.category]) ?_
        refine V_ipush mi_277_62 ?_
        refine V_iload (v := Int32.ofInt ((p : Int))) mi_277_63 (by simp [stL, lv_args, Value.category]) ?_
        refine V_ibin mi_277_65 (by omega) ?_
        refine V_ibin mi_277_66 (by omega) ?_
        rw [bitO_i]
        refine V_istore mi_277_67 ?_
        refine V_ipush mi_277_68 ?_
        refine V_istore mi_277_69 ?_
        refine V_iinc (v := Int32.ofInt ((p : Int))) mi_277_71 (by simp [stL, lv_args, Value.category]) ?_
        rw [ia2]
        refine V_goto mi_277_74 ?_
        refine V_sub (lv' := [(0, .ref (ad 90)), (1, .int (Int32.ofInt ((f : Int)))), (2, .int (Int32.ofInt (so))), (3, .int (Int32.ofInt (bitO t (p : Int)))), (4, .int (Int32.ofInt (1))), (5, .int (Int32.ofInt (((p + 1 : Nat) : Int))))]) (fun q hq => ?_) ?_
        · simp only [List.mem_cons, List.not_mem_nil, or_false] at hq
          rcases hq with rfl | rfl | rfl | rfl | rfl | rfl <;> simp [stL, lv_args, Value.category]
        exact ky ⟨q2, q4, q5⟩
      · refine V_goto mi_277_58 ?_
        refine V_iinc (v := Int32.ofInt ((p : Int))) mi_277_71 (by simp [stL, lv_args, Value.category]) ?_
        rw [ia2]
        refine V_goto mi_277_74 ?_
        refine V_sub (lv' := [(0, .ref (ad 90)), (1, .int (Int32.ofInt ((f : Int)))), (2, .int (Int32.ofInt (so))), (3, .int (Int32.ofInt (t))), (4, .int (Int32.ofInt (mo))), (5, .int (Int32.ofInt (((p + 1 : Nat) : Int))))]) (fun q hq => ?_) ?_
        · simp only [List.mem_cons, List.not_mem_nil, or_false] at hq
          rcases hq with rfl | rfl | rfl | rfl | rfl | rfl <;> simp [stL, lv_args, Value.category]
        exact kn (fun k => by rw [q5] at k; exact absurd k.2.2 Bool.false_ne_true)
theorem bru_18 {G : Nat → Int} {w0 : va_W} (hT : MT ad tys G w0 ws) (hW : W91 G ws) (hB : HB G) {f : Nat} {so s : Int} (s0 : 0 ≤ so) (s1 : so ≤ 63) {post : Option Value → va_W → Prop} : ∀ (m p : Nat) (t mo : Int), ((p + m : Nat) : Int) = G 3 → 0 ≤ t → t ≤ 63 → (mo = 0 ∧ bcS s 6 = bcS t 6 ∧ t = s ∨ mo = 1 ∧ bcS s 6 < bcS t 6) → (∀ mo2 : Int, (mo2 = 0 ∧ bcS s 6 = bcS (scS (brQ G) so m p t) 6 ∧ scS (brQ G) so m p t = s ∨ mo2 = 1 ∧ bcS s 6 < bcS (scS (brQ G) so m p t) 6) → V l D tys A 277 3 0 0 post 0 0 7 [(0, .ref (ad 90)), (1, .int (Int32.ofInt ((f : Int)))), (2, .int (Int32.ofInt (so))), (3, .int (Int32.ofInt (scS (brQ G) so m p t))), (4, .int (Int32.ofInt (mo2)))] [] ws) → V l D tys A 277 3 0 0 post 0 0 18 [(0, .ref (ad 90)), (1, .int (Int32.ofInt ((f : Int)))), (2, .int (Int32.ofInt (so))), (3, .int (Int32.ofInt (t))), (4, .int (Int32.ofInt (mo))), (5, .int (Int32.ofInt ((p : Int))))] [] ws := by
  intro m
  induction m with
  | zero =>
    intro p t mo hm t0 t1 hmo kk
    have e0 : scS (brQ G) so 0 p t = t := rfl
    rw [e0] at kk
    obtain ⟨s91, e91, -⟩ := g91s
    have b3 := hB.b3
    have b2 := hB.b2
    refine V_iload (v := Int32.ofInt ((p : Int))) mi_277_18 (by simp [stL, lv_args, Value.category]) ?_
    refine V_aload (v := ad 90) mi_277_20 (by simp [stL, lv_args, Value.category]) ?_
    refine V_getI mi_277_21 hT.1 (rref gr1m (by omega) hT.1) ?_
    refine V_ipush mi_277_24 ?_
    refine V_aldX (j := 3) mi_277_25 rfl hT.1 e91 (by omega) (by omega) (hW _ (by omega)) ?_
    refine V_cge mi_277_26 ⟨by omega, by omega⟩ ⟨by omega, by omega⟩ (fun q => ?_) (fun q => ?_)
    · refine V_goto mi_277_77 ?_
      refine V_sub (lv' := [(0, .ref (ad 90)), (1, .int (Int32.ofInt ((f : Int)))), (2, .int (Int32.ofInt (so))), (3, .int (Int32.ofInt (t))), (4, .int (Int32.ofInt (mo)))]) (fun q hq => ?_) ?_
      · simp only [List.mem_cons, List.not_mem_nil, or_false] at hq
        rcases hq with rfl | rfl | rfl | rfl | rfl <;> simp [stL, lv_args, Value.category]
      exact kk mo hmo
    · exact absurd q (by omega)
  | succ m ih =>
    intro p t mo hm t0 t1 hmo kk
    obtain ⟨s91, e91, -⟩ := g91s
    have b3 := hB.b3
    have b2 := hB.b2
    refine V_iload (v := Int32.ofInt ((p : Int))) mi_277_18 (by simp [stL, lv_args, Value.category]) ?_
    refine V_aload (v := ad 90) mi_277_20 (by simp [stL, lv_args, Value.category]) ?_
    refine V_getI mi_277_21 hT.1 (rref gr1m (by omega) hT.1) ?_
    refine V_ipush mi_277_24 ?_
    refine V_aldX (j := 3) mi_277_25 rfl hT.1 e91 (by omega) (by omega) (hW _ (by omega)) ?_
    refine V_cge mi_277_26 ⟨by omega, by omega⟩ ⟨by omega, by omega⟩ (fun q => ?_) (fun q => ?_)
    · exact absurd q (by omega)
    · refine bru_29 hT hW hB s0 s1 t0 t1 (by omega) (fun k => ?_) (fun k => ?_)
      · rw [scS_n k] at kk
        exact ih (p + 1) t mo (by omega) t0 t1 hmo kk
      · have ck := (clB_k (i := p) t0 t1 (by omega)).2.2.2
        rw [if_neg (by rw [k.2.1]; exact Bool.false_ne_true)] at ck
        have bb := bitO_bd (i := (p : Int)) t0 t1 (by omega) (by omega)
        rw [scS_y k] at kk
        refine ih (p + 1) _ 1 (by omega) bb.1 bb.2 (Or.inr ⟨rfl, ?_⟩) kk
        rcases hmo with h | h
        · have := h.2.1
          omega
        · have := h.2
          omega
theorem bru_7 {G : Nat → Int} {w0 : va_W} (hT : MT ad tys G w0 ws) (hW : W91 G ws) (hB : HB G) {f : Nat} {so : Int} (hf : f < 6) (s0 : 0 ≤ so) (s1 : so ≤ 63) {post : Option Value → va_W → Prop} : ∀ (k : Nat) (t : Int), 6 ≤ (k : Int) + bcS t 6 → 0 ≤ t → t ≤ 63 → post (some (.int (Int32.ofInt (scN (brQ G) so (G 3).toNat k t)))) ws → V l D tys A 277 3 0 0 post 0 0 7 [(0, .ref (ad 90)), (1, .int (Int32.ofInt ((f : Int)))), (2, .int (Int32.ofInt (so))), (3, .int (Int32.ofInt (t))), (4, .int (Int32.ofInt (1)))] [] ws
  | 0, t, hk, t0, t1, kk => by
    have b3 := hB.b3
    have sb := scS_bd (Q := brQ G) (so := so) hf (G 3).toNat 0 t (by omega) ⟨t0, t1⟩
    have bd := bcS_bd (a := scS (brQ G) so (G 3).toNat 0 t) 6
    refine V_iload (v := Int32.ofInt (1)) mi_277_7 (by simp [stL, lv_args, Value.category]) ?_
    refine V_zeq mi_277_9 ⟨by omega, by omega⟩ (fun q => ?_) (fun q => ?_)
    · exact absurd q (by omega)
    · refine V_ipush mi_277_12 ?_
      refine V_istore mi_277_13 ?_
      refine V_ipush mi_277_15 ?_
      refine V_istore mi_277_16 ?_
      refine V_sub (lv' := [(0, .ref (ad 90)), (1, .int (Int32.ofInt ((f : Int)))), (2, .int (Int32.ofInt (so))), (3, .int (Int32.ofInt (t))), (4, .int (Int32.ofInt (0))), (5, .int (Int32.ofInt (((0 : Nat) : Int))))]) (fun q hq => ?_) ?_
      · simp only [List.mem_cons, List.not_mem_nil, or_false] at hq
        rcases hq with rfl | rfl | rfl | rfl | rfl | rfl <;> simp [stL, lv_args, Value.category]
      refine bru_18 hT hW hB s0 s1 (s := t) (G 3).toNat 0 t 0 (by omega) t0 t1 (Or.inl ⟨rfl, rfl, rfl⟩) (fun mo2 h => ?_)
      rcases h with ⟨rfl, -, h⟩ | ⟨rfl, h⟩
      · refine V_iload (v := Int32.ofInt (0)) mi_277_7 (by simp [stL, lv_args, Value.category]) ?_
        refine V_zeq mi_277_9 ⟨by omega, by omega⟩ (fun q2 => ?_) (fun q2 => ?_)
        · rw [scN_fx h] at kk
          rw [h]
          refine V_iload (v := Int32.ofInt (t)) mi_277_80 (by simp [stL, lv_args, Value.category]) ?_
          exact V_retI mi_277_81 (fun h => absurd h (by decide +kernel)) kk
        · exact absurd rfl q2
      · exact absurd h (by omega)
  | k + 1, t, hk, t0, t1, kk => by
    have b3 := hB.b3
    have sb := scS_bd (Q := brQ G) (so := so) hf (G 3).toNat 0 t (by omega) ⟨t0, t1⟩
    have bd := bcS_bd (a := scS (brQ G) so (G 3).toNat 0 t) 6
    refine V_iload (v := Int32.ofInt (1)) mi_277_7 (by simp [stL, lv_args, Value.category]) ?_
    refine V_zeq mi_277_9 ⟨by omega, by omega⟩ (fun q => ?_) (fun q => ?_)
    · exact absurd q (by omega)
    · refine V_ipush mi_277_12 ?_
      refine V_istore mi_277_13 ?_
      refine V_ipush mi_277_15 ?_
      refine V_istore mi_277_16 ?_
      refine V_sub (lv' := [(0, .ref (ad 90)), (1, .int (Int32.ofInt ((f : Int)))), (2, .int (Int32.ofInt (so))), (3, .int (Int32.ofInt (t))), (4, .int (Int32.ofInt (0))), (5, .int (Int32.ofInt (((0 : Nat) : Int))))]) (fun q hq => ?_) ?_
      · simp only [List.mem_cons, List.not_mem_nil, or_false] at hq
        rcases hq with rfl | rfl | rfl | rfl | rfl | rfl <;> simp [stL, lv_args, Value.category]
      refine bru_18 hT hW hB s0 s1 (s := t) (G 3).toNat 0 t 0 (by omega) t0 t1 (Or.inl ⟨rfl, rfl, rfl⟩) (fun mo2 h => ?_)
      rcases h with ⟨rfl, -, h⟩ | ⟨rfl, h⟩
      · refine V_iload (v := Int32.ofInt (0)) mi_277_7 (by simp [stL, lv_args, Value.category]) ?_
        refine V_zeq mi_277_9 ⟨by omega, by omega⟩ (fun q2 => ?_) (fun q2 => ?_)
        · rw [scN_fx h] at kk
          rw [h]
          refine V_iload (v := Int32.ofInt (t)) mi_277_80 (by simp [stL, lv_args, Value.category]) ?_
          exact V_retI mi_277_81 (fun h => absurd h (by decide +kernel)) kk
        · exact absurd rfl q2
      · exact bru_7 hT hW hB hf s0 s1 k _ (by omega) sb.1.1 sb.1.2 kk
theorem bru_ct {G : Nat → Int} {w0 : va_W} (hT : MT ad tys G w0 ws) (hW : W91 G ws) (hB : HB G) {f : Nat} {so : Int} (hf : f < 6) (s0 : 0 ≤ so) (s1 : so ≤ 63) : CT l D tys A 277 3 0 0 [.ref (ad 90), .int (Int32.ofInt ((f : Int))), .int (Int32.ofInt (so))] ws (fun r w => w = ws ∧ r = some (.int (Int32.ofInt (brV G so f)))) := by
  refine CT_of_V (by omega) (show (3 : Nat) ≤ mML 277 by decide +kernel) ?_
  have h0 := bit0 hf
  refine V_ipush mi_277_0 ?_
  refine V_iload (v := Int32.ofInt ((f : Int))) mi_277_1 (by simp [stL, lv_args, Value.category]) ?_
  refine V_ibin mi_277_2 (by omega) ?_
  rw [h0.2.2.2.2]
  refine V_istore mi_277_3 ?_
  refine V_ipush mi_277_4 ?_
  refine V_istore mi_277_5 ?_
  refine V_sub (lv' := [(0, .ref (ad 90)), (1, .int (Int32.ofInt ((f : Int)))), (2, .int (Int32.ofInt (so))), (3, .int (Int32.ofInt (bitO 0 (f : Int)))), (4, .int (Int32.ofInt (1)))]) (fun q hq => ?_) ?_
  · simp only [List.mem_cons, List.not_mem_nil, or_false] at hq
    rcases hq with rfl | rfl | rfl | rfl | rfl <;> simp [stL, lv_args, Value.category]
  exact bru_7 hT hW hB hf s0 s1 6 _ (by omega) h0.1.1 h0.1.2 ⟨rfl, rfl⟩
end XTD
end
section
section XTE
variable {l : Launch} {D : va_G} {tys : List (ClassId × FieldType)} {A : Nat → Prop} {ad : Nat → Nat} {ws : va_W}
theorem vix_10 {G : Nat → Int} {w0 : va_W} (hX0 : HX 4 G w0) (hS0 : STO G w0) (hB : HB G) {f o : Nat} {post : Option Value → va_W → Prop} (hf : (f : Int) < G 3) (ho : (o : Int) < G 3) : ∀ (m p : Nat) (a : Int) (ws : va_W), ((p + m : Nat) : Int) = allV (G 3) + 1 → (-1 ≤ a ∧ a ≤ 63) → GOK ad tys GG ws → XSC w0 ws → (∀ w : va_W, GOK ad tys GG w → XSC w0 w → post (some (.int (Int32.ofInt (slS (viP G f o) m p a)))) w) → V l D tys A 80 4 0 0 post 0 0 10 [(0, .ref (ad 36)), (1, .ref (ad 4)), (2, .ref (ad 32)), (3, .int (Int32.ofInt ((f : Int)))), (4, .int (Int32.ofInt ((o : Int)))), (5, .int (Int32.ofInt (a))), (6, .int (Int32.ofInt (szI a))), (7, .int (Int32.ofInt ((p : Int))))] [] ws
  | 0, p, a, ws, hm, ha, hG, hO, kk => by
    have hX : HX 4 G ws := XSC_X hO hX0
    have b3 := hB.b3
    have b2 := hB.b2
    have al := all6 b3
    have cp := bcS_bd (a := (p : Int)) 6
    have ca := bcS_bd (a := a) 6
    have ed := szI_c (a := a)
    refine V_iload (v := Int32.ofInt ((p : Int))) mi_80_10 (by simp [stL, lv_args, Value.category]) ?_
    refine V_aload (v := ad 4) mi_80_12 (by simp [stL, lv_args, Value.category]) ?_
    refine V_cO (As := []) (st := [.int (Int32.ofInt ((p : Int)))]) mi_80_13 (by omega) (by decide +kernel) (by decide +kernel) (by omega) g4o hG (evy_ct hG hX hB) (by omega) (show 0 = mN 109 by decide +kernel) (by simp [Value.category]) ?_
    rintro r w0 ⟨e0, rfl⟩
    rw [e0]
    refine V_cgt mi_80_16 ⟨by omega, by omega⟩ ⟨by omega, by omega⟩ (fun q => ?_) (fun q => ?_)
    · refine V_iload (v := Int32.ofInt (a)) mi_80_91 (by simp [stL, lv_args, Value.category]) ?_
      exact V_retI mi_80_93 (fun h => absurd h (by decide +kernel)) (kk ws hG hO)
    · exact absurd q (by omega)
  | m + 1, p, a, ws, hm, ha, hG, hO, kk => by
    have hX : HX 4 G ws := XSC_X hO hX0
    have b3 := hB.b3
    have b2 := hB.b2
    have al := all6 b3
    have cp := bcS_bd (a := (p : Int)) 6
    have ca := bcS_bd (a := a) 6
    have ed := szI_c (a := a)
    refine V_iload (v := Int32.ofInt ((p : Int))) mi_80_10 (by simp [stL, lv_args, Value.category]) ?_
    refine V_aload (v := ad 4) mi_80_12 (by simp [stL, lv_args, Value.category]) ?_
    refine V_cO (As := []) (st := [.int (Int32.ofInt ((p : Int)))]) mi_80_13 (by omega) (by decide +kernel) (by decide +kernel) (by omega) g4o hG (evy_ct hG hX hB) (by omega) (show 0 = mN 109 by decide +kernel) (by simp [Value.category]) ?_
    rintro r w0 ⟨e0, rfl⟩
    rw [e0]
    refine V_cgt mi_80_16 ⟨by omega, by omega⟩ ⟨by omega, by omega⟩ (fun q => ?_) (fun q => ?_)
    · exact absurd q (by omega)
    · refine V_iload (v := Int32.ofInt ((p : Int))) mi_80_19 (by simp [stL, lv_args, Value.category]) ?_
      refine V_iload (v := Int32.ofInt ((o : Int))) mi_80_21 (by simp [stL, lv_args, Value.category]) ?_
      refine V_ibin mi_80_23 (by omega) ?_
      refine V_ipush mi_80_24 ?_
      refine V_ibin mi_80_25 (by omega) ?_
      rw [(tb_k (a := (p : Int)) (i := (o : Int)) (by omega) (by omega) (by omega) (by omega)).1]
      refine V_beq mi_80_26  (fun q2 => ?_) (fun q2 => ?_)
      · refine V_ipush mi_80_42 ?_
        refine V_istore mi_80_43 ?_
        refine V_iload (v := Int32.ofInt (0)) mi_80_45 (by simp [stL, lv_args, Value.category]) ?_
        refine V_zeq mi_80_47 ⟨by omega, by omega⟩ (fun q3 => ?_) (fun q3 => ?_)
        · refine V_iinc (v := Int32.ofInt ((p : Int))) mi_80_85 (by simp [stL, lv_args, Value.category]) ?_
          rw [ia2]
          refine V_goto mi_80_88 ?_
          refine V_sub (lv' := [(0, .ref (ad 36)), (1, .ref (ad 4)), (2, .ref (ad 32)), (3, .int (Int32.ofInt ((f : Int)))), (4, .int (Int32.ofInt ((o : Int)))), (5, .int (Int32.ofInt (a))), (6, .int (Int32.ofInt (szI a))), (7, .int (Int32.ofInt (((p + 1 : Nat) : Int))))]) (fun q hq => ?_) ?_
          · simp only [List.mem_cons, List.not_mem_nil, or_false] at hq
            rcases hq with rfl | rfl | rfl | rfl | rfl | rfl | rfl | rfl <;> simp [stL, lv_args, Value.category]
          rw [slS_n (fun k => by unfold viP at k; rw [q2, Bool.false_and, Bool.false_and] at k; exact absurd k.1 Bool.false_ne_true)] at kk
          exact vix_10 hX0 hS0 hB hf ho m (p + 1) a _ (by omega) ha hG hO kk
        · exact absurd rfl q3
      · refine V_iload (v := Int32.ofInt ((p : Int))) mi_80_29 (by simp [stL, lv_args, Value.category]) ?_
        refine V_iload (v := Int32.ofInt ((f : Int))) mi_80_31 (by simp [stL, lv_args, Value.category]) ?_
        refine V_ibin mi_80_32 (by omega) ?_
        refine V_ipush mi_80_33 ?_
        refine V_ibin mi_80_34 (by omega) ?_
        rw [(tb_k (a := (p : Int)) (i := (f : Int)) (by omega) (by omega) (by omega) (by omega)).1]
        refine V_bne mi_80_35  (fun q3 => ?_) (fun q3 => ?_)
        · refine V_ipush mi_80_42 ?_
          refine V_istore mi_80_43 ?_
          refine V_iload (v := Int32.ofInt (0)) mi_80_45 (by simp [stL, lv_args, Value.category]) ?_
          refine V_zeq mi_80_47 ⟨by omega, by omega⟩ (fun q4 => ?_) (fun q4 => ?_)
          · refine V_iinc (v := Int32.ofInt ((p : Int))) mi_80_85 (by simp [stL, lv_args, Value.category]) ?_
            rw [ia2]
            refine V_goto mi_80_88 ?_
            refine V_sub (lv' := [(0, .ref (ad 36)), (1, .ref (ad 4)), (2, .ref (ad 32)), (3, .int (Int32.ofInt ((f : Int)))), (4, .int (Int32.ofInt ((o : Int)))), (5, .int (Int32.ofInt (a))), (6, .int (Int32.ofInt (szI a))), (7, .int (Int32.ofInt (((p + 1 : Nat) : Int))))]) (fun q hq => ?_) ?_
            · simp only [List.mem_cons, List.not_mem_nil, or_false] at hq
              rcases hq with rfl | rfl | rfl | rfl | rfl | rfl | rfl | rfl <;> simp [stL, lv_args, Value.category]
            rw [slS_n (fun k => by unfold viP at k; rw [q3, Bool.not_true, Bool.and_false, Bool.false_and] at k; exact absurd k.1 Bool.false_ne_true)] at kk
            exact vix_10 hX0 hS0 hB hf ho m (p + 1) a _ (by omega) ha hG hO kk
          · exact absurd rfl q4
        · refine V_ipush mi_80_38 ?_
          refine V_goto mi_80_39 ?_
          refine V_istore mi_80_43 ?_
          refine V_iload (v := Int32.ofInt (1)) mi_80_45 (by simp [stL, lv_args, Value.category]) ?_
          refine V_zeq mi_80_47 ⟨by omega, by omega⟩ (fun q4 => ?_) (fun q4 => ?_)
          · exact absurd q4 (by omega)
          · refine V_iload (v := Int32.ofInt ((p : Int))) mi_80_50 (by simp [stL, lv_args, Value.category]) ?_
            refine V_stat (As := [.int (Int32.ofInt ((p : Int)))]) (st := []) mi_80_52 (by omega) (bcx_ct (a := (p : Int)) (by omega) (by omega)) (by omega) (show 1 = mN 344 by decide +kernel) (by simp [Value.category]) ⟨Nat.le_refl _, Nat.le_refl _⟩ ?_
            rintro r w1 ⟨e1, rfl⟩
            rw [e1]
            refine V_iload (v := Int32.ofInt (szI a)) mi_80_55 (by simp [stL, lv_args, Value.category]) ?_
            refine V_cge mi_80_57 ⟨by omega, by omega⟩ ⟨by omega, by omega⟩ (fun q5 => ?_) (fun q5 => ?_)
            · refine V_iinc (v := Int32.ofInt ((p : Int))) mi_80_85 (by simp [stL, lv_args, Value.category]) ?_
              rw [ia2]
              refine V_goto mi_80_88 ?_
              refine V_sub (lv' := [(0, .ref (ad 36)), (1, .ref (ad 4)), (2, .ref (ad 32)), (3, .int (Int32.ofInt ((f : Int)))), (4, .int (Int32.ofInt ((o : Int)))), (5, .int (Int32.ofInt (a))), (6, .int (Int32.ofInt (szI a))), (7, .int (Int32.ofInt (((p + 1 : Nat) : Int))))]) (fun q hq => ?_) ?_
              · simp only [List.mem_cons, List.not_mem_nil, or_false] at hq
                rcases hq with rfl | rfl | rfl | rfl | rfl | rfl | rfl | rfl <;> simp [stL, lv_args, Value.category]
              rw [slS_n (fun k => by have := k.2; omega)] at kk
              exact vix_10 hX0 hS0 hB hf ho m (p + 1) a _ (by omega) ha hG hO kk
            · refine V_aload (v := ad 36) mi_80_60 (by simp [stL, lv_args, Value.category]) ?_
              refine V_aload (v := ad 4) mi_80_61 (by simp [stL, lv_args, Value.category]) ?_
              refine V_aload (v := ad 32) mi_80_62 (by simp [stL, lv_args, Value.category]) ?_
              refine V_iload (v := Int32.ofInt ((f : Int))) mi_80_63 (by simp [stL, lv_args, Value.category]) ?_
              refine V_iload (v := Int32.ofInt ((p : Int))) mi_80_64 (by simp [stL, lv_args, Value.category]) ?_
              refine V_cO (As := [.ref (ad 4), .ref (ad 32), .int (Int32.ofInt ((f : Int))), .int (Int32.ofInt ((p : Int)))]) (st := []) mi_80_66 (by omega) (by decide +kernel) (by decide +kernel) (by omega) g36o hG (brou_ct (f := f) (so := (p : Int)) hX0 hS0 hB hf (by omega) (by omega) hG hO) (by omega) (show 4 = mN 78 by decide +kernel) (by simp [Value.category]) ?_
              rintro r w2 ⟨⟨G2, O2⟩, e2⟩
              rw [e2]
              have vc := viP_cl (p := p) hB (by omega : f < 6) (by omega) q3
              have vb := brV_bd (so := (p : Int)) hB (by omega : f < 6)
              have cb := (clB_k (i := f) vb.1.1 vb.1.2 (by omega)).1
              refine V_iload (v := Int32.ofInt ((p : Int))) mi_80_69 (by simp [stL, lv_args, Value.category]) ?_
              refine V_cne mi_80_71 ⟨by omega, by omega⟩ ⟨by omega, by omega⟩ (fun q6 => ?_) (fun q6 => ?_)
              · refine V_iinc (v := Int32.ofInt ((p : Int))) mi_80_85 (by simp [stL, lv_args, Value.category]) ?_
                rw [ia2]
                refine V_goto mi_80_88 ?_
                refine V_sub (lv' := [(0, .ref (ad 36)), (1, .ref (ad 4)), (2, .ref (ad 32)), (3, .int (Int32.ofInt ((f : Int)))), (4, .int (Int32.ofInt ((o : Int)))), (5, .int (Int32.ofInt (a))), (6, .int (Int32.ofInt (szI a))), (7, .int (Int32.ofInt (((p + 1 : Nat) : Int))))]) (fun q hq => ?_) ?_
                · simp only [List.mem_cons, List.not_mem_nil, or_false] at hq
                  rcases hq with rfl | rfl | rfl | rfl | rfl | rfl | rfl | rfl <;> simp [stL, lv_args, Value.category]
                rw [slS_n (fun k => by unfold viP at k; rw [decide_eq_false (fun e => q6 (vc.mpr e)), Bool.and_false] at k; exact absurd k.1 Bool.false_ne_true)] at kk
                exact vix_10 hX0 hS0 hB hf ho m (p + 1) a _ (by omega) ha G2 O2 kk
              · refine V_iload (v := Int32.ofInt ((p : Int))) mi_80_74 (by simp [stL, lv_args, Value.category]) ?_
                refine V_istore mi_80_76 ?_
                refine V_iload (v := Int32.ofInt ((p : Int))) mi_80_78 (by simp [stL, lv_args, Value.category]) ?_
                refine V_stat (As := [.int (Int32.ofInt ((p : Int)))]) (st := []) mi_80_80 (by omega) (bcx_ct (a := (p : Int)) (by omega) (by omega)) (by omega) (show 1 = mN 344 by decide +kernel) (by simp [Value.category]) ⟨Nat.le_refl _, Nat.le_refl _⟩ ?_
                rintro r w3 ⟨e3, rfl⟩
                rw [e3, ← szI_p]
                refine V_istore mi_80_83 ?_
                refine V_iinc (v := Int32.ofInt ((p : Int))) mi_80_85 (by simp [stL, lv_args, Value.category]) ?_
                rw [ia2]
                refine V_goto mi_80_88 ?_
                refine V_sub (lv' := [(0, .ref (ad 36)), (1, .ref (ad 4)), (2, .ref (ad 32)), (3, .int (Int32.ofInt ((f : Int)))), (4, .int (Int32.ofInt ((o : Int)))), (5, .int (Int32.ofInt ((p : Int)))), (6, .int (Int32.ofInt (szI (p : Int)))), (7, .int (Int32.ofInt (((p + 1 : Nat) : Int))))]) (fun q hq => ?_) ?_
                · simp only [List.mem_cons, List.not_mem_nil, or_false] at hq
                  rcases hq with rfl | rfl | rfl | rfl | rfl | rfl | rfl | rfl <;> simp [stL, lv_args, Value.category]
                rw [slS_y ⟨by unfold viP; rw [q2, q3, decide_eq_true (vc.mp q6)]; rfl, by omega⟩] at kk
                exact vix_10 hX0 hS0 hB hf ho m (p + 1) (p : Int) _ (by omega) ⟨by omega, by omega⟩ G2 O2 kk
theorem few_ct {G : Nat → Int} (hG : GOK ad tys GG ws) (hX : HX 4 G ws) (hB : HB G) (hS : STO G ws) {f o : Nat} (hf : (f : Int) < G 3) (ho : (o : Int) < G 3) : CT l D tys A 80 4 0 0 [.ref (ad 36), .ref (ad 4), .ref (ad 32), .int (Int32.ofInt ((f : Int))), .int (Int32.ofInt ((o : Int)))] ws (fun r w => (GOK ad tys GG w ∧ XSC ws w) ∧ r = some (.int (Int32.ofInt (slS (viP G f o) (allV (G 3) + 1).toNat 0 (-1))))) := by
  refine CT_of_V (by omega) (show (5 : Nat) ≤ mML 80 by decide +kernel) ?_
  have b3 := hB.b3
  have al := all6 b3
  refine V_ipush mi_80_0 ?_
  refine V_istore mi_80_1 ?_
  refine V_ipush mi_80_3 ?_
  refine V_istore mi_80_5 ?_
  refine V_ipush mi_80_7 ?_
  refine V_istore mi_80_8 ?_
  refine V_sub (lv' := [(0, .ref (ad 36)), (1, .ref (ad 4)), (2, .ref (ad 32)), (3, .int (Int32.ofInt ((f : Int)))), (4, .int (Int32.ofInt ((o : Int)))), (5, .int (Int32.ofInt ((-1)))), (6, .int (Int32.ofInt (7))), (7, .int (Int32.ofInt (((0 : Nat) : Int))))]) (fun q hq => ?_) ?_
  · simp only [List.mem_cons, List.not_mem_nil, or_false] at hq
    rcases hq with rfl | rfl | rfl | rfl | rfl | rfl | rfl | rfl <;> simp [stL, lv_args, Value.category]
  rw [show (7 : Int) = szI (-1) from rfl]
  exact vix_10 hX hS hB hf ho (allV (G 3) + 1).toNat 0 (-1) ws (by omega) ⟨by omega, by omega⟩ hG (fun _ _ _ => rfl) (fun w a b => ⟨⟨a, b⟩, rfl⟩)
theorem vim_5 {G : Nat → Int} {w0 : va_W} (hT : MT ad tys G w0 ws) (hW : W91 G ws) (hB : HB G) {f o : Nat} {post : Option Value → va_W → Prop} (hf : (f : Int) < G 3) (ho : (o : Int) < G 3) : ∀ (m p : Nat) (a : Int), ((p + m : Nat) : Int) = allV (G 3) + 1 → (-1 ≤ a ∧ a ≤ 63) → post (some (.int (Int32.ofInt (slS (viP G f o) m p a)))) ws → V l D tys A 279 4 0 0 post 0 0 5 [(0, .ref (ad 90)), (1, .int (Int32.ofInt ((f : Int)))), (2, .int (Int32.ofInt ((o : Int)))), (3, .int (Int32.ofInt (a))), (4, .int (Int32.ofInt ((p : Int))))] [] ws
  | 0, p, a, hm, ha, kk => by
    have b3 := hB.b3
    have b2 := hB.b2
    have al := all6 b3
    have cp := bcS_bd (a := (p : Int)) 6
    have ca := bcS_bd (a := a) 6
    refine V_iload (v := Int32.ofInt ((p : Int))) mi_279_5 (by simp [stL, lv_args, Value.category]) ?_
    refine V_aload (v := ad 90) mi_279_7 (by simp [stL, lv_args, Value.category]) ?_
    refine V_callM (As := []) (st := [.int (Int32.ofInt ((p : Int)))]) mi_279_8 (by omega) (by decide +kernel) (by decide +kernel) hT.1 (alm_ct hT.1 hW) (by omega) (show 0 = mN 209 by decide +kernel) (by simp [Value.category]) ?_
    rintro r w0 ⟨e0, rfl⟩
    rw [e0]
    refine V_cgt mi_279_11 ⟨by omega, by omega⟩ ⟨by omega, by omega⟩ (fun q => ?_) (fun q => ?_)
    · refine V_iload (v := Int32.ofInt (a)) mi_279_82 (by simp [stL, lv_args, Value.category]) ?_
      exact V_retI mi_279_83 (fun h => absurd h (by decide +kernel)) kk
    · exact absurd q (by omega)
  | m + 1, p, a, hm, ha, kk => by
    have b3 := hB.b3
    have b2 := hB.b2
    have al := all6 b3
    have cp := bcS_bd (a := (p : Int)) 6
    have ca := bcS_bd (a := a) 6
    refine V_iload (v := Int32.ofInt ((p : Int))) mi_279_5 (by simp [stL, lv_args, Value.category]) ?_
    refine V_aload (v := ad 90) mi_279_7 (by simp [stL, lv_args, Value.category]) ?_
    refine V_callM (As := []) (st := [.int (Int32.ofInt ((p : Int)))]) mi_279_8 (by omega) (by decide +kernel) (by decide +kernel) hT.1 (alm_ct hT.1 hW) (by omega) (show 0 = mN 209 by decide +kernel) (by simp [Value.category]) ?_
    rintro r w0 ⟨e0, rfl⟩
    rw [e0]
    refine V_cgt mi_279_11 ⟨by omega, by omega⟩ ⟨by omega, by omega⟩ (fun q => ?_) (fun q => ?_)
    · exact absurd q (by omega)
    · refine V_iload (v := Int32.ofInt ((p : Int))) mi_279_14 (by simp [stL, lv_args, Value.category]) ?_
      refine V_iload (v := Int32.ofInt ((o : Int))) mi_279_16 (by simp [stL, lv_args, Value.category]) ?_
      refine V_stat (As := [.int (Int32.ofInt ((p : Int))), .int (Int32.ofInt ((o : Int)))]) (st := []) mi_279_17 (by omega) (bit_ct _ _ _) (by omega) (show 2 = mN 195 by decide +kernel) (by simp [Value.category]) ⟨Nat.le_refl _, Nat.le_refl _⟩ ?_
      rintro r w1 ⟨e1, rfl⟩
      rw [e1, (tb_k (a := (p : Int)) (i := (o : Int)) (by omega) (by omega) (by omega) (by omega)).1]
      refine V_beq mi_279_20  (fun q2 => ?_) (fun q2 => ?_)
      · refine V_iinc (v := Int32.ofInt ((p : Int))) mi_279_76 (by simp [stL, lv_args, Value.category]) ?_
        rw [ia2]
        refine V_goto mi_279_79 ?_
        refine V_sub (lv' := [(0, .ref (ad 90)), (1, .int (Int32.ofInt ((f : Int)))), (2, .int (Int32.ofInt ((o : Int)))), (3, .int (Int32.ofInt (a))), (4, .int (Int32.ofInt (((p + 1 : Nat) : Int))))]) (fun q hq => ?_) ?_
        · simp only [List.mem_cons, List.not_mem_nil, or_false] at hq
          rcases hq with rfl | rfl | rfl | rfl | rfl <;> simp [stL, lv_args, Value.category]
        rw [slS_n (fun k => by unfold viP at k; rw [q2, Bool.false_and, Bool.false_and] at k; exact absurd k.1 Bool.false_ne_true)] at kk
        exact vim_5 hT hW hB hf ho m (p + 1) a (by omega) ha kk
      · refine V_iload (v := Int32.ofInt ((p : Int))) mi_279_23 (by simp [stL, lv_args, Value.category]) ?_
        refine V_iload (v := Int32.ofInt ((f : Int))) mi_279_25 (by simp [stL, lv_args, Value.category]) ?_
        refine V_stat (As := [.int (Int32.ofInt ((p : Int))), .int (Int32.ofInt ((f : Int)))]) (st := []) mi_279_26 (by omega) (bit_ct _ _ _) (by omega) (show 2 = mN 195 by decide +kernel) (by simp [Value.category]) ⟨Nat.le_refl _, Nat.le_refl _⟩ ?_
        rintro r w2 ⟨e2, rfl⟩
        rw [e2, (tb_k (a := (p : Int)) (i := (f : Int)) (by omega) (by omega) (by omega) (by omega)).1, bI_if]
        refine V_ipush mi_279_29 ?_
        refine V_ceq mi_279_30 ⟨by split <;> omega, by split <;> omega⟩ ⟨by omega, by omega⟩ (fun q3 => ?_) (fun q3 => ?_)
        · refine V_iinc (v := Int32.ofInt ((p : Int))) mi_279_76 (by simp [stL, lv_args, Value.category]) ?_
          rw [ia2]
          refine V_goto mi_279_79 ?_
          refine V_sub (lv' := [(0, .ref (ad 90)), (1, .int (Int32.ofInt ((f : Int)))), (2, .int (Int32.ofInt ((o : Int)))), (3, .int (Int32.ofInt (a))), (4, .int (Int32.ofInt (((p + 1 : Nat) : Int))))]) (fun q hq => ?_) ?_
          · simp only [List.mem_cons, List.not_mem_nil, or_false] at hq
            rcases hq with rfl | rfl | rfl | rfl | rfl <;> simp [stL, lv_args, Value.category]
          rw [slS_n (fun k => by unfold viP at k; rw [show tb (p : Int) (f : Int) = true from (by cases c : tb (p : Int) (f : Int) with | false => exact absurd q3 (by rw [c, if_neg Bool.false_ne_true]; omega) | true => rfl), Bool.not_true, Bool.and_false, Bool.false_and] at k; exact absurd k.1 Bool.false_ne_true)] at kk
          exact vim_5 hT hW hB hf ho m (p + 1) a (by omega) ha kk
        · have q4 : tb (p : Int) (f : Int) = false := by
            cases c : tb (p : Int) (f : Int) with
            | false => rfl
            | true => exact absurd (by rw [if_pos c]) q3
          refine V_iload (v := Int32.ofInt (a)) mi_279_33 (by simp [stL, lv_args, Value.category]) ?_
          refine V_ipush mi_279_34 ?_
          refine V_ceq mi_279_35 ⟨by omega, by omega⟩ ⟨by omega, by omega⟩ (fun q5 => ?_) (fun q5 => ?_)
          · refine V_aload (v := ad 90) mi_279_53 (by simp [stL, lv_args, Value.category]) ?_
            refine V_iload (v := Int32.ofInt ((f : Int))) mi_279_54 (by simp [stL, lv_args, Value.category]) ?_
            refine V_iload (v := Int32.ofInt ((p : Int))) mi_279_55 (by simp [stL, lv_args, Value.category]) ?_
            refine V_callM (As := [.int (Int32.ofInt ((f : Int))), .int (Int32.ofInt ((p : Int)))]) (st := []) mi_279_57 (by omega) (by decide +kernel) (by decide +kernel) hT.1 (bru_ct (f := f) (so := (p : Int)) hT hW hB (by omega) (by omega) (by omega)) (by omega) (show 2 = mN 277 by decide +kernel) (by simp [Value.category]) ?_
            rintro r w3 ⟨e3, rfl⟩
            rw [e3]
            have vb := brV_bd (so := (p : Int)) hB (by omega : f < 6)
            have bb := bitO_bd (a := (p : Int)) (i := (f : Int)) (by omega) (by omega) (by omega) (by omega)
            refine V_iload (v := Int32.ofInt ((p : Int))) mi_279_60 (by simp [stL, lv_args, Value.category]) ?_
            refine V_ipush mi_279_62 ?_
            refine V_iload (v := Int32.ofInt ((f : Int))) mi_279_63 (by simp [stL, lv_args, Value.category]) ?_
            refine V_ibin mi_279_64 (by omega) ?_
            refine V_ibin mi_279_65 (by omega) ?_
            rw [bitO_i]
            refine V_cne mi_279_66 ⟨by omega, by omega⟩ ⟨by omega, by omega⟩ (fun q6 => ?_) (fun q6 => ?_)
            · refine V_iload (v := Int32.ofInt (a)) mi_279_74 (by simp [stL, lv_args, Value.category]) ?_
              refine V_istore mi_279_75 ?_
              refine V_iinc (v := Int32.ofInt ((p : Int))) mi_279_76 (by simp [stL, lv_args, Value.category]) ?_
              rw [ia2]
              refine V_goto mi_279_79 ?_
              refine V_sub (lv' := [(0, .ref (ad 90)), (1, .int (Int32.ofInt ((f : Int)))), (2, .int (Int32.ofInt ((o : Int)))), (3, .int (Int32.ofInt (a))), (4, .int (Int32.ofInt (((p + 1 : Nat) : Int))))]) (fun q hq => ?_) ?_
              · simp only [List.mem_cons, List.not_mem_nil, or_false] at hq
                rcases hq with rfl | rfl | rfl | rfl | rfl <;> simp [stL, lv_args, Value.category]
              rw [slS_n (fun k => by unfold viP at k; rw [decide_eq_false q6, Bool.and_false] at k; exact absurd k.1 Bool.false_ne_true)] at kk
              exact vim_5 hT hW hB hf ho m (p + 1) a (by omega) ha kk
            · refine V_iload (v := Int32.ofInt ((p : Int))) mi_279_69 (by simp [stL, lv_args, Value.category]) ?_
              refine V_goto mi_279_71 ?_
              refine V_istore mi_279_75 ?_
              refine V_iinc (v := Int32.ofInt ((p : Int))) mi_279_76 (by simp [stL, lv_args, Value.category]) ?_
              rw [ia2]
              refine V_goto mi_279_79 ?_
              refine V_sub (lv' := [(0, .ref (ad 90)), (1, .int (Int32.ofInt ((f : Int)))), (2, .int (Int32.ofInt ((o : Int)))), (3, .int (Int32.ofInt ((p : Int)))), (4, .int (Int32.ofInt (((p + 1 : Nat) : Int))))]) (fun q hq => ?_) ?_
              · simp only [List.mem_cons, List.not_mem_nil, or_false] at hq
                rcases hq with rfl | rfl | rfl | rfl | rfl <;> simp [stL, lv_args, Value.category]
              rw [slS_y ⟨by unfold viP; rw [q2, q4, decide_eq_true q6]; rfl, by omega⟩] at kk
              exact vim_5 hT hW hB hf ho m (p + 1) (p : Int) (by omega) ⟨by omega, by omega⟩ kk
          · refine V_iload (v := Int32.ofInt ((p : Int))) mi_279_38 (by simp [stL, lv_args, Value.category]) ?_
            refine V_stat (As := [.int (Int32.ofInt ((p : Int)))]) (st := []) mi_279_40 (by omega) (bcm_ct (a := (p : Int)) (by omega) (by omega)) (by omega) (show 1 = mN 194 by decide +kernel) (by simp [Value.category]) ⟨Nat.le_refl _, Nat.le_refl _⟩ ?_
            rintro r w4 ⟨e4, rfl⟩
            rw [e4]
            refine V_iload (v := Int32.ofInt (a)) mi_279_43 (by simp [stL, lv_args, Value.category]) ?_
            refine V_stat (As := [.int (Int32.ofInt (a))]) (st := [.int (Int32.ofInt (bcS (p : Int) 6))]) mi_279_44 (by omega) (bcm_ct (a := a) (by omega) (by omega)) (by omega) (show 1 = mN 194 by decide +kernel) (by simp [Value.category]) ⟨Nat.le_refl _, Nat.le_refl _⟩ ?_
            rintro r w5 ⟨e5, rfl⟩
            rw [e5]
            refine V_clt mi_279_47 ⟨by omega, by omega⟩ ⟨by omega, by omega⟩ (fun q7 => ?_) (fun q7 => ?_)
            · refine V_aload (v := ad 90) mi_279_53 (by simp [stL, lv_args, Value.category]) ?_
              refine V_iload (v := Int32.ofInt ((f : Int))) mi_279_54 (by simp [stL, lv_args, Value.category]) ?_
              refine V_iload (v := Int32.ofInt ((p : Int))) mi_279_55 (by simp [stL, lv_args, Value.category]) ?_
              refine V_callM (As := [.int (Int32.ofInt ((f : Int))), .int (Int32.ofInt ((p : Int)))]) (st := []) mi_279_57 (by omega) (by decide +kernel) (by decide +kernel) hT.1 (bru_ct (f := f) (so := (p : Int)) hT hW hB (by omega) (by omega) (by omega)) (by omega) (show 2 = mN 277 by decide +kernel) (by simp [Value.category]) ?_
              rintro r w3 ⟨e3, rfl⟩
              rw [e3]
              have vb := brV_bd (so := (p : Int)) hB (by omega : f < 6)
              have bb := bitO_bd (a := (p : Int)) (i := (f : Int)) (by omega) (by omega) (by omega) (by omega)
              refine V_iload (v := Int32.ofInt ((p : Int))) mi_279_60 (by simp [stL, lv_args, Value.category]) ?_
              refine V_ipush mi_279_62 ?_
              refine V_iload (v := Int32.ofInt ((f : Int))) mi_279_63 (by simp [stL, lv_args, Value.category]) ?_
              refine V_ibin mi_279_64 (by omega) ?_
              refine V_ibin mi_279_65 (by omega) ?_
              rw [bitO_i]
              refine V_cne mi_279_66 ⟨by omega, by omega⟩ ⟨by omega, by omega⟩ (fun q6 => ?_) (fun q6 => ?_)
              · refine V_iload (v := Int32.ofInt (a)) mi_279_74 (by simp [stL, lv_args, Value.category]) ?_
                refine V_istore mi_279_75 ?_
                refine V_iinc (v := Int32.ofInt ((p : Int))) mi_279_76 (by simp [stL, lv_args, Value.category]) ?_
                rw [ia2]
                refine V_goto mi_279_79 ?_
                refine V_sub (lv' := [(0, .ref (ad 90)), (1, .int (Int32.ofInt ((f : Int)))), (2, .int (Int32.ofInt ((o : Int)))), (3, .int (Int32.ofInt (a))), (4, .int (Int32.ofInt (((p + 1 : Nat) : Int))))]) (fun q hq => ?_) ?_
                · simp only [List.mem_cons, List.not_mem_nil, or_false] at hq
                  rcases hq with rfl | rfl | rfl | rfl | rfl <;> simp [stL, lv_args, Value.category]
                rw [slS_n (fun k => by unfold viP at k; rw [decide_eq_false q6, Bool.and_false] at k; exact absurd k.1 Bool.false_ne_true)] at kk
                exact vim_5 hT hW hB hf ho m (p + 1) a (by omega) ha kk
              · refine V_iload (v := Int32.ofInt ((p : Int))) mi_279_69 (by simp [stL, lv_args, Value.category]) ?_
                refine V_goto mi_279_71 ?_
                refine V_istore mi_279_75 ?_
                refine V_iinc (v := Int32.ofInt ((p : Int))) mi_279_76 (by simp [stL, lv_args, Value.category]) ?_
                rw [ia2]
                refine V_goto mi_279_79 ?_
                refine V_sub (lv' := [(0, .ref (ad 90)), (1, .int (Int32.ofInt ((f : Int)))), (2, .int (Int32.ofInt ((o : Int)))), (3, .int (Int32.ofInt ((p : Int)))), (4, .int (Int32.ofInt (((p + 1 : Nat) : Int))))]) (fun q hq => ?_) ?_
                · simp only [List.mem_cons, List.not_mem_nil, or_false] at hq
                  rcases hq with rfl | rfl | rfl | rfl | rfl <;> simp [stL, lv_args, Value.category]
                rw [slS_y ⟨by unfold viP; rw [q2, q4, decide_eq_true q6]; rfl, by omega⟩] at kk
                exact vim_5 hT hW hB hf ho m (p + 1) (p : Int) (by omega) ⟨by omega, by omega⟩ kk
            · refine V_goto mi_279_50 ?_
              refine V_iinc (v := Int32.ofInt ((p : Int))) mi_279_76 (by simp [stL, lv_args, Value.category]) ?_
              rw [ia2]
              refine V_goto mi_279_79 ?_
              refine V_sub (lv' := [(0, .ref (ad 90)), (1, .int (Int32.ofInt ((f : Int)))), (2, .int (Int32.ofInt ((o : Int)))), (3, .int (Int32.ofInt (a))), (4, .int (Int32.ofInt (((p + 1 : Nat) : Int))))]) (fun q hq => ?_) ?_
              · simp only [List.mem_cons, List.not_mem_nil, or_false] at hq
                rcases hq with rfl | rfl | rfl | rfl | rfl <;> simp [stL, lv_args, Value.category]
              rw [slS_n (fun k => by have := k.2; omega)] at kk
              exact vim_5 hT hW hB hf ho m (p + 1) a (by omega) ha kk
theorem vio_ct {G : Nat → Int} {w0 : va_W} (hT : MT ad tys G w0 ws) (hW : W91 G ws) (hB : HB G) {f o : Nat} (hf : (f : Int) < G 3) (ho : (o : Int) < G 3) : CT l D tys A 279 4 0 0 [.ref (ad 90), .int (Int32.ofInt ((f : Int))), .int (Int32.ofInt ((o : Int)))] ws (fun r w => w = ws ∧ r = some (.int (Int32.ofInt (slS (viP G f o) (allV (G 3) + 1).toNat 0 (-1))))) := by
  refine CT_of_V (by omega) (show (3 : Nat) ≤ mML 279 by decide +kernel) ?_
  have b3 := hB.b3
  have al := all6 b3
  refine V_ipush mi_279_0 ?_
  refine V_istore mi_279_1 ?_
  refine V_ipush mi_279_2 ?_
  refine V_istore mi_279_3 ?_
  refine V_sub (lv' := [(0, .ref (ad 90)), (1, .int (Int32.ofInt ((f : Int)))), (2, .int (Int32.ofInt ((o : Int)))), (3, .int (Int32.ofInt ((-1)))), (4, .int (Int32.ofInt (((0 : Nat) : Int))))]) (fun q hq => ?_) ?_
  · simp only [List.mem_cons, List.not_mem_nil, or_false] at hq
    rcases hq with rfl | rfl | rfl | rfl | rfl <;> simp [stL, lv_args, Value.category]
  exact vim_5 hT hW hB hf ho (allV (G 3) + 1).toNat 0 (-1) (by omega) ⟨by omega, by omega⟩ ⟨rfl, rfl⟩
theorem bgX_ct {G : Nat → Int} (hG : GOK ad tys GG ws) (hX : HX 4 G ws) (hB : HB G) (hS : STO G ws) {f o : Int} (fI : I32 f) (oI : I32 o) : CT l D tys A 33 5 0 0 [.ref (ad 0), .int (Int32.ofInt (f)), .int (Int32.ofInt (o))] ws (fun r w => (GOK ad tys GG w ∧ XSC ws w) ∧ r = some (.int (if (0 ≤ f ∧ f < G 3) ∧ (0 ≤ o ∧ o < G 3) ∧ f ≠ o then Int32.ofInt (sozV (slS (viP G f.toNat o.toNat) (allV (G 3) + 1).toNat 0 (-1))) else Int32.ofInt (-2)))) := by
  refine CT_of_V (by omega) (show (3 : Nat) ≤ mML 33 by decide +kernel) ?_
  have b3 := hB.b3
  have b2 := hB.b2
  have al := all6 b3
  refine V_aload (v := ad 0) mi_33_0 (by simp [stL, lv_args, Value.category]) ?_
  refine V_iload (v := Int32.ofInt (f)) mi_33_1 (by simp [stL, lv_args, Value.category]) ?_
  refine V_iload (v := Int32.ofInt (o)) mi_33_2 (by simp [stL, lv_args, Value.category]) ?_
  refine V_cO (As := [.int (Int32.ofInt (f)), .int (Int32.ofInt (o))]) (st := []) mi_33_3 (by omega) (by decide +kernel) (by decide +kernel) (by omega) g0o hG (two_ct hG hX hB fI oI) (by omega) (show 2 = mN 74 by decide +kernel) (by simp [Value.category]) ?_
  rintro r w1 ⟨rfl, rfl⟩
  refine V_bne mi_33_6  (fun c1 => ?_) (fun c1 => ?_)
  · have k1 := of_decide_eq_true c1
    obtain ⟨m, rfl⟩ := Int.eq_ofNat_of_zero_le k1.1.1
    obtain ⟨n, rfl⟩ := Int.eq_ofNat_of_zero_le k1.2.1.1
    refine V_aload (v := ad 0) mi_33_12 (by simp [stL, lv_args, Value.category]) ?_
    refine V_gR mi_33_13 g0r6 (by omega) hG ?_
    refine V_aload (v := ad 0) mi_33_16 (by simp [stL, lv_args, Value.category]) ?_
    refine V_gR mi_33_17 g0r2 (by omega) hG ?_
    refine V_aload (v := ad 0) mi_33_20 (by simp [stL, lv_args, Value.category]) ?_
    refine V_gR mi_33_21 g0r5 (by omega) hG ?_
    refine V_iload (v := Int32.ofInt ((m : Int))) mi_33_24 (by simp [stL, lv_args, Value.category]) ?_
    refine V_iload (v := Int32.ofInt ((n : Int))) mi_33_25 (by simp [stL, lv_args, Value.category]) ?_
    refine V_cO (As := [.ref (ad 4), .ref (ad 32), .int (Int32.ofInt ((m : Int))), .int (Int32.ofInt ((n : Int)))]) (st := []) mi_33_26 (by omega) (by decide +kernel) (by decide +kernel) (by omega) g36o hG (few_ct (f := m) (o := n) hG hX hB hS (by omega) (by omega)) (by omega) (show 4 = mN 80 by decide +kernel) (by simp [Value.category]) ?_
    rintro r w2 ⟨o2, rfl⟩
    have sb := slS_bd (P := viP G m n) (allV (G 3) + 1).toNat 0 (-1) (by omega) ⟨by omega, by omega⟩
    refine V_stat (As := [.int (Int32.ofInt (slS (viP G m n) (allV (G 3) + 1).toNat 0 (-1)))]) (st := []) mi_33_29 (by omega) (soz_ct (a := slS (viP G m n) (allV (G 3) + 1).toNat 0 (-1)) sb.1 sb.2) (by omega) (show 1 = mN 76 by decide +kernel) (by simp [Value.category]) ⟨Nat.le_refl _, Nat.le_refl _⟩ ?_
    rintro r w3 ⟨rfl, rfl⟩
    exact V_retI mi_33_32 (fun h => absurd h (by decide +kernel)) ⟨o2, by rw [if_pos k1, Int.toNat_natCast, Int.toNat_natCast]⟩
  · refine V_ipush mi_33_9 ?_
    exact V_retI mi_33_11 (fun h => absurd h (by decide +kernel)) ⟨⟨hG, fun _ _ _ => rfl⟩, by rw [if_neg (of_decide_eq_false c1)]⟩
theorem bgM_ct {G : Nat → Int} (hG : GOK ad tys GG ws) (hW : W91 G ws) (hB : HB G) (wf : WF G) (h24 : rd ws 90 24 = some (.int (Int32.ofInt 0))) (h22 : rd ws 90 22 = some (.int (Int32.ofInt (-1)))) {f o : Int} (fI : I32 f) (oI : I32 o) : CT l D tys A 280 9 0 0 [.ref (ad 90), .int (Int32.ofInt (f)), .int (Int32.ofInt (o))] ws (fun r w => (GOK ad tys GG w ∧ MTO ws w) ∧ r = some (.int (if (0 ≤ f ∧ f < G 3) ∧ (0 ≤ o ∧ o < G 3) ∧ f ≠ o then Int32.ofInt (sozV (slS (viP G f.toNat o.toNat) (allV (G 3) + 1).toNat 0 (-1))) else Int32.ofInt (-2)))) := by
  refine CT_of_V (by omega) (show (3 : Nat) ≤ mML 280 by decide +kernel) ?_
  have b3 := hB.b3
  have b2 := hB.b2
  have al := all6 b3
  refine V_aload (v := ad 90) mi_280_0 (by simp [stL, lv_args, Value.category]) ?_
  refine V_iload (v := Int32.ofInt (f)) mi_280_1 (by simp [stL, lv_args, Value.category]) ?_
  refine V_iload (v := Int32.ofInt (o)) mi_280_2 (by simp [stL, lv_args, Value.category]) ?_
  refine V_callM (As := [.int (Int32.ofInt (f)), .int (Int32.ofInt (o))]) (st := []) mi_280_3 (by omega) (by decide +kernel) (by decide +kernel) hG (m2_ct hG hW hB fI oI) (by omega) (show 2 = mN 200 by decide +kernel) (by simp [Value.category]) ?_
  rintro r w1 ⟨rfl, rfl⟩
  refine V_bne mi_280_6  (fun c1 => ?_) (fun c1 => ?_)
  · have k1 := of_decide_eq_true c1
    obtain ⟨m, rfl⟩ := Int.eq_ofNat_of_zero_le k1.1.1
    obtain ⟨n, rfl⟩ := Int.eq_ofNat_of_zero_le k1.2.1.1
    refine V_aload (v := ad 90) mi_280_12 (by simp [stL, lv_args, Value.category]) ?_
    refine V_callM (As := []) (st := []) mi_280_13 (by omega) (by decide +kernel) (by decide +kernel) hG (gt_ct hB wf hG hW h24 h22) (by omega) (show 0 = mN 238 by decide +kernel) (by simp [Value.category]) ?_
    rintro r w4 ⟨rfl, T⟩
    refine V_aload (v := ad 90) mi_280_16 (by simp [stL, lv_args, Value.category]) ?_
    refine V_iload (v := Int32.ofInt ((m : Int))) mi_280_17 (by simp [stL, lv_args, Value.category]) ?_
    refine V_iload (v := Int32.ofInt ((n : Int))) mi_280_18 (by simp [stL, lv_args, Value.category]) ?_
    refine V_callM (As := [.int (Int32.ofInt ((m : Int))), .int (Int32.ofInt ((n : Int)))]) (st := []) mi_280_19 (by omega) (by decide +kernel) (by decide +kernel) T.1 (vio_ct (f := m) (o := n) T (mt_w T hW) hB (by omega) (by omega)) (by omega) (show 2 = mN 279 by decide +kernel) (by simp [Value.category]) ?_
    rintro r w5 ⟨rfl, rfl⟩
    have sb := slS_bd (P := viP G m n) (allV (G 3) + 1).toNat 0 (-1) (by omega) ⟨by omega, by omega⟩
    refine V_istore mi_280_22 ?_
    refine V_iload (v := Int32.ofInt (slS (viP G m n) (allV (G 3) + 1).toNat 0 (-1))) mi_280_23 (by simp [stL, lv_args, Value.category]) ?_
    refine V_ipush mi_280_24 ?_
    refine V_cne mi_280_25 ⟨by omega, by omega⟩ ⟨by omega, by omega⟩ (fun q6 => ?_) (fun q6 => ?_)
    · refine V_iload (v := Int32.ofInt (slS (viP G m n) (allV (G 3) + 1).toNat 0 (-1))) mi_280_32 (by simp [stL, lv_args, Value.category]) ?_
      refine V_stat (As := [.int (Int32.ofInt (slS (viP G m n) (allV (G 3) + 1).toNat 0 (-1)))]) (st := []) mi_280_33 (by omega) (bcm_ct (a := slS (viP G m n) (allV (G 3) + 1).toNat 0 (-1)) (by omega) (by omega)) (by omega) (show 1 = mN 194 by decide +kernel) (by simp [Value.category]) ⟨Nat.le_refl _, Nat.le_refl _⟩ ?_
      rintro r w6 ⟨rfl, rfl⟩
      exact V_retI mi_280_36 (fun h => absurd h (by decide +kernel)) ⟨⟨T.1, T.2.2.2⟩, by rw [if_pos k1, Int.toNat_natCast, Int.toNat_natCast]; unfold sozV; rw [if_neg (by omega)]⟩
    · refine V_ipush mi_280_28 ?_
      refine V_goto mi_280_29 ?_
      exact V_retI mi_280_36 (fun h => absurd h (by decide +kernel)) ⟨⟨T.1, T.2.2.2⟩, by rw [if_pos k1, Int.toNat_natCast, Int.toNat_natCast]; unfold sozV; rw [if_pos (by omega)]⟩
  · refine V_ipush mi_280_9 ?_
    exact V_retI mi_280_11 (fun h => absurd h (by decide +kernel)) ⟨⟨hG, fun _ _ _ _ => rfl⟩, by rw [if_neg (of_decide_eq_false c1)]⟩
theorem pairT_biddings (hAD : ∀ i : Nat, ad (1000 + i) = D.2 1000 i) (hG : GOK ad tys GG ws) (hR : RELW ws) (a1 a2 : Int32) : PAIRT l D tys A ad 33 280 [.ref (ad 0), .int a1, .int a2] [.ref (ad 90), .int a1, .int a2] ws := by
  obtain ⟨G0, o0, x0, y0⟩ := hR.1.2.1
  obtain ⟨G, o, x, y, hb, wf, hS⟩ := aux_sto hR.2 x0 y0 o0 (hb_of hG y0 o0)
  have c1 := bgX_ct (l := l) (D := D) (A := A) hG x hb hS (i32b a1) (i32b a2)
  have c2 := fun (w : va_W) (hw : GOK ad tys GG w) (K : XSC ws w) => bgM_ct (l := l) (D := D) (A := A) hw (XSC_W K y) hb wf ((K _ _ (by omega)).trans hR.2.2.2.2.2) ((K _ _ (by omega)).trans hR.2.2.2.2.1) (i32b a1) (i32b a2)
  simp only [oi] at c1 c2
  exact pairT_sc hR (by omega) (by omega) c1 c2
end XTE
end
