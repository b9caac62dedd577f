section XTC
variable {l : Launch} {D : va_G} {tys : List (ClassId × FieldType)} {A : Nat → Prop} {ad : Nat → Nat} {ws : va_W}
theorem g0r6 : gOr 0 10 13 6 36 := ⟨_, rfl, by decide +kernel⟩
theorem g36o : gO 36 0 2 := ⟨_, rfl⟩
theorem g36r0 : gOr 36 0 2 0 37 := ⟨_, rfl, by decide +kernel⟩
theorem g36r1 : gOr 36 0 2 1 38 := ⟨_, rfl, by decide +kernel⟩
theorem a37 : gA 37 6 (-2147483648) 2147483647 := gA_of rfl
theorem a38 : gA 38 6 (-2147483648) 2147483647 := gA_of rfl
theorem orr_c (a b c : Int) : orr (orr a b) c = orr (orr a c) b := by
  unfold orr
  rw [Int32.ofInt_toInt, Int32.ofInt_toInt]
  show ((Int32.ofInt a ||| Int32.ofInt b) ||| Int32.ofInt c).toInt = ((Int32.ofInt a ||| Int32.ofInt c) ||| Int32.ofInt b).toInt
  rw [Int32.or_assoc, Int32.or_comm (Int32.ofInt b), ← Int32.or_assoc]
theorem orr_all : (List.range 64).all (fun a => decide (orr 0 (a : Nat) = (a : Nat))) = true := by decide +kernel
theorem orr_0 {a : Int} (h : 0 ≤ a ∧ a ≤ 63) : orr 0 a = a := by
  have q := of_decide_eq_true (List.all_eq_true.mp orr_all a.toNat (List.mem_range.mpr (by omega)))
  rw [Int.toNat_of_nonneg h.1] at q
  exact q
theorem tb_0 {j : Nat} (hj : j < 6) : tb 0 (j : Int) = false := by
  have q := List.all_eq_true.mp tb_z j (List.mem_range.mpr hj)
  simpa using q
theorem gaS_z {K : Nat → Int} {f : Nat} : ∀ n : Nat, n ≤ 6 → gaS K 0 f n = 0
  | 0, _ => rfl
  | p + 1, h => by rw [gaS_0 (tb_0 (by omega))]; exact gaS_z p (by omega)
/-- one more of them -/
theorem gaS_add {K : Nat → Int} {t : Int} {f q : Nat} (t0 : 0 ≤ t) (t1 : t ≤ 63) (hq : q < 6) (h : tb t (q : Int) = false) : ∀ n : Nat, n ≤ 6 → gaS K (bitO t (q : Int)) f n = if q < n then orr (gaS K t f n) (K (6 * q + f)) else gaS K t f n
  | 0, _ => by rw [if_neg (by omega)]; rfl
  | n + 1, hn => by
    have ih := gaS_add (K := K) (f := f) t0 t1 hq h n (by omega)
    have eb := tb_bo (j := n) t0 t1 hq (by omega)
    by_cases e : n = q
    · subst e
      rw [decide_eq_true rfl, Bool.true_or] at eb
      rw [if_neg (by omega)] at ih
      rw [gaS_1 eb, ih, if_pos (by omega), gaS_0 h]
    · rw [decide_eq_false e, Bool.false_or] at eb
      cases c : tb t (n : Int) with
      | false =>
        rw [c] at eb
        rw [gaS_0 eb, ih, gaS_0 c]
        by_cases l : q < n
        · rw [if_pos l, if_pos (by omega)]
        · rw [if_neg l, if_neg (by omega)]
      | true =>
        rw [c] at eb
        rw [gaS_1 eb, ih, gaS_1 c]
        by_cases l : q < n
        · rw [if_pos l, if_pos (by omega), orr_c]
        · rw [if_neg l, if_neg (by omega)]
/-- all but i -/
def clB (t i : Int) : Int := (ibF 5 (Int32.ofInt t) (ibF 7 (ibF 8 (Int32.ofInt 1) (Int32.ofInt i)) (Int32.ofInt (-1)))).toInt
theorem clB_i (t i : Int) : ibF 5 (Int32.ofInt t) (ibF 7 (ibF 8 (Int32.ofInt 1) (Int32.ofInt i)) (Int32.ofInt (-1))) = Int32.ofInt (clB t i) := by
  unfold clB
  rw [Int32.ofInt_toInt]
theorem clB_all : (List.range 64).all (fun a => (List.range 6).all (fun i => decide (0 ≤ clB (a : Nat) (i : Nat) ∧ clB (a : Nat) (i : Nat) ≤ 63) && (tb (a : Nat) (i : Nat) || decide (clB (bitO (a : Nat) (i : Nat)) (i : Nat) = (a : Nat))) && (!(tb (a : Nat) (i : Nat)) || decide (bitO (clB (a : Nat) (i : Nat)) (i : Nat) = (a : Nat))) && decide (bcS (bitO (a : Nat) (i : Nat)) 6 = bcS (a : Nat) 6 + (if tb (a : Nat) (i : Nat) = true then 0 else 1)))) = true := by decide +kernel
theorem clB_k {a : Int} {i : Nat} (a0 : 0 ≤ a) (a1 : a ≤ 63) (hi : i < 6) : (0 ≤ clB a (i : Int) ∧ clB a (i : Int) ≤ 63) ∧ (tb a (i : Int) = false → clB (bitO a (i : Int)) (i : Int) = a) ∧ (tb a (i : Int) = true → bitO (clB a (i : Int)) (i : Int) = a) ∧ bcS (bitO a (i : Int)) 6 = bcS a 6 + (if tb a (i : Int) = true then 0 else 1) := by
  have q := List.all_eq_true.mp (List.all_eq_true.mp clB_all a.toNat (List.mem_range.mpr (by omega))) i (List.mem_range.mpr hi)
  rw [Int.toNat_of_nonneg a0, Bool.and_eq_true, Bool.and_eq_true, Bool.and_eq_true, decide_eq_true_eq, decide_eq_true_eq] at q
  obtain ⟨⟨⟨q1, q2⟩, q3⟩, q4⟩ := q
  refine ⟨q1, fun e => ?_, fun e => ?_, q4⟩
  · rw [e, Bool.false_or, decide_eq_true_eq] at q2
    exact q2
  · rw [e, Bool.not_true, Bool.false_or, decide_eq_true_eq] at q3
    exact q3
theorem clC_all : (List.range 64).all (fun a => (List.range 6).all (fun i => (List.range 6).all (fun j => (tb (clB (a : Nat) (i : Nat)) (j : Nat) == (tb (a : Nat) (j : Nat) && !(Nat.beq j i))) && (Nat.beq j i || decide (clB (bitO (a : Nat) (j : Nat)) (i : Nat) = bitO (clB (a : Nat) (i : Nat)) (j : Nat)))))) = true := by decide +kernel
theorem clC_k {a : Int} {i j : Nat} (a0 : 0 ≤ a) (a1 : a ≤ 63) (hi : i < 6) (hj : j < 6) (e : j ≠ i) : tb (clB a (i : Int)) (j : Int) = tb a (j : Int) ∧ clB (bitO a (j : Int)) (i : Int) = bitO (clB a (i : Int)) (j : Int) := by
  have q := List.all_eq_true.mp (List.all_eq_true.mp (List.all_eq_true.mp clC_all a.toNat (List.mem_range.mpr (by omega))) i (List.mem_range.mpr hi)) j (List.mem_range.mpr hj)
  have eb : Nat.beq j i = false := by
    cases h : Nat.beq j i
    · rfl
    · exact absurd (Nat.eq_of_beq_eq_true h) e
  rw [Int.toNat_of_nonneg a0, eb, Bool.and_eq_true, Bool.not_false, Bool.and_true, Bool.false_or, decide_eq_true_eq] at q
  exact ⟨by simpa using q.1, q.2⟩
theorem opA_all : (List.range 64).all (fun a => (List.range 6).all (fun i => decide (ibF 5 (Int32.ofInt (a : Nat)) (ibF 8 (Int32.ofInt 1) (Int32.ofInt (i : Nat))) = if tb (a : Nat) (i : Nat) = true then ibF 8 (Int32.ofInt 1) (Int32.ofInt (i : Nat)) else 0) && (decide (ibF 5 (ibF 8 (Int32.ofInt 1) (Int32.ofInt (i : Nat))) (ibF 7 (Int32.ofInt (a : Nat)) (Int32.ofInt (-1))) = 0) == tb (a : Nat) (i : Nat)))) = true := by decide +kernel
theorem opA_k {a : Int} {i : Nat} (a0 : 0 ≤ a) (a1 : a ≤ 63) (hi : i < 6) : ibF 5 (Int32.ofInt a) (ibF 8 (Int32.ofInt 1) (Int32.ofInt (i : Int))) = (if tb a (i : Int) = true then ibF 8 (Int32.ofInt 1) (Int32.ofInt (i : Int)) else 0) ∧ (ibF 5 (ibF 8 (Int32.ofInt 1) (Int32.ofInt (i : Int))) (ibF 7 (Int32.ofInt a) (Int32.ofInt (-1))) = 0 ↔ tb a (i : Int) = true) := by
  have q := List.all_eq_true.mp (List.all_eq_true.mp opA_all a.toNat (List.mem_range.mpr (by omega))) i (List.mem_range.mpr hi)
  rw [Int.toNat_of_nonneg a0, Bool.and_eq_true, decide_eq_true_eq] at q
  refine ⟨q.1, ?_⟩
  have q2 : decide (ibF 5 (ibF 8 (Int32.ofInt 1) (Int32.ofInt (i : Int))) (ibF 7 (Int32.ofInt a) (Int32.ofInt (-1))) = 0) = tb a (i : Int) := by simpa using q.2
  constructor
  · intro h
    rw [← q2]
    exact decide_eq_true h
  · intro h
    rw [h] at q2
    exact of_decide_eq_true q2
theorem opn {so bd : Int} {p : Nat} (s0 : 0 ≤ so) (s1 : so ≤ 63) (b0 : 0 ≤ bd) (b1 : bd ≤ 63) (hp : p < 6) : ibF 5 (ibF 5 (Int32.ofInt so) (ibF 7 (Int32.ofInt bd) (Int32.ofInt (-1)))) (ibF 8 (Int32.ofInt 1) (Int32.ofInt (p : Int))) = 0 ↔ ¬ (tb so (p : Int) = true ∧ tb bd (p : Int) = false) := by
  have e : ∀ x y z : Int32, ibF 5 (ibF 5 x y) z = ibF 5 (ibF 5 x z) y := fun x y z => by
    show (x &&& y) &&& z = (x &&& z) &&& y
    rw [Int32.and_assoc, Int32.and_comm y z, ← Int32.and_assoc]
  have a := (opA_k (i := p) s0 s1 hp).1
  have b := (opA_k (i := p) b0 b1 hp).2
  rw [e, a]
  cases c : tb so (p : Int) with
  | false =>
    rw [if_neg Bool.false_ne_true]
    refine ⟨fun _ k => absurd k.1 Bool.false_ne_true, fun _ => ?_⟩
    show (0 : Int32) &&& _ = 0
    exact Int32.zero_and
  | true =>
    rw [if_pos rfl, b]
    constructor
    · intro h k
      rw [h] at k
      exact absurd k.2 (by decide)
    · intro h
      cases c2 : tb bd (p : Int) with
      | true => rfl
      | false => exact absurd ⟨rfl, c2⟩ h
/-- who is brought in, one look at each from p on -/
def scS (Q : Int → Nat → Bool) (so : Int) : Nat → Nat → Int → Int
  | 0, _, t => t
  | m + 1, p, t => if tb so (p : Int) = true ∧ tb t (p : Int) = false ∧ Q t p = true then scS Q so m (p + 1) (bitO t (p : Int)) else scS Q so m (p + 1) t
theorem scS_y {Q : Int → Nat → Bool} {so t : Int} {m p : Nat} (h : tb so (p : Int) = true ∧ tb t (p : Int) = false ∧ Q t p = true) : scS Q so (m + 1) p t = scS Q so m (p + 1) (bitO t (p : Int)) := if_pos h
theorem scS_n {Q : Int → Nat → Bool} {so t : Int} {m p : Nat} (h : ¬ (tb so (p : Int) = true ∧ tb t (p : Int) = false ∧ Q t p = true)) : scS Q so (m + 1) p t = scS Q so m (p + 1) t := if_neg h
theorem scS_bd {Q : Int → Nat → Bool} {so : Int} {f : Nat} (hf : f < 6) : ∀ (m p : Nat) (t : Int), p + m ≤ 6 → (0 ≤ t ∧ t ≤ 63) → (0 ≤ scS Q so m p t ∧ scS Q so m p t ≤ 63) ∧ bcS t 6 ≤ bcS (scS Q so m p t) 6 ∧ (tb t (f : Int) = true → tb (scS Q so m p t) (f : Int) = true)
  | 0, p, t, _, h => ⟨h, Int.le_refl _, id⟩
  | m + 1, p, t, hm, h => by
    unfold scS
    split
    · rename_i k
      have b := bitO_bd (i := (p : Int)) h.1 h.2 (by omega) (by omega)
      have c := (clB_k (i := p) h.1 h.2 (by omega)).2.2.2
      rw [if_neg (by rw [k.2.1]; exact Bool.false_ne_true)] at c
      have ih := scS_bd (Q := Q) (so := so) hf m (p + 1) (bitO t (p : Int)) (by omega) b
      refine ⟨ih.1, by omega, fun e => ih.2.2 ?_⟩
      rw [tb_bo h.1 h.2 (by omega) hf, e, Bool.or_true]
    · exact scS_bd hf m (p + 1) t (by omega) h
theorem scS_lt {Q : Int → Nat → Bool} {so : Int} : ∀ (m p : Nat) (t : Int), p + m ≤ 6 → (0 ≤ t ∧ t ≤ 63) → scS Q so m p t = t ∨ bcS t 6 < bcS (scS Q so m p t) 6
  | 0, p, t, _, h => Or.inl rfl
  | m + 1, p, t, hm, h => by
    unfold scS
    split
    · rename_i k
      have b := bitO_bd (i := (p : Int)) h.1 h.2 (by omega) (by omega)
      have c := (clB_k (i := p) h.1 h.2 (by omega)).2.2.2
      rw [if_neg (by rw [k.2.1]; exact Bool.false_ne_true)] at c
      have ih := (scS_bd (Q := Q) (so := so) (f := 0) (by omega) m (p + 1) (bitO t (p : Int)) (by omega) b).2.1
      exact Or.inr (by omega)
    · exact scS_lt m (p + 1) t (by omega) h
def scN (Q : Int → Nat → Bool) (so : Int) (n : Nat) : Nat → Int → Int
  | 0, t => t
  | k + 1, t => scN Q so n k (scS Q so n 0 t)
theorem scN_bd {Q : Int → Nat → Bool} {so : Int} {n f : Nat} (hn : n ≤ 6) (hf : f < 6) : ∀ (k : Nat) (t : Int), (0 ≤ t ∧ t ≤ 63) → (0 ≤ scN Q so n k t ∧ scN Q so n k t ≤ 63) ∧ (tb t (f : Int) = true → tb (scN Q so n k t) (f : Int) = true)
  | 0, t, h => ⟨h, id⟩
  | k + 1, t, h => by
    have b := scS_bd (Q := Q) (so := so) hf n 0 t (by omega) h
    have ih := scN_bd (Q := Q) (so := so) hn hf k (scS Q so n 0 t) b.1
    exact ⟨ih.1, fun e => ih.2 (b.2.2 e)⟩
theorem scN_fx {Q : Int → Nat → Bool} {so : Int} {n : Nat} {t : Int} (h : scS Q so n 0 t = t) : ∀ k : Nat, scN Q so n k t = t
  | 0 => rfl
  | k + 1 => by
    show scN Q so n k (scS Q so n 0 t) = t
    rw [h]
    exact scN_fx h k
/-- those below n that know p's name whole together with the asker -/
def brQ (G : Nat → Int) (t : Int) (p : Nat) : Bool := togP G (G 2).toNat p t
def brV (G : Nat → Int) (so : Int) (f : Nat) : Int := scN (brQ G) so (G 3).toNat 6 (bitO 0 (f : Int))
theorem bit0_all : (List.range 6).all (fun f => decide ((0 ≤ bitO 0 (f : Nat) ∧ bitO 0 (f : Nat) ≤ 63) ∧ bcS (bitO 0 (f : Nat)) 6 = 1 ∧ clB (bitO 0 (f : Nat)) (f : Nat) = 0 ∧ tb (bitO 0 (f : Nat)) (f : Nat) = true ∧ ibF 8 (Int32.ofInt 1) (Int32.ofInt (f : Nat)) = Int32.ofInt (bitO 0 (f : Nat)))) = true := by decide +kernel
theorem bit0 {f : Nat} (hf : f < 6) : (0 ≤ bitO 0 (f : Int) ∧ bitO 0 (f : Int) ≤ 63) ∧ bcS (bitO 0 (f : Int)) 6 = 1 ∧ clB (bitO 0 (f : Int)) (f : Int) = 0 ∧ tb (bitO 0 (f : Int)) (f : Int) = true ∧ ibF 8 (Int32.ofInt 1) (Int32.ofInt (f : Int)) = Int32.ofInt (bitO 0 (f : Int)) :=
  of_decide_eq_true (List.all_eq_true.mp bit0_all f (List.mem_range.mpr hf))
theorem brV_bd {G : Nat → Int} {so : Int} {f : Nat} (hB : HB G) (hf : f < 6) : (0 ≤ brV G so f ∧ brV G so f ≤ 63) ∧ tb (brV G so f) (f : Int) = true := by
  have b3 := hB.b3
  have h0 := bit0 hf
  have h := scN_bd (Q := brQ G) (so := so) (n := (G 3).toNat) (by omega) hf 6 _ h0.1
  exact ⟨h.1, h.2 h0.2.2.2.1⟩
/-- the class's world but for its own scratch rows -/
def XSC (w0 w : va_W) : Prop := ∀ c j, ¬ (c = 31 ∨ c = 37 ∨ c = 38 ∨ c = 48 ∨ c = 49 ∨ c = 51 ∨ c = 52) → rd w c j = rd w0 c j
theorem pairT_sc {kx km d1 d2 : Nat} {xs ms : List Value} {v : Int32} (hR : RELW ws) (h1 : d1 < 11) (h2 : d2 < 11) (c1 : CT l D tys A kx d1 0 0 xs ws (fun r w => (GOK ad tys GG w ∧ XSC ws w) ∧ r = some (.int v))) (c2 : ∀ w : va_W, GOK ad tys GG w → XSC ws w → CT l D tys A km d2 0 0 ms w (fun r w2 => (GOK ad tys GG w2 ∧ MTO w w2) ∧ r = some (.int v))) : PAIRT l D tys A ad kx km xs ms ws := by
  refine ⟨v, fun w => XSC ws w, ⟨d1, h1, CT_post c1 (fun r w h => ⟨h.2, h.1.1, h.1.2⟩)⟩, fun w hw K => ⟨d2, h2, CT_post (c2 w hw K) (fun r w2 h => ?_)⟩⟩
  obtain ⟨⟨g, o⟩, e⟩ := h
  have oo : ∀ c j, ¬ (c = 31 ∨ c = 37 ∨ c = 38 ∨ c = 48 ∨ c = 49 ∨ c = 51 ∨ c = 52) → ¬ (98 ≤ c ∧ c ≤ 101) → ¬ (c = 90 ∧ (j = 18 ∨ j = 21)) → rd w2 c j = rd ws c j := fun c j h3 h4 h5 => (o c j h4 h5).trans (K c j h3)
  exact ⟨e, g, relh_keep hR.1 (fun c hc j => oo c j (by omega) (by omega) (by omega)) (fun j hj => oo 90 j (by omega) (by omega) (fun q => by
      obtain ⟨-, q⟩ := q
      rcases q with rfl | rfl
      · exact absurd hj (by unfold spK; decide)
      · exact absurd hj (by unfold spK; decide))), aux_keep hR.2 (fun c j hc => oo c j (by omega) (by omega) (by omega))⟩
theorem XSC_X {G : Nat → Int} {w0 w : va_W} (o : XSC w0 w) (h : HX 4 G w0) : HX 4 G w := HX_keep h (fun c i h1 h2 => o c i (by omega))
theorem XSC_S {G : Nat → Int} {w0 w : va_W} (o : XSC w0 w) (h : STO G w0) : STO G w := STO_keep h (fun c j hc => o c j (by omega))
theorem XSC_W {G : Nat → Int} {w0 w : va_W} (o : XSC w0 w) (h : W91 G w0) : W91 G w := fun j hj => (o 91 j (by omega)).trans (h j hj)
/-- what is gathered, by those that are in -/
def GTH (G : Nat → Int) (t : Int) (w : va_W) : Prop := ∀ p, p < (G 3).toNat → rd w 37 p = some (.int (Int32.ofInt (gaS (tellT G (G 2).toNat).K t p (G 3).toNat)))
theorem gth_3 {G : Nat → Int} {w0 : va_W} (hX0 : HX 4 G w0) (hS0 : STO G w0) (hB : HB G) {q : Nat} {t : Int} (hq : (q : Int) < G 3) (t0 : 0 ≤ t) (t1 : t ≤ 63) (hn : tb t (q : Int) = false) {post : Option Value → va_W → Prop} : ∀ (m o : Nat) (ws : va_W), ((o + m : Nat) : Int) = G 3 → GOK ad tys GG ws → XSC w0 ws → (∀ p, p < o → p < (G 3).toNat → rd ws 37 p = some (.int (Int32.ofInt (gaS (tellT G (G 2).toNat).K (bitO t (q : Int)) p (G 3).toNat)))) → (∀ p, o ≤ p → p < (G 3).toNat → rd ws 37 p = some (.int (Int32.ofInt (gaS (tellT G (G 2).toNat).K t p (G 3).toNat)))) → (∀ w : va_W, GOK ad tys GG w → XSC w0 w → GTH G (bitO t (q : Int)) w → post none w) → V l D tys A 79 2 0 0 post 0 0 3 [(0, .ref (ad 36)), (1, .ref (ad 4)), (2, .ref (ad 32)), (3, .int (Int32.ofInt ((q : Int)))), (4, .int (Int32.ofInt ((o : Int))))] [] ws
  | 0, o, ws, hm, hG, hO, hlt, hge, kk => by
    have hX : HX 4 G ws := XSC_X hO hX0
    have b3 := hB.b3
    have b2 := hB.b2
    refine V_iload (v := Int32.ofInt ((o : Int))) mi_79_3 (by simp [stL, lv_args, Value.category]) ?_
    refine V_aload (v := ad 4) mi_79_5 (by simp [stL, lv_args, Value.category]) ?_
    refine V_gO mi_79_6 g4o hG (show rd _ 4 4 = some (.int (Int32.ofInt (G 3))) from hx0 hX (i := 4) (by omega)) ?_
    refine V_cge mi_79_9 ⟨by omega, by omega⟩ ⟨by omega, by omega⟩ (fun z1 => ?_) (fun z1 => ?_)
    · exact V_retV mi_79_48 (kk ws hG hO (fun p hp => hlt p (by omega) hp))
    · exact absurd z1 (by omega)
  | m + 1, o, ws, hm, hG, hO, hlt, hge, kk => by
    have hX : HX 4 G ws := XSC_X hO hX0
    have b3 := hB.b3
    have b2 := hB.b2
    refine V_iload (v := Int32.ofInt ((o : Int))) mi_79_3 (by simp [stL, lv_args, Value.category]) ?_
    refine V_aload (v := ad 4) mi_79_5 (by simp [stL, lv_args, Value.category]) ?_
    refine V_gO mi_79_6 g4o hG (show rd _ 4 4 = some (.int (Int32.ofInt (G 3))) from hx0 hX (i := 4) (by omega)) ?_
    refine V_cge mi_79_9 ⟨by omega, by omega⟩ ⟨by omega, by omega⟩ (fun z1 => ?_) (fun z1 => ?_)
    · exact absurd z1 (by omega)
    · refine V_aload (v := ad 36) mi_79_12 (by simp [stL, lv_args, Value.category]) ?_
      refine V_gR mi_79_13 g36r0 (by omega) hG ?_
      refine V_iload (v := Int32.ofInt ((o : Int))) mi_79_16 (by simp [stL, lv_args, Value.category]) ?_
      refine V_aload (v := ad 36) mi_79_18 (by simp [stL, lv_args, Value.category]) ?_
      refine V_gR mi_79_19 g36r0 (by omega) hG ?_
      refine V_iload (v := Int32.ofInt ((o : Int))) mi_79_22 (by simp [stL, lv_args, Value.category]) ?_
      refine V_stat (As := [.ref (ad 37), .int (Int32.ofInt ((o : Int)))]) (st := [.int (Int32.ofInt ((o : Int))), .ref (ad 37)]) mi_79_24 (by omega) (atk_ct (j := o) a37 hG (by omega) (by omega) (hge o (by omega) (by omega))) (by omega) (show 2 = mN 147 by decide +kernel) (by simp [Value.category]) ⟨Nat.le_refl _, Nat.le_refl _⟩ ?_
      rintro r w1 ⟨e1, rfl⟩
      rw [e1]
      refine V_aload (v := ad 32) mi_79_27 (by simp [stL, lv_args, Value.category]) ?_
      refine V_iload (v := Int32.ofInt ((q : Int))) mi_79_28 (by simp [stL, lv_args, Value.category]) ?_
      refine V_iload (v := Int32.ofInt ((o : Int))) mi_79_29 (by simp [stL, lv_args, Value.category]) ?_
      refine V_aload (v := ad 4) mi_79_31 (by simp [stL, lv_args, Value.category]) ?_
      refine V_gO mi_79_32 g4o hG (show rd _ 4 3 = some (.int (Int32.ofInt (G 2))) from hx0 hX (i := 3) (by omega)) ?_
      rw [show G 2 = (((G 2).toNat : Nat) : Int) by omega]
      refine V_cO (As := [.int (Int32.ofInt ((q : Int))), .int (Int32.ofInt ((o : Int))), .int (Int32.ofInt (((G 2).toNat : Int)))]) (st := [.int (Int32.ofInt (gaS (tellT G (G 2).toNat).K t o (G 3).toNat)), .int (Int32.ofInt ((o : Int))), .ref (ad 37)]) mi_79_35 (by omega) (by decide +kernel) (by decide +kernel) (by omega) g32o hG (stb_ct (f := q) (o := o) (g := (G 2).toNat) hG (by omega) (by omega) (by omega) ((hO 33 _ (by omega)).trans (sto_k hB hS0 (by omega) (by omega) (by omega)))) (by omega) (show 3 = mN 176 by decide +kernel) (by simp [Value.category]) ?_
      rintro r w2 ⟨e2, rfl⟩
      rw [e2]
      refine V_ibin mi_79_38 (by omega) ?_
      rw [orr_i]
      refine V_stat (As := [.ref (ad 37), .int (Int32.ofInt ((o : Int))), .int (Int32.ofInt (orr (gaS (tellT G (G 2).toNat).K t o (G 3).toNat) ((tellT G (G 2).toNat).K (6 * q + o))))]) (st := []) mi_79_39 (by omega) (putk_ct (j := o) a37 hG (by omega) (by omega)) (by omega) (show 3 = mN 148 by decide +kernel) (by simp [Value.category]) ⟨Nat.le_refl _, Nat.le_refl _⟩ ?_
      rintro r w3 ⟨rfl, G3, U3⟩
      refine V_iinc (v := Int32.ofInt ((o : Int))) mi_79_42 (by simp [stL, lv_args, Value.category]) ?_
      rw [ia2]
      refine V_goto mi_79_45 ?_
      refine V_sub (lv' := [(0, .ref (ad 36)), (1, .ref (ad 4)), (2, .ref (ad 32)), (3, .int (Int32.ofInt ((q : Int)))), (4, .int (Int32.ofInt (((o + 1 : Nat) : Int))))]) (fun q hq => ?_) ?_
      · simp only [List.mem_cons, List.not_mem_nil, or_false] at hq
        rcases hq with rfl | rfl | rfl | rfl | rfl <;> simp [stL, lv_args, Value.category]
      exact gth_3 hX0 hS0 hB hq t0 t1 hn m (o + 1) w3 (by omega) G3 (fun c j hc => (upd_ne U3 (by omega)).trans (hO c j hc)) (fun p h1 h2 => by
        by_cases e : p = o
        · rw [e, gaS_add t0 t1 (by omega) hn _ (by omega), if_pos (by omega)]
          exact upd_eq U3
        · exact (upd_ne U3 (by omega)).trans (hlt p (by omega) (by omega))) (fun p h1 h2 => (upd_ne U3 (by omega)).trans (hge p (by omega) h2)) kk
theorem gath_ct {G : Nat → Int} {w0 : va_W} (hX0 : HX 4 G w0) (hS0 : STO G w0) (hB : HB G) {q : Nat} {t : Int} (hq : (q : Int) < G 3) (t0 : 0 ≤ t) (t1 : t ≤ 63) (hn : tb t (q : Int) = false) (hG : GOK ad tys GG ws) (hO : XSC w0 ws) (hT : GTH G t ws) : CT l D tys A 79 2 0 0 [.ref (ad 36), .ref (ad 4), .ref (ad 32), .int (Int32.ofInt ((q : Int)))] ws (fun r w => r = none ∧ GOK ad tys GG w ∧ XSC w0 w ∧ GTH G (bitO t (q : Int)) w) := by
  refine CT_of_V (by omega) (show (4 : Nat) ≤ mML 79 by decide +kernel) ?_
  refine V_ipush mi_79_0 ?_
  refine V_istore mi_79_1 ?_
  refine V_sub (lv' := [(0, .ref (ad 36)), (1, .ref (ad 4)), (2, .ref (ad 32)), (3, .int (Int32.ofInt ((q : Int)))), (4, .int (Int32.ofInt (((0 : Nat) : Int))))]) (fun q hq => ?_) ?_
  · simp only [List.mem_cons, List.not_mem_nil, or_false] at hq
    rcases hq with rfl | rfl | rfl | rfl | rfl <;> simp [stL, lv_args, Value.category]
  exact gth_3 hX0 hS0 hB hq t0 t1 hn (G 3).toNat 0 ws (by have := hB.b3; omega) hG hO (fun p h1 _ => absurd h1 (by omega)) (fun p _ hp => hT p hp) (fun w a b c => ⟨rfl, a, b, c⟩)
theorem bri_54 {G : Nat → Int} {w0 : va_W} (hX0 : HX 4 G w0) (hS0 : STO G w0) (hB : HB G) {f u : Nat} {so : Int} (hf : f < 6) (s0 : 0 ≤ so) (s1 : so ≤ 63) {post : Option Value → va_W → Prop} : ∀ (m p : Nat) (t : Int) (ws : va_W), ((p + m : Nat) : Int) = G 3 → 0 ≤ t → t ≤ 63 → tb t (f : Int) = true → GOK ad tys GG ws → XSC w0 ws → GTH G t ws → (∀ w : va_W, GOK ad tys GG w → XSC w0 w → GTH G (scS (brQ G) so m p t) w → V l D tys A 78 3 0 0 post 0 0 44 [(0, .ref (ad 36)), (1, .ref (ad 4)), (2, .ref (ad 32)), (3, .int (Int32.ofInt ((f : Int)))), (4, .int (Int32.ofInt (so))), (5, .int (Int32.ofInt (clB (scS (brQ G) so m p t) (f : Int)))), (6, .int (Int32.ofInt (((u + 1 : Nat) : Int))))] [] w) → V l D tys A 78 3 0 0 post 0 0 54 [(0, .ref (ad 36)), (1, .ref (ad 4)), (2, .ref (ad 32)), (3, .int (Int32.ofInt ((f : Int)))), (4, .int (Int32.ofInt (so))), (5, .int (Int32.ofInt (clB (t) (f : Int)))), (6, .int (Int32.ofInt ((u : Int)))), (7, .int (Int32.ofInt ((p : Int))))] [] ws
  | 0, p, t, ws, hm, t0, t1, hb, hG, hO, hT, kk => by
    have hX : HX 4 G ws := XSC_X hO hX0
    have b3 := hB.b3
    have b2 := hB.b2
    refine V_iload (v := Int32.ofInt ((p : Int))) mi_78_54 (by simp [stL, lv_args, Value.category]) ?_
    refine V_aload (v := ad 4) mi_78_56 (by simp [stL, lv_args, Value.category]) ?_
    refine V_gO mi_78_57 g4o hG (show rd _ 4 4 = some (.int (Int32.ofInt (G 3))) from hx0 hX (i := 4) (by omega)) ?_
    refine V_cge mi_78_60 ⟨by omega, by omega⟩ ⟨by omega, by omega⟩ (fun q => ?_) (fun q => ?_)
    · refine V_iinc (v := Int32.ofInt ((u : Int))) mi_78_137 (by simp [stL, lv_args, Value.category]) ?_
      rw [ia2]
      rw [show (u : Int) + (1) = ((u + 1 : Nat) : Int) by omega]
      refine V_goto mi_78_140 ?_
      refine V_sub (lv' := [(0, .ref (ad 36)), (1, .ref (ad 4)), (2, .ref (ad 32)), (3, .int (Int32.ofInt ((f : Int)))), (4, .int (Int32.ofInt (so))), (5, .int (Int32.ofInt (clB (t) (f : Int)))), (6, .int (Int32.ofInt (((u + 1 : Nat) : Int))))]) (fun q hq => ?_) ?_
      · simp only [List.mem_cons, List.not_mem_nil, or_false] at hq
        rcases hq with rfl | rfl | rfl | rfl | rfl | rfl | rfl | rfl <;> simp [stL, lv_args, Value.category]
      exact kk ws hG hO hT
    · exact absurd q (by omega)
  | m + 1, p, t, ws, hm, t0, t1, hb, hG, hO, hT, kk => by
    have hX : HX 4 G ws := XSC_X hO hX0
    have b3 := hB.b3
    have b2 := hB.b2
    refine V_iload (v := Int32.ofInt ((p : Int))) mi_78_54 (by simp [stL, lv_args, Value.category]) ?_
    refine V_aload (v := ad 4) mi_78_56 (by simp [stL, lv_args, Value.category]) ?_
    refine V_gO mi_78_57 g4o hG (show rd _ 4 4 = some (.int (Int32.ofInt (G 3))) from hx0 hX (i := 4) (by omega)) ?_
    refine V_cge mi_78_60 ⟨by omega, by omega⟩ ⟨by omega, by omega⟩ (fun q => ?_) (fun q => ?_)
    · exact absurd q (by omega)
    · have ck := clB_k (i := f) t0 t1 hf
      refine V_iload (v := Int32.ofInt ((p : Int))) mi_78_63 (by simp [stL, lv_args, Value.category]) ?_
      refine V_iload (v := Int32.ofInt ((f : Int))) mi_78_65 (by simp [stL, lv_args, Value.category]) ?_
      refine V_ceq mi_78_66 ⟨by omega, by omega⟩ ⟨by omega, by omega⟩ (fun q2 => ?_) (fun q2 => ?_)
      · refine V_ipush mi_78_88 ?_
        refine V_istore mi_78_89 ?_
        refine V_iload (v := Int32.ofInt (0)) mi_78_91 (by simp [stL, lv_args, Value.category]) ?_
        have ef : p = f := by omega
        refine V_zeq mi_78_93 ⟨by omega, by omega⟩ (fun q3 => ?_) (fun q3 => ?_)
        · refine V_iinc (v := Int32.ofInt ((p : Int))) mi_78_131 (by simp [stL, lv_args, Value.category]) ?_
          rw [ia2]
          refine V_goto mi_78_134 ?_
          refine V_sub (lv' := [(0, .ref (ad 36)), (1, .ref (ad 4)), (2, .ref (ad 32)), (3, .int (Int32.ofInt ((f : Int)))), (4, .int (Int32.ofInt (so))), (5, .int (Int32.ofInt (clB (t) (f : Int)))), (6, .int (Int32.ofInt ((u : Int)))), (7, .int (Int32.ofInt (((p + 1 : Nat) : Int))))]) (fun q hq => ?_) ?_
          · simp only [List.mem_cons, List.not_mem_nil, or_false] at hq
            rcases hq with rfl | rfl | rfl | rfl | rfl | rfl | rfl | rfl <;> simp [stL, lv_args, Value.category]
          rw [scS_n (fun k => by rw [ef, hb] at k; exact absurd k.2.1 (by decide))] at kk
          exact bri_54 hX0 hS0 hB hf s0 s1 m (p + 1) t ws (by omega) t0 t1 hb hG hO hT kk
        · exact absurd rfl q3
      · have nf : p ≠ f := by omega
        have cc := clC_k (i := f) (j := p) t0 t1 hf (by omega) nf
        have op := opn (so := so) (bd := clB t (f : Int)) (p := p) s0 s1 ck.1.1 ck.1.2 (by omega)
        rw [cc.1] at op
        refine V_iload (v := Int32.ofInt (so)) mi_78_69 (by simp [stL, lv_args, Value.category]) ?_
        refine V_iload (v := Int32.ofInt (clB (t) (f : Int))) mi_78_71 (by simp [stL, lv_args, Value.category]) ?_
        refine V_ipush mi_78_73 ?_
        refine V_ibin mi_78_74 (by omega) ?_
        refine V_ibin mi_78_75 (by omega) ?_
        refine V_ipush mi_78_76 ?_
        refine V_iload (v := Int32.ofInt ((p : Int))) mi_78_77 (by simp [stL, lv_args, Value.category]) ?_
        refine V_ibin mi_78_79 (by omega) ?_
        refine V_ibin mi_78_80 (by omega) ?_
        refine V_if mi_78_81 (fun q4 => ?_) (fun q4 => ?_)
        · refine V_ipush mi_78_88 ?_
          refine V_istore mi_78_89 ?_
          refine V_iload (v := Int32.ofInt (0)) mi_78_91 (by simp [stL, lv_args, Value.category]) ?_
          refine V_zeq mi_78_93 ⟨by omega, by omega⟩ (fun q3 => ?_) (fun q3 => ?_)
          · refine V_iinc (v := Int32.ofInt ((p : Int))) mi_78_131 (by simp [stL, lv_args, Value.category]) ?_
            rw [ia2]
            refine V_goto mi_78_134 ?_
            refine V_sub (lv' := [(0, .ref (ad 36)), (1, .ref (ad 4)), (2, .ref (ad 32)), (3, .int (Int32.ofInt ((f : Int)))), (4, .int (Int32.ofInt (so))), (5, .int (Int32.ofInt (clB (t) (f : Int)))), (6, .int (Int32.ofInt ((u : Int)))), (7, .int (Int32.ofInt (((p + 1 : Nat) : Int))))]) (fun q hq => ?_) ?_
            · simp only [List.mem_cons, List.not_mem_nil, or_false] at hq
              rcases hq with rfl | rfl | rfl | rfl | rfl | rfl | rfl | rfl <;> simp [stL, lv_args, Value.category]
            rw [scS_n (fun k => (op.mp q4) ⟨k.1, k.2.1⟩)] at kk
            exact bri_54 hX0 hS0 hB hf s0 s1 m (p + 1) t ws (by omega) t0 t1 hb hG hO hT kk
          · exact absurd rfl q3
        · have hop : tb so (p : Int) = true ∧ tb t (p : Int) = false := Decidable.of_not_not (fun h => q4 (op.mpr h))
          refine V_ipush mi_78_84 ?_
          refine V_goto mi_78_85 ?_
          refine V_istore mi_78_89 ?_
          refine V_iload (v := Int32.ofInt (1)) mi_78_91 (by simp [stL, lv_args, Value.category]) ?_
          refine V_zeq mi_78_93 ⟨by omega, by omega⟩ (fun q3 => ?_) (fun q3 => ?_)
          · exact absurd q3 (by omega)
          · refine V_aload (v := ad 36) mi_78_96 (by simp [stL, lv_args, Value.category]) ?_
            refine V_gR mi_78_97 g36r0 (by omega) hG ?_
            refine V_iload (v := Int32.ofInt ((p : Int))) mi_78_100 (by simp [stL, lv_args, Value.category]) ?_
            refine V_stat (As := [.ref (ad 37), .int (Int32.ofInt ((p : Int)))]) (st := []) mi_78_102 (by omega) (atk_ct (j := p) a37 hG (by omega) (by omega) (hT p (by omega))) (by omega) (show 2 = mN 147 by decide +kernel) (by simp [Value.category]) ⟨Nat.le_refl _, Nat.le_refl _⟩ ?_
            rintro r w1 ⟨e1, rfl⟩
            rw [e1]
            refine V_aload (v := ad 4) mi_78_105 (by simp [stL, lv_args, Value.category]) ?_
            refine V_iload (v := Int32.ofInt ((p : Int))) mi_78_106 (by simp [stL, lv_args, Value.category]) ?_
            refine V_cO (As := [.int (Int32.ofInt ((p : Int)))]) (st := [.int (Int32.ofInt (gaS (tellT G (G 2).toNat).K t p (G 3).toNat))]) mi_78_108 (by omega) (by decide +kernel) (by decide +kernel) (by omega) g4o hG (alf_ct (f := p) hG hX hB (by omega)) (by omega) (show 1 = mN 108 by decide +kernel) (by simp [Value.category]) ?_
            rintro r w2 ⟨e2, rfl⟩
            rw [e2]
            have ia := gaI (K := (tellT G (G 2).toNat).K) (t := t) (f := p) (G 3).toNat
            have ib : I32 (allV (G (6 + 7 * p))) := i32b _
            refine V_cne mi_78_111 ia ib (fun q5 => ?_) (fun q5 => ?_)
            · refine V_iinc (v := Int32.ofInt ((p : Int))) mi_78_131 (by simp [stL, lv_args, Value.category]) ?_
              rw [ia2]
              refine V_goto mi_78_134 ?_
              refine V_sub (lv' := [(0, .ref (ad 36)), (1, .ref (ad 4)), (2, .ref (ad 32)), (3, .int (Int32.ofInt ((f : Int)))), (4, .int (Int32.ofInt (so))), (5, .int (Int32.ofInt (clB (t) (f : Int)))), (6, .int (Int32.ofInt ((u : Int)))), (7, .int (Int32.ofInt (((p + 1 : Nat) : Int))))]) (fun q hq => ?_) ?_
              · simp only [List.mem_cons, List.not_mem_nil, or_false] at hq
                rcases hq with rfl | rfl | rfl | rfl | rfl | rfl | rfl | rfl <;> simp [stL, lv_args, Value.category]
              rw [scS_n (fun k => q5 (of_decide_eq_true k.2.2))] at kk
              exact bri_54 hX0 hS0 hB hf s0 s1 m (p + 1) t ws (by omega) t0 t1 hb hG hO hT kk
            · refine V_iload (v := Int32.ofInt (clB (t) (f : Int))) mi_78_114 (by simp [stL, lv_args, Value.category]) ?_
              refine V_ipush mi_78_116 ?_
              refine V_iload (v := Int32.ofInt ((p : Int))) mi_78_117 (by simp [stL, lv_args, Value.category]) ?_
              refine V_ibin mi_78_119 (by omega) ?_
              refine V_ibin mi_78_120 (by omega) ?_
              rw [bitO_i, ← cc.2]
              refine V_istore mi_78_121 ?_
              refine V_aload (v := ad 36) mi_78_123 (by simp [stL, lv_args, Value.category]) ?_
              refine V_aload (v := ad 4) mi_78_124 (by simp [stL, lv_args, Value.category]) ?_
              refine V_aload (v := ad 32) mi_78_125 (by simp [stL, lv_args, Value.category]) ?_
              refine V_iload (v := Int32.ofInt ((p : Int))) mi_78_126 (by simp [stL, lv_args, Value.category]) ?_
              refine V_cO (As := [.ref (ad 4), .ref (ad 32), .int (Int32.ofInt ((p : Int)))]) (st := []) mi_78_128 (by omega) (by decide +kernel) (by decide +kernel) (by omega) g36o hG (gath_ct (q := p) (t := t) hX0 hS0 hB (by omega) t0 t1 hop.2 hG hO hT) (by omega) (show 3 = mN 79 by decide +kernel) (by simp [Value.category]) ?_
              rintro r w3 ⟨rfl, G3, O3, T3⟩
              have bb := bitO_bd (i := (p : Int)) t0 t1 (by omega) (by omega)
              have b2f : tb (bitO t (p : Int)) (f : Int) = true := by rw [tb_bo t0 t1 (by omega) hf, hb, Bool.or_true]
              refine V_iinc (v := Int32.ofInt ((p : Int))) mi_78_131 (by simp [stL, lv_args, Value.category]) ?_
              rw [ia2]
              refine V_goto mi_78_134 ?_
              refine V_sub (lv' := [(0, .ref (ad 36)), (1, .ref (ad 4)), (2, .ref (ad 32)), (3, .int (Int32.ofInt ((f : Int)))), (4, .int (Int32.ofInt (so))), (5, .int (Int32.ofInt (clB (bitO t (p : Int)) (f : Int)))), (6, .int (Int32.ofInt ((u : Int)))), (7, .int (Int32.ofInt (((p + 1 : Nat) : Int))))]) (fun q hq => ?_) ?_
              · simp only [List.mem_cons, List.not_mem_nil, or_false] at hq
                rcases hq with rfl | rfl | rfl | rfl | rfl | rfl | rfl | rfl <;> simp [stL, lv_args, Value.category]
              rw [scS_y ⟨hop.1, hop.2, decide_eq_true q5⟩] at kk
              exact bri_54 hX0 hS0 hB hf s0 s1 m (p + 1) _ w3 (by omega) bb.1 bb.2 b2f G3 O3 T3 kk
theorem brr_44 {G : Nat → Int} {w0 : va_W} (hX0 : HX 4 G w0) (hS0 : STO G w0) (hB : HB G) {f : Nat} {so : Int} (hf : f < 6) (s0 : 0 ≤ so) (s1 : so ≤ 63) {post : Option Value → va_W → Prop} : ∀ (k u : Nat) (t : Int) (ws : va_W), u + k = 6 → 0 ≤ t → t ≤ 63 → tb t (f : Int) = true → GOK ad tys GG ws → XSC w0 ws → GTH G t ws → (∀ w : va_W, GOK ad tys GG w → XSC w0 w → post (some (.int (Int32.ofInt (clB (scN (brQ G) so (G 3).toNat k t) (f : Int))))) w) → V l D tys A 78 3 0 0 post 0 0 44 [(0, .ref (ad 36)), (1, .ref (ad 4)), (2, .ref (ad 32)), (3, .int (Int32.ofInt ((f : Int)))), (4, .int (Int32.ofInt (so))), (5, .int (Int32.ofInt (clB (t) (f : Int)))), (6, .int (Int32.ofInt ((u : Int))))] [] ws
  | 0, u, t, ws, hm, t0, t1, hb, hG, hO, hT, kk => by
    refine V_iload (v := Int32.ofInt ((u : Int))) mi_78_44 (by simp [stL, lv_args, Value.category]) ?_
    refine V_ipush mi_78_46 ?_
    refine V_cge mi_78_48 ⟨by omega, by omega⟩ ⟨by omega, by omega⟩ (fun q => ?_) (fun q => ?_)
    · refine V_iload (v := Int32.ofInt (clB (t) (f : Int))) mi_78_143 (by simp [stL, lv_args, Value.category]) ?_
      exact V_retI mi_78_145 (fun h => absurd h (by decide +kernel)) (kk ws hG hO)
    · exact absurd q (by omega)
  | k + 1, u, t, ws, hm, t0, t1, hb, hG, hO, hT, kk => by
    have b3 := hB.b3
    refine V_iload (v := Int32.ofInt ((u : Int))) mi_78_44 (by simp [stL, lv_args, Value.category]) ?_
    refine V_ipush mi_78_46 ?_
    refine V_cge mi_78_48 ⟨by omega, by omega⟩ ⟨by omega, by omega⟩ (fun q => ?_) (fun q => ?_)
    · exact absurd q (by omega)
    · refine V_ipush mi_78_51 ?_
      refine V_istore mi_78_52 ?_
      refine V_sub (lv' := [(0, .ref (ad 36)), (1, .ref (ad 4)), (2, .ref (ad 32)), (3, .int (Int32.ofInt ((f : Int)))), (4, .int (Int32.ofInt (so))), (5, .int (Int32.ofInt (clB (t) (f : Int)))), (6, .int (Int32.ofInt ((u : Int)))), (7, .int (Int32.ofInt (((0 : Nat) : Int))))]) (fun q hq => ?_) ?_
      · simp only [List.mem_cons, List.not_mem_nil, or_false] at hq
        rcases hq with rfl | rfl | rfl | rfl | rfl | rfl | rfl | rfl <;> simp [stL, lv_args, Value.category]
      have sb := scS_bd (Q := brQ G) (so := so) hf (G 3).toNat 0 t (by omega) ⟨t0, t1⟩
      exact bri_54 hX0 hS0 hB hf s0 s1 (G 3).toNat 0 t ws (by omega) t0 t1 hb hG hO hT (fun w g o h => brr_44 hX0 hS0 hB hf s0 s1 k (u + 1) _ w (by omega) sb.1.1 sb.1.2 (sb.2.2 hb) g o h kk)
theorem br0_3 {G : Nat → Int} {w0 : va_W} (hX0 : HX 4 G w0) (hS0 : STO G w0) (hB : HB G) {f : Nat} {so : Int} (hf : (f : Int) < G 3) {post : Option Value → va_W → Prop} : ∀ (m o : Nat) (ws : va_W), ((o + m : Nat) : Int) = G 3 → GOK ad tys GG ws → XSC w0 ws → (∀ p, p < o → rd ws 37 p = some (.int (Int32.ofInt ((tellT G (G 2).toNat).K (6 * f + p))))) → (∀ w : va_W, GOK ad tys GG w → XSC w0 w → GTH G (bitO 0 (f : Int)) w → V l D tys A 78 3 0 0 post 0 0 44 [(0, .ref (ad 36)), (1, .ref (ad 4)), (2, .ref (ad 32)), (3, .int (Int32.ofInt ((f : Int)))), (4, .int (Int32.ofInt (so))), (5, .int (Int32.ofInt (0))), (6, .int (Int32.ofInt (0)))] [] w) → V l D tys A 78 3 0 0 post 0 0 3 [(0, .ref (ad 36)), (1, .ref (ad 4)), (2, .ref (ad 32)), (3, .int (Int32.ofInt ((f : Int)))), (4, .int (Int32.ofInt (so))), (5, .int (Int32.ofInt ((o : Int))))] [] ws
  | 0, o, ws, hm, hG, hO, hlt, kk => by
    have hX : HX 4 G ws := XSC_X hO hX0
    have b3 := hB.b3
    have b2 := hB.b2
    refine V_iload (v := Int32.ofInt ((o : Int))) mi_78_3 (by simp [stL, lv_args, Value.category]) ?_
    refine V_aload (v := ad 4) mi_78_5 (by simp [stL, lv_args, Value.category]) ?_
    refine V_gO mi_78_6 g4o hG (show rd _ 4 4 = some (.int (Int32.ofInt (G 3))) from hx0 hX (i := 4) (by omega)) ?_
    refine V_cge mi_78_9 ⟨by omega, by omega⟩ ⟨by omega, by omega⟩ (fun q => ?_) (fun q => ?_)
    · refine V_ipush mi_78_38 ?_
      refine V_istore mi_78_39 ?_
      refine V_ipush mi_78_41 ?_
      refine V_istore mi_78_42 ?_
      refine V_sub (lv' := [(0, .ref (ad 36)), (1, .ref (ad 4)), (2, .ref (ad 32)), (3, .int (Int32.ofInt ((f : Int)))), (4, .int (Int32.ofInt (so))), (5, .int (Int32.ofInt (0))), (6, .int (Int32.ofInt (0)))]) (fun q hq => ?_) ?_
      · simp only [List.mem_cons, List.not_mem_nil, or_false] at hq
        rcases hq with rfl | rfl | rfl | rfl | rfl | rfl | rfl <;> simp [stL, lv_args, Value.category]
      refine kk ws hG hO (fun p hp => ?_)
      rw [gaS_add (Int.le_refl 0) (by omega) (by omega) (tb_0 (by omega)) _ (by omega), if_pos (by omega), gaS_z _ (by omega), orr_0 (tell_ok hB _ _ (by omega))]
      exact hlt p (by omega)
    · exact absurd q (by omega)
  | m + 1, o, ws, hm, hG, hO, hlt, kk => by
    have hX : HX 4 G ws := XSC_X hO hX0
    have b3 := hB.b3
    have b2 := hB.b2
    refine V_iload (v := Int32.ofInt ((o : Int))) mi_78_3 (by simp [stL, lv_args, Value.category]) ?_
    refine V_aload (v := ad 4) mi_78_5 (by simp [stL, lv_args, Value.category]) ?_
    refine V_gO mi_78_6 g4o hG (show rd _ 4 4 = some (.int (Int32.ofInt (G 3))) from hx0 hX (i := 4) (by omega)) ?_
    refine V_cge mi_78_9 ⟨by omega, by omega⟩ ⟨by omega, by omega⟩ (fun q => ?_) (fun q => ?_)
    · exact absurd q (by omega)
    · refine V_aload (v := ad 36) mi_78_12 (by simp [stL, lv_args, Value.category]) ?_
      refine V_gR mi_78_13 g36r0 (by omega) hG ?_
      refine V_iload (v := Int32.ofInt ((o : Int))) mi_78_16 (by simp [stL, lv_args, Value.category]) ?_
      refine V_aload (v := ad 32) mi_78_18 (by simp [stL, lv_args, Value.category]) ?_
      refine V_iload (v := Int32.ofInt ((f : Int))) mi_78_19 (by simp [stL, lv_args, Value.category]) ?_
      refine V_iload (v := Int32.ofInt ((o : Int))) mi_78_20 (by simp [stL, lv_args, Value.category]) ?_
      refine V_aload (v := ad 4) mi_78_22 (by simp [stL, lv_args, Value.category]) ?_
      refine V_gO mi_78_23 g4o hG (show rd _ 4 3 = some (.int (Int32.ofInt (G 2))) from hx0 hX (i := 3) (by omega)) ?_
      rw [show G 2 = (((G 2).toNat : Nat) : Int) by omega]
      refine V_cO (As := [.int (Int32.ofInt ((f : Int))), .int (Int32.ofInt ((o : Int))), .int (Int32.ofInt (((G 2).toNat : Int)))]) (st := [.int (Int32.ofInt ((o : Int))), .ref (ad 37)]) mi_78_26 (by omega) (by decide +kernel) (by decide +kernel) (by omega) g32o hG (stb_ct (f := f) (o := o) (g := (G 2).toNat) hG (by omega) (by omega) (by omega) ((hO 33 _ (by omega)).trans (sto_k hB hS0 (by omega) (by omega) (by omega)))) (by omega) (show 3 = mN 176 by decide +kernel) (by simp [Value.category]) ?_
      rintro r w2 ⟨e2, rfl⟩
      rw [e2]
      refine V_stat (As := [.ref (ad 37), .int (Int32.ofInt ((o : Int))), .int (Int32.ofInt ((tellT G (G 2).toNat).K (6 * f + o)))]) (st := []) mi_78_29 (by omega) (putk_ct (j := o) a37 hG (by omega) (by omega)) (by omega) (show 3 = mN 148 by decide +kernel) (by simp [Value.category]) ⟨Nat.le_refl _, Nat.le_refl _⟩ ?_
      rintro r w3 ⟨rfl, G3, U3⟩
      refine V_iinc (v := Int32.ofInt ((o : Int))) mi_78_32 (by simp [stL, lv_args, Value.category]) ?_
      rw [ia2]
      refine V_goto mi_78_35 ?_
      refine V_sub (lv' := [(0, .ref (ad 36)), (1, .ref (ad 4)), (2, .ref (ad 32)), (3, .int (Int32.ofInt ((f : Int)))), (4, .int (Int32.ofInt (so))), (5, .int (Int32.ofInt (((o + 1 : Nat) : Int))))]) (fun q hq => ?_) ?_
      · simp only [List.mem_cons, List.not_mem_nil, or_false] at hq
        rcases hq with rfl | rfl | rfl | rfl | rfl | rfl <;> simp [stL, lv_args, Value.category]
      exact br0_3 hX0 hS0 hB hf m (o + 1) w3 (by omega) G3 (fun c j hc => (upd_ne U3 (by omega)).trans (hO c j hc)) (fun p hp => by
        by_cases e : p = o
        · rw [e]
          exact upd_eq U3
        · exact (upd_ne U3 (by omega)).trans (hlt p (by omega))) kk
theorem brou_ct {G : Nat → Int} {w0 : va_W} (hX0 : HX 4 G w0) (hS0 : STO G w0) (hB : HB G) {f : Nat} {so : Int} (hf : (f : Int) < G 3) (s0 : 0 ≤ so) (s1 : so ≤ 63) (hG : GOK ad tys GG ws) (hO : XSC w0 ws) : CT l D tys A 78 3 0 0 [.ref (ad 36), .ref (ad 4), .ref (ad 32), .int (Int32.ofInt ((f : Int))), .int (Int32.ofInt (so))] ws (fun r w => (GOK ad tys GG w ∧ XSC w0 w) ∧ r = some (.int (Int32.ofInt (clB (brV G so f) (f : Int))))) := by
  refine CT_of_V (by omega) (show (5 : Nat) ≤ mML 78 by decide +kernel) ?_
  have b3 := hB.b3
  have h0 := bit0 (f := f) (by omega)
  refine V_ipush mi_78_0 ?_
  refine V_istore mi_78_1 ?_
  refine V_sub (lv' := [(0, .ref (ad 36)), (1, .ref (ad 4)), (2, .ref (ad 32)), (3, .int (Int32.ofInt ((f : Int)))), (4, .int (Int32.ofInt (so))), (5, .int (Int32.ofInt (((0 : Nat) : Int))))]) (fun q hq => ?_) ?_
  · simp only [List.mem_cons, List.not_mem_nil, or_false] at hq
    rcases hq with rfl | rfl | rfl | rfl | rfl | rfl <;> simp [stL, lv_args, Value.category]
  refine br0_3 hX0 hS0 hB hf (G 3).toNat 0 ws (by omega) hG hO (fun p h1 => absurd h1 (by omega)) (fun w1 g1 o1 t1 => ?_)
  have k := brr_44 (l := l) (D := D) (A := A) (post := fun r w => (GOK ad tys GG w ∧ XSC w0 w) ∧ r = some (.int (Int32.ofInt (clB (brV G so f) (f : Int))))) hX0 hS0 hB (f := f) (by omega) s0 s1 6 0 _ w1 (by omega) h0.1.1 h0.1.2 h0.2.2.2.1 g1 o1 t1 (fun w a b => ⟨⟨a, b⟩, rfl⟩)
  rw [h0.2.2.1] at k
  exact k
end XTC
