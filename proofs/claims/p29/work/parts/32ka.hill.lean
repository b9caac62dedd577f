section
section TOK
variable {l : Launch} {D : va_G} {tys : List (ClassId × FieldType)} {A : Nat → Prop} {ad : Nat → Nat} {ws : va_W}
/-- the byte at a place, as both sides see it -/
noncomputable def seeS (B : Nat → Int) (n k : Nat) : Int := if k < n then B k % 256 else -1
noncomputable def blB (c : Int) : Bool := decide (c = 32) || decide (c = 10)
noncomputable def leB (c : Int) : Bool := decide (97 ≤ c) && decide (c ≤ 122)
noncomputable def diB (c : Int) : Bool := decide (48 ≤ c) && decide (c ≤ 57)
/-- behind a run of bytes that P holds of -/
noncomputable def runS (P : Int → Bool) (B : Nat → Int) (n : Nat) : Nat → Nat → Nat
  | 0, i => i
  | f + 1, i => if P (seeS B n i) = true then runS P B n f (i + 1) else i
noncomputable def numS (B : Nat → Int) (n : Nat) : Nat → Nat → Int → Int
  | 0, _, v => v
  | f + 1, i, v => if diB (seeS B n i) = true then numS B n f (i + 1) (min 99999 (10 * v + seeS B n i - 48)) else v
/-- one token: its kind, start, stop, number -/
noncomputable def tkI (B : Nat → Int) (n a : Nat) : Nat := runS blB B n 1401 a
noncomputable def tkC (B : Nat → Int) (n a : Nat) : Int := seeS B n (tkI B n a)
noncomputable def tkK (B : Nat → Int) (n a : Nat) : Int := if tkC B n a = -1 then 0 else if leB (tkC B n a) = true then 1 else if diB (tkC B n a) = true then 2 else if tkC B n a = 59 then 3 else 4
noncomputable def tkE (B : Nat → Int) (n a : Nat) : Nat := if tkC B n a = -1 then tkI B n a else if leB (tkC B n a) = true then runS leB B n 1401 (tkI B n a) else if diB (tkC B n a) = true then runS diB B n 1401 (tkI B n a) else tkI B n a + 1
noncomputable def tkV (B : Nat → Int) (n a : Nat) (v : Int) : Int := if tkC B n a = -1 then v else if leB (tkC B n a) = true then v else if diB (tkC B n a) = true then numS B n 1401 (tkI B n a) 0 else v
theorem see_bd (B : Nat → Int) (n k : Nat) : -1 ≤ seeS B n k ∧ seeS B n k ≤ 255 := by
  unfold seeS
  split <;> omega
theorem see_lt {B : Nat → Int} {n k : Nat} (h : seeS B n k ≠ -1) : k < n := by
  unfold seeS at h
  split at h
  · assumption
  · exact absurd rfl h
theorem run_ge {P : Int → Bool} {B : Nat → Int} {n : Nat} : ∀ {f i : Nat}, i ≤ runS P B n f i
  | 0, i => Nat.le_refl _
  | f + 1, i => by
    unfold runS
    split
    · exact Nat.le_trans (Nat.le_succ _) run_ge
    · exact Nat.le_refl _
theorem run_le {P : Int → Bool} {B : Nat → Int} {n : Nat} (hP : P (-1) = false) : ∀ {f i : Nat}, i ≤ n → runS P B n f i ≤ n
  | 0, i, h => h
  | f + 1, i, h => by
    unfold runS
    split
    · next hp =>
      have : i < n := see_lt (fun e => by rw [e, hP] at hp; cases hp)
      exact run_le hP this
    · exact h
/-- what a run stops at -/
theorem run_end {P : Int → Bool} {B : Nat → Int} {n : Nat} (hP : P (-1) = false) : ∀ {f i : Nat}, i ≤ n → n - i < f → P (seeS B n (runS P B n f i)) = false
  | 0, i, _, h => by omega
  | f + 1, i, hi, h => by
    unfold runS
    split
    · next hp =>
      have : i < n := see_lt (fun e => by rw [e, hP] at hp; cases hp)
      exact run_end hP (by omega) (by omega)
    · next hp => exact Bool.eq_false_iff.mpr hp
/-- one step of a run, whatever the fuel -/
theorem run_fuel {P : Int → Bool} {B : Nat → Int} {n : Nat} (hP : P (-1) = false) : ∀ {f g i : Nat}, i ≤ n → n - i < f → n - i < g → runS P B n f i = runS P B n g i
  | 0, _, i, _, h, _ => by omega
  | _, 0, i, _, _, h => by omega
  | f + 1, g + 1, i, hi, h1, h2 => by
    unfold runS
    split
    · next hp =>
      have : i < n := see_lt (fun e => by rw [e, hP] at hp; cases hp)
      exact run_fuel hP (by omega) (by omega) (by omega)
    · rfl
theorem run_step {P : Int → Bool} {B : Nat → Int} {n i : Nat} (hP : P (-1) = false) (hn : n ≤ 1400) (hi : i ≤ n) (h : P (seeS B n i) = true) : runS P B n 1401 i = runS P B n 1401 (i + 1) := by
  have hl : i < n := see_lt (fun e => by rw [e, hP] at h; cases h)
  have e : runS P B n 1401 i = runS P B n 1400 (i + 1) := by
    show (if P (seeS B n i) = true then runS P B n 1400 (i + 1) else i) = _
    rw [if_pos h]
  rw [e]
  exact run_fuel hP (by omega) (by omega) (by omega)
theorem run_stop {P : Int → Bool} {B : Nat → Int} {n i : Nat} (h : P (seeS B n i) = false) : runS P B n 1401 i = i := by
  show (if P (seeS B n i) = true then runS P B n 1400 (i + 1) else i) = _
  rw [if_neg (by rw [h]; exact Bool.false_ne_true)]
theorem num_fuel {B : Nat → Int} {n : Nat} : ∀ {f g i : Nat} {v : Int}, i ≤ n → n - i < f → n - i < g → numS B n f i v = numS B n g i v
  | 0, _, i, _, _, h, _ => by omega
  | _, 0, i, _, _, _, h => by omega
  | f + 1, g + 1, i, v, hi, h1, h2 => by
    unfold numS
    split
    · next hp =>
      have : i < n := see_lt (fun e => by rw [e] at hp; exact absurd hp (by decide))
      exact num_fuel (by omega) (by omega) (by omega)
    · rfl
theorem num_step {B : Nat → Int} {n i : Nat} {v : Int} (hn : n ≤ 1400) (hi : i ≤ n) (h : diB (seeS B n i) = true) : numS B n 1401 i v = numS B n 1401 (i + 1) (min 99999 (10 * v + seeS B n i - 48)) := by
  have hl : i < n := see_lt (fun e => by rw [e] at h; exact absurd h (by decide))
  have e : numS B n 1401 i v = numS B n 1400 (i + 1) (min 99999 (10 * v + seeS B n i - 48)) := by
    show (if diB (seeS B n i) = true then _ else v) = _
    rw [if_pos h]
  rw [e]
  exact num_fuel (by omega) (by omega) (by omega)
theorem num_stop {B : Nat → Int} {n i : Nat} {v : Int} (h : diB (seeS B n i) = false) : numS B n 1401 i v = v := by
  show (if diB (seeS B n i) = true then _ else v) = _
  rw [if_neg (by rw [h]; exact Bool.false_ne_true)]
/-- the bytes of a cell, up to n -/
noncomputable def TB (w : va_W) (c n : Nat) (B : Nat → Int) : Prop := ∀ k, k < n → rd w c k = some (.int (Int32.ofInt (B k))) ∧ -128 ≤ B k ∧ B k ≤ 127
theorem and255v {b : Int} (h1 : -128 ≤ b) (h2 : b ≤ 127) : ibF 5 (Int32.ofInt b) (Int32.ofInt 255) = Int32.ofInt (b % 256) := by
  have h : ∀ m : Nat, m < 256 → ibF 5 (Int32.ofInt ((m : Int) - 128)) (Int32.ofInt 255) = Int32.ofInt (((m : Int) - 128) % 256) := by decide +kernel
  have q := h (b + 128).toNat (by omega)
  rw [Int.toNat_of_nonneg (by omega), show b + 128 - 128 = b by omega] at q
  exact q
end TOK
section TKM
variable {l : Launch} {D : va_G} {tys : List (ClassId × FieldType)} {A : Nat → Prop} {ad : Nat → Nat} {ws : va_W}
/-- the reference's text: how long it is, and its bytes -/
noncomputable def TXM (w : va_W) (n : Nat) (B : Nat → Int) : Prop := rd w 90 7 = some (.int (Int32.ofInt (n : Int))) ∧ n ≤ 1400 ∧ TB w 94 n B
theorem TXM_upd {w w' : va_W} {n j : Nat} {B : Nat → Int} {v : Value} (h : TXM w n B) (hu : Upd1 w w' 90 j v) (hj : j ≠ 7) : TXM w' n B := ⟨(upd_ne hu (fun q => hj q.2.symm)).trans h.1, h.2.1, fun k hk => ⟨(upd_ne hu (by omega)).trans (h.2.2 k hk).1, (h.2.2 k hk).2⟩⟩
theorem seeM (hG : GOK ad tys GG ws) {n p : Nat} {B : Nat → Int} (hT : TXM ws n B) (hp : p ≤ 1400) : CT l D tys A 212 0 0 0 [.ref (ad 90), .int (Int32.ofInt (p : Int))] ws (fun r w' => w' = ws ∧ r = some (.int (Int32.ofInt (seeS B n p)))) := by
  obtain ⟨h7, n1, hB⟩ := hT
  refine CT_of_V (by omega) (show (2 : Nat) ≤ mML 212 by decide +kernel) ?_
  have hc := cdP_iff (x := 3) (a := (p : Int)) (b := (n : Int)) (by omega) (by omega) (by omega) (by omega)
  refine V_iload (v := Int32.ofInt (p : Int)) mi_212_0 (List.Mem.tail _ (List.Mem.head _)) ?_
  refine V_aload (v := ad 90) mi_212_1 (List.Mem.head _) ?_
  refine V_getI mi_212_2 hG h7 ?_
  refine V_icmp mi_212_5 (fun h => ?_) (fun h => ?_)
  · have h : 0 ≤ (p : Int) - n := hc.mp h
    refine V_ipush mi_212_21 ?_
    exact V_retI mi_212_22 (fun h => absurd h (by decide +kernel)) ⟨rfl, by unfold seeS; rw [if_neg (by omega)]⟩
  · have h : p < n := by
      have : ¬ (0 ≤ (p : Int) - n) := fun q => h (hc.mpr q)
      omega
    obtain ⟨b1, b2, b3⟩ := hB p h
    obtain ⟨s4, e4, f4⟩ := gt94
    refine V_aload (v := ad 90) mi_212_8 (List.Mem.head _) ?_
    refine V_getI mi_212_9 hG (rref gr4 (by omega) hG) ?_
    refine V_iload (v := Int32.ofInt (p : Int)) mi_212_12 (List.Mem.tail _ (List.Mem.head _)) ?_
    refine V_bldI (j := p) mi_212_13 rfl hG e4 (by omega) (by omega) b1 ?_
    refine V_ipush mi_212_14 ?_
    refine V_ibin mi_212_17 (by omega) ?_
    rw [and255v b2 b3]
    refine V_goto mi_212_18 ?_
    exact V_retI mi_212_22 (fun h => absurd h (by decide +kernel)) ⟨rfl, by unfold seeS; rw [if_pos h]⟩
/-- nothing but the token's four places -/
noncomputable def TKO (w0 w : va_W) : Prop := ∀ c j, ¬ (c = 90 ∧ 8 ≤ j ∧ j ≤ 11) → rd w c j = rd w0 c j
theorem TKO_rf {w : va_W} : TKO w w := fun _ _ _ => rfl
theorem TKO_upd {w0 w w' : va_W} {j : Nat} {v : Value} (h : TKO w0 w) (hu : Upd1 w w' 90 j v) (h8 : 8 ≤ j) (h11 : j ≤ 11) : TKO w0 w' := fun c' j' hn => (upd_ne hu (fun q => hn ⟨q.1, by omega, by omega⟩)).trans (h c' j' hn)
noncomputable def ADM (ad : Nat → Nat) (tys : List (ClassId × FieldType)) (w0 : va_W) (K Vn : Int) (S E : Nat) (r : Option Value) (w : va_W) : Prop := r = none ∧ GOK ad tys GG w ∧ TKO w0 w ∧ rd w 90 8 = some (.int (Int32.ofInt (E : Int))) ∧ rd w 90 9 = some (.int (Int32.ofInt (S : Int))) ∧ rd w 90 10 = some (.int (Int32.ofInt K)) ∧ rd w 90 11 = some (.int (Int32.ofInt Vn))
theorem addn1 {a : Nat} : ibF 0 (Int32.ofInt (a : Int)) (Int32.ofInt 1) = Int32.ofInt ((a + 1 : Nat) : Int) := by
  show Int32.ofInt (a : Int) + Int32.ofInt 1 = _
  rw [← Int32.ofInt_add]; rfl
theorem inM {m lo hi : Int} (h1 : -1 ≤ m) (h2 : m ≤ 255) (a1 : 0 ≤ lo) (a2 : lo ≤ 1000) (b1 : 0 ≤ hi) (b2 : hi ≤ 1000) : CT l D tys A 193 0 0 0 [.long (Int64.ofInt m), .long (Int64.ofInt lo), .long (Int64.ofInt hi)] ws (fun r w => w = ws ∧ r = some (.int (bI (decide (lo ≤ m) && decide (m ≤ hi))))) := by
  refine CT_post (in2_ct (v := m) (lo := lo) (hi := hi) (by omega) (by omega) (by omega) (by omega) (by omega) (by omega)) (fun r w h => ⟨h.1, ?_⟩)
  rcases h.2 with ⟨e, q1, q2⟩ | ⟨e, q⟩
  · rw [e, decide_eq_true q1, decide_eq_true q2]; rfl
  · rw [e]
    by_cases q1 : lo ≤ m
    · by_cases q2 : m ≤ hi
      · exact absurd ⟨q1, q2⟩ q
      · rw [decide_eq_true q1, decide_eq_false q2]; rfl
    · rw [decide_eq_false q1]; rfl
/-- a word's letters -/
theorem adm_word {w0 : va_W} {n S : Nat} {B : Nat → Int} {Vn : Int} {E : Nat} (lvx : List (Nat × Value)) (l0 : (0, Value.ref (ad 90)) ∈ lvx) : ∀ (f i : Nat) (w : va_W), n - i < f → i ≤ n → GOK ad tys GG w → TXM w n B → TKO w0 w → rd w 90 8 = some (.int (Int32.ofInt (i : Int))) → rd w 90 9 = some (.int (Int32.ofInt (S : Int))) → rd w 90 11 = some (.int (Int32.ofInt Vn)) → runS leB B n 1401 i = E → V l D tys A 213 1 0 0 (ADM ad tys w0 1 Vn S E) 0 0 83 lvx [] w
  | 0, i, w, h, hi, _, _, _, _, _, _, _ => by omega
  | f + 1, i, w, h, hi, G, T, O, h8, h9, h11, hE => by
    have n1 := T.2.1
    obtain ⟨m0, m1⟩ := see_bd B n i
    refine V_aload (v := ad 90) mi_213_83 l0 ?_
    refine V_aload (v := ad 90) mi_213_84 l0 ?_
    refine V_getI mi_213_85 G h8 ?_
    refine V_callM (As := [.int (Int32.ofInt (i : Int))]) (st := []) mi_213_88 (by omega) (by decide +kernel) (by decide +kernel) G (seeM G T (by omega)) (by omega) (show 1 = mN 212 by decide +kernel) (by simp) ?_
    rintro r w' ⟨rfl, rfl⟩
    refine V_i2l mi_213_91 ?_
    rw [i2lm m0 m1]
    refine V_lpush mi_213_92 ?_
    refine V_lpush mi_213_95 ?_
    refine V_stat (As := [.long (Int64.ofInt (seeS B n i)), .long (Int64.ofInt 97), .long (Int64.ofInt 122)]) (st := []) mi_213_98 (by omega) (inM m0 m1 (by omega) (by omega) (by omega) (by omega)) (by omega) (show 3 = mN 193 by decide +kernel) (by simp) ⟨Nat.le_refl _, Nat.le_refl _⟩ ?_
    rintro r w' ⟨rfl, rfl⟩
    cases hb : leB (seeS B n i) with
    | true =>
      rw [show (decide ((97 : Int) ≤ seeS B n i) && decide (seeS B n i ≤ 122)) = true from hb]
      refine V_if mi_213_101 (fun h1 => absurd (show (1 : Int32) = 0 from h1) (by decide)) (fun _ => ?_)
      have hin : i < n := see_lt (fun e => by rw [e] at hb; exact absurd hb (by decide))
      refine V_aload (v := ad 90) mi_213_104 l0 ?_
      refine V_dup mi_213_105 rfl ?_
      refine V_getI mi_213_106 G h8 ?_
      refine V_ipush mi_213_109 ?_
      refine V_ibin mi_213_110 (by omega) ?_
      rw [addn1]
      have t1 : (Int32.ofInt ((i + 1 : Nat) : Int)).toInt = ((i + 1 : Nat) : Int) := Int32.toInt_ofInt_of_le (by omega) (by omega)
      refine V_putI mi_213_111 G f8 (by omega) rfl (by decide +kernel) (by omega) (by omega) (fun w2 G2 U2 => ?_)
      refine V_goto mi_213_114 ?_
      exact adm_word lvx l0 f (i + 1) w2 (by omega) (by omega) G2 (TXM_upd T U2 (by omega)) (TKO_upd O U2 (by omega) (by omega)) (upd_eq U2) ((upd_ne U2 (by omega)).trans h9) ((upd_ne U2 (by omega)).trans h11) (by rw [← hE]; exact (run_step (by decide) n1 hi hb).symm)
    | false =>
      rw [show (decide ((97 : Int) ≤ seeS B n i) && decide (seeS B n i ≤ 122)) = false from hb]
      refine V_if mi_213_101 (fun _ => ?_) (fun h1 => absurd (show (0 : Int32) = 0 from rfl) h1)
      have eE : E = i := by rw [← hE]; exact run_stop hb
      subst eE
      refine V_aload (v := ad 90) mi_213_117 l0 ?_
      refine V_ipush mi_213_118 ?_
      refine V_putI mi_213_119 G f10 (by omega) rfl (by decide +kernel) (by decide) (by decide) (fun w2 G2 U2 => ?_)
      refine V_goto mi_213_122 ?_
      exact V_retV mi_213_239 ⟨rfl, G2, TKO_upd O U2 (by omega) (by omega), (upd_ne U2 (by omega)).trans h8, (upd_ne U2 (by omega)).trans h9, upd_eq U2, (upd_ne U2 (by omega)).trans h11⟩
theorem min_i {a b : Int} (a1 : -1000000000 ≤ a) (a2 : a ≤ 1000000000) (b1 : -1000000000 ≤ b) (b2 : b ≤ 1000000000) : CT l D tys A 342 0 0 0 [.int (Int32.ofInt a), .int (Int32.ofInt b)] ws (fun r w => w = ws ∧ r = some (.int (Int32.ofInt (min a b)))) := by
  have hc := cdP_iff (x := 4) (a := a) (b := b) (by omega) (by omega) (by omega) (by omega)
  refine CT_of_V (by omega) (show (2 : Nat) ≤ mML 342 by decide +kernel) ?_
  refine V_iload (v := Int32.ofInt a) mi_342_0 (List.Mem.head _) ?_
  refine V_iload (v := Int32.ofInt b) mi_342_1 (List.Mem.tail _ (List.Mem.head _)) ?_
  refine V_icmp mi_342_2 (fun h => ?_) (fun h => ?_)
  · have h : a - b > 0 := hc.mp h
    refine V_iload (v := Int32.ofInt b) mi_342_9 (List.Mem.tail _ (List.Mem.head _)) ?_
    exact V_retI mi_342_10 (fun h => absurd h (by decide +kernel)) ⟨rfl, by rw [show min a b = b by omega]⟩
  · have h : ¬ (a - b > 0) := fun q => h (hc.mpr q)
    refine V_iload (v := Int32.ofInt a) mi_342_5 (List.Mem.head _) ?_
    refine V_goto mi_342_6 ?_
    exact V_retI mi_342_10 (fun h => absurd h (by decide +kernel)) ⟨rfl, by rw [show min a b = a by omega]⟩
/-- a number's digits -/
theorem adm_num {w0 : va_W} {n S : Nat} {B : Nat → Int} {Vn : Int} {E : Nat} (lvx : List (Nat × Value)) (l0 : (0, Value.ref (ad 90)) ∈ lvx) : ∀ (f i : Nat) (v : Int) (w : va_W), n - i < f → i ≤ n → 0 ≤ v → v ≤ 99999 → GOK ad tys GG w → TXM w n B → TKO w0 w → rd w 90 8 = some (.int (Int32.ofInt (i : Int))) → rd w 90 9 = some (.int (Int32.ofInt (S : Int))) → rd w 90 11 = some (.int (Int32.ofInt v)) → runS diB B n 1401 i = E → numS B n 1401 i v = Vn → V l D tys A 213 1 0 0 (ADM ad tys w0 2 Vn S E) 0 0 144 lvx [] w
  | 0, i, v, w, h, hi, _, _, _, _, _, _, _, _, _, _ => by omega
  | f + 1, i, v, w, h, hi, v0, v9, G, T, O, h8, h9, h11, hE, hV => by
    have n1 := T.2.1
    obtain ⟨m0, m1⟩ := see_bd B n i
    refine V_aload (v := ad 90) mi_213_144 l0 ?_
    refine V_aload (v := ad 90) mi_213_145 l0 ?_
    refine V_getI mi_213_146 G h8 ?_
    refine V_callM (As := [.int (Int32.ofInt (i : Int))]) (st := []) mi_213_149 (by omega) (by decide +kernel) (by decide +kernel) G (seeM G T (by omega)) (by omega) (show 1 = mN 212 by decide +kernel) (by simp) ?_
    rintro r w' ⟨rfl, rfl⟩
    refine V_i2l mi_213_152 ?_
    rw [i2lm m0 m1]
    refine V_lpush mi_213_153 ?_
    refine V_lpush mi_213_156 ?_
    refine V_stat (As := [.long (Int64.ofInt (seeS B n i)), .long (Int64.ofInt 48), .long (Int64.ofInt 57)]) (st := []) mi_213_159 (by omega) (inM m0 m1 (by omega) (by omega) (by omega) (by omega)) (by omega) (show 3 = mN 193 by decide +kernel) (by simp) ⟨Nat.le_refl _, Nat.le_refl _⟩ ?_
    rintro r w' ⟨rfl, rfl⟩
    cases hb : diB (seeS B n i) with
    | true =>
      rw [show (decide ((48 : Int) ≤ seeS B n i) && decide (seeS B n i ≤ 57)) = true from hb]
      refine V_if mi_213_162 (fun h1 => absurd (show (1 : Int32) = 0 from h1) (by decide)) (fun _ => ?_)
      have hin : i < n := see_lt (fun e => by rw [e] at hb; exact absurd hb (by decide))
      have hd : 48 ≤ seeS B n i ∧ seeS B n i ≤ 57 := by
        unfold diB at hb
        rw [Bool.and_eq_true] at hb
        exact ⟨of_decide_eq_true hb.1, of_decide_eq_true hb.2⟩
      refine V_aload (v := ad 90) mi_213_165 l0 ?_
      refine V_ipush mi_213_166 ?_
      refine V_ipush mi_213_168 ?_
      refine V_aload (v := ad 90) mi_213_170 l0 ?_
      refine V_getI mi_213_171 G h11 ?_
      refine V_ibin mi_213_174 (by omega) ?_
      refine V_aload (v := ad 90) mi_213_175 l0 ?_
      refine V_aload (v := ad 90) mi_213_176 l0 ?_
      refine V_getI mi_213_177 G h8 ?_
      refine V_callM (As := [.int (Int32.ofInt (i : Int))]) (st := [.int (ibF 2 (Int32.ofInt 10) (Int32.ofInt v)), .int (Int32.ofInt 99999), .ref (ad 90)]) mi_213_180 (by omega) (by decide +kernel) (by decide +kernel) G (seeM G T (by omega)) (by omega) (show 1 = mN 212 by decide +kernel) (by simp [Value.category]) ?_
      rintro r w' ⟨rfl, rfl⟩
      refine V_ibin mi_213_183 (by omega) ?_
      refine V_ipush mi_213_184 ?_
      refine V_ibin mi_213_186 (by omega) ?_
      rw [show ibF 1 (ibF 0 (ibF 2 (Int32.ofInt 10) (Int32.ofInt v)) (Int32.ofInt (seeS B n i))) (Int32.ofInt 48) = Int32.ofInt (10 * v + seeS B n i - 48) by show Int32.ofInt 10 * Int32.ofInt v + Int32.ofInt (seeS B n i) - Int32.ofInt 48 = _; rw [← Int32.ofInt_mul, ← Int32.ofInt_add, ← Int32.ofInt_sub]]
      refine V_stat (As := [.int (Int32.ofInt 99999), .int (Int32.ofInt (10 * v + seeS B n i - 48))]) (st := [.ref (ad 90)]) mi_213_187 (by omega) (min_i (by omega) (by omega) (by omega) (by omega)) (by omega) (show 2 = mN 342 by decide +kernel) (by simp [Value.category]) ⟨Nat.le_refl _, Nat.le_refl _⟩ ?_
      rintro r w' ⟨rfl, rfl⟩
      have b1 := Int32.le_toInt (Int32.ofInt (min 99999 (10 * v + seeS B n i - 48)))
      have b2 := Int32.toInt_lt (Int32.ofInt (min 99999 (10 * v + seeS B n i - 48)))
      refine V_putI mi_213_190 G f11 (by omega) rfl (by decide +kernel) (by omega) (by omega) (fun w1 G1 U1 => ?_)
      have h8' : rd w1 90 8 = some (.int (Int32.ofInt (i : Int))) := (upd_ne U1 (by omega)).trans h8
      refine V_aload (v := ad 90) mi_213_193 l0 ?_
      refine V_dup mi_213_194 rfl ?_
      refine V_getI mi_213_195 G1 h8' ?_
      refine V_ipush mi_213_198 ?_
      refine V_ibin mi_213_199 (by omega) ?_
      rw [addn1]
      have t1 : (Int32.ofInt ((i + 1 : Nat) : Int)).toInt = ((i + 1 : Nat) : Int) := Int32.toInt_ofInt_of_le (by omega) (by omega)
      refine V_putI mi_213_200 G1 f8 (by omega) rfl (by decide +kernel) (by omega) (by omega) (fun w2 G2 U2 => ?_)
      refine V_goto mi_213_203 ?_
      exact adm_num lvx l0 f (i + 1) (min 99999 (10 * v + seeS B n i - 48)) w2 (by omega) (by omega) (by omega) (by omega) G2 (TXM_upd (TXM_upd T U1 (by omega)) U2 (by omega)) (TKO_upd (TKO_upd O U1 (by omega) (by omega)) U2 (by omega) (by omega)) (upd_eq U2) ((upd_ne U2 (by omega)).trans ((upd_ne U1 (by omega)).trans h9)) ((upd_ne U2 (by omega)).trans (upd_eq U1)) (by rw [← hE]; exact (run_step (by decide) n1 hi hb).symm) (by rw [← hV]; exact (num_step n1 hi hb).symm)
    | false =>
      rw [show (decide ((48 : Int) ≤ seeS B n i) && decide (seeS B n i ≤ 57)) = false from hb]
      refine V_if mi_213_162 (fun _ => ?_) (fun h1 => absurd (show (0 : Int32) = 0 from rfl) h1)
      have eE : E = i := by rw [← hE]; exact run_stop hb
      have eV : Vn = v := by rw [← hV]; exact num_stop hb
      subst eE
      subst eV
      refine V_aload (v := ad 90) mi_213_206 l0 ?_
      refine V_ipush mi_213_207 ?_
      refine V_putI mi_213_208 G f10 (by omega) rfl (by decide +kernel) (by decide) (by decide) (fun w2 G2 U2 => ?_)
      refine V_goto mi_213_211 ?_
      exact V_retV mi_213_239 ⟨rfl, G2, TKO_upd O U2 (by omega) (by omega), (upd_ne U2 (by omega)).trans h8, (upd_ne U2 (by omega)).trans h9, upd_eq U2, (upd_ne U2 (by omega)).trans h11⟩
end TKM
section TKN
variable {l : Launch} {D : va_G} {tys : List (ClassId × FieldType)} {A : Nat → Prop} {ad : Nat → Nat} {ws : va_W}
/-- what a token at a leaves: kind, number, start, stop -/
noncomputable def ADT (ad : Nat → Nat) (tys : List (ClassId × FieldType)) (B : Nat → Int) (n a : Nat) (v0 : Int) (w0 : va_W) : Option Value → va_W → Prop := ADM ad tys w0 (tkK B n a) (tkV B n a v0) (tkI B n a) (tkE B n a)
theorem adm_39 {w0 w : va_W} {n i a : Nat} {B : Nat → Int} {v0 : Int} (G : GOK ad tys GG w) (T : TXM w n B) (O : TKO w0 w) (hi : i ≤ n) (h8 : rd w 90 8 = some (.int (Int32.ofInt (i : Int)))) (h11 : rd w 90 11 = some (.int (Int32.ofInt v0))) (ei : tkI B n a = i) : V l D tys A 213 1 0 0 (ADT ad tys B n a v0 w0) 0 0 39 [(0, .ref (ad 90))] [] w := by
  have n1 := T.2.1
  obtain ⟨m0, m1⟩ := see_bd B n i
  have ta : (Int32.ofInt (i : Int)).toInt = (i : Int) := Int32.toInt_ofInt_of_le (by omega) (by omega)
  unfold ADT tkK tkV tkE tkC
  rw [ei]
  refine V_aload (v := ad 90) mi_213_39 (List.Mem.head _) ?_
  refine V_aload (v := ad 90) mi_213_40 (List.Mem.head _) ?_
  refine V_getI mi_213_41 G h8 ?_
  refine V_putI mi_213_44 G f9 (by omega) rfl (by decide +kernel) (by omega) (by omega) (fun w1 G1 U1 => ?_)
  have T1 := TXM_upd T U1 (by omega)
  have O1 := TKO_upd O U1 (by omega) (by omega)
  have g8 : rd w1 90 8 = some (.int (Int32.ofInt (i : Int))) := (upd_ne U1 (by omega)).trans h8
  have g11 : rd w1 90 11 = some (.int (Int32.ofInt v0)) := (upd_ne U1 (by omega)).trans h11
  have g9 : rd w1 90 9 = some (.int (Int32.ofInt (i : Int))) := upd_eq U1
  refine V_aload (v := ad 90) mi_213_47 (List.Mem.head _) ?_
  refine V_aload (v := ad 90) mi_213_48 (List.Mem.head _) ?_
  refine V_getI mi_213_49 G1 g8 ?_
  refine V_callM (As := [.int (Int32.ofInt (i : Int))]) (st := []) mi_213_52 (by omega) (by decide +kernel) (by decide +kernel) G1 (seeM G1 T1 (by omega)) (by omega) (show 1 = mN 212 by decide +kernel) (by simp) ?_
  rintro r w' ⟨rfl, rfl⟩
  refine V_istore mi_213_55 ?_
  have l0 : (0, Value.ref (ad 90)) ∈ stL 1 (.int (Int32.ofInt (seeS B n i))) [(0, Value.ref (ad 90))] := by simp [stL, Value.category]
  have l1 : (1, Value.int (Int32.ofInt (seeS B n i))) ∈ stL 1 (.int (Int32.ofInt (seeS B n i))) [(0, Value.ref (ad 90))] := by simp [stL]
  refine V_iload (v := Int32.ofInt (seeS B n i)) mi_213_56 l1 ?_
  refine V_ipush mi_213_57 ?_
  have hc := cdP_iff (x := 1) (a := seeS B n i) (b := -1) (by omega) (by omega) (by omega) (by omega)
  by_cases hm1 : seeS B n i = -1
  · rw [if_pos hm1, if_pos hm1, if_pos hm1]
    refine V_icmp mi_213_58 (fun h => absurd (show seeS B n i - (-1) ≠ 0 from hc.mp h) (by omega)) (fun _ => ?_)
    refine V_aload (v := ad 90) mi_213_61 l0 ?_
    refine V_ipush mi_213_62 ?_
    refine V_putI mi_213_63 G1 f10 (by omega) rfl (by decide +kernel) (by decide) (by decide) (fun w2 G2 U2 => ?_)
    refine V_goto mi_213_66 ?_
    exact V_retV mi_213_239 ⟨rfl, G2, TKO_upd O1 U2 (by omega) (by omega), (upd_ne U2 (by omega)).trans g8, (upd_ne U2 (by omega)).trans g9, upd_eq U2, (upd_ne U2 (by omega)).trans g11⟩
  rw [if_neg hm1, if_neg hm1, if_neg hm1]
  refine V_icmp mi_213_58 (fun _ => ?_) (fun h => absurd (hc.mpr (show seeS B n i - (-1) ≠ 0 by omega)) h)
  have hin : i < n := see_lt hm1
  refine V_iload (v := Int32.ofInt (seeS B n i)) mi_213_69 l1 ?_
  refine V_i2l mi_213_70 ?_
  rw [i2lm m0 m1]
  refine V_lpush mi_213_71 ?_
  refine V_lpush mi_213_74 ?_
  refine V_stat (As := [.long (Int64.ofInt (seeS B n i)), .long (Int64.ofInt 97), .long (Int64.ofInt 122)]) (st := []) mi_213_77 (by omega) (inM m0 m1 (by omega) (by omega) (by omega) (by omega)) (by omega) (show 3 = mN 193 by decide +kernel) (by simp) ⟨Nat.le_refl _, Nat.le_refl _⟩ ?_
  rintro r w' ⟨rfl, rfl⟩
  cases hb : leB (seeS B n i) with
  | true =>
    rw [show (decide ((97 : Int) ≤ seeS B n i) && decide (seeS B n i ≤ 122)) = true from hb, if_pos rfl, if_pos rfl, if_pos rfl]
    refine V_if mi_213_80 (fun h1 => absurd (show (1 : Int32) = 0 from h1) (by decide)) (fun _ => ?_)
    exact adm_word _ l0 (n - i + 1) i _ (by omega) hi G1 T1 O1 g8 g9 g11 rfl
  | false =>
    rw [show (decide ((97 : Int) ≤ seeS B n i) && decide (seeS B n i ≤ 122)) = false from hb, if_neg Bool.false_ne_true, if_neg Bool.false_ne_true, if_neg Bool.false_ne_true]
    refine V_if mi_213_80 (fun _ => ?_) (fun h1 => absurd (show (0 : Int32) = 0 from rfl) h1)
    refine V_iload (v := Int32.ofInt (seeS B n i)) mi_213_125 l1 ?_
    refine V_i2l mi_213_126 ?_
    rw [i2lm m0 m1]
    refine V_lpush mi_213_127 ?_
    refine V_lpush mi_213_130 ?_
    refine V_stat (As := [.long (Int64.ofInt (seeS B n i)), .long (Int64.ofInt 48), .long (Int64.ofInt 57)]) (st := []) mi_213_133 (by omega) (inM m0 m1 (by omega) (by omega) (by omega) (by omega)) (by omega) (show 3 = mN 193 by decide +kernel) (by simp) ⟨Nat.le_refl _, Nat.le_refl _⟩ ?_
    rintro r w' ⟨rfl, rfl⟩
    cases hd : diB (seeS B n i) with
    | true =>
      rw [show (decide ((48 : Int) ≤ seeS B n i) && decide (seeS B n i ≤ 57)) = true from hd, if_pos rfl, if_pos rfl, if_pos rfl]
      refine V_if mi_213_136 (fun h1 => absurd (show (1 : Int32) = 0 from h1) (by decide)) (fun _ => ?_)
      refine V_aload (v := ad 90) mi_213_139 l0 ?_
      refine V_ipush mi_213_140 ?_
      refine V_putI mi_213_141 G1 f11 (by omega) rfl (by decide +kernel) (by decide) (by decide) (fun w2 G2 U2 => ?_)
      exact adm_num _ l0 (n - i + 1) i 0 w2 (by omega) hi (by omega) (by omega) G2 (TXM_upd T1 U2 (by omega)) (TKO_upd O1 U2 (by omega) (by omega)) ((upd_ne U2 (by omega)).trans g8) ((upd_ne U2 (by omega)).trans g9) (upd_eq U2) rfl rfl
    | false =>
      rw [show (decide ((48 : Int) ≤ seeS B n i) && decide (seeS B n i ≤ 57)) = false from hd, if_neg Bool.false_ne_true, if_neg Bool.false_ne_true, if_neg Bool.false_ne_true]
      refine V_if mi_213_136 (fun _ => ?_) (fun h1 => absurd (show (0 : Int32) = 0 from rfl) h1)
      have fin : ∀ t : Int, 0 ≤ t → t ≤ 4 → t = (if seeS B n i = 59 then 3 else 4) → V l D tys A 213 1 0 0 (ADM ad tys w0 (if seeS B n i = 59 then 3 else 4) v0 i (i + 1)) 0 0 226 (stL 1 (.int (Int32.ofInt (seeS B n i))) [(0, Value.ref (ad 90))]) [.int (Int32.ofInt t), .ref (ad 90)] w' := by
        intro t t0 t4 et
        rw [← et]
        have tt : (Int32.ofInt t).toInt = t := Int32.toInt_ofInt_of_le (by omega) (by omega)
        refine V_putI mi_213_226 G1 f10 (by omega) rfl (by decide +kernel) (by omega) (by omega) (fun w2 G2 U2 => ?_)
        refine V_aload (v := ad 90) mi_213_229 l0 ?_
        refine V_dup mi_213_230 rfl ?_
        refine V_getI mi_213_231 G2 ((upd_ne U2 (by omega)).trans g8) ?_
        refine V_ipush mi_213_234 ?_
        refine V_ibin mi_213_235 (by omega) ?_
        rw [addn1]
        have t1 : (Int32.ofInt ((i + 1 : Nat) : Int)).toInt = ((i + 1 : Nat) : Int) := Int32.toInt_ofInt_of_le (by omega) (by omega)
        refine V_putI mi_213_236 G2 f8 (by omega) rfl (by decide +kernel) (by omega) (by omega) (fun w3 G3 U3 => ?_)
        exact V_retV mi_213_239 ⟨rfl, G3, TKO_upd (TKO_upd O1 U2 (by omega) (by omega)) U3 (by omega) (by omega), upd_eq U3, (upd_ne U3 (by omega)).trans ((upd_ne U2 (by omega)).trans g9), (upd_ne U3 (by omega)).trans (upd_eq U2), (upd_ne U3 (by omega)).trans ((upd_ne U2 (by omega)).trans g11)⟩
      refine V_aload (v := ad 90) mi_213_214 l0 ?_
      refine V_iload (v := Int32.ofInt (seeS B n i)) mi_213_215 l1 ?_
      refine V_ipush mi_213_216 ?_
      have h59 := cdP_iff (x := 1) (a := seeS B n i) (b := 59) (by omega) (by omega) (by omega) (by omega)
      refine V_icmp mi_213_218 (fun h => ?_) (fun h => ?_)
      · have h : seeS B n i - 59 ≠ 0 := h59.mp h
        refine V_ipush mi_213_225 ?_
        exact fin 4 (by omega) (by omega) (by rw [if_neg (by omega)])
      · have h : ¬ (seeS B n i - 59 ≠ 0) := fun q => h (h59.mpr q)
        refine V_ipush mi_213_221 ?_
        refine V_goto mi_213_222 ?_
        exact fin 3 (by omega) (by omega) (by rw [if_pos (by omega)])
theorem adm_0 {w0 : va_W} {n a : Nat} {B : Nat → Int} {v0 : Int} : ∀ (f i : Nat) (w : va_W), n - i < f → i ≤ n → GOK ad tys GG w → TXM w n B → TKO w0 w → rd w 90 8 = some (.int (Int32.ofInt (i : Int))) → rd w 90 11 = some (.int (Int32.ofInt v0)) → tkI B n a = runS blB B n 1401 i → V l D tys A 213 1 0 0 (ADT ad tys B n a v0 w0) 0 0 0 [(0, .ref (ad 90))] [] w
  | 0, i, w, h, hi, _, _, _, _, _, _ => by omega
  | f + 1, i, w, h, hi, G, T, O, h8, h11, ei => by
    have n1 := T.2.1
    obtain ⟨m0, m1⟩ := see_bd B n i
    have go26 : blB (seeS B n i) = true → V l D tys A 213 1 0 0 (ADT ad tys B n a v0 w0) 0 0 26 [(0, .ref (ad 90))] [] w := by
      intro hb
      have hin : i < n := see_lt (fun e => by rw [e] at hb; exact absurd hb (by decide))
      refine V_aload (v := ad 90) mi_213_26 (List.Mem.head _) ?_
      refine V_dup mi_213_27 rfl ?_
      refine V_getI mi_213_28 G h8 ?_
      refine V_ipush mi_213_31 ?_
      refine V_ibin mi_213_32 (by omega) ?_
      rw [addn1]
      have t1 : (Int32.ofInt ((i + 1 : Nat) : Int)).toInt = ((i + 1 : Nat) : Int) := Int32.toInt_ofInt_of_le (by omega) (by omega)
      refine V_putI mi_213_33 G f8 (by omega) rfl (by decide +kernel) (by omega) (by omega) (fun w2 G2 U2 => ?_)
      refine V_goto mi_213_36 ?_
      exact adm_0 f (i + 1) w2 (by omega) (by omega) G2 (TXM_upd T U2 (by omega)) (TKO_upd O U2 (by omega) (by omega)) (upd_eq U2) ((upd_ne U2 (by omega)).trans h11) (ei.trans (run_step (by decide) n1 hi hb))
    refine V_aload (v := ad 90) mi_213_0 (List.Mem.head _) ?_
    refine V_aload (v := ad 90) mi_213_1 (List.Mem.head _) ?_
    refine V_getI mi_213_2 G h8 ?_
    refine V_callM (As := [.int (Int32.ofInt (i : Int))]) (st := []) mi_213_5 (by omega) (by decide +kernel) (by decide +kernel) G (seeM G T (by omega)) (by omega) (show 1 = mN 212 by decide +kernel) (by simp) ?_
    rintro r w' ⟨rfl, rfl⟩
    refine V_ipush mi_213_8 ?_
    have c1 := cdP_iff (x := 0) (a := seeS B n i) (b := 32) (by omega) (by omega) (by omega) (by omega)
    refine V_icmp mi_213_10 (fun h => go26 (by
      have h : seeS B n i - 32 = 0 := c1.mp h
      unfold blB
      rw [decide_eq_true (show seeS B n i = 32 by omega), Bool.true_or])) (fun hn32 => ?_)
    refine V_aload (v := ad 90) mi_213_13 (List.Mem.head _) ?_
    refine V_aload (v := ad 90) mi_213_14 (List.Mem.head _) ?_
    refine V_getI mi_213_15 G h8 ?_
    refine V_callM (As := [.int (Int32.ofInt (i : Int))]) (st := []) mi_213_18 (by omega) (by decide +kernel) (by decide +kernel) G (seeM G T (by omega)) (by omega) (show 1 = mN 212 by decide +kernel) (by simp) ?_
    rintro r w' ⟨rfl, rfl⟩
    refine V_ipush mi_213_21 ?_
    have c2 := cdP_iff (x := 1) (a := seeS B n i) (b := 10) (by omega) (by omega) (by omega) (by omega)
    refine V_icmp mi_213_23 (fun hn10 => ?_) (fun h => go26 (by
      have : ¬ (seeS B n i - 10 ≠ 0) := fun q => h (c2.mpr q)
      unfold blB
      rw [decide_eq_true (show seeS B n i = 10 by omega), Bool.or_true]))
    have hb : blB (seeS B n i) = false := by
      have h1 : seeS B n i - 10 ≠ 0 := c2.mp hn10
      have h2 : ¬ (seeS B n i - 32 = 0) := fun q => hn32 (c1.mpr q)
      unfold blB
      rw [decide_eq_false (show ¬ seeS B n i = 32 by omega), decide_eq_false (show ¬ seeS B n i = 10 by omega)]
      rfl
    exact adm_39 G T O hi h8 h11 (ei.trans (run_stop hb))
theorem adm_ct (hG : GOK ad tys GG ws) {n a : Nat} {B : Nat → Int} {v0 : Int} (T : TXM ws n B) (ha : a ≤ n) (h8 : rd ws 90 8 = some (.int (Int32.ofInt (a : Int)))) (h11 : rd ws 90 11 = some (.int (Int32.ofInt v0))) : CT l D tys A 213 1 0 0 [.ref (ad 90)] ws (ADT ad tys B n a v0 ws) := CT_of_V (by omega) (show (1 : Nat) ≤ mML 213 by decide +kernel) (adm_0 (n - a + 1) a ws (by omega) ha hG T TKO_rf h8 h11 rfl)
end TKN
end
section
theorem mi_186_0 : mI 186 0 = (3, 0, 1, 0, 0) := by decide +kernel
theorem mi_186_1 : mI 186 1 = (14, 33, 2, 34, 0) := by decide +kernel
theorem mi_186_4 : mI 186 4 = (3, 0, 1, 0, 0) := by decide +kernel
theorem mi_186_5 : mI 186 5 = (5, 0, 0, 0, 0) := by decide +kernel
theorem mi_186_6 : mI 186 6 = (17, 42, 15, 9, 1) := by decide +kernel
theorem mi_186_9 : mI 186 9 = (15, 25, 3, 34, 0) := by decide +kernel
theorem mi_186_12 : mI 186 12 = (3, 0, 1, 0, 0) := by decide +kernel
theorem mi_186_13 : mI 186 13 = (5, 0, 0, 0, 0) := by decide +kernel
theorem mi_186_14 : mI 186 14 = (17, 40, 9, 9, 0) := by decide +kernel
theorem mi_186_17 : mI 186 17 = (21, 0, 0, 0, 0) := by decide +kernel
theorem mi_186_18 : mI 186 18 = (15, 16, 3, 34, 0) := by decide +kernel
theorem mi_186_21 : mI 186 21 = (5, 0, 0, 0, 0) := by decide +kernel
theorem mi_186_22 : mI 186 22 = (17, 40, 9, 9, 0) := by decide +kernel
theorem mi_186_25 : mI 186 25 = (3, 0, 1, 0, 0) := by decide +kernel
theorem mi_186_26 : mI 186 26 = (19, 0, 1, 0, 0) := by decide +kernel
theorem mi_186_27 : mI 186 27 = (1, 255, 2, 0, 0) := by decide +kernel
theorem mi_186_30 : mI 186 30 = (10, 0, 5, 0, 0) := by decide +kernel
theorem mi_186_31 : mI 186 31 = (16, 4, 0, 35, 0) := by decide +kernel
theorem mi_186_34 : mI 186 34 = (1, (-1), 0, 0, 0) := by decide +kernel
theorem mi_186_35 : mI 186 35 = (27, 0, 0, 0, 0) := by decide +kernel
theorem mi_187_0 : mI 187 0 = (5, 0, 0, 0, 0) := by decide +kernel
theorem mi_187_1 : mI 187 1 = (1, 0, 0, 0, 0) := by decide +kernel
theorem mi_187_2 : mI 187 2 = (18, 44, 19, 9, 2) := by decide +kernel
theorem mi_187_5 : mI 187 5 = (5, 0, 0, 0, 0) := by decide +kernel
theorem mi_187_6 : mI 187 6 = (1, 0, 0, 0, 0) := by decide +kernel
theorem mi_187_7 : mI 187 7 = (18, 45, 22, 9, 3) := by decide +kernel
theorem mi_187_10 : mI 187 10 = (5, 0, 0, 0, 0) := by decide +kernel
theorem mi_187_11 : mI 187 11 = (1, 0, 0, 0, 0) := by decide +kernel
theorem mi_187_12 : mI 187 12 = (18, 47, 25, 9, 4) := by decide +kernel
theorem mi_187_15 : mI 187 15 = (5, 0, 0, 0, 0) := by decide +kernel
theorem mi_187_16 : mI 187 16 = (1, 0, 0, 0, 0) := by decide +kernel
theorem mi_187_17 : mI 187 17 = (18, 48, 28, 9, 5) := by decide +kernel
theorem mi_187_20 : mI 187 20 = (27, 0, 2, 0, 0) := by decide +kernel
theorem mi_188_0 : mI 188 0 = (5, 0, 0, 0, 0) := by decide +kernel
theorem mi_188_1 : mI 188 1 = (17, 47, 25, 9, 4) := by decide +kernel
theorem mi_188_4 : mI 188 4 = (6, 0, 1, 0, 0) := by decide +kernel
theorem mi_188_5 : mI 188 5 = (3, 0, 1, 0, 0) := by decide +kernel
theorem mi_188_6 : mI 188 6 = (5, 0, 0, 0, 0) := by decide +kernel
theorem mi_188_7 : mI 188 7 = (17, 42, 15, 9, 1) := by decide +kernel
theorem mi_188_10 : mI 188 10 = (15, 29, 3, 39, 0) := by decide +kernel
theorem mi_188_13 : mI 188 13 = (5, 0, 0, 0, 0) := by decide +kernel
theorem mi_188_14 : mI 188 14 = (3, 0, 1, 0, 0) := by decide +kernel
theorem mi_188_15 : mI 188 15 = (26, 372, 31, 186, 0) := by decide +kernel
theorem mi_188_18 : mI 188 18 = (1, 32, 1, 0, 0) := by decide +kernel
theorem mi_188_20 : mI 188 20 = (15, 13, 0, 33, 0) := by decide +kernel
theorem mi_188_23 : mI 188 23 = (5, 0, 0, 0, 0) := by decide +kernel
theorem mi_188_24 : mI 188 24 = (3, 0, 1, 0, 0) := by decide +kernel
theorem mi_188_25 : mI 188 25 = (26, 372, 31, 186, 0) := by decide +kernel
theorem mi_188_28 : mI 188 28 = (1, 10, 1, 0, 0) := by decide +kernel
theorem mi_188_30 : mI 188 30 = (15, 9, 1, 39, 0) := by decide +kernel
theorem mi_188_33 : mI 188 33 = (9, 1, 1, 0, 0) := by decide +kernel
theorem mi_188_36 : mI 188 36 = (16, (-31), 0, 5, 0) := by decide +kernel
theorem mi_188_39 : mI 188 39 = (5, 0, 0, 0, 0) := by decide +kernel
theorem mi_188_40 : mI 188 40 = (3, 0, 1, 0, 0) := by decide +kernel
theorem mi_188_41 : mI 188 41 = (18, 45, 22, 9, 3) := by decide +kernel
theorem mi_188_44 : mI 188 44 = (5, 0, 0, 0, 0) := by decide +kernel
theorem mi_188_45 : mI 188 45 = (3, 0, 1, 0, 0) := by decide +kernel
theorem mi_188_46 : mI 188 46 = (26, 372, 31, 186, 0) := by decide +kernel
theorem mi_188_49 : mI 188 49 = (6, 0, 2, 0, 0) := by decide +kernel
theorem mi_188_50 : mI 188 50 = (3, 0, 2, 0, 0) := by decide +kernel
theorem mi_188_51 : mI 188 51 = (14, 16, 3, 67, 0) := by decide +kernel
theorem mi_188_54 : mI 188 54 = (5, 0, 0, 0, 0) := by decide +kernel
theorem mi_188_55 : mI 188 55 = (1, 0, 0, 0, 0) := by decide +kernel
theorem mi_188_56 : mI 188 56 = (18, 44, 19, 9, 2) := by decide +kernel
theorem mi_188_59 : mI 188 59 = (5, 0, 0, 0, 0) := by decide +kernel
theorem mi_188_60 : mI 188 60 = (3, 0, 1, 0, 0) := by decide +kernel
theorem mi_188_61 : mI 188 61 = (18, 47, 25, 9, 4) := by decide +kernel
theorem mi_188_64 : mI 188 64 = (16, 103, 0, 167, 0) := by decide +kernel
theorem mi_188_67 : mI 188 67 = (3, 0, 2, 0, 0) := by decide +kernel
theorem mi_188_68 : mI 188 68 = (1, 97, 1, 0, 0) := by decide +kernel
theorem mi_188_70 : mI 188 70 = (15, 30, 2, 100, 0) := by decide +kernel
theorem mi_188_73 : mI 188 73 = (3, 0, 2, 0, 0) := by decide +kernel
theorem mi_188_74 : mI 188 74 = (1, 122, 1, 0, 0) := by decide +kernel
theorem mi_188_76 : mI 188 76 = (15, 24, 4, 100, 0) := by decide +kernel
theorem mi_188_79 : mI 188 79 = (5, 0, 0, 0, 0) := by decide +kernel
theorem mi_188_80 : mI 188 80 = (1, 1, 0, 0, 0) := by decide +kernel
theorem mi_188_81 : mI 188 81 = (18, 44, 19, 9, 2) := by decide +kernel
theorem mi_188_84 : mI 188 84 = (5, 0, 0, 0, 0) := by decide +kernel
theorem mi_188_85 : mI 188 85 = (5, 0, 0, 0, 0) := by decide +kernel
theorem mi_188_86 : mI 188 86 = (3, 0, 1, 0, 0) := by decide +kernel
theorem mi_188_87 : mI 188 87 = (1, 97, 1, 0, 0) := by decide +kernel
theorem mi_188_89 : mI 188 89 = (1, 122, 1, 0, 0) := by decide +kernel
theorem mi_188_91 : mI 188 91 = (26, 376, 35, 189, 0) := by decide +kernel
theorem mi_188_94 : mI 188 94 = (18, 47, 25, 9, 4) := by decide +kernel
theorem mi_188_97 : mI 188 97 = (16, 70, 0, 167, 0) := by decide +kernel
theorem mi_188_100 : mI 188 100 = (3, 0, 2, 0, 0) := by decide +kernel
theorem mi_188_101 : mI 188 101 = (1, 48, 1, 0, 0) := by decide +kernel
theorem mi_188_103 : mI 188 103 = (15, 42, 2, 145, 0) := by decide +kernel
theorem mi_188_106 : mI 188 106 = (3, 0, 2, 0, 0) := by decide +kernel
theorem mi_188_107 : mI 188 107 = (1, 57, 1, 0, 0) := by decide +kernel
theorem mi_188_109 : mI 188 109 = (15, 36, 4, 145, 0) := by decide +kernel
theorem mi_188_112 : mI 188 112 = (5, 0, 0, 0, 0) := by decide +kernel
theorem mi_188_113 : mI 188 113 = (1, 2, 0, 0, 0) := by decide +kernel
theorem mi_188_114 : mI 188 114 = (18, 44, 19, 9, 2) := by decide +kernel
theorem mi_188_117 : mI 188 117 = (5, 0, 0, 0, 0) := by decide +kernel
theorem mi_188_118 : mI 188 118 = (5, 0, 0, 0, 0) := by decide +kernel
theorem mi_188_119 : mI 188 119 = (3, 0, 1, 0, 0) := by decide +kernel
theorem mi_188_120 : mI 188 120 = (1, 48, 1, 0, 0) := by decide +kernel
theorem mi_188_122 : mI 188 122 = (1, 57, 1, 0, 0) := by decide +kernel
theorem mi_188_124 : mI 188 124 = (26, 376, 35, 189, 0) := by decide +kernel
theorem mi_188_127 : mI 188 127 = (18, 47, 25, 9, 4) := by decide +kernel
theorem mi_188_130 : mI 188 130 = (5, 0, 0, 0, 0) := by decide +kernel
theorem mi_188_131 : mI 188 131 = (5, 0, 0, 0, 0) := by decide +kernel
theorem mi_188_132 : mI 188 132 = (5, 0, 0, 0, 0) := by decide +kernel
theorem mi_188_133 : mI 188 133 = (17, 47, 25, 9, 4) := by decide +kernel
theorem mi_188_136 : mI 188 136 = (26, 380, 39, 190, 0) := by decide +kernel
theorem mi_188_139 : mI 188 139 = (18, 48, 28, 9, 5) := by decide +kernel
theorem mi_188_142 : mI 188 142 = (16, 25, 0, 167, 0) := by decide +kernel
theorem mi_188_145 : mI 188 145 = (5, 0, 0, 0, 0) := by decide +kernel
theorem mi_188_146 : mI 188 146 = (3, 0, 2, 0, 0) := by decide +kernel
theorem mi_188_147 : mI 188 147 = (1, 59, 1, 0, 0) := by decide +kernel
theorem mi_188_149 : mI 188 149 = (15, 7, 1, 156, 0) := by decide +kernel
theorem mi_188_152 : mI 188 152 = (1, 3, 0, 0, 0) := by decide +kernel
theorem mi_188_153 : mI 188 153 = (16, 4, 0, 157, 0) := by decide +kernel
theorem mi_188_156 : mI 188 156 = (1, 4, 0, 0, 0) := by decide +kernel
theorem mi_188_157 : mI 188 157 = (18, 44, 19, 9, 2) := by decide +kernel
theorem mi_188_160 : mI 188 160 = (5, 0, 0, 0, 0) := by decide +kernel
theorem mi_188_161 : mI 188 161 = (3, 0, 1, 0, 0) := by decide +kernel
theorem mi_188_162 : mI 188 162 = (1, 1, 0, 0, 0) := by decide +kernel
theorem mi_188_163 : mI 188 163 = (10, 0, 0, 0, 0) := by decide +kernel
theorem mi_188_164 : mI 188 164 = (18, 47, 25, 9, 4) := by decide +kernel
theorem mi_188_167 : mI 188 167 = (27, 0, 2, 0, 0) := by decide +kernel
theorem mi_189_0 : mI 189 0 = (3, 0, 1, 0, 0) := by decide +kernel
theorem mi_189_1 : mI 189 1 = (6, 0, 4, 1, 0) := by decide +kernel
theorem mi_189_3 : mI 189 3 = (3, 0, 4, 1, 0) := by decide +kernel
theorem mi_189_5 : mI 189 5 = (14, 50, 2, 55, 0) := by decide +kernel
theorem mi_189_8 : mI 189 8 = (3, 0, 4, 1, 0) := by decide +kernel
theorem mi_189_10 : mI 189 10 = (5, 0, 0, 0, 0) := by decide +kernel
theorem mi_189_11 : mI 189 11 = (17, 42, 15, 9, 1) := by decide +kernel
theorem mi_189_14 : mI 189 14 = (15, 41, 3, 55, 0) := by decide +kernel
theorem mi_189_17 : mI 189 17 = (3, 0, 4, 1, 0) := by decide +kernel
theorem mi_189_19 : mI 189 19 = (5, 0, 0, 0, 0) := by decide +kernel
theorem mi_189_20 : mI 189 20 = (17, 40, 9, 9, 0) := by decide +kernel
theorem mi_189_23 : mI 189 23 = (21, 0, 0, 0, 0) := by decide +kernel
theorem mi_189_24 : mI 189 24 = (15, 31, 3, 55, 0) := by decide +kernel
theorem mi_189_27 : mI 189 27 = (5, 0, 0, 0, 0) := by decide +kernel
theorem mi_189_28 : mI 189 28 = (17, 40, 9, 9, 0) := by decide +kernel
theorem mi_189_31 : mI 189 31 = (3, 0, 4, 1, 0) := by decide +kernel
theorem mi_189_33 : mI 189 33 = (19, 0, 1, 0, 0) := by decide +kernel
theorem mi_189_34 : mI 189 34 = (3, 0, 2, 0, 0) := by decide +kernel
theorem mi_189_35 : mI 189 35 = (15, 20, 2, 55, 0) := by decide +kernel
theorem mi_189_38 : mI 189 38 = (5, 0, 0, 0, 0) := by decide +kernel
theorem mi_189_39 : mI 189 39 = (17, 40, 9, 9, 0) := by decide +kernel
theorem mi_189_42 : mI 189 42 = (3, 0, 4, 1, 0) := by decide +kernel
theorem mi_189_44 : mI 189 44 = (19, 0, 1, 0, 0) := by decide +kernel
theorem mi_189_45 : mI 189 45 = (3, 0, 3, 0, 0) := by decide +kernel
theorem mi_189_46 : mI 189 46 = (15, 9, 4, 55, 0) := by decide +kernel
theorem mi_189_49 : mI 189 49 = (9, 1, 4, 0, 0) := by decide +kernel
theorem mi_189_52 : mI 189 52 = (16, (-49), 0, 3, 0) := by decide +kernel
theorem mi_189_55 : mI 189 55 = (3, 0, 4, 1, 0) := by decide +kernel
theorem mi_189_57 : mI 189 57 = (27, 0, 0, 0, 0) := by decide +kernel
theorem mi_190_0 : mI 190 0 = (1, 0, 0, 0, 0) := by decide +kernel
theorem mi_190_1 : mI 190 1 = (6, 0, 2, 0, 0) := by decide +kernel
theorem mi_190_2 : mI 190 2 = (5, 0, 0, 0, 0) := by decide +kernel
theorem mi_190_3 : mI 190 3 = (17, 45, 22, 9, 3) := by decide +kernel
theorem mi_190_6 : mI 190 6 = (6, 0, 3, 0, 0) := by decide +kernel
theorem mi_190_7 : mI 190 7 = (3, 0, 3, 0, 0) := by decide +kernel
theorem mi_190_8 : mI 190 8 = (14, 44, 2, 52, 0) := by decide +kernel
theorem mi_190_11 : mI 190 11 = (3, 0, 3, 0, 0) := by decide +kernel
theorem mi_190_12 : mI 190 12 = (3, 0, 1, 0, 0) := by decide +kernel
theorem mi_190_13 : mI 190 13 = (15, 39, 3, 52, 0) := by decide +kernel
theorem mi_190_16 : mI 190 16 = (3, 0, 3, 0, 0) := by decide +kernel
theorem mi_190_17 : mI 190 17 = (5, 0, 0, 0, 0) := by decide +kernel
theorem mi_190_18 : mI 190 18 = (17, 40, 9, 9, 0) := by decide +kernel
theorem mi_190_21 : mI 190 21 = (21, 0, 0, 0, 0) := by decide +kernel
theorem mi_190_22 : mI 190 22 = (15, 30, 3, 52, 0) := by decide +kernel
theorem mi_190_25 : mI 190 25 = (3, 0, 2, 0, 0) := by decide +kernel
theorem mi_190_26 : mI 190 26 = (1, 1000000, 3, 42, 384) := by decide +kernel
theorem mi_190_28 : mI 190 28 = (15, 24, 3, 52, 0) := by decide +kernel
theorem mi_190_31 : mI 190 31 = (3, 0, 2, 0, 0) := by decide +kernel
theorem mi_190_32 : mI 190 32 = (1, 10, 1, 0, 0) := by decide +kernel
theorem mi_190_34 : mI 190 34 = (10, 0, 2, 0, 0) := by decide +kernel
theorem mi_190_35 : mI 190 35 = (5, 0, 0, 0, 0) := by decide +kernel
theorem mi_190_36 : mI 190 36 = (17, 40, 9, 9, 0) := by decide +kernel
theorem mi_190_39 : mI 190 39 = (3, 0, 3, 0, 0) := by decide +kernel
theorem mi_190_40 : mI 190 40 = (19, 0, 1, 0, 0) := by decide +kernel
theorem mi_190_41 : mI 190 41 = (10, 0, 0, 0, 0) := by decide +kernel
theorem mi_190_42 : mI 190 42 = (1, 48, 1, 0, 0) := by decide +kernel
theorem mi_190_44 : mI 190 44 = (10, 0, 1, 0, 0) := by decide +kernel
theorem mi_190_45 : mI 190 45 = (6, 0, 2, 0, 0) := by decide +kernel
theorem mi_190_46 : mI 190 46 = (9, 1, 3, 0, 0) := by decide +kernel
theorem mi_190_49 : mI 190 49 = (16, (-42), 0, 7, 0) := by decide +kernel
theorem mi_190_52 : mI 190 52 = (3, 0, 2, 0, 0) := by decide +kernel
theorem mi_190_53 : mI 190 53 = (27, 0, 0, 0, 0) := by decide +kernel
theorem mi_191_0 : mI 191 0 = (5, 0, 0, 0, 0) := by decide +kernel
theorem mi_191_1 : mI 191 1 = (17, 44, 19, 9, 2) := by decide +kernel
theorem mi_191_4 : mI 191 4 = (1, 1, 0, 0, 0) := by decide +kernel
theorem mi_191_5 : mI 191 5 = (15, 19, 1, 24, 0) := by decide +kernel
theorem mi_191_8 : mI 191 8 = (5, 0, 1, 0, 0) := by decide +kernel
theorem mi_191_9 : mI 191 9 = (26, 398, 43, 345, 0) := by decide +kernel
theorem mi_191_12 : mI 191 12 = (5, 0, 0, 0, 0) := by decide +kernel
theorem mi_191_13 : mI 191 13 = (17, 47, 25, 9, 4) := by decide +kernel
theorem mi_191_16 : mI 191 16 = (5, 0, 0, 0, 0) := by decide +kernel
theorem mi_191_17 : mI 191 17 = (17, 45, 22, 9, 3) := by decide +kernel
theorem mi_191_20 : mI 191 20 = (10, 0, 1, 0, 0) := by decide +kernel
theorem mi_191_21 : mI 191 21 = (15, 5, 0, 26, 0) := by decide +kernel
theorem mi_191_24 : mI 191 24 = (1, 0, 0, 0, 0) := by decide +kernel
theorem mi_191_25 : mI 191 25 = (27, 0, 0, 0, 0) := by decide +kernel
theorem mi_191_26 : mI 191 26 = (1, 0, 0, 0, 0) := by decide +kernel
theorem mi_191_27 : mI 191 27 = (6, 0, 2, 0, 0) := by decide +kernel
theorem mi_191_28 : mI 191 28 = (3, 0, 2, 0, 0) := by decide +kernel
theorem mi_191_29 : mI 191 29 = (5, 0, 1, 0, 0) := by decide +kernel
theorem mi_191_30 : mI 191 30 = (26, 398, 43, 345, 0) := by decide +kernel
theorem mi_191_33 : mI 191 33 = (15, 29, 3, 62, 0) := by decide +kernel
theorem mi_191_36 : mI 191 36 = (5, 0, 0, 0, 0) := by decide +kernel
theorem mi_191_37 : mI 191 37 = (5, 0, 0, 0, 0) := by decide +kernel
theorem mi_191_38 : mI 191 38 = (17, 45, 22, 9, 3) := by decide +kernel
theorem mi_191_41 : mI 191 41 = (3, 0, 2, 0, 0) := by decide +kernel
theorem mi_191_42 : mI 191 42 = (10, 0, 0, 0, 0) := by decide +kernel
theorem mi_191_43 : mI 191 43 = (26, 372, 31, 186, 0) := by decide +kernel
theorem mi_191_46 : mI 191 46 = (5, 0, 1, 0, 0) := by decide +kernel
theorem mi_191_47 : mI 191 47 = (3, 0, 2, 0, 0) := by decide +kernel
theorem mi_191_48 : mI 191 48 = (26, 408, 49, 346, 0) := by decide +kernel
theorem mi_191_51 : mI 191 51 = (15, 5, 0, 56, 0) := by decide +kernel
theorem mi_191_54 : mI 191 54 = (1, 0, 0, 0, 0) := by decide +kernel
theorem mi_191_55 : mI 191 55 = (27, 0, 0, 0, 0) := by decide +kernel
theorem mi_191_56 : mI 191 56 = (9, 1, 2, 0, 0) := by decide +kernel
theorem mi_191_59 : mI 191 59 = (16, (-31), 0, 28, 0) := by decide +kernel
theorem mi_191_62 : mI 191 62 = (1, 1, 0, 0, 0) := by decide +kernel
theorem mi_191_63 : mI 191 63 = (27, 0, 0, 0, 0) := by decide +kernel
section TKX
variable {l : Launch} {D : va_G} {tys : List (ClassId × FieldType)} {A : Nat → Prop} {ad : Nat → Nat} {ws : va_W}
theorem gx2a : ∃ s, GG[2]? = some ((0, 9, 6), s) ∧ segAt s 0 = some (2, ((3 : Nat) : Int), ((3 : Nat) : Int)) ∧ segAt s 1 = some (0, 0, 1400) ∧ segAt s 2 = some (0, 0, 4) ∧ segAt s 3 = some (0, 0, 1401) ∧ segAt s 4 = some (0, 0, 1401) ∧ segAt s 5 = some (0, -2147483648, 2147483647) := ⟨_, rfl, by decide +kernel, by decide +kernel, by decide +kernel, by decide +kernel, by decide +kernel, by decide +kernel⟩
theorem gt3 : ∃ s, GG[3]? = some ((1, 1, 1400), s) ∧ ∀ j, j < 1400 → segAt s j = some (0, -128, 127) := by
  refine ⟨_, rfl, fun j hj => ?_⟩
  show (bif Nat.blt j 1400 then some _ else _) = _
  rw [show Nat.blt j 1400 = true from Nat.blt_eq.mpr hj]
  rfl
/-- the class's text: how long it is, and its bytes -/
noncomputable def TXX (w : va_W) (n : Nat) (B : Nat → Int) : Prop := rd w 2 1 = some (.int (Int32.ofInt (n : Int))) ∧ n ≤ 1400 ∧ TB w 3 n B
theorem TXX_upd {w w' : va_W} {n j : Nat} {B : Nat → Int} {v : Value} (h : TXX w n B) (hu : Upd1 w w' 2 j v) (hj : j ≠ 1) : TXX w' n B := ⟨(upd_ne hu (fun q => hj q.2.symm)).trans h.1, h.2.1, fun k hk => ⟨(upd_ne hu (by omega)).trans (h.2.2 k hk).1, (h.2.2 k hk).2⟩⟩
theorem ge_n {a b : Nat} (ha : a ≤ 100000) (hb : b ≤ 100000) : cdP 3 (Int32.ofInt (a : Int)) (Int32.ofInt (b : Int)) ↔ b ≤ a := by
  rw [cdP_iff (x := 3) (a := (a : Int)) (b := (b : Int)) (by omega) (by omega) (by omega) (by omega)]
  show 0 ≤ (a : Int) - b ↔ _
  omega
theorem neg_n {a : Nat} (ha : a ≤ 100000) : ¬ cdP 2 (Int32.ofInt (a : Int)) 0 := by
  have h : cdP 2 (Int32.ofInt (a : Int)) 0 ↔ cdZ 2 ((a : Int) - 0) := cdP_iff (x := 2) (a := (a : Int)) (b := 0) (by omega) (by omega) (by omega) (by omega)
  rw [h]
  show ¬ ((a : Int) - 0 < 0)
  omega
theorem cz {x : Nat} {a b : Int} (a1 : -100000 ≤ a) (a2 : a ≤ 100000) (b1 : -100000 ≤ b) (b2 : b ≤ 100000) : cdP x (Int32.ofInt a) (Int32.ofInt b) ↔ cdZ x (a - b) := cdP_iff (by omega) (by omega) (by omega) (by omega)
theorem bytX (hG : GOK ad tys GG ws) {n p : Nat} {B : Nat → Int} (hT : TXX ws n B) (hp : p ≤ 1401) : CT l D tys A 186 0 0 0 [.ref (ad 2), .int (Int32.ofInt (p : Int))] ws (fun r w' => w' = ws ∧ r = some (.int (Int32.ofInt (seeS B n p)))) := by
  obtain ⟨h1, n1, hB⟩ := hT
  obtain ⟨s2, e2, t0, t1, -, -, -, -⟩ := gx2a
  obtain ⟨s3, e3, f3⟩ := gt3
  refine CT_of_V (by omega) (show (2 : Nat) ≤ mML 186 by decide +kernel) ?_
  have lvs : lv_args 0 [Value.ref (ad 2), .int (Int32.ofInt (p : Int))] = [(0, .ref (ad 2)), (1, .int (Int32.ofInt (p : Int)))] := rfl
  rw [lvs]
  refine V_iload (v := Int32.ofInt (p : Int)) mi_186_0 (by simp) ?_
  refine V_if mi_186_1 (fun h => absurd h (neg_n (by omega))) (fun _ => ?_)
  refine V_iload (v := Int32.ofInt (p : Int)) mi_186_4 (by simp) ?_
  refine V_aload (v := ad 2) mi_186_5 (by simp) ?_
  refine V_getO mi_186_6 hG e2 h1 ?_
  have no : ¬ p < n → V l D tys A 186 0 0 0 (fun r w' => w' = ws ∧ r = some (.int (Int32.ofInt (seeS B n p)))) 0 0 34 [(0, .ref (ad 2)), (1, .int (Int32.ofInt (p : Int)))] [] ws := fun h => V_ipush mi_186_34 (V_retI mi_186_35 (fun h => absurd h (by decide +kernel)) ⟨rfl, by unfold seeS; rw [if_neg h]⟩)
  refine V_icmp mi_186_9 (fun h => no (by have := (ge_n (by omega) (by omega)).mp h; omega)) (fun h => ?_)
  have h : p < n := by
    rcases Nat.lt_or_ge p n with q | q
    · exact q
    · exact absurd ((ge_n (by omega) (by omega)).mpr q) h
  obtain ⟨b1, b2, b3⟩ := hB p h
  refine V_iload (v := Int32.ofInt (p : Int)) mi_186_12 (by simp) ?_
  refine V_aload (v := ad 2) mi_186_13 (by simp) ?_
  refine V_getO mi_186_14 hG e2 (rrO e2 t0 (by omega) hG) ?_
  refine V_lenA mi_186_17 hG e3 ?_
  refine V_icmp mi_186_18 (fun q => absurd ((ge_n (b := 1400) (by omega) (by omega)).mp q) (by omega)) (fun _ => ?_)
  refine V_aload (v := ad 2) mi_186_21 (by simp) ?_
  refine V_getO mi_186_22 hG e2 (rrO e2 t0 (by omega) hG) ?_
  refine V_iload (v := Int32.ofInt (p : Int)) mi_186_25 (by simp) ?_
  refine V_bldI (j := p) mi_186_26 rfl hG e3 (by omega) (by omega) b1 ?_
  refine V_ipush mi_186_27 ?_
  refine V_ibin mi_186_30 (by omega) ?_
  rw [and255v b2 b3]
  refine V_goto mi_186_31 ?_
  exact V_retI mi_186_35 (fun h => absurd h (by decide +kernel)) ⟨rfl, by unfold seeS; rw [if_pos h]⟩
/-- a run between two bytes below 128 -/
noncomputable def rgB (lo hi c : Int) : Bool := decide (lo ≤ c) && decide (c ≤ hi)
theorem see_b {B : Nat → Int} {n i : Nat} {w : va_W} {c : Nat} (h : TB w c n B) (hi : i < n) {lo hi' : Int} (l0 : 1 ≤ lo) (h1 : hi' ≤ 127) : rgB lo hi' (seeS B n i) = rgB lo hi' (B i) := by
  obtain ⟨-, b2, b3⟩ := h i hi
  unfold seeS rgB
  rw [if_pos hi]
  by_cases hb : 0 ≤ B i
  · rw [show B i % 256 = B i by omega]
  · rw [decide_eq_false (show ¬ B i % 256 ≤ hi' by omega), decide_eq_false (show ¬ lo ≤ B i by omega)]
    simp
theorem runX (hG : GOK ad tys GG ws) {n i : Nat} {B : Nat → Int} {lo hi' : Int} (hT : TXX ws n B) (l0 : 1 ≤ lo) (l1 : lo ≤ 127) (h0 : 0 ≤ hi') (h1 : hi' ≤ 127) (hi : i ≤ n) : CT l D tys A 189 0 0 0 [.ref (ad 2), .int (Int32.ofInt (i : Int)), .int (Int32.ofInt lo), .int (Int32.ofInt hi')] ws (fun r w' => w' = ws ∧ r = some (.int (Int32.ofInt ((runS (rgB lo hi') B n 1401 i : Nat) : Int)))) := by
  have n1 := hT.2.1
  obtain ⟨s2, e2, t0, t1, -, -, -, -⟩ := gx2a
  obtain ⟨s3, e3, f3⟩ := gt3
  refine CT_of_V (by omega) (show (4 : Nat) ≤ mML 189 by decide +kernel) ?_
  have lvs : lv_args 0 [Value.ref (ad 2), .int (Int32.ofInt (i : Int)), .int (Int32.ofInt lo), .int (Int32.ofInt hi')] = [(0, .ref (ad 2)), (1, .int (Int32.ofInt (i : Int))), (2, .int (Int32.ofInt lo)), (3, .int (Int32.ofInt hi'))] := rfl
  rw [lvs]
  have hP : rgB lo hi' (-1) = false := by unfold rgB; rw [decide_eq_false (show ¬ lo ≤ -1 by omega)]; rfl
  have loop : ∀ (f j : Nat), n - j < f → j ≤ n → runS (rgB lo hi') B n 1401 j = runS (rgB lo hi') B n 1401 i → V l D tys A 189 0 0 0 (fun r w' => w' = ws ∧ r = some (.int (Int32.ofInt ((runS (rgB lo hi') B n 1401 i : Nat) : Int)))) 0 0 3 [(0, .ref (ad 2)), (2, .int (Int32.ofInt lo)), (3, .int (Int32.ofInt hi')), (4, .int (Int32.ofInt (j : Int)))] [] ws := by
    intro f
    induction f with
    | zero => intro j h; omega
    | succ f ih =>
      intro j hf hj er
      have out : rgB lo hi' (seeS B n j) = false → V l D tys A 189 0 0 0 (fun r w' => w' = ws ∧ r = some (.int (Int32.ofInt ((runS (rgB lo hi') B n 1401 i : Nat) : Int)))) 0 0 55 [(0, .ref (ad 2)), (2, .int (Int32.ofInt lo)), (3, .int (Int32.ofInt hi')), (4, .int (Int32.ofInt (j : Int)))] [] ws := by
        intro hb
        refine V_iload (v := Int32.ofInt (j : Int)) mi_189_55 (by simp) ?_
        exact V_retI mi_189_57 (fun h => absurd h (by decide +kernel)) ⟨rfl, by rw [← er, run_stop hb]⟩
      refine V_iload (v := Int32.ofInt (j : Int)) mi_189_3 (by simp) ?_
      refine V_if mi_189_5 (fun h => absurd h (neg_n (by omega))) (fun _ => ?_)
      refine V_iload (v := Int32.ofInt (j : Int)) mi_189_8 (by simp) ?_
      refine V_aload (v := ad 2) mi_189_10 (by simp) ?_
      refine V_getO mi_189_11 hG e2 hT.1 ?_
      refine V_icmp mi_189_14 (fun h => out (by
        have := (ge_n (by omega) (by omega)).mp h
        have e : seeS B n j = -1 := by unfold seeS; rw [if_neg (by omega)]
        rw [e]; exact hP)) (fun h => ?_)
      have hjn : j < n := by
        rcases Nat.lt_or_ge j n with q | q
        · exact q
        · exact absurd ((ge_n (by omega) (by omega)).mpr q) h
      obtain ⟨b1, b2, b3⟩ := hT.2.2 j hjn
      have sb := see_b (lo := lo) (hi' := hi') hT.2.2 hjn l0 h1
      refine V_iload (v := Int32.ofInt (j : Int)) mi_189_17 (by simp) ?_
      refine V_aload (v := ad 2) mi_189_19 (by simp) ?_
      refine V_getO mi_189_20 hG e2 (rrO e2 t0 (by omega) hG) ?_
      refine V_lenA mi_189_23 hG e3 ?_
      refine V_icmp mi_189_24 (fun q => absurd ((ge_n (b := 1400) (by omega) (by omega)).mp q) (by omega)) (fun _ => ?_)
      refine V_aload (v := ad 2) mi_189_27 (by simp) ?_
      refine V_getO mi_189_28 hG e2 (rrO e2 t0 (by omega) hG) ?_
      refine V_iload (v := Int32.ofInt (j : Int)) mi_189_31 (by simp) ?_
      refine V_bldI (j := j) mi_189_33 rfl hG e3 (by omega) (by omega) b1 ?_
      refine V_iload (v := Int32.ofInt lo) mi_189_34 (by simp) ?_
      have c1 := cz (x := 2) (a := B j) (b := lo) (by omega) (by omega) (by omega) (by omega)
      refine V_icmp mi_189_35 (fun h => out (by
        have h : B j - lo < 0 := c1.mp h
        rw [sb]; unfold rgB; rw [decide_eq_false (show ¬ lo ≤ B j by omega)]; rfl)) (fun h2 => ?_)
      have h2 : ¬ (B j - lo < 0) := fun q => h2 (c1.mpr q)
      refine V_aload (v := ad 2) mi_189_38 (by simp) ?_
      refine V_getO mi_189_39 hG e2 (rrO e2 t0 (by omega) hG) ?_
      refine V_iload (v := Int32.ofInt (j : Int)) mi_189_42 (by simp) ?_
      refine V_bldI (j := j) mi_189_44 rfl hG e3 (by omega) (by omega) b1 ?_
      refine V_iload (v := Int32.ofInt hi') mi_189_45 (by simp) ?_
      have c2 := cz (x := 4) (a := B j) (b := hi') (by omega) (by omega) (by omega) (by omega)
      refine V_icmp mi_189_46 (fun h => out (by
        have h : B j - hi' > 0 := c2.mp h
        rw [sb]; unfold rgB; rw [decide_eq_false (show ¬ B j ≤ hi' by omega), Bool.and_false])) (fun h3 => ?_)
      have h3 : ¬ (B j - hi' > 0) := fun q => h3 (c2.mpr q)
      have hb : rgB lo hi' (seeS B n j) = true := by rw [sb]; unfold rgB; rw [decide_eq_true (show lo ≤ B j by omega), decide_eq_true (show B j ≤ hi' by omega)]; rfl
      refine V_iinc (v := Int32.ofInt (j : Int)) mi_189_49 (by simp) ?_
      refine V_goto mi_189_52 ?_
      refine V_sub (lv' := [(0, .ref (ad 2)), (2, .int (Int32.ofInt lo)), (3, .int (Int32.ofInt hi')), (4, .int (Int32.ofInt ((j + 1 : Nat) : Int)))]) (fun p hp => ?_) (ih (j + 1) (by omega) (by omega) (by rw [← er]; exact (run_step hP n1 hj hb).symm))
      simp only [List.mem_cons, List.not_mem_nil, or_false] at hp
      rcases hp with h | h | h | h <;> simp [h, stL, Value.category, Int32.ofInt_add]
  refine V_iload (v := Int32.ofInt (i : Int)) mi_189_0 (by simp) ?_
  refine V_istore mi_189_1 ?_
  refine V_sub (lv' := [(0, .ref (ad 2)), (2, .int (Int32.ofInt lo)), (3, .int (Int32.ofInt hi')), (4, .int (Int32.ofInt (i : Int)))]) (fun p hp => ?_) (loop (n - i + 1) i (by omega) hi rfl)
  simp only [List.mem_cons, List.not_mem_nil, or_false] at hp
  rcases hp with h | h | h | h <;> simp [h, stL, Value.category]
/-- the class's number: cut off once it is above 999999 -/
noncomputable def numXS (B : Nat → Int) (E : Nat) : Nat → Nat → Int → Int
  | 0, _, v => v
  | f + 1, i, v => if i < E ∧ v < 1000000 then numXS B E f (i + 1) (v * 10 + B i - 48) else v
theorem num_cap {B : Nat → Int} {n : Nat} : ∀ {f i : Nat}, numS B n f i 99999 = 99999
  | 0, i => rfl
  | f + 1, i => by
    unfold numS
    split
    · next hp =>
      have hd : 48 ≤ seeS B n i := by
        unfold diB at hp
        rw [Bool.and_eq_true] at hp
        exact of_decide_eq_true hp.1
      rw [show min 99999 (10 * 99999 + seeS B n i - 48) = (99999 : Int) by omega]
      exact num_cap
    · rfl
end TKX
section TKY
variable {l : Launch} {D : va_G} {tys : List (ClassId × FieldType)} {A : Nat → Prop} {ad : Nat → Nat} {ws : va_W}
theorem dig_b {B : Nat → Int} {n i : Nat} {w : va_W} {c : Nat} (h : TB w c n B) (hi : i < n) (hd : diB (seeS B n i) = true) : 48 ≤ B i ∧ B i ≤ 57 ∧ seeS B n i = B i := by
  obtain ⟨-, b2, b3⟩ := h i hi
  unfold diB at hd
  rw [Bool.and_eq_true] at hd
  have d1 := of_decide_eq_true hd.1
  have d2 := of_decide_eq_true hd.2
  unfold seeS at d1 d2 ⊢
  rw [if_pos hi] at d1 d2 ⊢
  omega
/-- every byte of a run -/
theorem run_all {P : Int → Bool} {B : Nat → Int} {n : Nat} (hP : P (-1) = false) : ∀ {f i j : Nat}, i ≤ n → n - i < f → i ≤ j → j < runS P B n f i → P (seeS B n j) = true ∧ j < n
  | 0, i, j, _, h, _, _ => by omega
  | f + 1, i, j, hi, hf, h1, h2 => by
    unfold runS at h2
    split at h2
    · next hp =>
      have hl : i < n := see_lt (fun e => by rw [e, hP] at hp; cases hp)
      by_cases e : i = j
      · subst e; exact ⟨hp, hl⟩
      · exact run_all hP (by omega) (by omega) (by omega) h2
    · omega
theorem num_rel {B : Nat → Int} {n E : Nat} {w : va_W} {c : Nat} (hB : TB w c n B) (hE : E ≤ n) (he : diB (seeS B n E) = false) : ∀ (f g i : Nat) (v : Int), E - i < f → n - i < g → i ≤ E → 0 ≤ v → (∀ j, i ≤ j → j < E → diB (seeS B n j) = true) → min 99999 (numXS B E f i v) = numS B n g i (min 99999 v) ∧ 0 ≤ numXS B E f i v
  | 0, g, i, v, h, _, _, _, _ => by omega
  | _, 0, i, v, _, h, _, _, _ => by omega
  | f + 1, g + 1, i, v, h1, h2, hi, hv, hd => by
    by_cases hiE : i < E
    · have hdi := hd i (Nat.le_refl _) hiE
      obtain ⟨b1, b2, b3⟩ := dig_b hB (by omega) hdi
      by_cases hv6 : v < 1000000
      · have e1 : numXS B E (f + 1) i v = numXS B E f (i + 1) (v * 10 + B i - 48) := by
          show (if i < E ∧ v < 1000000 then _ else v) = _
          rw [if_pos ⟨hiE, hv6⟩]
        have e2 : numS B n (g + 1) i (min 99999 v) = numS B n g (i + 1) (min 99999 (10 * min 99999 v + seeS B n i - 48)) := by
          show (if diB (seeS B n i) = true then _ else _) = _
          rw [if_pos hdi]
        rw [e1, e2, b3, show min 99999 (10 * min 99999 v + B i - 48) = min 99999 (v * 10 + B i - 48) by omega]
        exact num_rel hB hE he f g (i + 1) (v * 10 + B i - 48) (by omega) (by omega) (by omega) (by omega) (fun j a b => hd j (by omega) b)
      · have e1 : numXS B E (f + 1) i v = v := by
          show (if i < E ∧ v < 1000000 then _ else v) = _
          rw [if_neg (fun q => hv6 q.2)]
        rw [e1, show min 99999 v = 99999 by omega]
        exact ⟨num_cap.symm, hv⟩
    · have e : i = E := by omega
      subst e
      have e1 : numXS B i (f + 1) i v = v := by
        show (if i < i ∧ v < 1000000 then _ else v) = _
        rw [if_neg (fun q => hiE q.1)]
      have e2 : numS B n (g + 1) i (min 99999 v) = min 99999 v := by
        show (if diB (seeS B n i) = true then _ else _) = _
        rw [if_neg (by rw [he]; exact Bool.false_ne_true)]
      rw [e1, e2]
      exact ⟨rfl, hv⟩
theorem numX_ct (hG : GOK ad tys GG ws) {n S E : Nat} {B : Nat → Int} (hT : TXX ws n B) (hS : rd ws 2 3 = some (.int (Int32.ofInt (S : Int)))) (hSE : S ≤ E) (hE : E ≤ n) (hd : ∀ j, S ≤ j → j < E → diB (seeS B n j) = true) : CT l D tys A 190 0 0 0 [.ref (ad 2), .int (Int32.ofInt (E : Int))] ws (fun r w' => w' = ws ∧ r = some (.int (Int32.ofInt (numXS B E 1401 S 0)))) := by
  have n1 := hT.2.1
  obtain ⟨s2, e2, t0, t1, -, t3, -, -⟩ := gx2a
  obtain ⟨s3, e3, f3⟩ := gt3
  refine CT_of_V (by omega) (show (2 : Nat) ≤ mML 190 by decide +kernel) ?_
  have lvs : lv_args 0 [Value.ref (ad 2), .int (Int32.ofInt (E : Int))] = [(0, .ref (ad 2)), (1, .int (Int32.ofInt (E : Int)))] := rfl
  rw [lvs]
  have loop : ∀ (f j : Nat) (v : Int), E - j < f → j ≤ E → S ≤ j → 0 ≤ v → v ≤ 10000000 → numXS B E f j v = numXS B E 1401 S 0 → V l D tys A 190 0 0 0 (fun r w' => w' = ws ∧ r = some (.int (Int32.ofInt (numXS B E 1401 S 0)))) 0 0 7 [(0, .ref (ad 2)), (1, .int (Int32.ofInt (E : Int))), (2, .int (Int32.ofInt v)), (3, .int (Int32.ofInt (j : Int)))] [] ws := by
    intro f
    induction f with
    | zero => intro j v h; omega
    | succ f ih =>
      intro j v hf hj hSj v0 v1 er
      have out : ¬ (j < E ∧ v < 1000000) → V l D tys A 190 0 0 0 (fun r w' => w' = ws ∧ r = some (.int (Int32.ofInt (numXS B E 1401 S 0)))) 0 0 52 [(0, .ref (ad 2)), (1, .int (Int32.ofInt (E : Int))), (2, .int (Int32.ofInt v)), (3, .int (Int32.ofInt (j : Int)))] [] ws := by
        intro hn
        refine V_iload (v := Int32.ofInt v) mi_190_52 (by simp) ?_
        refine V_retI mi_190_53 (fun h => absurd h (by decide +kernel)) ⟨rfl, ?_⟩
        rw [← er]
        show some (Value.int (Int32.ofInt v)) = some (.int (Int32.ofInt (if j < E ∧ v < 1000000 then _ else v)))
        rw [if_neg hn]
      refine V_iload (v := Int32.ofInt (j : Int)) mi_190_7 (by simp) ?_
      refine V_if mi_190_8 (fun h => absurd h (neg_n (by omega))) (fun _ => ?_)
      refine V_iload (v := Int32.ofInt (j : Int)) mi_190_11 (by simp) ?_
      refine V_iload (v := Int32.ofInt (E : Int)) mi_190_12 (by simp) ?_
      refine V_icmp mi_190_13 (fun h => out (by have := (ge_n (by omega) (by omega)).mp h; omega)) (fun h => ?_)
      have hjE : j < E := by
        rcases Nat.lt_or_ge j E with q | q
        · exact q
        · exact absurd ((ge_n (by omega) (by omega)).mpr q) h
      obtain ⟨b1, b2, b3⟩ := hT.2.2 j (by omega)
      obtain ⟨d1, d2, d3⟩ := dig_b hT.2.2 (by omega) (hd j hSj hjE)
      refine V_iload (v := Int32.ofInt (j : Int)) mi_190_16 (by simp) ?_
      refine V_aload (v := ad 2) mi_190_17 (by simp) ?_
      refine V_getO mi_190_18 hG e2 (rrO e2 t0 (by omega) hG) ?_
      refine V_lenA mi_190_21 hG e3 ?_
      refine V_icmp mi_190_22 (fun q => absurd ((ge_n (b := 1400) (by omega) (by omega)).mp q) (by omega)) (fun _ => ?_)
      refine V_iload (v := Int32.ofInt v) mi_190_25 (by simp) ?_
      refine V_ipush mi_190_26 ?_
      have c6 := cdP_iff (x := 3) (a := v) (b := 1000000) (by omega) (by omega) (by omega) (by omega)
      refine V_icmp mi_190_28 (fun h => out (by have h : 0 ≤ v - 1000000 := c6.mp h; omega)) (fun h6 => ?_)
      have h6 : ¬ (0 ≤ v - 1000000) := fun q => h6 (c6.mpr q)
      refine V_iload (v := Int32.ofInt v) mi_190_31 (by simp) ?_
      refine V_ipush mi_190_32 ?_
      refine V_ibin mi_190_34 (by omega) ?_
      refine V_aload (v := ad 2) mi_190_35 (by simp) ?_
      refine V_getO mi_190_36 hG e2 (rrO e2 t0 (by omega) hG) ?_
      refine V_iload (v := Int32.ofInt (j : Int)) mi_190_39 (by simp) ?_
      refine V_bldI (j := j) mi_190_40 rfl hG e3 (by omega) (by omega) b1 ?_
      refine V_ibin mi_190_41 (by omega) ?_
      refine V_ipush mi_190_42 ?_
      refine V_ibin mi_190_44 (by omega) ?_
      rw [show ibF 1 (ibF 0 (ibF 2 (Int32.ofInt v) (Int32.ofInt 10)) (Int32.ofInt (B j))) (Int32.ofInt 48) = Int32.ofInt (v * 10 + B j - 48) by show Int32.ofInt v * Int32.ofInt 10 + Int32.ofInt (B j) - Int32.ofInt 48 = _; rw [← Int32.ofInt_mul, ← Int32.ofInt_add, ← Int32.ofInt_sub]]
      refine V_istore mi_190_45 ?_
      refine V_iinc (v := Int32.ofInt (j : Int)) mi_190_46 (by simp [stL, Value.category]) ?_
      refine V_goto mi_190_49 ?_
      refine V_sub (lv' := [(0, .ref (ad 2)), (1, .int (Int32.ofInt (E : Int))), (2, .int (Int32.ofInt (v * 10 + B j - 48))), (3, .int (Int32.ofInt ((j + 1 : Nat) : Int)))]) (fun p hp => ?_) (ih (j + 1) (v * 10 + B j - 48) (by omega) (by omega) (by omega) (by omega) (by omega) (by
        rw [← er]
        show _ = (if j < E ∧ v < 1000000 then _ else v)
        rw [if_pos ⟨hjE, by omega⟩]))
      simp only [List.mem_cons, List.not_mem_nil, or_false] at hp
      rcases hp with h | h | h | h <;> simp [h, stL, Value.category, Int32.ofInt_add]
  refine V_ipush mi_190_0 ?_
  refine V_istore mi_190_1 ?_
  refine V_aload (v := ad 2) mi_190_2 (by simp [stL, Value.category]) ?_
  refine V_getO mi_190_3 hG e2 hS ?_
  refine V_istore mi_190_6 ?_
  refine V_sub (lv' := [(0, .ref (ad 2)), (1, .int (Int32.ofInt (E : Int))), (2, .int (Int32.ofInt 0)), (3, .int (Int32.ofInt (S : Int)))]) (fun p hp => ?_) (loop 1401 S 0 (by omega) hSE (Nat.le_refl _) (by omega) (by omega) rfl)
  simp only [List.mem_cons, List.not_mem_nil, or_false] at hp
  rcases hp with h | h | h | h <;> simp [h, stL, Value.category]
/-- nothing but the token's four places, on the class's side -/
noncomputable def TXO (w0 w : va_W) : Prop := ∀ c j, ¬ (c = 2 ∧ 2 ≤ j ∧ j ≤ 5) → rd w c j = rd w0 c j
theorem TXO_rf {w : va_W} : TXO w w := fun _ _ _ => rfl
theorem TXO_upd {w0 w w' : va_W} {j : Nat} {v : Value} (h : TXO w0 w) (hu : Upd1 w w' 2 j v) (h8 : 2 ≤ j) (h11 : j ≤ 5) : TXO w0 w' := fun c' j' hn => (upd_ne hu (fun q => hn ⟨q.1, by omega, by omega⟩)).trans (h c' j' hn)
/-- the number behind a token, on the class's side -/
noncomputable def tkN (B : Nat → Int) (n a : Nat) (v : Int) : Int := if tkC B n a = -1 then v else if leB (tkC B n a) = true then v else if diB (tkC B n a) = true then numXS B (tkE B n a) 1401 (tkI B n a) 0 else v
noncomputable def ADX (ad : Nat → Nat) (tys : List (ClassId × FieldType)) (B : Nat → Int) (n a : Nat) (v0 : Int) (w0 : va_W) (r : Option Value) (w : va_W) : Prop := r = none ∧ GOK ad tys GG w ∧ TXO w0 w ∧ rd w 2 2 = some (.int (Int32.ofInt (tkK B n a))) ∧ rd w 2 3 = some (.int (Int32.ofInt (tkI B n a : Int))) ∧ rd w 2 4 = some (.int (Int32.ofInt (tkE B n a : Int))) ∧ rd w 2 5 = some (.int (Int32.ofInt (tkN B n a v0)))
end TKY
section PUO
variable {l : Launch} {D : va_G} {tys : List (ClassId × FieldType)} {A : Nat → Prop} {ad : Nat → Nat} {ws : va_W} {k d : Nat} {post : Option Value → va_W → Prop} {pc : Nat} {lv : List (Nat × Value)} {st : List Value} {a : Int} {x y z : Nat}
end PUO
section TKZ
variable {l : Launch} {D : va_G} {tys : List (ClassId × FieldType)} {A : Nat → Prop} {ad : Nat → Nat} {ws : va_W}
noncomputable def LX1 (ad : Nat → Nat) (i : Nat) : List (Nat × Value) := [(0, .ref (ad 2)), (1, .int (Int32.ofInt (i : Int)))]
theorem lt_i {a b : Int} (a1 : -100000 ≤ a) (a2 : a ≤ 100000) (b1 : -100000 ≤ b) (b2 : b ≤ 100000) : cdP 2 (Int32.ofInt a) (Int32.ofInt b) ↔ a < b := by
  rw [cz a1 a2 b1 b2]
  show a - b < 0 ↔ _
  omega
theorem gt_i {a b : Int} (a1 : -100000 ≤ a) (a2 : a ≤ 100000) (b1 : -100000 ≤ b) (b2 : b ≤ 100000) : cdP 4 (Int32.ofInt a) (Int32.ofInt b) ↔ b < a := by
  rw [cz a1 a2 b1 b2]
  show a - b > 0 ↔ _
  omega
theorem adx_39 {w0 w : va_W} {n i a : Nat} {B : Nat → Int} {v0 : Int} (G : GOK ad tys GG w) (T : TXX w n B) (O : TXO w0 w) (hi : i ≤ n) (h5 : rd w 2 5 = some (.int (Int32.ofInt v0))) (ei : tkI B n a = i) (eb : blB (seeS B n i) = false) : V l D tys A 188 1 0 0 (ADX ad tys B n a v0 w0) 0 0 39 (LX1 ad i) [] w := by
  have n1 := T.2.1
  obtain ⟨m0, m1⟩ := see_bd B n i
  obtain ⟨s2, e2, t0, t1, t2, t3, t4, t5⟩ := gx2a
  have ta : (Int32.ofInt (i : Int)).toInt = (i : Int) := Int32.toInt_ofInt_of_le (by omega) (by omega)
  have hpl : leB (-1) = false := by decide
  have hpd : diB (-1) = false := by decide
  refine V_aload (v := ad 2) mi_188_39 (by simp [LX1]) ?_
  refine V_iload (v := Int32.ofInt (i : Int)) mi_188_40 (by simp [LX1]) ?_
  refine V_putO mi_188_41 G e2 t3 (by omega) rfl (by decide +kernel) (by omega) (by omega) (fun w1 G1 U1 => ?_)
  have T1 := TXX_upd T U1 (by omega)
  have O1 := TXO_upd O U1 (by omega) (by omega)
  have g3 : rd w1 2 3 = some (.int (Int32.ofInt (i : Int))) := upd_eq U1
  have g5 : rd w1 2 5 = some (.int (Int32.ofInt v0)) := (upd_ne U1 (by omega)).trans h5
  refine V_aload (v := ad 2) mi_188_44 (by simp [LX1]) ?_
  refine V_iload (v := Int32.ofInt (i : Int)) mi_188_45 (by simp [LX1]) ?_
  refine V_callO (c := 2) (As := [.int (Int32.ofInt (i : Int))]) (st := []) mi_188_46 (by omega) (by decide +kernel) (show mCi 186 = 9 by decide +kernel) (by omega) e2 G1 (bytX G1 T1 (by omega)) (by omega) (show 1 = mN 186 by decide +kernel) (by simp) ?_
  rintro r w' ⟨rfl, rfl⟩
  refine V_istore mi_188_49 ?_
  have l0 : (0, Value.ref (ad 2)) ∈ stL 2 (.int (Int32.ofInt (seeS B n i))) (LX1 ad i) := by simp [stL, LX1, Value.category]
  have l1 : (1, Value.int (Int32.ofInt (i : Int))) ∈ stL 2 (.int (Int32.ofInt (seeS B n i))) (LX1 ad i) := by simp [stL, LX1, Value.category]
  have l2 : (2, Value.int (Int32.ofInt (seeS B n i))) ∈ stL 2 (.int (Int32.ofInt (seeS B n i))) (LX1 ad i) := by simp [stL]
  refine V_iload (v := Int32.ofInt (seeS B n i)) mi_188_50 l2 ?_
  have c0 : cdP 3 (Int32.ofInt (seeS B n i)) 0 ↔ cdZ 3 (seeS B n i - 0) := cdP_iff (x := 3) (a := seeS B n i) (b := 0) (by omega) (by omega) (by omega) (by omega)
  by_cases hm1 : seeS B n i = -1
  · refine V_if mi_188_51 (fun h => absurd (show 0 ≤ seeS B n i - 0 from c0.mp h) (by omega)) (fun _ => ?_)
    refine V_aload (v := ad 2) mi_188_54 l0 ?_
    refine V_ipush mi_188_55 ?_
    refine V_putO mi_188_56 G1 e2 t2 (by omega) rfl (by decide +kernel) (by decide) (by decide) (fun w2 G2 U2 => ?_)
    refine V_aload (v := ad 2) mi_188_59 l0 ?_
    refine V_iload (v := Int32.ofInt (i : Int)) mi_188_60 l1 ?_
    refine V_putO mi_188_61 G2 e2 t4 (by omega) rfl (by decide +kernel) (by omega) (by omega) (fun w3 G3 U3 => ?_)
    refine V_goto mi_188_64 ?_
    unfold ADX tkK tkN tkE tkC
    rw [ei, if_pos hm1, if_pos hm1, if_pos hm1]
    exact V_retV mi_188_167 ⟨rfl, G3, TXO_upd (TXO_upd O1 U2 (by omega) (by omega)) U3 (by omega) (by omega), (upd_ne U3 (by omega)).trans (upd_eq U2), (upd_ne U3 (by omega)).trans ((upd_ne U2 (by omega)).trans g3), upd_eq U3, (upd_ne U3 (by omega)).trans ((upd_ne U2 (by omega)).trans g5)⟩
  have hin : i < n := see_lt hm1
  refine V_if mi_188_51 (fun _ => ?_) (fun h => absurd (c0.mpr (show 0 ≤ seeS B n i - 0 by omega)) h)
  have other : leB (seeS B n i) = false → V l D tys A 188 1 0 0 (ADX ad tys B n a v0 w0) 0 0 100 (stL 2 (.int (Int32.ofInt (seeS B n i))) (LX1 ad i)) [] w' := by
    intro hl
    have sign : diB (seeS B n i) = false → V l D tys A 188 1 0 0 (ADX ad tys B n a v0 w0) 0 0 145 (stL 2 (.int (Int32.ofInt (seeS B n i))) (LX1 ad i)) [] w' := by
      intro hd
      have fin : ∀ t : Int, 0 ≤ t → t ≤ 4 → t = (if seeS B n i = 59 then 3 else 4) → V l D tys A 188 1 0 0 (ADX ad tys B n a v0 w0) 0 0 157 (stL 2 (.int (Int32.ofInt (seeS B n i))) (LX1 ad i)) [.int (Int32.ofInt t), .ref (ad 2)] w' := by
        intro t q0 q4 et
        have tt : (Int32.ofInt t).toInt = t := Int32.toInt_ofInt_of_le (by omega) (by omega)
        refine V_putO mi_188_157 G1 e2 t2 (by omega) rfl (by decide +kernel) (by omega) (by omega) (fun w2 G2 U2 => ?_)
        refine V_aload (v := ad 2) mi_188_160 l0 ?_
        refine V_iload (v := Int32.ofInt (i : Int)) mi_188_161 l1 ?_
        refine V_ipush mi_188_162 ?_
        refine V_ibin mi_188_163 (by omega) ?_
        rw [addn1]
        have t1' : (Int32.ofInt ((i + 1 : Nat) : Int)).toInt = ((i + 1 : Nat) : Int) := Int32.toInt_ofInt_of_le (by omega) (by omega)
        refine V_putO mi_188_164 G2 e2 t4 (by omega) rfl (by decide +kernel) (by omega) (by omega) (fun w3 G3 U3 => ?_)
        unfold ADX tkK tkN tkE tkC
        rw [ei, if_neg hm1, if_neg hm1, if_neg hm1, hl, hd]
        simp only [Bool.false_eq_true, if_false]
        rw [← et]
        exact V_retV mi_188_167 ⟨rfl, G3, TXO_upd (TXO_upd O1 U2 (by omega) (by omega)) U3 (by omega) (by omega), (upd_ne U3 (by omega)).trans (upd_eq U2), (upd_ne U3 (by omega)).trans ((upd_ne U2 (by omega)).trans g3), upd_eq U3, (upd_ne U3 (by omega)).trans ((upd_ne U2 (by omega)).trans g5)⟩
      refine V_aload (v := ad 2) mi_188_145 l0 ?_
      refine V_iload (v := Int32.ofInt (seeS B n i)) mi_188_146 l2 ?_
      refine V_ipush mi_188_147 ?_
      have h59 := cdP_iff (x := 1) (a := seeS B n i) (b := 59) (by omega) (by omega) (by omega) (by omega)
      refine V_icmp mi_188_149 (fun h => ?_) (fun h => ?_)
      · have h : seeS B n i - 59 ≠ 0 := h59.mp h
        refine V_ipush mi_188_156 ?_
        exact fin 4 (by omega) (by omega) (by rw [if_neg (by omega)])
      · have h : ¬ (seeS B n i - 59 ≠ 0) := fun q => h (h59.mpr q)
        refine V_ipush mi_188_152 ?_
        refine V_goto mi_188_153 ?_
        exact fin 3 (by omega) (by omega) (by rw [if_pos (by omega)])
    refine V_iload (v := Int32.ofInt (seeS B n i)) mi_188_100 l2 ?_
    refine V_ipush mi_188_101 ?_
    refine V_icmp mi_188_103 (fun h => sign (by
      have := (lt_i (by omega) (by omega) (by omega) (by omega)).mp h
      unfold diB; rw [decide_eq_false (show ¬ (48 : Int) ≤ seeS B n i by omega)]; rfl)) (fun h48 => ?_)
    have h48 : ¬ seeS B n i < 48 := fun q => h48 ((lt_i (by omega) (by omega) (by omega) (by omega)).mpr q)
    refine V_iload (v := Int32.ofInt (seeS B n i)) mi_188_106 l2 ?_
    refine V_ipush mi_188_107 ?_
    refine V_icmp mi_188_109 (fun h => sign (by
      have := (gt_i (by omega) (by omega) (by omega) (by omega)).mp h
      unfold diB; rw [decide_eq_false (show ¬ seeS B n i ≤ 57 by omega), Bool.and_false])) (fun h57 => ?_)
    have h57 : ¬ 57 < seeS B n i := fun q => h57 ((gt_i (by omega) (by omega) (by omega) (by omega)).mpr q)
    have hd : diB (seeS B n i) = true := by unfold diB; rw [decide_eq_true (show (48 : Int) ≤ seeS B n i by omega), decide_eq_true (show seeS B n i ≤ 57 by omega)]; rfl
    have eE : tkE B n a = runS diB B n 1401 i := by
      unfold tkE tkC
      rw [ei, if_neg hm1, hl, hd]
      simp only [Bool.false_eq_true, if_false, if_true]
    have hle := run_le (B := B) hpd (f := 1401) hi
    have hge : i ≤ runS diB B n 1401 i := run_ge
    have te : (Int32.ofInt ((runS diB B n 1401 i : Nat) : Int)).toInt = ((runS diB B n 1401 i : Nat) : Int) := Int32.toInt_ofInt_of_le (by omega) (by omega)
    refine V_aload (v := ad 2) mi_188_112 l0 ?_
    refine V_ipush mi_188_113 ?_
    refine V_putO mi_188_114 G1 e2 t2 (by omega) rfl (by decide +kernel) (by decide) (by decide) (fun w2 G2 U2 => ?_)
    have T2 := TXX_upd T1 U2 (by omega)
    have O2 := TXO_upd O1 U2 (by omega) (by omega)
    refine V_aload (v := ad 2) mi_188_117 l0 ?_
    refine V_aload (v := ad 2) mi_188_118 l0 ?_
    refine V_iload (v := Int32.ofInt (i : Int)) mi_188_119 l1 ?_
    refine V_ipush mi_188_120 ?_
    refine V_ipush mi_188_122 ?_
    refine V_callO (c := 2) (As := [.int (Int32.ofInt (i : Int)), .int (Int32.ofInt 48), .int (Int32.ofInt 57)]) (st := [.ref (ad 2)]) mi_188_124 (by omega) (by decide +kernel) (show mCi 189 = 9 by decide +kernel) (by omega) e2 G2 (runX G2 T2 (by omega) (by omega) (by omega) (by omega) hi) (by omega) (show 3 = mN 189 by decide +kernel) (by simp [Value.category]) ?_
    rintro r w'' ⟨rfl, rfl⟩
    refine V_putO mi_188_127 G2 e2 t4 (by omega) rfl (by decide +kernel) (by show (0 : Int) ≤ (Int32.ofInt ((runS diB B n 1401 i : Nat) : Int)).toInt; omega) (by show (Int32.ofInt ((runS diB B n 1401 i : Nat) : Int)).toInt ≤ 1401; omega) (fun w3 G3 U3 => ?_)
    have T3 := TXX_upd T2 U3 (by omega)
    have O3 := TXO_upd O2 U3 (by omega) (by omega)
    have q3 : rd w3 2 3 = some (.int (Int32.ofInt (i : Int))) := (upd_ne U3 (by omega)).trans ((upd_ne U2 (by omega)).trans g3)
    refine V_aload (v := ad 2) mi_188_130 l0 ?_
    refine V_aload (v := ad 2) mi_188_131 l0 ?_
    refine V_aload (v := ad 2) mi_188_132 l0 ?_
    refine V_getO mi_188_133 G3 e2 (upd_eq U3) ?_
    refine V_callO (c := 2) (As := [.int (Int32.ofInt ((runS diB B n 1401 i : Nat) : Int))]) (st := [.ref (ad 2)]) mi_188_136 (by omega) (by decide +kernel) (show mCi 190 = 9 by decide +kernel) (by omega) e2 G3 (numX_ct G3 T3 q3 hge hle (fun j a b => (run_all hpd hi (by omega) a b).1)) (by omega) (show 1 = mN 190 by decide +kernel) (by simp [Value.category]) ?_
    rintro r w''' ⟨rfl, rfl⟩
    have b1 := Int32.le_toInt (Int32.ofInt (numXS B (runS diB B n 1401 i) 1401 i 0))
    have b2 := Int32.toInt_lt (Int32.ofInt (numXS B (runS diB B n 1401 i) 1401 i 0))
    refine V_putO mi_188_139 G3 e2 t5 (by omega) rfl (by decide +kernel) (by omega) (by omega) (fun w4 G4 U4 => ?_)
    refine V_goto mi_188_142 ?_
    refine V_retV mi_188_167 ⟨rfl, G4, TXO_upd O3 U4 (by omega) (by omega), ?_, ?_, ?_, ?_⟩
    · rw [upd_ne U4 (by omega), upd_ne U3 (by omega), upd_eq U2]
      unfold tkK tkC
      rw [ei, if_neg hm1, hl, hd]
      rfl
    · rw [upd_ne U4 (by omega), q3, ei]
    · rw [upd_ne U4 (by omega), eE]
      exact upd_eq U3
    · rw [upd_eq U4]
      unfold tkN tkC
      rw [ei, if_neg hm1, hl, hd, eE]
      rfl
  refine V_iload (v := Int32.ofInt (seeS B n i)) mi_188_67 l2 ?_
  refine V_ipush mi_188_68 ?_
  refine V_icmp mi_188_70 (fun h => other (by
    have := (lt_i (by omega) (by omega) (by omega) (by omega)).mp h
    unfold leB; rw [decide_eq_false (show ¬ (97 : Int) ≤ seeS B n i by omega)]; rfl)) (fun h97 => ?_)
  have h97 : ¬ seeS B n i < 97 := fun q => h97 ((lt_i (by omega) (by omega) (by omega) (by omega)).mpr q)
  refine V_iload (v := Int32.ofInt (seeS B n i)) mi_188_73 l2 ?_
  refine V_ipush mi_188_74 ?_
  refine V_icmp mi_188_76 (fun h => other (by
    have := (gt_i (by omega) (by omega) (by omega) (by omega)).mp h
    unfold leB; rw [decide_eq_false (show ¬ seeS B n i ≤ 122 by omega), Bool.and_false])) (fun h122 => ?_)
  have h122 : ¬ 122 < seeS B n i := fun q => h122 ((gt_i (by omega) (by omega) (by omega) (by omega)).mpr q)
  have hl : leB (seeS B n i) = true := by unfold leB; rw [decide_eq_true (show (97 : Int) ≤ seeS B n i by omega), decide_eq_true (show seeS B n i ≤ 122 by omega)]; rfl
  have hle := run_le (B := B) hpl (f := 1401) hi
  have te : (Int32.ofInt ((runS leB B n 1401 i : Nat) : Int)).toInt = ((runS leB B n 1401 i : Nat) : Int) := Int32.toInt_ofInt_of_le (by omega) (by omega)
  refine V_aload (v := ad 2) mi_188_79 l0 ?_
  refine V_ipush mi_188_80 ?_
  refine V_putO mi_188_81 G1 e2 t2 (by omega) rfl (by decide +kernel) (by decide) (by decide) (fun w2 G2 U2 => ?_)
  have T2 := TXX_upd T1 U2 (by omega)
  have O2 := TXO_upd O1 U2 (by omega) (by omega)
  refine V_aload (v := ad 2) mi_188_84 l0 ?_
  refine V_aload (v := ad 2) mi_188_85 l0 ?_
  refine V_iload (v := Int32.ofInt (i : Int)) mi_188_86 l1 ?_
  refine V_ipush mi_188_87 ?_
  refine V_ipush mi_188_89 ?_
  refine V_callO (c := 2) (As := [.int (Int32.ofInt (i : Int)), .int (Int32.ofInt 97), .int (Int32.ofInt 122)]) (st := [.ref (ad 2)]) mi_188_91 (by omega) (by decide +kernel) (show mCi 189 = 9 by decide +kernel) (by omega) e2 G2 (runX G2 T2 (by omega) (by omega) (by omega) (by omega) hi) (by omega) (show 3 = mN 189 by decide +kernel) (by simp [Value.category]) ?_
  rintro r w'' ⟨rfl, rfl⟩
  refine V_putO mi_188_94 G2 e2 t4 (by omega) rfl (by decide +kernel) (by show (0 : Int) ≤ (Int32.ofInt ((runS leB B n 1401 i : Nat) : Int)).toInt; omega) (by show (Int32.ofInt ((runS leB B n 1401 i : Nat) : Int)).toInt ≤ 1401; omega) (fun w3 G3 U3 => ?_)
  refine V_goto mi_188_97 ?_
  unfold ADX tkK tkN tkE tkC
  rw [ei, if_neg hm1, if_neg hm1, if_neg hm1, hl]
  exact V_retV mi_188_167 ⟨rfl, G3, TXO_upd O2 U3 (by omega) (by omega), (upd_ne U3 (by omega)).trans (upd_eq U2), (upd_ne U3 (by omega)).trans ((upd_ne U2 (by omega)).trans g3), upd_eq U3, (upd_ne U3 (by omega)).trans ((upd_ne U2 (by omega)).trans g5)⟩
theorem adx_5 {w : va_W} {n a : Nat} {B : Nat → Int} {v0 : Int} (G : GOK ad tys GG w) (T : TXX w n B) (h5 : rd w 2 5 = some (.int (Int32.ofInt v0))) : ∀ (f i : Nat), n - i < f → i ≤ n → tkI B n a = runS blB B n 1401 i → V l D tys A 188 1 0 0 (ADX ad tys B n a v0 w) 0 0 5 (LX1 ad i) [] w
  | 0, i, h, _, _ => by omega
  | f + 1, i, h, hi, ei => by
    have n1 := T.2.1
    obtain ⟨m0, m1⟩ := see_bd B n i
    obtain ⟨s2, e2, t0, t1, t2, t3, t4, t5⟩ := gx2a
    have out : blB (seeS B n i) = false → V l D tys A 188 1 0 0 (ADX ad tys B n a v0 w) 0 0 39 (LX1 ad i) [] w := fun hb => adx_39 G T TXO_rf hi h5 (ei.trans (run_stop hb)) hb
    have go33 : blB (seeS B n i) = true → V l D tys A 188 1 0 0 (ADX ad tys B n a v0 w) 0 0 33 (LX1 ad i) [] w := by
      intro hb
      have hin : i < n := see_lt (fun e => by rw [e] at hb; exact absurd hb (by decide))
      refine V_iinc (v := Int32.ofInt (i : Int)) mi_188_33 (by simp [LX1]) ?_
      refine V_goto mi_188_36 ?_
      refine V_sub (lv' := LX1 ad (i + 1)) (fun p hp => ?_) (adx_5 G T h5 f (i + 1) (by omega) (by omega) (ei.trans (run_step (by decide) n1 hi hb)))
      simp only [LX1, List.mem_cons, List.not_mem_nil, or_false] at hp
      rcases hp with h | h <;> simp [h, LX1, stL, Value.category, Int32.ofInt_add]
    refine V_iload (v := Int32.ofInt (i : Int)) mi_188_5 (by simp [LX1]) ?_
    refine V_aload (v := ad 2) mi_188_6 (by simp [LX1]) ?_
    refine V_getO mi_188_7 G e2 T.1 ?_
    refine V_icmp mi_188_10 (fun h => out (by
      have := (ge_n (by omega) (by omega)).mp h
      have e : seeS B n i = -1 := by unfold seeS; rw [if_neg (by omega)]
      rw [e]; decide)) (fun _ => ?_)
    refine V_aload (v := ad 2) mi_188_13 (by simp [LX1]) ?_
    refine V_iload (v := Int32.ofInt (i : Int)) mi_188_14 (by simp [LX1]) ?_
    refine V_callO (c := 2) (As := [.int (Int32.ofInt (i : Int))]) (st := []) mi_188_15 (by omega) (by decide +kernel) (show mCi 186 = 9 by decide +kernel) (by omega) e2 G (bytX G T (by omega)) (by omega) (show 1 = mN 186 by decide +kernel) (by simp) ?_
    rintro r w' ⟨rfl, rfl⟩
    refine V_ipush mi_188_18 ?_
    have c1 := cdP_iff (x := 0) (a := seeS B n i) (b := 32) (by omega) (by omega) (by omega) (by omega)
    refine V_icmp mi_188_20 (fun h => go33 (by
      have h : seeS B n i - 32 = 0 := c1.mp h
      unfold blB
      rw [decide_eq_true (show seeS B n i = 32 by omega), Bool.true_or])) (fun hn32 => ?_)
    refine V_aload (v := ad 2) mi_188_23 (by simp [LX1]) ?_
    refine V_iload (v := Int32.ofInt (i : Int)) mi_188_24 (by simp [LX1]) ?_
    refine V_callO (c := 2) (As := [.int (Int32.ofInt (i : Int))]) (st := []) mi_188_25 (by omega) (by decide +kernel) (show mCi 186 = 9 by decide +kernel) (by omega) e2 G (bytX G T (by omega)) (by omega) (show 1 = mN 186 by decide +kernel) (by simp) ?_
    rintro r w' ⟨rfl, rfl⟩
    refine V_ipush mi_188_28 ?_
    have c2 := cdP_iff (x := 1) (a := seeS B n i) (b := 10) (by omega) (by omega) (by omega) (by omega)
    refine V_icmp mi_188_30 (fun hn10 => out (by
      have h1 : seeS B n i - 10 ≠ 0 := c2.mp hn10
      have h2 : ¬ (seeS B n i - 32 = 0) := fun q => hn32 (c1.mpr q)
      unfold blB
      rw [decide_eq_false (show ¬ seeS B n i = 32 by omega), decide_eq_false (show ¬ seeS B n i = 10 by omega)]
      rfl)) (fun h => go33 (by
      have : ¬ (seeS B n i - 10 ≠ 0) := fun q => h (c2.mpr q)
      unfold blB
      rw [decide_eq_true (show seeS B n i = 10 by omega), Bool.or_true]))
theorem adx_ct (hG : GOK ad tys GG ws) {n a : Nat} {B : Nat → Int} {v0 : Int} (T : TXX ws n B) (ha : a ≤ n) (h4 : rd ws 2 4 = some (.int (Int32.ofInt (a : Int)))) (h5 : rd ws 2 5 = some (.int (Int32.ofInt v0))) : CT l D tys A 188 1 0 0 [.ref (ad 2)] ws (ADX ad tys B n a v0 ws) := by
  refine CT_of_V (by omega) (show (1 : Nat) ≤ mML 188 by decide +kernel) ?_
  obtain ⟨s2, e2, t0, t1, t2, t3, t4, t5⟩ := gx2a
  refine V_aload (v := ad 2) mi_188_0 (List.Mem.head _) ?_
  refine V_getO mi_188_1 hG e2 h4 ?_
  refine V_istore mi_188_4 ?_
  refine V_sub (lv' := LX1 ad a) (fun p hp => ?_) (adx_5 hG T h5 (n - a + 1) a (by omega) ha rfl)
  simp only [LX1, List.mem_cons, List.not_mem_nil, or_false] at hp
  rcases hp with h | h <;> simp [h, stL, lv_args, Value.category]
end TKZ
section TKW
variable {l : Launch} {D : va_G} {tys : List (ClassId × FieldType)} {A : Nat → Prop} {ad : Nat → Nat} {ws : va_W}
/-- a word's letters stand in the text from a place on -/
noncomputable def wdR (B : Nat → Int) (n S : Nat) (cs : List Int32) : Nat → Nat → Bool
  | 0, _ => true
  | m + 1, j => decide (seeS B n (S + j) = (cs.getD j 0).toInt) && wdR B n S cs m (j + 1)
noncomputable def wdS (B : Nat → Int) (n S E : Nat) (cs : List Int32) : Bool := decide ((E : Int) - S = cs.length) && wdR B n S cs cs.length 0
theorem wd_one {B : Nat → Int} {n p c : Nat} {w : va_W} (h : TB w c n B) (hp : p < n) {v : Int32} (v1 : 97 ≤ v.toInt) (v2 : v.toInt ≤ 122) : Int32.ofInt (B p) = v ↔ seeS B n p = v.toInt := by
  obtain ⟨-, b1, b2⟩ := h p hp
  have e : (Int32.ofInt (B p)).toInt = B p := Int32.toInt_ofInt_of_le (by omega) (by omega)
  have s : seeS B n p = B p % 256 := by unfold seeS; rw [if_pos hp]
  rw [s]
  constructor
  · intro q
    rw [← q, e]
    rw [← q, e] at v1
    omega
  · intro q
    have : B p = v.toInt := by omega
    rw [this, Int32.ofInt_toInt]
theorem isx_loop {i : Nat} {q : String × Nat × String × List Int32} {n S : Nat} {B : Nat → Int} (hq : xsT[i]? = some q) (hl : q.2.2.2.length ≤ 9) (T : TXM ws n B) (hf : rd ws 90 9 = some (.int (Int32.ofInt (S : Int)))) (ft : S + q.2.2.2.length ≤ n) : ∀ (m j : Nat), j + m = q.2.2.2.length → ∀ w : va_W, GOK ad tys GG w → SAME ws w → V l D tys A 216 4 0 0 (fun r w' => w' = w ∧ r = some (.int (bI (wdR B n S q.2.2.2 m j)))) 0 0 39 (LI D ad i (Int32.ofInt 1) j) [] w
  | 0, j, h, w, hw, hS => by
    refine V_iload (v := Int32.ofInt (j : Int)) mi_216_39 (by simp [LI]) ?_
    refine V_aload (v := D.2 1000 i) mi_216_40 (by simp [LI]) ?_
    refine V_callS (As := []) (st := [.int (Int32.ofInt (j : Int))]) mi_216_41 (by omega) (len_ct hq) (by omega) (show 0 = mN 345 by decide +kernel) hq (by decide +kernel) (by simp [Value.category]) ?_
    rintro r w' ⟨rfl, rfl⟩
    have hc := cdP_iff (x := 3) (a := (j : Int)) (b := (q.2.2.2.length : Int)) (by omega) (by omega) (by omega) (by omega)
    refine V_icmp mi_216_44 (fun _ => ?_) (fun h1 => absurd (hc.mpr (show 0 ≤ (j : Int) - q.2.2.2.length by omega)) h1)
    refine V_iload (v := Int32.ofInt 1) mi_216_82 (by simp [LI]) ?_
    exact V_retI mi_216_83 (fun _ => by decide) ⟨rfl, rfl⟩
  | m + 1, j, h, w, hw, hS => by
    obtain ⟨s4, e4, f4⟩ := gt94
    have n1 := T.2.1
    have hB := T.2.2
    obtain ⟨b1, b2, b3⟩ := hB (S + j) (by omega)
    obtain ⟨x1, x2⟩ := xb hq (j := j) (by omega)
    have hone := wd_one hB (p := S + j) (by omega) x1 x2
    refine V_iload (v := Int32.ofInt (j : Int)) mi_216_39 (by simp [LI]) ?_
    refine V_aload (v := D.2 1000 i) mi_216_40 (by simp [LI]) ?_
    refine V_callS (As := []) (st := [.int (Int32.ofInt (j : Int))]) mi_216_41 (by omega) (len_ct hq) (by omega) (show 0 = mN 345 by decide +kernel) hq (by decide +kernel) (by simp [Value.category]) ?_
    rintro r w' ⟨rfl, rfl⟩
    have hc := cdP_iff (x := 3) (a := (j : Int)) (b := (q.2.2.2.length : Int)) (by omega) (by omega) (by omega) (by omega)
    refine V_icmp mi_216_44 (fun h1 => absurd (show 0 ≤ (j : Int) - q.2.2.2.length from hc.mp h1) (by omega)) (fun _ => ?_)
    refine V_iload (v := Int32.ofInt 1) mi_216_47 (by simp [LI]) ?_
    refine V_if mi_216_48 (fun h1 => absurd (show (1 : Int32) = 0 from h1) (by decide)) (fun _ => ?_)
    refine V_aload (v := ad 90) mi_216_51 (by simp [LI]) ?_
    refine V_getI mi_216_52 hw (rref gr4 (by omega) hw) ?_
    refine V_aload (v := ad 90) mi_216_55 (by simp [LI]) ?_
    refine V_getI mi_216_56 hw ((hS 90 9).trans hf) ?_
    refine V_iload (v := Int32.ofInt (j : Int)) mi_216_59 (by simp [LI]) ?_
    refine V_ibin mi_216_60 (by omega) ?_
    have ei : ibF 0 (Int32.ofInt (S : Int)) (Int32.ofInt (j : Int)) = Int32.ofInt (((S + j : Nat)) : Int) := by
      show Int32.ofInt (S : Int) + Int32.ofInt (j : Int) = _
      rw [← Int32.ofInt_add]; rfl
    refine V_bldI (j := S + j) mi_216_61 ei hw e4 (by omega) (by omega) ((hS _ _).trans b1) ?_
    refine V_aload (v := D.2 1000 i) mi_216_62 (by simp [LI]) ?_
    refine V_iload (v := Int32.ofInt (j : Int)) mi_216_63 (by simp [LI]) ?_
    refine V_callS (As := [.int (Int32.ofInt (j : Int))]) (st := [.int (Int32.ofInt (B (S + j)))]) mi_216_64 (by omega) (chr_ct hq (by omega) hl) (by omega) (show 1 = mN 346 by decide +kernel) hq (by decide +kernel) (by simp [Value.category]) ?_
    rintro r w'' ⟨rfl, rfl⟩
    unfold wdR
    by_cases heq : Int32.ofInt (B (S + j)) = q.2.2.2.getD j 0
    · rw [decide_eq_true (hone.mp heq), Bool.true_and]
      refine V_icmp mi_216_67 (fun h1 => absurd heq h1) (fun _ => ?_)
      refine V_ipush mi_216_70 ?_
      refine V_goto mi_216_71 ?_
      refine V_istore mi_216_75 ?_
      refine V_iinc (v := Int32.ofInt (j : Int)) mi_216_76 (by simp [LI, stL, Value.category]) ?_
      refine V_goto mi_216_79 ?_
      refine V_sub (lv' := LI D ad i (Int32.ofInt 1) (j + 1)) (fun p hp => ?_) (isx_loop hq hl T hf ft m (j + 1) (by omega) _ hw hS)
      simp only [LI, List.mem_cons, List.not_mem_nil, or_false] at hp
      rcases hp with h | h | h | h <;> simp [h, LI, stL, Value.category, Int32.ofInt_add]
    · rw [decide_eq_false (fun h => heq (hone.mpr h)), Bool.false_and]
      refine V_icmp mi_216_67 (fun _ => ?_) (fun h1 => absurd heq h1)
      refine V_ipush mi_216_74 ?_
      refine V_istore mi_216_75 ?_
      refine V_iinc (v := Int32.ofInt (j : Int)) mi_216_76 (by simp [LI, stL, Value.category]) ?_
      refine V_goto mi_216_79 ?_
      refine V_sub (lv' := LI D ad i (Int32.ofInt 0) (j + 1)) (fun p hp => ?_) (is_zero hq hl (by omega))
      simp only [LI, List.mem_cons, List.not_mem_nil, or_false] at hp
      rcases hp with h | h | h | h <;> simp [h, LI, stL, Value.category, Int32.ofInt_add]
/-- what M's `is` answers: no fault yet, a word, and these letters -/
noncomputable def isB (f K : Int) (B : Nat → Int) (n S E : Nat) (cs : List Int32) : Bool := decide (f = 0) && (decide (K = 1) && wdS B n S E cs)
theorem isx_ct {i : Nat} {q : String × Nat × String × List Int32} (hq : xsT[i]? = some q) (hl : q.2.2.2.length ≤ 9) (hl1 : 1 ≤ q.2.2.2.length) (hw : GOK ad tys GG ws) {n S E : Nat} {B : Nat → Int} {f K : Int} (T : TXM ws n B) (hf : rd ws 90 12 = some (.int (Int32.ofInt f))) (f0 : 0 ≤ f) (f3 : f ≤ 3) (ht : rd ws 90 10 = some (.int (Int32.ofInt K))) (k0 : 0 ≤ K) (k4 : K ≤ 4) (ha : rd ws 90 8 = some (.int (Int32.ofInt (E : Int)))) (hr : rd ws 90 9 = some (.int (Int32.ofInt (S : Int)))) (hE : E ≤ n) (hSE : S ≤ E) : CT l D tys A 216 4 0 0 [.ref (ad 90), .ref (D.2 1000 i)] ws (fun r w' => w' = ws ∧ r = some (.int (bI (isB f K B n S E q.2.2.2)))) := by
  refine CT_of_V (by omega) (show (2 : Nat) ≤ mML 216 by decide +kernel) ?_
  have n1 := T.2.1
  have z36 : isB f K B n S E q.2.2.2 = false → V l D tys A 216 4 0 0 (fun r w' => w' = ws ∧ r = some (.int (bI (isB f K B n S E q.2.2.2)))) 0 0 35 [(0, .ref (ad 90)), (1, .ref (D.2 1000 i))] [] ws := by
    intro hb
    rw [hb]
    refine V_ipush mi_216_35 ?_
    refine V_istore mi_216_36 ?_
    refine V_ipush mi_216_37 ?_
    refine V_istore mi_216_38 ?_
    refine V_sub (lv' := LI D ad i (Int32.ofInt 0) 0) (fun p hp => ?_) (is_zero hq hl (by omega))
    simp only [LI, List.mem_cons, List.not_mem_nil, or_false] at hp
    rcases hp with h | h | h | h <;> simp [h, LI, stL, Value.category]
  refine V_aload (v := ad 90) mi_216_0 (List.Mem.head _) ?_
  refine V_callM (As := []) (st := []) mi_216_1 (by omega) (by decide +kernel) (by decide +kernel) hw (good_ct hw hf f0 f3) (by omega) (show 0 = mN 214 by decide +kernel) (by simp) ?_
  rintro r w' ⟨rfl, rfl⟩
  by_cases hf0 : f = 0
  · rw [if_pos hf0]
    refine V_if mi_216_4 (fun h1 => absurd (show (1 : Int32) = 0 from h1) (by decide)) (fun _ => ?_)
    refine V_aload (v := ad 90) mi_216_7 (List.Mem.head _) ?_
    refine V_getI mi_216_8 hw ht ?_
    refine V_ipush mi_216_11 ?_
    have hc := cdP_iff (x := 1) (a := K) (b := 1) (by omega) (by omega) (by omega) (by omega)
    refine V_icmp mi_216_12 (fun h1 => z36 (by
      have : ¬ K = 1 := fun q => (show K - 1 ≠ 0 from hc.mp h1) (by omega)
      unfold isB
      rw [decide_eq_false this, Bool.false_and, Bool.and_false])) (fun h1 => ?_)
    have ht1 : K = 1 := by
      have : ¬ (K - 1 ≠ 0) := fun qq => h1 (hc.mpr qq)
      omega
    refine V_aload (v := ad 90) mi_216_15 (List.Mem.head _) ?_
    refine V_getI mi_216_16 hw ha ?_
    refine V_aload (v := ad 90) mi_216_19 (List.Mem.head _) ?_
    refine V_getI mi_216_20 hw hr ?_
    refine V_ibin mi_216_23 (by omega) ?_
    rw [show ibF 1 (Int32.ofInt (E : Int)) (Int32.ofInt (S : Int)) = Int32.ofInt ((E : Int) - S) by show Int32.ofInt (E : Int) - Int32.ofInt (S : Int) = _; rw [← Int32.ofInt_sub]]
    refine V_aload (v := D.2 1000 i) mi_216_24 (List.Mem.tail _ (List.Mem.head _)) ?_
    refine V_callS (As := []) (st := [.int (Int32.ofInt ((E : Int) - S))]) mi_216_25 (by omega) (len_ct hq) (by omega) (show 0 = mN 345 by decide +kernel) hq (by decide +kernel) (by simp [Value.category]) ?_
    rintro r w'' ⟨rfl, rfl⟩
    have hd := cdP_iff (x := 1) (a := (E : Int) - S) (b := (q.2.2.2.length : Int)) (by omega) (by omega) (by omega) (by omega)
    refine V_icmp mi_216_28 (fun h2 => z36 (by
      have : ¬ (E : Int) - S = q.2.2.2.length := fun e => (show (E : Int) - S - q.2.2.2.length ≠ 0 from hd.mp h2) (by omega)
      unfold isB wdS
      rw [decide_eq_false this, Bool.false_and, Bool.and_false, Bool.and_false])) (fun h2 => ?_)
    have hlen : (E : Int) - S = q.2.2.2.length := by
      have : ¬ ((E : Int) - S - q.2.2.2.length ≠ 0) := fun qq => h2 (hd.mpr qq)
      omega
    have hbe : isB f K B n S E q.2.2.2 = wdR B n S q.2.2.2 q.2.2.2.length 0 := by
      unfold isB wdS
      rw [decide_eq_true hf0, decide_eq_true ht1, decide_eq_true hlen, Bool.true_and, Bool.true_and, Bool.true_and]
    rw [hbe]
    refine V_ipush mi_216_31 ?_
    refine V_goto mi_216_32 ?_
    refine V_istore mi_216_36 ?_
    refine V_ipush mi_216_37 ?_
    refine V_istore mi_216_38 ?_
    refine V_sub (lv' := LI D ad i (Int32.ofInt 1) 0) (fun p hp => ?_) (isx_loop hq hl T hr (by omega) _ 0 (by omega) _ hw (fun _ _ => rfl))
    simp only [LI, List.mem_cons, List.not_mem_nil, or_false] at hp
    rcases hp with h | h | h | h <;> simp [h, LI, stL, lv_args, Value.category]
  · rw [if_neg hf0]
    refine V_if mi_216_4 (fun _ => z36 (by unfold isB; rw [decide_eq_false hf0, Bool.false_and])) (fun h1 => absurd (show (0 : Int32) = 0 from rfl) h1)
end TKW
section TKY
variable {l : Launch} {D : va_G} {tys : List (ClassId × FieldType)} {A : Nat → Prop} {ad : Nat → Nat} {ws : va_W}
noncomputable def LW (D : va_G) (ad : Nat → Nat) (i j : Nat) : List (Nat × Value) := [(0, .ref (ad 2)), (1, .ref (D.2 1000 i)), (2, .int (Int32.ofInt (j : Int)))]
theorem see_i {B : Nat → Int} {n p : Nat} {v : Int32} : Int32.ofInt (seeS B n p) = v ↔ seeS B n p = v.toInt := by
  have := see_bd B n p
  have e : (Int32.ofInt (seeS B n p)).toInt = seeS B n p := Int32.toInt_ofInt_of_le (by omega) (by omega)
  constructor
  · intro q; rw [← q, e]
  · intro q; rw [q, Int32.ofInt_toInt]
theorem isw_loop {i : Nat} {q : String × Nat × String × List Int32} {n S : Nat} {B : Nat → Int} (hq : xsT[i]? = some q) (hl : q.2.2.2.length ≤ 9) (hG : GOK ad tys GG ws) (T : TXX ws n B) (h3 : rd ws 2 3 = some (.int (Int32.ofInt (S : Int)))) (ft : S + q.2.2.2.length ≤ 1401) : ∀ (m j : Nat), j + m = q.2.2.2.length → V l D tys A 191 4 0 0 (fun r w' => w' = ws ∧ r = some (.int (bI (wdR B n S q.2.2.2 m j)))) 0 0 28 (LW D ad i j) [] ws
  | 0, j, h => by
    refine V_iload (v := Int32.ofInt (j : Int)) mi_191_28 (by simp [LW]) ?_
    refine V_aload (v := D.2 1000 i) mi_191_29 (by simp [LW]) ?_
    refine V_callS (As := []) (st := [.int (Int32.ofInt (j : Int))]) mi_191_30 (by omega) (len_ct hq) (by omega) (show 0 = mN 345 by decide +kernel) hq (by decide +kernel) (by simp [Value.category]) ?_
    rintro r w' ⟨rfl, rfl⟩
    refine V_icmp mi_191_33 (fun _ => ?_) (fun h1 => absurd ((ge_n (by omega) (by omega)).mpr (by omega)) h1)
    refine V_ipush mi_191_62 ?_
    exact V_retI mi_191_63 (fun _ => by decide) ⟨rfl, rfl⟩
  | m + 1, j, h => by
    obtain ⟨s2, e2, -, -, -, -, -, -⟩ := gx2a
    refine V_iload (v := Int32.ofInt (j : Int)) mi_191_28 (by simp [LW]) ?_
    refine V_aload (v := D.2 1000 i) mi_191_29 (by simp [LW]) ?_
    refine V_callS (As := []) (st := [.int (Int32.ofInt (j : Int))]) mi_191_30 (by omega) (len_ct hq) (by omega) (show 0 = mN 345 by decide +kernel) hq (by decide +kernel) (by simp [Value.category]) ?_
    rintro r w' ⟨ew, rfl⟩
    rw [ew]
    refine V_icmp mi_191_33 (fun h1 => absurd ((ge_n (by omega) (by omega)).mp h1) (by omega)) (fun _ => ?_)
    refine V_aload (v := ad 2) mi_191_36 (by simp [LW]) ?_
    refine V_aload (v := ad 2) mi_191_37 (by simp [LW]) ?_
    refine V_getO mi_191_38 hG e2 h3 ?_
    refine V_iload (v := Int32.ofInt (j : Int)) mi_191_41 (by simp [LW]) ?_
    refine V_ibin mi_191_42 (by omega) ?_
    rw [show ibF 0 (Int32.ofInt (S : Int)) (Int32.ofInt (j : Int)) = Int32.ofInt (((S + j : Nat)) : Int) by
      show Int32.ofInt (S : Int) + Int32.ofInt (j : Int) = _
      rw [← Int32.ofInt_add]; rfl]
    refine V_callO (c := 2) (As := [.int (Int32.ofInt ((S + j : Nat) : Int))]) (st := []) mi_191_43 (by omega) (by decide +kernel) (show mCi 186 = 9 by decide +kernel) (by omega) e2 hG (bytX hG T (by omega)) (by omega) (show 1 = mN 186 by decide +kernel) (by simp) ?_
    rintro r w' ⟨ew, rfl⟩
    rw [ew]
    refine V_aload (v := D.2 1000 i) mi_191_46 (by simp [LW]) ?_
    refine V_iload (v := Int32.ofInt (j : Int)) mi_191_47 (by simp [LW]) ?_
    refine V_callS (As := [.int (Int32.ofInt (j : Int))]) (st := [.int (Int32.ofInt (seeS B n (S + j)))]) mi_191_48 (by omega) (chr_ct hq (by omega) hl) (by omega) (show 1 = mN 346 by decide +kernel) hq (by decide +kernel) (by simp [Value.category]) ?_
    rintro r w'' ⟨ew, rfl⟩
    rw [ew]
    unfold wdR
    refine V_icmp mi_191_51 (fun heq => ?_) (fun heq => ?_)
    · have heq : Int32.ofInt (seeS B n (S + j)) = q.2.2.2.getD j 0 := heq
      rw [decide_eq_true (see_i.mp heq), Bool.true_and]
      refine V_iinc (v := Int32.ofInt (j : Int)) mi_191_56 (by simp [LW]) ?_
      refine V_goto mi_191_59 ?_
      refine V_sub (lv' := LW D ad i (j + 1)) (fun p hp => ?_) (isw_loop hq hl hG T h3 ft m (j + 1) (by omega))
      simp only [LW, List.mem_cons, List.not_mem_nil, or_false] at hp
      rcases hp with h | h | h <;> simp [h, LW, stL, Value.category, Int32.ofInt_add]
    · have heq : ¬ Int32.ofInt (seeS B n (S + j)) = q.2.2.2.getD j 0 := heq
      rw [decide_eq_false (fun h => heq (see_i.mpr h)), Bool.false_and]
      refine V_ipush mi_191_54 ?_
      exact V_retI mi_191_55 (fun _ => by decide) ⟨rfl, rfl⟩
/-- what X's `isWord` answers -/
noncomputable def iwB (K : Int) (B : Nat → Int) (n S E : Nat) (cs : List Int32) : Bool := decide (K = 1) && wdS B n S E cs
theorem isw_ct {i : Nat} {q : String × Nat × String × List Int32} (hq : xsT[i]? = some q) (hl : q.2.2.2.length ≤ 9) (hG : GOK ad tys GG ws) {n S E : Nat} {B : Nat → Int} {K : Int} (T : TXX ws n B) (ht : rd ws 2 2 = some (.int (Int32.ofInt K))) (k0 : 0 ≤ K) (k4 : K ≤ 4) (h3 : rd ws 2 3 = some (.int (Int32.ofInt (S : Int)))) (h4 : rd ws 2 4 = some (.int (Int32.ofInt (E : Int)))) (hE : E ≤ 1401) (hSE : S ≤ E) : CT l D tys A 191 4 0 0 [.ref (ad 2), .ref (D.2 1000 i)] ws (fun r w' => w' = ws ∧ r = some (.int (bI (iwB K B n S E q.2.2.2)))) := by
  refine CT_of_V (by omega) (show (2 : Nat) ≤ mML 191 by decide +kernel) ?_
  obtain ⟨s2, e2, -, -, -, -, -, -⟩ := gx2a
  have no : iwB K B n S E q.2.2.2 = false → V l D tys A 191 4 0 0 (fun r w' => w' = ws ∧ r = some (.int (bI (iwB K B n S E q.2.2.2)))) 0 0 24 (lv_args 0 [.ref (ad 2), .ref (D.2 1000 i)]) [] ws := by
    intro hb
    rw [hb]
    refine V_ipush mi_191_24 ?_
    exact V_retI mi_191_25 (fun _ => by decide) ⟨rfl, rfl⟩
  refine V_aload (v := ad 2) mi_191_0 (List.Mem.head _) ?_
  refine V_getO mi_191_1 hG e2 ht ?_
  refine V_ipush mi_191_4 ?_
  have hc := cdP_iff (x := 1) (a := K) (b := 1) (by omega) (by omega) (by omega) (by omega)
  refine V_icmp mi_191_5 (fun h1 => no (by
    have : ¬ K = 1 := fun q => (show K - 1 ≠ 0 from hc.mp h1) (by omega)
    unfold iwB
    rw [decide_eq_false this, Bool.false_and])) (fun h1 => ?_)
  have ht1 : K = 1 := by
    have : ¬ (K - 1 ≠ 0) := fun qq => h1 (hc.mpr qq)
    omega
  refine V_aload (v := D.2 1000 i) mi_191_8 (List.Mem.tail _ (List.Mem.head _)) ?_
  refine V_callS (As := []) (st := []) mi_191_9 (by omega) (len_ct hq) (by omega) (show 0 = mN 345 by decide +kernel) hq (by decide +kernel) (by simp [Value.category]) ?_
  rintro r w' ⟨rfl, rfl⟩
  refine V_aload (v := ad 2) mi_191_12 (List.Mem.head _) ?_
  refine V_getO mi_191_13 hG e2 h4 ?_
  refine V_aload (v := ad 2) mi_191_16 (List.Mem.head _) ?_
  refine V_getO mi_191_17 hG e2 h3 ?_
  refine V_ibin mi_191_20 (by omega) ?_
  rw [show ibF 1 (Int32.ofInt (E : Int)) (Int32.ofInt (S : Int)) = Int32.ofInt ((E : Int) - S) by show Int32.ofInt (E : Int) - Int32.ofInt (S : Int) = _; rw [← Int32.ofInt_sub]]
  have hd := cdP_iff (x := 0) (a := (q.2.2.2.length : Int)) (b := (E : Int) - S) (by omega) (by omega) (by omega) (by omega)
  refine V_icmp mi_191_21 (fun h2 => ?_) (fun h2 => no (by
    have : ¬ (E : Int) - S = q.2.2.2.length := fun e => h2 (hd.mpr (show (q.2.2.2.length : Int) - (E - S) = 0 by omega))
    unfold iwB wdS
    rw [decide_eq_false this, Bool.false_and, Bool.and_false]))
  have hlen : (E : Int) - S = q.2.2.2.length := by
    have : (q.2.2.2.length : Int) - (E - S) = 0 := hd.mp h2
    omega
  have hbe : iwB K B n S E q.2.2.2 = wdR B n S q.2.2.2 q.2.2.2.length 0 := by
    unfold iwB wdS
    rw [decide_eq_true ht1, decide_eq_true hlen, Bool.true_and, Bool.true_and]
  rw [hbe]
  refine V_ipush mi_191_26 ?_
  refine V_istore mi_191_27 ?_
  refine V_sub (lv' := LW D ad i 0) (fun p hp => ?_) (isw_loop hq hl hG T h3 (by omega) _ 0 (by omega))
  simp only [LW, List.mem_cons, List.not_mem_nil, or_false] at hp
  rcases hp with h | h | h <;> simp [h, LW, stL, lv_args, Value.category]
end TKY
end
