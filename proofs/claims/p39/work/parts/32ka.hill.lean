section TOK
variable {l : Launch} {D : va_G} {tys : List (ClassId × FieldType)} {A : Nat → Prop} {ad : Nat → Nat} {ws : va_W}
/-- the byte at a place, as both sides see it -/
noncomputable def seeS (B : Nat → Int) (n k : Nat) : Int := if k < n then B k % 256 else -1
noncomputable def blB (c : Int) : Bool := decide (c = 32) || decide (c = 10)
noncomputable def leB (c : Int) : Bool := decide (97 ≤ c) && decide (c ≤ 122)
noncomputable def diB (c : Int) : Bool := decide (48 ≤ c) && decide (c ≤ 57)
/-- behind a run of bytes that P holds of -/
noncomputable def runS (P : Int → Bool) (B : Nat → Int) (n : Nat) : Nat → Nat → Nat
  | 0, i => i
  | f + 1, i => if P (seeS B n i) = true then runS P B n f (i + 1) else i
noncomputable def numS (B : Nat → Int) (n : Nat) : Nat → Nat → Int → Int
  | 0, _, v => v
  | f + 1, i, v => if diB (seeS B n i) = true then numS B n f (i + 1) (min 99999 (10 * v + seeS B n i - 48)) else v
/-- one token: its kind, start, stop, number -/
noncomputable def tkI (B : Nat → Int) (n a : Nat) : Nat := runS blB B n 1401 a
noncomputable def tkC (B : Nat → Int) (n a : Nat) : Int := seeS B n (tkI B n a)
noncomputable def tkK (B : Nat → Int) (n a : Nat) : Int := if tkC B n a = -1 then 0 else if leB (tkC B n a) = true then 1 else if diB (tkC B n a) = true then 2 else if tkC B n a = 59 then 3 else 4
noncomputable def tkE (B : Nat → Int) (n a : Nat) : Nat := if tkC B n a = -1 then tkI B n a else if leB (tkC B n a) = true then runS leB B n 1401 (tkI B n a) else if diB (tkC B n a) = true then runS diB B n 1401 (tkI B n a) else tkI B n a + 1
noncomputable def tkV (B : Nat → Int) (n a : Nat) (v : Int) : Int := if tkC B n a = -1 then v else if leB (tkC B n a) = true then v else if diB (tkC B n a) = true then numS B n 1401 (tkI B n a) 0 else v
theorem see_bd (B : Nat → Int) (n k : Nat) : -1 ≤ seeS B n k ∧ seeS B n k ≤ 255 := by
  unfold seeS
  split <;> omega
theorem see_lt {B : Nat → Int} {n k : Nat} (h : seeS B n k ≠ -1) : k < n := by
  unfold seeS at h
  split at h
  · assumption
  · exact absurd rfl h
theorem run_ge {P : Int → Bool} {B : Nat → Int} {n : Nat} : ∀ {f i : Nat}, i ≤ runS P B n f i
  | 0, i => Nat.le_refl _
  | f + 1, i => by
    unfold runS
    split
    · exact Nat.le_trans (Nat.le_succ _) run_ge
    · exact Nat.le_refl _
theorem run_le {P : Int → Bool} {B : Nat → Int} {n : Nat} (hP : P (-1) = false) : ∀ {f i : Nat}, i ≤ n → runS P B n f i ≤ n
  | 0, i, h => h
  | f + 1, i, h => by
    unfold runS
    split
    · next hp =>
      have : i < n := see_lt (fun e => by rw [e, hP] at hp; cases hp)
      exact run_le hP this
    · exact h
/-- what a run stops at -/
theorem run_end {P : Int → Bool} {B : Nat → Int} {n : Nat} (hP : P (-1) = false) : ∀ {f i : Nat}, i ≤ n → n - i < f → P (seeS B n (runS P B n f i)) = false
  | 0, i, _, h => by omega
  | f + 1, i, hi, h => by
    unfold runS
    split
    · next hp =>
      have : i < n := see_lt (fun e => by rw [e, hP] at hp; cases hp)
      exact run_end hP (by omega) (by omega)
    · next hp => exact Bool.eq_false_iff.mpr hp
/-- one step of a run, whatever the fuel -/
theorem run_fuel {P : Int → Bool} {B : Nat → Int} {n : Nat} (hP : P (-1) = false) : ∀ {f g i : Nat}, i ≤ n → n - i < f → n - i < g → runS P B n f i = runS P B n g i
  | 0, _, i, _, h, _ => by omega
  | _, 0, i, _, _, h => by omega
  | f + 1, g + 1, i, hi, h1, h2 => by
    unfold runS
    split
    · next hp =>
      have : i < n := see_lt (fun e => by rw [e, hP] at hp; cases hp)
      exact run_fuel hP (by omega) (by omega) (by omega)
    · rfl
theorem run_step {P : Int → Bool} {B : Nat → Int} {n i : Nat} (hP : P (-1) = false) (hn : n ≤ 1400) (hi : i ≤ n) (h : P (seeS B n i) = true) : runS P B n 1401 i = runS P B n 1401 (i + 1) := by
  have hl : i < n := see_lt (fun e => by rw [e, hP] at h; cases h)
  have e : runS P B n 1401 i = runS P B n 1400 (i + 1) := by
    show (if P (seeS B n i) = true then runS P B n 1400 (i + 1) else i) = _
    rw [if_pos h]
  rw [e]
  exact run_fuel hP (by omega) (by omega) (by omega)
theorem run_stop {P : Int → Bool} {B : Nat → Int} {n i : Nat} (h : P (seeS B n i) = false) : runS P B n 1401 i = i := by
  show (if P (seeS B n i) = true then runS P B n 1400 (i + 1) else i) = _
  rw [if_neg (by rw [h]; exact Bool.false_ne_true)]
theorem num_fuel {B : Nat → Int} {n : Nat} : ∀ {f g i : Nat} {v : Int}, i ≤ n → n - i < f → n - i < g → numS B n f i v = numS B n g i v
  | 0, _, i, _, _, h, _ => by omega
  | _, 0, i, _, _, _, h => by omega
  | f + 1, g + 1, i, v, hi, h1, h2 => by
    unfold numS
    split
    · next hp =>
      have : i < n := see_lt (fun e => by rw [e] at hp; exact absurd hp (by decide))
      exact num_fuel (by omega) (by omega) (by omega)
    · rfl
theorem num_step {B : Nat → Int} {n i : Nat} {v : Int} (hn : n ≤ 1400) (hi : i ≤ n) (h : diB (seeS B n i) = true) : numS B n 1401 i v = numS B n 1401 (i + 1) (min 99999 (10 * v + seeS B n i - 48)) := by
  have hl : i < n := see_lt (fun e => by rw [e] at h; exact absurd h (by decide))
  have e : numS B n 1401 i v = numS B n 1400 (i + 1) (min 99999 (10 * v + seeS B n i - 48)) := by
    show (if diB (seeS B n i) = true then _ else v) = _
    rw [if_pos h]
  rw [e]
  exact num_fuel (by omega) (by omega) (by omega)
theorem num_stop {B : Nat → Int} {n i : Nat} {v : Int} (h : diB (seeS B n i) = false) : numS B n 1401 i v = v := by
  show (if diB (seeS B n i) = true then _ else v) = _
  rw [if_neg (by rw [h]; exact Bool.false_ne_true)]
/-- the bytes of a cell, up to n -/
noncomputable def TB (w : va_W) (c n : Nat) (B : Nat → Int) : Prop := ∀ k, k < n → rd w c k = some (.int (Int32.ofInt (B k))) ∧ -128 ≤ B k ∧ B k ≤ 127
theorem and255v {b : Int} (h1 : -128 ≤ b) (h2 : b ≤ 127) : ibF 5 (Int32.ofInt b) (Int32.ofInt 255) = Int32.ofInt (b % 256) := by
  have h : ∀ m : Nat, m < 256 → ibF 5 (Int32.ofInt ((m : Int) - 128)) (Int32.ofInt 255) = Int32.ofInt (((m : Int) - 128) % 256) := by decide +kernel
  have q := h (b + 128).toNat (by omega)
  rw [Int.toNat_of_nonneg (by omega), show b + 128 - 128 = b by omega] at q
  exact q
end TOK
section TKM
variable {l : Launch} {D : va_G} {tys : List (ClassId × FieldType)} {A : Nat → Prop} {ad : Nat → Nat} {ws : va_W}
/-- the reference's text: how long it is, and its bytes -/
noncomputable def TXM (w : va_W) (n : Nat) (B : Nat → Int) : Prop := rd w 90 7 = some (.int (Int32.ofInt (n : Int))) ∧ n ≤ 1400 ∧ TB w 94 n B
theorem TXM_upd {w w' : va_W} {n j : Nat} {B : Nat → Int} {v : Value} (h : TXM w n B) (hu : Upd1 w w' 90 j v) (hj : j ≠ 7) : TXM w' n B := ⟨(upd_ne hu (fun q => hj q.2.symm)).trans h.1, h.2.1, fun k hk => ⟨(upd_ne hu (by omega)).trans (h.2.2 k hk).1, (h.2.2 k hk).2⟩⟩
theorem seeM (hG : GOK ad tys GG ws) {n p : Nat} {B : Nat → Int} (hT : TXM ws n B) (hp : p ≤ 1400) : CT l D tys A 212 0 0 0 [.ref (ad 90), .int (Int32.ofInt (p : Int))] ws (fun r w' => w' = ws ∧ r = some (.int (Int32.ofInt (seeS B n p)))) := by
  obtain ⟨h7, n1, hB⟩ := hT
  refine CT_of_V (by omega) (show (2 : Nat) ≤ mML 212 by decide +kernel) ?_
  have hc := cdP_iff (x := 3) (a := (p : Int)) (b := (n : Int)) (by omega) (by omega) (by omega) (by omega)
  refine V_iload (v := Int32.ofInt (p : Int)) mi_212_0 (List.Mem.tail _ (List.Mem.head _)) ?_
  refine V_aload (v := ad 90) mi_212_1 (List.Mem.head _) ?_
  refine V_getI mi_212_2 hG h7 ?_
  refine V_icmp mi_212_5 (fun h => ?_) (fun h => ?_)
  · have h : 0 ≤ (p : Int) - n := hc.mp h
    refine V_ipush mi_212_21 ?_
    exact V_retI mi_212_22 (fun h => absurd h (by decide +kernel)) ⟨rfl, by unfold seeS; rw [if_neg (by omega)]⟩
  · have h : p < n := by
      have : ¬ (0 ≤ (p : Int) - n) := fun q => h (hc.mpr q)
      omega
    obtain ⟨b1, b2, b3⟩ := hB p h
    obtain ⟨s4, e4, f4⟩ := gt94
    refine V_aload (v := ad 90) mi_212_8 (List.Mem.head _) ?_
    refine V_getI mi_212_9 hG (rref gr4 (by omega) hG) ?_
    refine V_iload (v := Int32.ofInt (p : Int)) mi_212_12 (List.Mem.tail _ (List.Mem.head _)) ?_
    refine V_bldI (j := p) mi_212_13 rfl hG e4 (by omega) (by omega) b1 ?_
    refine V_ipush mi_212_14 ?_
    refine V_ibin mi_212_17 (by omega) ?_
    rw [and255v b2 b3]
    refine V_goto mi_212_18 ?_
    exact V_retI mi_212_22 (fun h => absurd h (by decide +kernel)) ⟨rfl, by unfold seeS; rw [if_pos h]⟩
/-- nothing but the token's four places -/
noncomputable def TKO (w0 w : va_W) : Prop := ∀ c j, ¬ (c = 90 ∧ 8 ≤ j ∧ j ≤ 11) → rd w c j = rd w0 c j
theorem TKO_rf {w : va_W} : TKO w w := fun _ _ _ => rfl
theorem TKO_upd {w0 w w' : va_W} {j : Nat} {v : Value} (h : TKO w0 w) (hu : Upd1 w w' 90 j v) (h8 : 8 ≤ j) (h11 : j ≤ 11) : TKO w0 w' := fun c' j' hn => (upd_ne hu (fun q => hn ⟨q.1, by omega, by omega⟩)).trans (h c' j' hn)
noncomputable def ADM (ad : Nat → Nat) (tys : List (ClassId × FieldType)) (w0 : va_W) (K Vn : Int) (S E : Nat) (r : Option Value) (w : va_W) : Prop := r = none ∧ GOK ad tys GG w ∧ TKO w0 w ∧ rd w 90 8 = some (.int (Int32.ofInt (E : Int))) ∧ rd w 90 9 = some (.int (Int32.ofInt (S : Int))) ∧ rd w 90 10 = some (.int (Int32.ofInt K)) ∧ rd w 90 11 = some (.int (Int32.ofInt Vn))
theorem addn1 {a : Nat} : ibF 0 (Int32.ofInt (a : Int)) (Int32.ofInt 1) = Int32.ofInt ((a + 1 : Nat) : Int) := by
  show Int32.ofInt (a : Int) + Int32.ofInt 1 = _
  rw [← Int32.ofInt_add]; rfl
theorem inM {m lo hi : Int} (h1 : -1 ≤ m) (h2 : m ≤ 255) (a1 : 0 ≤ lo) (a2 : lo ≤ 1000) (b1 : 0 ≤ hi) (b2 : hi ≤ 1000) : CT l D tys A 193 0 0 0 [.long (Int64.ofInt m), .long (Int64.ofInt lo), .long (Int64.ofInt hi)] ws (fun r w => w = ws ∧ r = some (.int (bI (decide (lo ≤ m) && decide (m ≤ hi))))) := by
  refine CT_post (in2_ct (v := m) (lo := lo) (hi := hi) (by omega) (by omega) (by omega) (by omega) (by omega) (by omega)) (fun r w h => ⟨h.1, ?_⟩)
  rcases h.2 with ⟨e, q1, q2⟩ | ⟨e, q⟩
  · rw [e, decide_eq_true q1, decide_eq_true q2]; rfl
  · rw [e]
    by_cases q1 : lo ≤ m
    · by_cases q2 : m ≤ hi
      · exact absurd ⟨q1, q2⟩ q
      · rw [decide_eq_true q1, decide_eq_false q2]; rfl
    · rw [decide_eq_false q1]; rfl
/-- a word's letters -/
theorem adm_word {w0 : va_W} {n S : Nat} {B : Nat → Int} {Vn : Int} {E : Nat} (lvx : List (Nat × Value)) (l0 : (0, Value.ref (ad 90)) ∈ lvx) : ∀ (f i : Nat) (w : va_W), n - i < f → i ≤ n → GOK ad tys GG w → TXM w n B → TKO w0 w → rd w 90 8 = some (.int (Int32.ofInt (i : Int))) → rd w 90 9 = some (.int (Int32.ofInt (S : Int))) → rd w 90 11 = some (.int (Int32.ofInt Vn)) → runS leB B n 1401 i = E → V l D tys A 213 1 0 0 (ADM ad tys w0 1 Vn S E) 0 0 83 lvx [] w
  | 0, i, w, h, hi, _, _, _, _, _, _, _ => by omega
  | f + 1, i, w, h, hi, G, T, O, h8, h9, h11, hE => by
    have n1 := T.2.1
    obtain ⟨m0, m1⟩ := see_bd B n i
    refine V_aload (v := ad 90) mi_213_83 l0 ?_
    refine V_aload (v := ad 90) mi_213_84 l0 ?_
    refine V_getI mi_213_85 G h8 ?_
    refine V_callM (As := [.int (Int32.ofInt (i : Int))]) (st := []) mi_213_88 (by omega) (by decide +kernel) (by decide +kernel) G (seeM G T (by omega)) (by omega) (show 1 = mN 212 by decide +kernel) (by simp) ?_
    rintro r w' ⟨rfl, rfl⟩
    refine V_i2l mi_213_91 ?_
    rw [i2lm m0 m1]
    refine V_lpush mi_213_92 ?_
    refine V_lpush mi_213_95 ?_
    refine V_stat (As := [.long (Int64.ofInt (seeS B n i)), .long (Int64.ofInt 97), .long (Int64.ofInt 122)]) (st := []) mi_213_98 (by omega) (inM m0 m1 (by omega) (by omega) (by omega) (by omega)) (by omega) (show 3 = mN 193 by decide +kernel) (by simp) ⟨Nat.le_refl _, Nat.le_refl _⟩ ?_
    rintro r w' ⟨rfl, rfl⟩
    cases hb : leB (seeS B n i) with
    | true =>
      rw [show (decide ((97 : Int) ≤ seeS B n i) && decide (seeS B n i ≤ 122)) = true from hb]
      refine V_if mi_213_101 (fun h1 => absurd (show (1 : Int32) = 0 from h1) (by decide)) (fun _ => ?_)
      have hin : i < n := see_lt (fun e => by rw [e] at hb; exact absurd hb (by decide))
      refine V_aload (v := ad 90) mi_213_104 l0 ?_
      refine V_dup mi_213_105 rfl ?_
      refine V_getI mi_213_106 G h8 ?_
      refine V_ipush mi_213_109 ?_
      refine V_ibin mi_213_110 (by omega) ?_
      rw [addn1]
      have t1 : (Int32.ofInt ((i + 1 : Nat) : Int)).toInt = ((i + 1 : Nat) : Int) := Int32.toInt_ofInt_of_le (by omega) (by omega)
      refine V_putI mi_213_111 G f8 (by omega) rfl (by decide +kernel) (by omega) (by omega) (fun w2 G2 U2 => ?_)
      refine V_goto mi_213_114 ?_
      exact adm_word lvx l0 f (i + 1) w2 (by omega) (by omega) G2 (TXM_upd T U2 (by omega)) (TKO_upd O U2 (by omega) (by omega)) (upd_eq U2) ((upd_ne U2 (by omega)).trans h9) ((upd_ne U2 (by omega)).trans h11) (by rw [← hE]; exact (run_step (by decide) n1 hi hb).symm)
    | false =>
      rw [show (decide ((97 : Int) ≤ seeS B n i) && decide (seeS B n i ≤ 122)) = false from hb]
      refine V_if mi_213_101 (fun _ => ?_) (fun h1 => absurd (show (0 : Int32) = 0 from rfl) h1)
      have eE : E = i := by rw [← hE]; exact run_stop hb
      subst eE
      refine V_aload (v := ad 90) mi_213_117 l0 ?_
      refine V_ipush mi_213_118 ?_
      refine V_putI mi_213_119 G f10 (by omega) rfl (by decide +kernel) (by decide) (by decide) (fun w2 G2 U2 => ?_)
      refine V_goto mi_213_122 ?_
      exact V_retV mi_213_239 ⟨rfl, G2, TKO_upd O U2 (by omega) (by omega), (upd_ne U2 (by omega)).trans h8, (upd_ne U2 (by omega)).trans h9, upd_eq U2, (upd_ne U2 (by omega)).trans h11⟩
theorem min_i {a b : Int} (a1 : -1000000000 ≤ a) (a2 : a ≤ 1000000000) (b1 : -1000000000 ≤ b) (b2 : b ≤ 1000000000) : CT l D tys A 342 0 0 0 [.int (Int32.ofInt a), .int (Int32.ofInt b)] ws (fun r w => w = ws ∧ r = some (.int (Int32.ofInt (min a b)))) := by
  have hc := cdP_iff (x := 4) (a := a) (b := b) (by omega) (by omega) (by omega) (by omega)
  refine CT_of_V (by omega) (show (2 : Nat) ≤ mML 342 by decide +kernel) ?_
  refine V_iload (v := Int32.ofInt a) mi_342_0 (List.Mem.head _) ?_
  refine V_iload (v := Int32.ofInt b) mi_342_1 (List.Mem.tail _ (List.Mem.head _)) ?_
  refine V_icmp mi_342_2 (fun h => ?_) (fun h => ?_)
  · have h : a - b > 0 := hc.mp h
    refine V_iload (v := Int32.ofInt b) mi_342_9 (List.Mem.tail _ (List.Mem.head _)) ?_
    exact V_retI mi_342_10 (fun h => absurd h (by decide +kernel)) ⟨rfl, by rw [show min a b = b by omega]⟩
  · have h : ¬ (a - b > 0) := fun q => h (hc.mpr q)
    refine V_iload (v := Int32.ofInt a) mi_342_5 (List.Mem.head _) ?_
    refine V_goto mi_342_6 ?_
    exact V_retI mi_342_10 (fun h => absurd h (by decide +kernel)) ⟨rfl, by rw [show min a b = a by omega]⟩
/-- a number's digits -/
theorem adm_num {w0 : va_W} {n S : Nat} {B : Nat → Int} {Vn : Int} {E : Nat} (lvx : List (Nat × Value)) (l0 : (0, Value.ref (ad 90)) ∈ lvx) : ∀ (f i : Nat) (v : Int) (w : va_W), n - i < f → i ≤ n → 0 ≤ v → v ≤ 99999 → GOK ad tys GG w → TXM w n B → TKO w0 w → rd w 90 8 = some (.int (Int32.ofInt (i : Int))) → rd w 90 9 = some (.int (Int32.ofInt (S : Int))) → rd w 90 11 = some (.int (Int32.ofInt v)) → runS diB B n 1401 i = E → numS B n 1401 i v = Vn → V l D tys A 213 1 0 0 (ADM ad tys w0 2 Vn S E) 0 0 144 lvx [] w
  | 0, i, v, w, h, hi, _, _, _, _, _, _, _, _, _, _ => by omega
  | f + 1, i, v, w, h, hi, v0, v9, G, T, O, h8, h9, h11, hE, hV => by
    have n1 := T.2.1
    obtain ⟨m0, m1⟩ := see_bd B n i
    refine V_aload (v := ad 90) mi_213_144 l0 ?_
    refine V_aload (v := ad 90) mi_213_145 l0 ?_
    refine V_getI mi_213_146 G h8 ?_
    refine V_callM (As := [.int (Int32.ofInt (i : Int))]) (st := []) mi_213_149 (by omega) (by decide +kernel) (by decide +kernel) G (seeM G T (by omega)) (by omega) (show 1 = mN 212 by decide +kernel) (by simp) ?_
    rintro r w' ⟨rfl, rfl⟩
    refine V_i2l mi_213_152 ?_
    rw [i2lm m0 m1]
    refine V_lpush mi_213_153 ?_
    refine V_lpush mi_213_156 ?_
    refine V_stat (As := [.long (Int64.ofInt (seeS B n i)), .long (Int64.ofInt 48), .long (Int64.ofInt 57)]) (st := []) mi_213_159 (by omega) (inM m0 m1 (by omega) (by omega) (by omega) (by omega)) (by omega) (show 3 = mN 193 by decide +kernel) (by simp) ⟨Nat.le_refl _, Nat.le_refl _⟩ ?_
    rintro r w' ⟨rfl, rfl⟩
    cases hb : diB (seeS B n i) with
    | true =>
      rw [show (decide ((48 : Int) ≤ seeS B n i) && decide (seeS B n i ≤ 57)) = true from hb]
      refine V_if mi_213_162 (fun h1 => absurd (show (1 : Int32) = 0 from h1) (by decide)) (fun _ => ?_)
      have hin : i < n := see_lt (fun e => by rw [e] at hb; exact absurd hb (by decide))
      have hd : 48 ≤ seeS B n i ∧ seeS B n i ≤ 57 := by
        unfold diB at hb
        rw [Bool.and_eq_true] at hb
        exact ⟨of_decide_eq_true hb.1, of_decide_eq_true hb.2⟩
      refine V_aload (v := ad 90) mi_213_165 l0 ?_
      refine V_ipush mi_213_166 ?_
      refine V_ipush mi_213_168 ?_
      refine V_aload (v := ad 90) mi_213_170 l0 ?_
      refine V_getI mi_213_171 G h11 ?_
      refine V_ibin mi_213_174 (by omega) ?_
      refine V_aload (v := ad 90) mi_213_175 l0 ?_
      refine V_aload (v := ad 90) mi_213_176 l0 ?_
      refine V_getI mi_213_177 G h8 ?_
      refine V_callM (As := [.int (Int32.ofInt (i : Int))]) (st := [.int (ibF 2 (Int32.ofInt 10) (Int32.ofInt v)), .int (Int32.ofInt 99999), .ref (ad 90)]) mi_213_180 (by omega) (by decide +kernel) (by decide +kernel) G (seeM G T (by omega)) (by omega) (show 1 = mN 212 by decide +kernel) (by simp [Value.category]) ?_
      rintro r w' ⟨rfl, rfl⟩
      refine V_ibin mi_213_183 (by omega) ?_
      refine V_ipush mi_213_184 ?_
      refine V_ibin mi_213_186 (by omega) ?_
      rw [show ibF 1 (ibF 0 (ibF 2 (Int32.ofInt 10) (Int32.ofInt v)) (Int32.ofInt (seeS B n i))) (Int32.ofInt 48) = Int32.ofInt (10 * v + seeS B n i - 48) by show Int32.ofInt 10 * Int32.ofInt v + Int32.ofInt (seeS B n i) - Int32.ofInt 48 = _; rw [← Int32.ofInt_mul, ← Int32.ofInt_add, ← Int32.ofInt_sub]]
      refine V_stat (As := [.int (Int32.ofInt 99999), .int (Int32.ofInt (10 * v + seeS B n i - 48))]) (st := [.ref (ad 90)]) mi_213_187 (by omega) (min_i (by omega) (by omega) (by omega) (by omega)) (by omega) (show 2 = mN 342 by decide +kernel) (by simp [Value.category]) ⟨Nat.le_refl _, Nat.le_refl _⟩ ?_
      rintro r w' ⟨rfl, rfl⟩
      have b1 := Int32.le_toInt (Int32.ofInt (min 99999 (10 * v + seeS B n i - 48)))
      have b2 := Int32.toInt_lt (Int32.ofInt (min 99999 (10 * v + seeS B n i - 48)))
      refine V_putI mi_213_190 G f11 (by omega) rfl (by decide +kernel) (by omega) (by omega) (fun w1 G1 U1 => ?_)
      have h8' : rd w1 90 8 = some (.int (Int32.ofInt (i : Int))) := (upd_ne U1 (by omega)).trans h8
      refine V_aload (v := ad 90) mi_213_193 l0 ?_
      refine V_dup mi_213_194 rfl ?_
      refine V_getI mi_213_195 G1 h8' ?_
      refine V_ipush mi_213_198 ?_
      refine V_ibin mi_213_199 (by omega) ?_
      rw [addn1]
      have t1 : (Int32.ofInt ((i + 1 : Nat) : Int)).toInt = ((i + 1 : Nat) : Int) := Int32.toInt_ofInt_of_le (by omega) (by omega)
      refine V_putI mi_213_200 G1 f8 (by omega) rfl (by decide +kernel) (by omega) (by omega) (fun w2 G2 U2 => ?_)
      refine V_goto mi_213_203 ?_
      exact adm_num lvx l0 f (i + 1) (min 99999 (10 * v + seeS B n i - 48)) w2 (by omega) (by omega) (by omega) (by omega) G2 (TXM_upd (TXM_upd T U1 (by omega)) U2 (by omega)) (TKO_upd (TKO_upd O U1 (by omega) (by omega)) U2 (by omega) (by omega)) (upd_eq U2) ((upd_ne U2 (by omega)).trans ((upd_ne U1 (by omega)).trans h9)) ((upd_ne U2 (by omega)).trans (upd_eq U1)) (by rw [← hE]; exact (run_step (by decide) n1 hi hb).symm) (by rw [← hV]; exact (num_step n1 hi hb).symm)
    | false =>
      rw [show (decide ((48 : Int) ≤ seeS B n i) && decide (seeS B n i ≤ 57)) = false from hb]
      refine V_if mi_213_162 (fun _ => ?_) (fun h1 => absurd (show (0 : Int32) = 0 from rfl) h1)
      have eE : E = i := by rw [← hE]; exact run_stop hb
      have eV : Vn = v := by rw [← hV]; exact num_stop hb
      subst eE
      subst eV
      refine V_aload (v := ad 90) mi_213_206 l0 ?_
      refine V_ipush mi_213_207 ?_
      refine V_putI mi_213_208 G f10 (by omega) rfl (by decide +kernel) (by decide) (by decide) (fun w2 G2 U2 => ?_)
      refine V_goto mi_213_211 ?_
      exact V_retV mi_213_239 ⟨rfl, G2, TKO_upd O U2 (by omega) (by omega), (upd_ne U2 (by omega)).trans h8, (upd_ne U2 (by omega)).trans h9, upd_eq U2, (upd_ne U2 (by omega)).trans h11⟩
end TKM
section TKN
variable {l : Launch} {D : va_G} {tys : List (ClassId × FieldType)} {A : Nat → Prop} {ad : Nat → Nat} {ws : va_W}
/-- what a token at a leaves: kind, number, start, stop -/
noncomputable def ADT (ad : Nat → Nat) (tys : List (ClassId × FieldType)) (B : Nat → Int) (n a : Nat) (v0 : Int) (w0 : va_W) : Option Value → va_W → Prop := ADM ad tys w0 (tkK B n a) (tkV B n a v0) (tkI B n a) (tkE B n a)
theorem adm_39 {w0 w : va_W} {n i a : Nat} {B : Nat → Int} {v0 : Int} (G : GOK ad tys GG w) (T : TXM w n B) (O : TKO w0 w) (hi : i ≤ n) (h8 : rd w 90 8 = some (.int (Int32.ofInt (i : Int)))) (h11 : rd w 90 11 = some (.int (Int32.ofInt v0))) (ei : tkI B n a = i) : V l D tys A 213 1 0 0 (ADT ad tys B n a v0 w0) 0 0 39 [(0, .ref (ad 90))] [] w := by
  have n1 := T.2.1
  obtain ⟨m0, m1⟩ := see_bd B n i
  have ta : (Int32.ofInt (i : Int)).toInt = (i : Int) := Int32.toInt_ofInt_of_le (by omega) (by omega)
  unfold ADT tkK tkV tkE tkC
  rw [ei]
  refine V_aload (v := ad 90) mi_213_39 (List.Mem.head _) ?_
  refine V_aload (v := ad 90) mi_213_40 (List.Mem.head _) ?_
  refine V_getI mi_213_41 G h8 ?_
  refine V_putI mi_213_44 G f9 (by omega) rfl (by decide +kernel) (by omega) (by omega) (fun w1 G1 U1 => ?_)
  have T1 := TXM_upd T U1 (by omega)
  have O1 := TKO_upd O U1 (by omega) (by omega)
  have g8 : rd w1 90 8 = some (.int (Int32.ofInt (i : Int))) := (upd_ne U1 (by omega)).trans h8
  have g11 : rd w1 90 11 = some (.int (Int32.ofInt v0)) := (upd_ne U1 (by omega)).trans h11
  have g9 : rd w1 90 9 = some (.int (Int32.ofInt (i : Int))) := upd_eq U1
  refine V_aload (v := ad 90) mi_213_47 (List.Mem.head _) ?_
  refine V_aload (v := ad 90) mi_213_48 (List.Mem.head _) ?_
  refine V_getI mi_213_49 G1 g8 ?_
  refine V_callM (As := [.int (Int32.ofInt (i : Int))]) (st := []) mi_213_52 (by omega) (by decide +kernel) (by decide +kernel) G1 (seeM G1 T1 (by omega)) (by omega) (show 1 = mN 212 by decide +kernel) (by simp) ?_
  rintro r w' ⟨rfl, rfl⟩
  refine V_istore mi_213_55 ?_
  have l0 : (0, Value.ref (ad 90)) ∈ stL 1 (.int (Int32.ofInt (seeS B n i))) [(0, Value.ref (ad 90))] := by simp [stL, Value.category]
  have l1 : (1, Value.int (Int32.ofInt (seeS B n i))) ∈ stL 1 (.int (Int32.ofInt (seeS B n i))) [(0, Value.ref (ad 90))] := by simp [stL]
  refine V_iload (v := Int32.ofInt (seeS B n i)) mi_213_56 l1 ?_
  refine V_ipush mi_213_57 ?_
  have hc := cdP_iff (x := 1) (a := seeS B n i) (b := -1) (by omega) (by omega) (by omega) (by omega)
  by_cases hm1 : seeS B n i = -1
  · rw [if_pos hm1, if_pos hm1, if_pos hm1]
    refine V_icmp mi_213_58 (fun h => absurd (show seeS B n i - (-1) ≠ 0 from hc.mp h) (by omega)) (fun _ => ?_)
    refine V_aload (v := ad 90) mi_213_61 l0 ?_
    refine V_ipush mi_213_62 ?_
    refine V_putI mi_213_63 G1 f10 (by omega) rfl (by decide +kernel) (by decide) (by decide) (fun w2 G2 U2 => ?_)
    refine V_goto mi_213_66 ?_
    exact V_retV mi_213_239 ⟨rfl, G2, TKO_upd O1 U2 (by omega) (by omega), (upd_ne U2 (by omega)).trans g8, (upd_ne U2 (by omega)).trans g9, upd_eq U2, (upd_ne U2 (by omega)).trans g11⟩
  rw [if_neg hm1, if_neg hm1, if_neg hm1]
  refine V_icmp mi_213_58 (fun _ => ?_) (fun h => absurd (hc.mpr (show seeS B n i - (-1) ≠ 0 by omega)) h)
  have hin : i < n := see_lt hm1
  refine V_iload (v := Int32.ofInt (seeS B n i)) mi_213_69 l1 ?_
  refine V_i2l mi_213_70 ?_
  rw [i2lm m0 m1]
  refine V_lpush mi_213_71 ?_
  refine V_lpush mi_213_74 ?_
  refine V_stat (As := [.long (Int64.ofInt (seeS B n i)), .long (Int64.ofInt 97), .long (Int64.ofInt 122)]) (st := []) mi_213_77 (by omega) (inM m0 m1 (by omega) (by omega) (by omega) (by omega)) (by omega) (show 3 = mN 193 by decide +kernel) (by simp) ⟨Nat.le_refl _, Nat.le_refl _⟩ ?_
  rintro r w' ⟨rfl, rfl⟩
  cases hb : leB (seeS B n i) with
  | true =>
    rw [show (decide ((97 : Int) ≤ seeS B n i) && decide (seeS B n i ≤ 122)) = true from hb, if_pos rfl, if_pos rfl, if_pos rfl]
    refine V_if mi_213_80 (fun h1 => absurd (show (1 : Int32) = 0 from h1) (by decide)) (fun _ => ?_)
    exact adm_word _ l0 (n - i + 1) i _ (by omega) hi G1 T1 O1 g8 g9 g11 rfl
  | false =>
    rw [show (decide ((97 : Int) ≤ seeS B n i) && decide (seeS B n i ≤ 122)) = false from hb, if_neg Bool.false_ne_true, if_neg Bool.false_ne_true, if_neg Bool.false_ne_true]
    refine V_if mi_213_80 (fun _ => ?_) (fun h1 => absurd (show (0 : Int32) = 0 from rfl) h1)
    refine V_iload (v := Int32.ofInt (seeS B n i)) mi_213_125 l1 ?_
    refine V_i2l mi_213_126 ?_
    rw [i2lm m0 m1]
    refine V_lpush mi_213_127 ?_
    refine V_lpush mi_213_130 ?_
    refine V_stat (As := [.long (Int64.ofInt (seeS B n i)), .long (Int64.ofInt 48), .long (Int64.ofInt 57)]) (st := []) mi_213_133 (by omega) (inM m0 m1 (by omega) (by omega) (by omega) (by omega)) (by omega) (show 3 = mN 193 by decide +kernel) (by simp) ⟨Nat.le_refl _, Nat.le_refl _⟩ ?_
    rintro r w' ⟨rfl, rfl⟩
    cases hd : diB (seeS B n i) with
    | true =>
      rw [show (decide ((48 : Int) ≤ seeS B n i) && decide (seeS B n i ≤ 57)) = true from hd, if_pos rfl, if_pos rfl, if_pos rfl]
      refine V_if mi_213_136 (fun h1 => absurd (show (1 : Int32) = 0 from h1) (by decide)) (fun _ => ?_)
      refine V_aload (v := ad 90) mi_213_139 l0 ?_
      refine V_ipush mi_213_140 ?_
      refine V_putI mi_213_141 G1 f11 (by omega) rfl (by decide +kernel) (by decide) (by decide) (fun w2 G2 U2 => ?_)
      exact adm_num _ l0 (n - i + 1) i 0 w2 (by omega) hi (by omega) (by omega) G2 (TXM_upd T1 U2 (by omega)) (TKO_upd O1 U2 (by omega) (by omega)) ((upd_ne U2 (by omega)).trans g8) ((upd_ne U2 (by omega)).trans g9) (upd_eq U2) rfl rfl
    | false =>
      rw [show (decide ((48 : Int) ≤ seeS B n i) && decide (seeS B n i ≤ 57)) = false from hd, if_neg Bool.false_ne_true, if_neg Bool.false_ne_true, if_neg Bool.false_ne_true]
      refine V_if mi_213_136 (fun _ => ?_) (fun h1 => absurd (show (0 : Int32) = 0 from rfl) h1)
      have fin : ∀ t : Int, 0 ≤ t → t ≤ 4 → t = (if seeS B n i = 59 then 3 else 4) → V l D tys A 213 1 0 0 (ADM ad tys w0 (if seeS B n i = 59 then 3 else 4) v0 i (i + 1)) 0 0 226 (stL 1 (.int (Int32.ofInt (seeS B n i))) [(0, Value.ref (ad 90))]) [.int (Int32.ofInt t), .ref (ad 90)] w' := by
        intro t t0 t4 et
        rw [← et]
        have tt : (Int32.ofInt t).toInt = t := Int32.toInt_ofInt_of_le (by omega) (by omega)
        refine V_putI mi_213_226 G1 f10 (by omega) rfl (by decide +kernel) (by omega) (by omega) (fun w2 G2 U2 => ?_)
        refine V_aload (v := ad 90) mi_213_229 l0 ?_
        refine V_dup mi_213_230 rfl ?_
        refine V_getI mi_213_231 G2 ((upd_ne U2 (by omega)).trans g8) ?_
        refine V_ipush mi_213_234 ?_
        refine V_ibin mi_213_235 (by omega) ?_
        rw [addn1]
        have t1 : (Int32.ofInt ((i + 1 : Nat) : Int)).toInt = ((i + 1 : Nat) : Int) := Int32.toInt_ofInt_of_le (by omega) (by omega)
        refine V_putI mi_213_236 G2 f8 (by omega) rfl (by decide +kernel) (by omega) (by omega) (fun w3 G3 U3 => ?_)
        exact V_retV mi_213_239 ⟨rfl, G3, TKO_upd (TKO_upd O1 U2 (by omega) (by omega)) U3 (by omega) (by omega), upd_eq U3, (upd_ne U3 (by omega)).trans ((upd_ne U2 (by omega)).trans g9), (upd_ne U3 (by omega)).trans (upd_eq U2), (upd_ne U3 (by omega)).trans ((upd_ne U2 (by omega)).trans g11)⟩
      refine V_aload (v := ad 90) mi_213_214 l0 ?_
      refine V_iload (v := Int32.ofInt (seeS B n i)) mi_213_215 l1 ?_
      refine V_ipush mi_213_216 ?_
      have h59 := cdP_iff (x := 1) (a := seeS B n i) (b := 59) (by omega) (by omega) (by omega) (by omega)
      refine V_icmp mi_213_218 (fun h => ?_) (fun h => ?_)
      · have h : seeS B n i - 59 ≠ 0 := h59.mp h
        refine V_ipush mi_213_225 ?_
        exact fin 4 (by omega) (by omega) (by rw [if_neg (by omega)])
      · have h : ¬ (seeS B n i - 59 ≠ 0) := fun q => h (h59.mpr q)
        refine V_ipush mi_213_221 ?_
        refine V_goto mi_213_222 ?_
        exact fin 3 (by omega) (by omega) (by rw [if_pos (by omega)])
theorem adm_0 {w0 : va_W} {n a : Nat} {B : Nat → Int} {v0 : Int} : ∀ (f i : Nat) (w : va_W), n - i < f → i ≤ n → GOK ad tys GG w → TXM w n B → TKO w0 w → rd w 90 8 = some (.int (Int32.ofInt (i : Int))) → rd w 90 11 = some (.int (Int32.ofInt v0)) → tkI B n a = runS blB B n 1401 i → V l D tys A 213 1 0 0 (ADT ad tys B n a v0 w0) 0 0 0 [(0, .ref (ad 90))] [] w
  | 0, i, w, h, hi, _, _, _, _, _, _ => by omega
  | f + 1, i, w, h, hi, G, T, O, h8, h11, ei => by
    have n1 := T.2.1
    obtain ⟨m0, m1⟩ := see_bd B n i
    have go26 : blB (seeS B n i) = true → V l D tys A 213 1 0 0 (ADT ad tys B n a v0 w0) 0 0 26 [(0, .ref (ad 90))] [] w := by
      intro hb
      have hin : i < n := see_lt (fun e => by rw [e] at hb; exact absurd hb (by decide))
      refine V_aload (v := ad 90) mi_213_26 (List.Mem.head _) ?_
      refine V_dup mi_213_27 rfl ?_
      refine V_getI mi_213_28 G h8 ?_
      refine V_ipush mi_213_31 ?_
      refine V_ibin mi_213_32 (by omega) ?_
      rw [addn1]
      have t1 : (Int32.ofInt ((i + 1 : Nat) : Int)).toInt = ((i + 1 : Nat) : Int) := Int32.toInt_ofInt_of_le (by omega) (by omega)
      refine V_putI mi_213_33 G f8 (by omega) rfl (by decide +kernel) (by omega) (by omega) (fun w2 G2 U2 => ?_)
      refine V_goto mi_213_36 ?_
      exact adm_0 f (i + 1) w2 (by omega) (by omega) G2 (TXM_upd T U2 (by omega)) (TKO_upd O U2 (by omega) (by omega)) (upd_eq U2) ((upd_ne U2 (by omega)).trans h11) (ei.trans (run_step (by decide) n1 hi hb))
    refine V_aload (v := ad 90) mi_213_0 (List.Mem.head _) ?_
    refine V_aload (v := ad 90) mi_213_1 (List.Mem.head _) ?_
    refine V_getI mi_213_2 G h8 ?_
    refine V_callM (As := [.int (Int32.ofInt (i : Int))]) (st := []) mi_213_5 (by omega) (by decide +kernel) (by decide +kernel) G (seeM G T (by omega)) (by omega) (show 1 = mN 212 by decide +kernel) (by simp) ?_
    rintro r w' ⟨rfl, rfl⟩
    refine V_ipush mi_213_8 ?_
    have c1 := cdP_iff (x := 0) (a := seeS B n i) (b := 32) (by omega) (by omega) (by omega) (by omega)
    refine V_icmp mi_213_10 (fun h => go26 (by
      have h : seeS B n i - 32 = 0 := c1.mp h
      unfold blB
      rw [decide_eq_true (show seeS B n i = 32 by omega), Bool.true_or])) (fun hn32 => ?_)
    refine V_aload (v := ad 90) mi_213_13 (List.Mem.head _) ?_
    refine V_aload (v := ad 90) mi_213_14 (List.Mem.head _) ?_
    refine V_getI mi_213_15 G h8 ?_
    refine V_callM (As := [.int (Int32.ofInt (i : Int))]) (st := []) mi_213_18 (by omega) (by decide +kernel) (by decide +kernel) G (seeM G T (by omega)) (by omega) (show 1 = mN 212 by decide +kernel) (by simp) ?_
    rintro r w' ⟨rfl, rfl⟩
    refine V_ipush mi_213_21 ?_
    have c2 := cdP_iff (x := 1) (a := seeS B n i) (b := 10) (by omega) (by omega) (by omega) (by omega)
    refine V_icmp mi_213_23 (fun hn10 => ?_) (fun h => go26 (by
      have : ¬ (seeS B n i - 10 ≠ 0) := fun q => h (c2.mpr q)
      unfold blB
      rw [decide_eq_true (show seeS B n i = 10 by omega), Bool.or_true]))
    have hb : blB (seeS B n i) = false := by
      have h1 : seeS B n i - 10 ≠ 0 := c2.mp hn10
      have h2 : ¬ (seeS B n i - 32 = 0) := fun q => hn32 (c1.mpr q)
      unfold blB
      rw [decide_eq_false (show ¬ seeS B n i = 32 by omega), decide_eq_false (show ¬ seeS B n i = 10 by omega)]
      rfl
    exact adm_39 G T O hi h8 h11 (ei.trans (run_stop hb))
theorem adm_ct (hG : GOK ad tys GG ws) {n a : Nat} {B : Nat → Int} {v0 : Int} (T : TXM ws n B) (ha : a ≤ n) (h8 : rd ws 90 8 = some (.int (Int32.ofInt (a : Int)))) (h11 : rd ws 90 11 = some (.int (Int32.ofInt v0))) : CT l D tys A 213 1 0 0 [.ref (ad 90)] ws (ADT ad tys B n a v0 ws) := CT_of_V (by omega) (show (1 : Nat) ≤ mML 213 by decide +kernel) (adm_0 (n - a + 1) a ws (by omega) ha hG T TKO_rf h8 h11 rfl)
end TKN
