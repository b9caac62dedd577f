section XVG
variable {l : Launch} {D : va_G} {tys : List (ClassId × FieldType)} {A : Nat → Prop} {ad : Nat → Nat} {ws : va_W}
theorem g0r9 : gOr 0 10 13 9 47 := ⟨_, rfl, by decide +kernel⟩
theorem g47o : gO 47 3 2 := ⟨_, rfl⟩
theorem or0v (a : Int) : ibF 6 (Int32.ofInt a) (Int32.ofInt 0) = Int32.ofInt a := by
  show Int32.ofInt a ||| 0 = _
  exact Int32.or_zero
/-- all of the first n, one of them -/
noncomputable def alB (P : Nat → Bool) : Nat → Bool
  | 0 => true
  | n + 1 => alB P n && P n
theorem alB_t {P : Nat → Bool} : ∀ n : Nat, (∀ p, p < n → P p = true) → alB P n = true
  | 0, _ => rfl
  | n + 1, h => by
    unfold alB
    rw [alB_t n (fun p hp => h p (by omega)), h n (by omega)]
    rfl
theorem alB_m {P : Nat → Bool} {p : Nat} (h : alB P p = false) : ∀ n : Nat, p ≤ n → alB P n = false
  | 0, hp => by
    rw [show p = 0 by omega] at h
    exact h
  | n + 1, hp => by
    by_cases e : p = n + 1
    · rw [e] at h
      exact h
    · unfold alB
      rw [alB_m h n (by omega)]
      rfl
theorem alB_f {P : Nat → Bool} {p n : Nat} (hp : p < n) (h : P p = false) : alB P n = false := alB_m (p := p + 1) (by unfold alB; rw [h, Bool.and_false]) n (by omega)
/-- number p of slot j -/
noncomputable def nv (nm : Nat → Int64) (j p : Nat) : Int := (nm (60 * j + p)).toInt
theorem nv_bd (nm : Nat → Int64) (j p : Nat) : -9223372036854775808 ≤ nv nm j p ∧ nv nm j p ≤ 9223372036854775807 := by
  have h1 := (nm (60 * j + p)).le_toInt
  have h2 := (nm (60 * j + p)).toInt_lt
  unfold nv
  exact ⟨by omega, by omega⟩
theorem nvX_ct {sz wds : Nat → Int} {nm : Nat → Int64} {j i : Nat} (hG : GOK ad tys GG ws) (h : SLX sz wds nm ws) (hB : SLB sz wds nm) (hj : j < 4) (hi : (i : Int) < sz j) : CT l D tys A 164 2 0 0 [.ref (ad 39), .int (Int32.ofInt ((j : Int))), .int (Int32.ofInt ((i : Int)))] ws (fun r w => w = ws ∧ r = some (.long (Int64.ofInt (nv nm j i)))) := by
  unfold nv
  rw [Int64.ofInt_toInt]
  exact nmX_ct2 hG hj (h j hj).1 (hB j hj).1.2 hi ((h j hj).2.2 i hi)
theorem nvM_ct {sz wds : Nat → Int} {nm : Nat → Int64} {j i : Nat} (hG : GOK ad tys GG ws) (h : SLM sz wds nm ws) (hB : SLB sz wds nm) (hj : j < 4) (hi : (i : Int) < sz j) : CT l D tys A 300 0 0 0 [.ref (ad 90), .int (Int32.ofInt ((j : Int))), .int (Int32.ofInt ((i : Int)))] ws (fun r w => w = ws ∧ r = some (.long (Int64.ofInt (nv nm j i)))) := by
  have b := hB j hj
  unfold nv
  rw [Int64.ofInt_toInt]
  exact nmM_ct2 hG hj (by omega) ((h j hj).2.2 i hi)
theorem in3_ct {v lo hi : Int} (v1 : -9223372036854775808 ≤ v) (v2 : v ≤ 9223372036854775807) (a1 : -9223372036854775808 ≤ lo) (a2 : lo ≤ 9223372036854775807) (b1 : -9223372036854775808 ≤ hi) (b2 : hi ≤ 9223372036854775807) : CT l D tys A 193 0 0 0 [.long (Int64.ofInt v), .long (Int64.ofInt lo), .long (Int64.ofInt hi)] ws (fun r w => w = ws ∧ r = some (.int (bI (decide (lo ≤ v ∧ v ≤ hi))))) := by
  refine CT_post (in2_ct v1 v2 a1 a2 b1 b2) (fun r w h => ⟨h.1, ?_⟩)
  rcases h.2 with ⟨e, k1, k2⟩ | ⟨e, k⟩
  · rw [e, decide_eq_true (show lo ≤ v ∧ v ≤ hi from ⟨k1, k2⟩)]
    rfl
  · rw [e, decide_eq_false k]
    rfl
theorem isy_ct {G : Nat → Int} {z : Int} (hG : GOK ad tys GG ws) (hW : W91 G ws) (hg : HB G) (z1 : -9223372036854775808 ≤ z) (z2 : z ≤ 9223372036854775807) : CT l D tys A 203 1 0 0 [.ref (ad 90), .long (Int64.ofInt (z))] ws (fun r w => w = ws ∧ r = some (.int (bI (decide (0 ≤ z ∧ z ≤ G 0 - 1))))) := by
  refine CT_of_V (by omega) (show (3 : Nat) ≤ mML 203 by decide +kernel) ?_
  obtain ⟨s91, e91, -⟩ := g91s
  have g0 := hg.b0
  refine V_lload (v := Int64.ofInt (z)) mi_203_0 (by simp [stL, stL2, lv_args, Value.category]) ?_
  refine V_lpush mi_203_1 ?_
  refine V_aload (v := ad 90) mi_203_2 (by simp [stL, stL2, lv_args, Value.category]) ?_
  refine V_getI mi_203_3 hG (rref gr1m (by omega) hG) ?_
  refine V_ipush mi_203_6 ?_
  refine V_aldX (j := 0) mi_203_7 rfl hG e91 (by omega) (by omega) (hW _ (by omega)) ?_
  refine V_ipush mi_203_8 ?_
  refine V_ibin mi_203_9 (by omega) ?_
  rw [ib1]
  refine V_i2l mi_203_10 ?_
  rw [i2lx ⟨by omega, by omega⟩]
  refine V_stat (As := [.long (Int64.ofInt (z)), .long (Int64.ofInt (0)), .long (Int64.ofInt ((G 0) - (1)))]) (st := []) mi_203_11 (by omega) (in3_ct (v := z) (lo := 0) (hi := G 0 - 1) z1 z2 (by omega) (by omega) (by omega) (by omega)) (by omega) (show 3 = mN 193 by decide +kernel) (by simp [Value.category]) ⟨Nat.le_refl _, Nat.le_refl _⟩ ?_
  rintro r w1 ⟨rfl, rfl⟩
  exact V_retI mi_203_14 (fun _ => bI_k _) ⟨rfl, rfl⟩
end XVG
