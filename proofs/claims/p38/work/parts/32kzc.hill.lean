section XUH
variable {l : Launch} {D : va_G} {tys : List (ClassId × FieldType)} {A : Nat → Prop} {ad : Nat → Nat} {ws : va_W}
theorem MTW_W {G : Nat → Int} {w0 w : va_W} (o : MTW w0 w) (h : W91 G w0) : W91 G w := fun j hj => (o 91 j (by omega) (by omega)).trans (h j hj)
/-- how many of the first n bits of p are set -/
def bnS (p : Nat) : Nat → Nat
  | 0 => 0
  | i + 1 => bnS p i + p / 2 ^ i % 2
theorem bnS_le (p : Nat) : ∀ n : Nat, bnS p n ≤ n
  | 0 => Nat.le_refl _
  | n + 1 => by
    have := bnS_le p n
    have := Nat.mod_lt (p / 2 ^ n) (show 0 < 2 by omega)
    unfold bnS
    omega
theorem bnS_hi {p S : Nat} (h : p < 2 ^ S) : ∀ n : Nat, bnS p n ≤ S
  | 0 => Nat.zero_le _
  | n + 1 => by
    have a := bnS_hi h n
    by_cases c : n < S
    · have := bnS_le p n
      have := Nat.mod_lt (p / 2 ^ n) (show 0 < 2 by omega)
      unfold bnS
      omega
    · have e : p / 2 ^ n = 0 := Nat.div_eq_of_lt (Nat.lt_of_lt_of_le h (Nat.pow_le_pow_right (by omega) (by omega)))
      unfold bnS
      rw [e]
      omega
theorem bcT_all : (List.range 4096).all (fun p => decide (bcX (Int32.ofInt ((p : Nat) : Int)) = Int32.ofInt ((bnS p 13 : Nat) : Int))) = true := by decide +kernel
theorem andT_all : (List.range 4096).all (fun p => decide (ibF 5 (Int32.ofInt ((p : Nat) : Int)) (Int32.ofInt 1) = Int32.ofInt ((p % 2 : Nat) : Int))) = true := by decide +kernel
theorem shr_i (x : Int32) (i : Nat) (hi : i < 13) : (ibF 9 x (Int32.ofInt (i : Int))).toInt = x.toInt / 2 ^ i := by
  rcases (show i = 0 ∨ i = 1 ∨ i = 2 ∨ i = 3 ∨ i = 4 ∨ i = 5 ∨ i = 6 ∨ i = 7 ∨ i = 8 ∨ i = 9 ∨ i = 10 ∨ i = 11 ∨ i = 12 by omega) with rfl | rfl | rfl | rfl | rfl | rfl | rfl | rfl | rfl | rfl | rfl | rfl | rfl
  · show (x.toBitVec.sshiftRight 0).toInt = x.toBitVec.toInt / 2 ^ 0
    rw [BitVec.toInt_sshiftRight, Int.shiftRight_eq_div_pow]
    rfl
  · show (x.toBitVec.sshiftRight 1).toInt = x.toBitVec.toInt / 2 ^ 1
    rw [BitVec.toInt_sshiftRight, Int.shiftRight_eq_div_pow]
    rfl
  · show (x.toBitVec.sshiftRight 2).toInt = x.toBitVec.toInt / 2 ^ 2
    rw [BitVec.toInt_sshiftRight, Int.shiftRight_eq_div_pow]
    rfl
  · show (x.toBitVec.sshiftRight 3).toInt = x.toBitVec.toInt / 2 ^ 3
    rw [BitVec.toInt_sshiftRight, Int.shiftRight_eq_div_pow]
    rfl
  · show (x.toBitVec.sshiftRight 4).toInt = x.toBitVec.toInt / 2 ^ 4
    rw [BitVec.toInt_sshiftRight, Int.shiftRight_eq_div_pow]
    rfl
  · show (x.toBitVec.sshiftRight 5).toInt = x.toBitVec.toInt / 2 ^ 5
    rw [BitVec.toInt_sshiftRight, Int.shiftRight_eq_div_pow]
    rfl
  · show (x.toBitVec.sshiftRight 6).toInt = x.toBitVec.toInt / 2 ^ 6
    rw [BitVec.toInt_sshiftRight, Int.shiftRight_eq_div_pow]
    rfl
  · show (x.toBitVec.sshiftRight 7).toInt = x.toBitVec.toInt / 2 ^ 7
    rw [BitVec.toInt_sshiftRight, Int.shiftRight_eq_div_pow]
    rfl
  · show (x.toBitVec.sshiftRight 8).toInt = x.toBitVec.toInt / 2 ^ 8
    rw [BitVec.toInt_sshiftRight, Int.shiftRight_eq_div_pow]
    rfl
  · show (x.toBitVec.sshiftRight 9).toInt = x.toBitVec.toInt / 2 ^ 9
    rw [BitVec.toInt_sshiftRight, Int.shiftRight_eq_div_pow]
    rfl
  · show (x.toBitVec.sshiftRight 10).toInt = x.toBitVec.toInt / 2 ^ 10
    rw [BitVec.toInt_sshiftRight, Int.shiftRight_eq_div_pow]
    rfl
  · show (x.toBitVec.sshiftRight 11).toInt = x.toBitVec.toInt / 2 ^ 11
    rw [BitVec.toInt_sshiftRight, Int.shiftRight_eq_div_pow]
    rfl
  · show (x.toBitVec.sshiftRight 12).toInt = x.toBitVec.toInt / 2 ^ 12
    rw [BitVec.toInt_sshiftRight, Int.shiftRight_eq_div_pow]
    rfl
theorem bit13 {p i : Nat} (hp : p < 4096) (hi : i < 13) : ibF 5 (ibF 9 (Int32.ofInt (p : Int)) (Int32.ofInt (i : Int))) (Int32.ofInt 1) = Int32.ofInt ((p / 2 ^ i % 2 : Nat) : Int) := by
  have hd : p / 2 ^ i ≤ p := Nat.div_le_self _ _
  have h0 : (0 : Int) ≤ ((p / 2 ^ i : Nat) : Int) := Int.natCast_nonneg _
  have e : ibF 9 (Int32.ofInt (p : Int)) (Int32.ofInt (i : Int)) = Int32.ofInt ((p / 2 ^ i : Nat) : Int) := by
    apply Int32.toInt.inj
    rw [shr_i _ _ hi, Int32.toInt_ofInt_of_le (by omega) (by omega), Int32.toInt_ofInt_of_le (by omega) (by omega)]
    rw [Int.natCast_ediv, Int.natCast_pow]
    rfl
  rw [e]
  exact of_decide_eq_true (List.all_eq_true.mp andT_all (p / 2 ^ i) (List.mem_range.mpr (by omega)))
theorem sh12_all : (List.range 13).all (fun s => decide (ibF 8 (Int32.ofInt 1) (Int32.ofInt ((s : Nat) : Int)) = Int32.ofInt ((2 ^ s : Nat) : Int))) = true := by decide +kernel
theorem sh12 {s : Nat} (h : s ≤ 12) : ibF 8 (Int32.ofInt 1) (Int32.ofInt (s : Int)) = Int32.ofInt ((2 ^ s : Nat) : Int) := of_decide_eq_true (List.all_eq_true.mp sh12_all s (List.mem_range.mpr (by omega)))
theorem pw12 {s : Nat} (h : s ≤ 12) : 1 ≤ 2 ^ s ∧ 2 ^ s ≤ 4096 := ⟨Nat.one_le_two_pow, Nat.le_trans (Nat.pow_le_pow_right (by omega) h) (by decide)⟩
theorem fu12_all : (List.range 13).all (fun n => (List.range n).all (fun s => huB (Int32.ofInt ((2 ^ n - 1 : Nat) : Int)) s)) = true := by decide +kernel
theorem fu12 {n s : Nat} (hn : n ≤ 12) (hs : s < n) : huB (Int32.ofInt ((2 ^ n - 1 : Nat) : Int)) s = true := List.all_eq_true.mp (List.all_eq_true.mp fu12_all n (List.mem_range.mpr (by omega))) s (List.mem_range.mpr hs)
theorem alBt_all : (List.range 7).all (fun n => (List.range n).all (fun i => decide (bitO (allV ((n : Nat) : Int)) ((i : Nat) : Int) = allV ((n : Nat) : Int)))) = true := by decide +kernel
theorem alBt {n i : Nat} (hn : n ≤ 6) (hi : i < n) : bitO (allV (n : Int)) (i : Int) = allV (n : Int) := of_decide_eq_true (List.all_eq_true.mp (List.all_eq_true.mp alBt_all n (List.mem_range.mpr (by omega))) i (List.mem_range.mpr hi))
section KEE
variable {G : Nat → Int} {hu : Nat → Bool} {he : Nat → Int → Nat → Bool} {dx : Nat → Int → Nat → Int}
/-- who knows it whole goes on knowing it so -/
theorem one_keep {s f o : Nat} {S : TT × Int} (hB : HB G) (wi : WI G) (hs : (s : Int) < G 4) (ho : o < 6) (h : S.1.K (6 * f + o) = allV (G (6 + 7 * o))) : (oneW G hu he dx s S).1.K (6 * f + o) = allV (G (6 + 7 * o)) := by
  have b4 := hB.b4
  unfold oneW
  split
  · show spW (pW G he s S.2) G s (G 3).toNat S.1.K (6 * f + o) = _
    unfold spW
    split
    · next c =>
      have c1 : sWhs G s = o := by have := c.1; omega
      have gl := hB.bl o ho
      obtain ⟨⟨w6, o6, i6, n24⟩, g0, g1, g2, g3⟩ := say_b hB (s := s) (by omega)
      have k := wi s hs o ho (by rw [g1, c1])
      obtain ⟨n, en⟩ := Int.eq_ofNat_of_zero_le (show 0 ≤ G (6 + 7 * o) by omega)
      rw [h, en]
      exact alBt (by omega) (by omega)
    · exact h
  · exact h
theorem say_keep {h f o : Nat} (hB : HB G) (wi : WI G) (ho : o < 6) : ∀ (m s : Nat) (S : TT × Int), s + m ≤ (G 4).toNat → S.1.K (6 * f + o) = allV (G (6 + 7 * o)) → (sayW G hu he dx h m s S).1.K (6 * f + o) = allV (G (6 + 7 * o))
  | 0, s, S, _, k => k
  | m + 1, s, S, hm, k => by
    unfold sayW
    split
    · exact say_keep hB wi ho m (s + 1) _ (by omega) (one_keep hB wi (by omega) ho k)
    · exact say_keep hB wi ho m (s + 1) _ (by omega) k
theorem tell_keep {f o : Nat} {x0 : Int} (hB : HB G) (wi : WI G) (ho : o < 6) (k : iniK G (6 * f + o) = allV (G (6 + 7 * o))) : ∀ h : Nat, (tellW G hu he dx x0 h).1.K (6 * f + o) = allV (G (6 + 7 * o))
  | 0 => k
  | h + 1 => say_keep hB wi ho _ 0 _ (by omega) (tell_keep hB wi ho k h)
theorem say_full {h : Nat} (a : ∀ s, s < (G 4).toNat → hu s = true) : ∀ (m s : Nat) (S : TT × Int), s + m ≤ (G 4).toNat → sayW G hu he dx h m s S = S
  | 0, s, S, _ => rfl
  | m + 1, s, S, hm => by
    have e : oneW G hu he dx s S = S := by
      unfold oneW
      exact if_neg (fun k => by rw [a s (by omega)] at k; exact Bool.noConfusion k.1)
    unfold sayW
    rw [e, ite_self]
    exact say_full a m (s + 1) S (by omega)
theorem tell_full {x0 : Int} (a : ∀ s, s < (G 4).toNat → hu s = true) : ∀ h : Nat, tellW G hu he dx x0 h = (iniT G, x0)
  | 0 => rfl
  | h + 1 => by
    show sayW G hu he dx h (G 4).toNat 0 (tellW G hu he dx x0 h) = _
    rw [say_full a _ 0 _ (by omega)]
    exact tell_full a h
end KEE
/-- those that leave it unknown -/
def huW (G : Nat → Int) (f o p : Nat) : Bool := hshB G (Int32.ofInt (p : Int)) f o
theorem hu_mono {G : Nat → Int} {f o S : Nat} (hB : HB G) (wi : WI G) (ho : o < 6) (e4 : G 4 = (S : Int)) (h : huW G f o (2 ^ S - 1) = true) (p : Nat) : huW G f o p = true := by
  have b4 := hB.b4
  have k : (htS G (Int32.ofInt ((2 ^ S - 1 : Nat) : Int)) (G 2).toNat).1.K (6 * f + o) = allV (G (6 + 7 * o)) := of_decide_eq_true h
  unfold htS at k
  rw [tell_full (fun s hs => fu12 (by omega) (by rw [e4] at hs; omega))] at k
  exact decide_eq_true (tell_keep hB wi ho k _)
/-- the least of the fewest so far -/
def hsS (W : Nat → Bool) : Nat → Nat → Int → Int
  | 0, _, a => a
  | m + 1, p, a => if W p = false ∧ (a = -1 ∨ bnS p 13 < bnS a.toNat 13) then hsS W m (p + 1) (p : Int) else hsS W m (p + 1) a
theorem hsS_y {W : Nat → Bool} {m p : Nat} {a : Int} (h : W p = false ∧ (a = -1 ∨ bnS p 13 < bnS a.toNat 13)) : hsS W (m + 1) p a = hsS W m (p + 1) (p : Int) := if_pos h
theorem hsS_n {W : Nat → Bool} {m p : Nat} {a : Int} (h : ¬ (W p = false ∧ (a = -1 ∨ bnS p 13 < bnS a.toNat 13))) : hsS W (m + 1) p a = hsS W m (p + 1) a := if_neg h
def hsP (W : Nat → Bool) (p r : Nat) : Prop := r < p ∧ W r = false ∧ ∀ q, q < p → W q = false → bnS r 13 < bnS q 13 ∨ (bnS r 13 = bnS q 13 ∧ r ≤ q)
theorem hsS_k {W : Nat → Bool} : ∀ (m p : Nat) (a : Int), ((a = -1 ∧ ∀ q, q < p → W q = true) ∨ ∃ r : Nat, a = (r : Int) ∧ hsP W p r) → ((hsS W m p a = -1 ∧ ∀ q, q < p + m → W q = true) ∨ ∃ r : Nat, hsS W m p a = (r : Int) ∧ hsP W (p + m) r)
  | 0, p, a, h => h
  | m + 1, p, a, h => by
    rw [show p + (m + 1) = p + 1 + m by omega]
    by_cases c : W p = false ∧ (a = -1 ∨ bnS p 13 < bnS a.toNat 13)
    · rw [hsS_y c]
      refine hsS_k m (p + 1) (p : Int) (Or.inr ⟨p, rfl, by omega, c.1, fun q hq hw => ?_⟩)
      by_cases e : q = p
      · rw [e]
        exact Or.inr ⟨rfl, Nat.le_refl _⟩
      · rcases h with ⟨ha, hall⟩ | ⟨r, ha, h1, h2, h3⟩
        · rw [hall q (by omega)] at hw
          exact absurd hw Bool.noConfusion
        · have k := h3 q (by omega) hw
          rcases c.2 with c2 | c2
          · omega
          · rw [ha, Int.toNat_natCast] at c2
            omega
    · rw [hsS_n c]
      refine hsS_k m (p + 1) a ?_
      rcases h with ⟨ha, hall⟩ | ⟨r, ha, h1, h2, h3⟩
      · refine Or.inl ⟨ha, fun q hq => ?_⟩
        by_cases e : q = p
        · rw [e]
          cases hw : W p with
          | true => rfl
          | false => exact absurd ⟨hw, Or.inl ha⟩ c
        · exact hall q (by omega)
      · refine Or.inr ⟨r, ha, by omega, h2, fun q hq hw => ?_⟩
        by_cases e : q = p
        · rw [e] at hw ⊢
          have c2 : ¬ bnS p 13 < bnS r 13 := fun k => c ⟨hw, Or.inr (by rw [ha, Int.toNat_natCast]; exact k)⟩
          omega
        · exact h3 q (by omega) hw
/-- what both answer -/
def hsV (W : Nat → Bool) (N : Nat) : Int := hsS W N 0 (-1)
theorem hsV_no {W : Nat → Bool} {N : Nat} (h : ∀ q, q < N → W q = true) : hsV W N = -1 := by
  rcases hsS_k (W := W) N 0 (-1) (Or.inl ⟨rfl, fun q hq => absurd hq (by omega)⟩) with ⟨e, -⟩ | ⟨r, e, h1, h2, h3⟩
  · exact e
  · rw [h r (by omega)] at h2
    exact absurd h2 Bool.noConfusion
theorem hsV_is {W : Nat → Bool} {N r : Nat} (h : hsP W N r) : hsV W N = (r : Int) := by
  obtain ⟨h1, h2, h3⟩ := h
  rcases hsS_k (W := W) N 0 (-1) (Or.inl ⟨rfl, fun q hq => absurd hq (by omega)⟩) with ⟨e, k⟩ | ⟨r2, e, k1, k2, k3⟩
  · rw [k r (by omega)] at h2
    exact absurd h2 Bool.noConfusion
  · have a := h3 r2 (by omega) k2
    have b := k3 r (by omega) h2
    rw [show hsV W N = (r2 : Int) from e, show r2 = r by omega]
theorem hsV_bd {W : Nat → Bool} {N : Nat} : -1 ≤ hsV W N ∧ (hsV W N : Int) < N ∨ hsV W N = -1 := by
  rcases hsS_k (W := W) N 0 (-1) (Or.inl ⟨rfl, fun q hq => absurd hq (by omega)⟩) with ⟨e, k⟩ | ⟨r2, e, k1, k2, k3⟩
  · exact Or.inr e
  · have e2 : hsV W N = (r2 : Int) := e
    exact Or.inl ⟨by omega, by omega⟩
theorem bch_ct {p : Nat} (hp : p < 4096) : CT l D tys A 344 0 0 0 [.int (Int32.ofInt (p : Int))] ws (fun r w => w = ws ∧ r = some (.int (Int32.ofInt ((bnS p 13 : Nat) : Int)))) := by
  rw [← of_decide_eq_true (List.all_eq_true.mp bcT_all p (List.mem_range.mpr hp))]
  generalize Int32.ofInt (p : Int) = x
  refine CT_of_V (by omega) (show (1 : Nat) ≤ mML 344 by decide +kernel) ?_
  refine V_iload (v := x) mi_344_0 (by simp [stL, lv_args, Value.category]) ?_
  refine V_iload (v := x) mi_344_1 (by simp [stL, lv_args, Value.category]) ?_
  refine V_ipush mi_344_2 ?_
  refine V_ibin mi_344_3 (by omega) ?_
  refine V_ipush mi_344_4 ?_
  refine V_ibin mi_344_7 (by omega) ?_
  refine V_ibin mi_344_8 (by omega) ?_
  refine V_istore mi_344_9 ?_
  refine V_iload (v := ibF 1 (x) (ibF 5 (ibF 10 (x) (Int32.ofInt (1))) (Int32.ofInt (1431655765)))) mi_344_10 (by simp [stL, lv_args, Value.category]) ?_
  refine V_ipush mi_344_11 ?_
  refine V_ibin mi_344_14 (by omega) ?_
  refine V_iload (v := ibF 1 (x) (ibF 5 (ibF 10 (x) (Int32.ofInt (1))) (Int32.ofInt (1431655765)))) mi_344_15 (by simp [stL, lv_args, Value.category]) ?_
  refine V_ipush mi_344_16 ?_
  refine V_ibin mi_344_17 (by omega) ?_
  refine V_ipush mi_344_18 ?_
  refine V_ibin mi_344_21 (by omega) ?_
  refine V_ibin mi_344_22 (by omega) ?_
  refine V_istore mi_344_23 ?_
  refine V_iload (v := ibF 0 (ibF 5 (ibF 1 (x) (ibF 5 (ibF 10 (x) (Int32.ofInt (1))) (Int32.ofInt (1431655765)))) (Int32.ofInt (858993459))) (ibF 5 (ibF 10 (ibF 1 (x) (ibF 5 (ibF 10 (x) (Int32.ofInt (1))) (Int32.ofInt (1431655765)))) (Int32.ofInt (2))) (Int32.ofInt (858993459)))) mi_344_24 (by simp [stL, lv_args, Value.category]) ?_
  refine V_iload (v := ibF 0 (ibF 5 (ibF 1 (x) (ibF 5 (ibF 10 (x) (Int32.ofInt (1))) (Int32.ofInt (1431655765)))) (Int32.ofInt (858993459))) (ibF 5 (ibF 10 (ibF 1 (x) (ibF 5 (ibF 10 (x) (Int32.ofInt (1))) (Int32.ofInt (1431655765)))) (Int32.ofInt (2))) (Int32.ofInt (858993459)))) mi_344_25 (by simp [stL, lv_args, Value.category]) ?_
  refine V_ipush mi_344_26 ?_
  refine V_ibin mi_344_27 (by omega) ?_
  refine V_ibin mi_344_28 (by omega) ?_
  refine V_ipush mi_344_29 ?_
  refine V_ibin mi_344_32 (by omega) ?_
  refine V_istore mi_344_33 ?_
  refine V_iload (v := ibF 5 (ibF 0 (ibF 0 (ibF 5 (ibF 1 (x) (ibF 5 (ibF 10 (x) (Int32.ofInt (1))) (Int32.ofInt (1431655765)))) (Int32.ofInt (858993459))) (ibF 5 (ibF 10 (ibF 1 (x) (ibF 5 (ibF 10 (x) (Int32.ofInt (1))) (Int32.ofInt (1431655765)))) (Int32.ofInt (2))) (Int32.ofInt (858993459)))) (ibF 10 (ibF 0 (ibF 5 (ibF 1 (x) (ibF 5 (ibF 10 (x) (Int32.ofInt (1))) (Int32.ofInt (1431655765)))) (Int32.ofInt (858993459))) (ibF 5 (ibF 10 (ibF 1 (x) (ibF 5 (ibF 10 (x) (Int32.ofInt (1))) (Int32.ofInt (1431655765)))) (Int32.ofInt (2))) (Int32.ofInt (858993459)))) (Int32.ofInt (4)))) (Int32.ofInt (252645135))) mi_344_34 (by simp [stL, lv_args, Value.category]) ?_
  refine V_iload (v := ibF 5 (ibF 0 (ibF 0 (ibF 5 (ibF 1 (x) (ibF 5 (ibF 10 (x) (Int32.ofInt (1))) (Int32.ofInt (1431655765)))) (Int32.ofInt (858993459))) (ibF 5 (ibF 10 (ibF 1 (x) (ibF 5 (ibF 10 (x) (Int32.ofInt (1))) (Int32.ofInt (1431655765)))) (Int32.ofInt (2))) (Int32.ofInt (858993459)))) (ibF 10 (ibF 0 (ibF 5 (ibF 1 (x) (ibF 5 (ibF 10 (x) (Int32.ofInt (1))) (Int32.ofInt (1431655765)))) (Int32.ofInt (858993459))) (ibF 5 (ibF 10 (ibF 1 (x) (ibF 5 (ibF 10 (x) (Int32.ofInt (1))) (Int32.ofInt (1431655765)))) (Int32.ofInt (2))) (Int32.ofInt (858993459)))) (Int32.ofInt (4)))) (Int32.ofInt (252645135))) mi_344_35 (by simp [stL, lv_args, Value.category]) ?_
  refine V_ipush mi_344_36 ?_
  refine V_ibin mi_344_38 (by omega) ?_
  refine V_ibin mi_344_39 (by omega) ?_
  refine V_istore mi_344_40 ?_
  refine V_iload (v := ibF 0 (ibF 5 (ibF 0 (ibF 0 (ibF 5 (ibF 1 (x) (ibF 5 (ibF 10 (x) (Int32.ofInt (1))) (Int32.ofInt (1431655765)))) (Int32.ofInt (858993459))) (ibF 5 (ibF 10 (ibF 1 (x) (ibF 5 (ibF 10 (x) (Int32.ofInt (1))) (Int32.ofInt (1431655765)))) (Int32.ofInt (2))) (Int32.ofInt (858993459)))) (ibF 10 (ibF 0 (ibF 5 (ibF 1 (x) (ibF 5 (ibF 10 (x) (Int32.ofInt (1))) (Int32.ofInt (1431655765)))) (Int32.ofInt (858993459))) (ibF 5 (ibF 10 (ibF 1 (x) (ibF 5 (ibF 10 (x) (Int32.ofInt (1))) (Int32.ofInt (1431655765)))) (Int32.ofInt (2))) (Int32.ofInt (858993459)))) (Int32.ofInt (4)))) (Int32.ofInt (252645135))) (ibF 10 (ibF 5 (ibF 0 (ibF 0 (ibF 5 (ibF 1 (x) (ibF 5 (ibF 10 (x) (Int32.ofInt (1))) (Int32.ofInt (1431655765)))) (Int32.ofInt (858993459))) (ibF 5 (ibF 10 (ibF 1 (x) (ibF 5 (ibF 10 (x) (Int32.ofInt (1))) (Int32.ofInt (1431655765)))) (Int32.ofInt (2))) (Int32.ofInt (858993459)))) (ibF 10 (ibF 0 (ibF 5 (ibF 1 (x) (ibF 5 (ibF 10 (x) (Int32.ofInt (1))) (Int32.ofInt (1431655765)))) (Int32.ofInt (858993459))) (ibF 5 (ibF 10 (ibF 1 (x) (ibF 5 (ibF 10 (x) (Int32.ofInt (1))) (Int32.ofInt (1431655765)))) (Int32.ofInt (2))) (Int32.ofInt (858993459)))) (Int32.ofInt (4)))) (Int32.ofInt (252645135))) (Int32.ofInt (8)))) mi_344_41 (by simp [stL, lv_args, Value.category]) ?_
  refine V_iload (v := ibF 0 (ibF 5 (ibF 0 (ibF 0 (ibF 5 (ibF 1 (x) (ibF 5 (ibF 10 (x) (Int32.ofInt (1))) (Int32.ofInt (1431655765)))) (Int32.ofInt (858993459))) (ibF 5 (ibF 10 (ibF 1 (x) (ibF 5 (ibF 10 (x) (Int32.ofInt (1))) (Int32.ofInt (1431655765)))) (Int32.ofInt (2))) (Int32.ofInt (858993459)))) (ibF 10 (ibF 0 (ibF 5 (ibF 1 (x) (ibF 5 (ibF 10 (x) (Int32.ofInt (1))) (Int32.ofInt (1431655765)))) (Int32.ofInt (858993459))) (ibF 5 (ibF 10 (ibF 1 (x) (ibF 5 (ibF 10 (x) (Int32.ofInt (1))) (Int32.ofInt (1431655765)))) (Int32.ofInt (2))) (Int32.ofInt (858993459)))) (Int32.ofInt (4)))) (Int32.ofInt (252645135))) (ibF 10 (ibF 5 (ibF 0 (ibF 0 (ibF 5 (ibF 1 (x) (ibF 5 (ibF 10 (x) (Int32.ofInt (1))) (Int32.ofInt (1431655765)))) (Int32.ofInt (858993459))) (ibF 5 (ibF 10 (ibF 1 (x) (ibF 5 (ibF 10 (x) (Int32.ofInt (1))) (Int32.ofInt (1431655765)))) (Int32.ofInt (2))) (Int32.ofInt (858993459)))) (ibF 10 (ibF 0 (ibF 5 (ibF 1 (x) (ibF 5 (ibF 10 (x) (Int32.ofInt (1))) (Int32.ofInt (1431655765)))) (Int32.ofInt (858993459))) (ibF 5 (ibF 10 (ibF 1 (x) (ibF 5 (ibF 10 (x) (Int32.ofInt (1))) (Int32.ofInt (1431655765)))) (Int32.ofInt (2))) (Int32.ofInt (858993459)))) (Int32.ofInt (4)))) (Int32.ofInt (252645135))) (Int32.ofInt (8)))) mi_344_42 (by simp [stL, lv_args, Value.category]) ?_
  refine V_ipush mi_344_43 ?_
  refine V_ibin mi_344_45 (by omega) ?_
  refine V_ibin mi_344_46 (by omega) ?_
  refine V_istore mi_344_47 ?_
  refine V_iload (v := ibF 0 (ibF 0 (ibF 5 (ibF 0 (ibF 0 (ibF 5 (ibF 1 (x) (ibF 5 (ibF 10 (x) (Int32.ofInt (1))) (Int32.ofInt (1431655765)))) (Int32.ofInt (858993459))) (ibF 5 (ibF 10 (ibF 1 (x) (ibF 5 (ibF 10 (x) (Int32.ofInt (1))) (Int32.ofInt (1431655765)))) (Int32.ofInt (2))) (Int32.ofInt (858993459)))) (ibF 10 (ibF 0 (ibF 5 (ibF 1 (x) (ibF 5 (ibF 10 (x) (Int32.ofInt (1))) (Int32.ofInt (1431655765)))) (Int32.ofInt (858993459))) (ibF 5 (ibF 10 (ibF 1 (x) (ibF 5 (ibF 10 (x) (Int32.ofInt (1))) (Int32.ofInt (1431655765)))) (Int32.ofInt (2))) (Int32.ofInt (858993459)))) (Int32.ofInt (4)))) (Int32.ofInt (252645135))) (ibF 10 (ibF 5 (ibF 0 (ibF 0 (ibF 5 (ibF 1 (x) (ibF 5 (ibF 10 (x) (Int32.ofInt (1))) (Int32.ofInt (1431655765)))) (Int32.ofInt (858993459))) (ibF 5 (ibF 10 (ibF 1 (x) (ibF 5 (ibF 10 (x) (Int32.ofInt (1))) (Int32.ofInt (1431655765)))) (Int32.ofInt (2))) (Int32.ofInt (858993459)))) (ibF 10 (ibF 0 (ibF 5 (ibF 1 (x) (ibF 5 (ibF 10 (x) (Int32.ofInt (1))) (Int32.ofInt (1431655765)))) (Int32.ofInt (858993459))) (ibF 5 (ibF 10 (ibF 1 (x) (ibF 5 (ibF 10 (x) (Int32.ofInt (1))) (Int32.ofInt (1431655765)))) (Int32.ofInt (2))) (Int32.ofInt (858993459)))) (Int32.ofInt (4)))) (Int32.ofInt (252645135))) (Int32.ofInt (8)))) (ibF 10 (ibF 0 (ibF 5 (ibF 0 (ibF 0 (ibF 5 (ibF 1 (x) (ibF 5 (ibF 10 (x) (Int32.ofInt (1))) (Int32.ofInt (1431655765)))) (Int32.ofInt (858993459))) (ibF 5 (ibF 10 (ibF 1 (x) (ibF 5 (ibF 10 (x) (Int32.ofInt (1))) (Int32.ofInt (1431655765)))) (Int32.ofInt (2))) (Int32.ofInt (858993459)))) (ibF 10 (ibF 0 (ibF 5 (ibF 1 (x) (ibF 5 (ibF 10 (x) (Int32.ofInt (1))) (Int32.ofInt (1431655765)))) (Int32.ofInt (858993459))) (ibF 5 (ibF 10 (ibF 1 (x) (ibF 5 (ibF 10 (x) (Int32.ofInt (1))) (Int32.ofInt (1431655765)))) (Int32.ofInt (2))) (Int32.ofInt (858993459)))) (Int32.ofInt (4)))) (Int32.ofInt (252645135))) (ibF 10 (ibF 5 (ibF 0 (ibF 0 (ibF 5 (ibF 1 (x) (ibF 5 (ibF 10 (x) (Int32.ofInt (1))) (Int32.ofInt (1431655765)))) (Int32.ofInt (858993459))) (ibF 5 (ibF 10 (ibF 1 (x) (ibF 5 (ibF 10 (x) (Int32.ofInt (1))) (Int32.ofInt (1431655765)))) (Int32.ofInt (2))) (Int32.ofInt (858993459)))) (ibF 10 (ibF 0 (ibF 5 (ibF 1 (x) (ibF 5 (ibF 10 (x) (Int32.ofInt (1))) (Int32.ofInt (1431655765)))) (Int32.ofInt (858993459))) (ibF 5 (ibF 10 (ibF 1 (x) (ibF 5 (ibF 10 (x) (Int32.ofInt (1))) (Int32.ofInt (1431655765)))) (Int32.ofInt (2))) (Int32.ofInt (858993459)))) (Int32.ofInt (4)))) (Int32.ofInt (252645135))) (Int32.ofInt (8)))) (Int32.ofInt (16)))) mi_344_48 (by simp [stL, lv_args, Value.category]) ?_
  refine V_ipush mi_344_49 ?_
  refine V_ibin mi_344_51 (by omega) ?_
  exact V_retI mi_344_52 (fun h => absurd h (by decide +kernel)) ⟨rfl, rfl⟩
theorem bnm_4 {p : Nat} (hp : p < 4096) {post : Option Value → va_W → Prop} : ∀ (m i : Nat), i + m = 13 → post (some (.int (Int32.ofInt ((bnS p 13 : Nat) : Int)))) ws → V l D tys A 194 0 0 0 post 0 0 4 [(0, .int (Int32.ofInt ((p : Int)))), (1, .int (Int32.ofInt ((bnS p i : Int)))), (2, .int (Int32.ofInt ((i : Int))))] [] ws
  | 0, i, hm, kk => by
    have bl := bnS_le p i
    refine V_iload (v := Int32.ofInt ((i : Int))) mi_194_4 (by simp [stL, lv_args, Value.category]) ?_
    refine V_ipush mi_194_5 ?_
    refine V_cge mi_194_7 ⟨by omega, by omega⟩ ⟨by omega, by omega⟩ (fun q => ?_) (fun q => ?_)
    · refine V_iload (v := Int32.ofInt ((bnS p i : Int))) mi_194_24 (by simp [stL, lv_args, Value.category]) ?_
      have e : i = 13 := by omega
      rw [e]
      exact V_retI mi_194_25 (fun h => absurd h (by decide +kernel)) kk
    · exact absurd q (by omega)
  | m + 1, i, hm, kk => by
    have bl := bnS_le p i
    refine V_iload (v := Int32.ofInt ((i : Int))) mi_194_4 (by simp [stL, lv_args, Value.category]) ?_
    refine V_ipush mi_194_5 ?_
    refine V_cge mi_194_7 ⟨by omega, by omega⟩ ⟨by omega, by omega⟩ (fun q => ?_) (fun q => ?_)
    · exact absurd q (by omega)
    · refine V_iload (v := Int32.ofInt ((bnS p i : Int))) mi_194_10 (by simp [stL, lv_args, Value.category]) ?_
      refine V_iload (v := Int32.ofInt ((p : Int))) mi_194_11 (by simp [stL, lv_args, Value.category]) ?_
      refine V_iload (v := Int32.ofInt ((i : Int))) mi_194_12 (by simp [stL, lv_args, Value.category]) ?_
      refine V_ibin mi_194_13 (by omega) ?_
      refine V_ipush mi_194_14 ?_
      refine V_ibin mi_194_15 (by omega) ?_
      rw [bit13 hp (by omega)]
      refine V_ibin mi_194_16 (by omega) ?_
      rw [ib0]
      rw [show (bnS p i : Int) + ((p / 2 ^ i % 2 : Nat) : Int) = ((bnS p (i + 1) : Nat) : Int) from (Int.natCast_add _ _).symm]
      refine V_istore mi_194_17 ?_
      refine V_iinc (v := Int32.ofInt ((i : Int))) mi_194_18 (by simp [stL, lv_args, Value.category]) ?_
      rw [ia2]
      refine V_goto mi_194_21 ?_
      refine V_sub (lv' := [(0, .int (Int32.ofInt ((p : Int)))), (1, .int (Int32.ofInt ((bnS p (i + 1) : Int)))), (2, .int (Int32.ofInt (((i + 1 : Nat) : Int))))]) (fun q hq => ?_) ?_
      · simp only [List.mem_cons, List.not_mem_nil, or_false] at hq
        rcases hq with rfl | rfl | rfl <;> simp [stL, lv_args, Value.category]
      exact bnm_4 hp m (i + 1) (by omega) kk
theorem bnm_ct {p : Nat} (hp : p < 4096) : CT l D tys A 194 0 0 0 [.int (Int32.ofInt ((p : Int)))] ws (fun r w => w = ws ∧ r = some (.int (Int32.ofInt ((bnS p 13 : Nat) : Int)))) := by
  refine CT_of_V (by omega) (show (1 : Nat) ≤ mML 194 by decide +kernel) ?_
  refine V_ipush mi_194_0 ?_
  refine V_istore mi_194_1 ?_
  refine V_ipush mi_194_2 ?_
  refine V_istore mi_194_3 ?_
  refine V_sub (lv' := [(0, .int (Int32.ofInt ((p : Int)))), (1, .int (Int32.ofInt (0))), (2, .int (Int32.ofInt (((0 : Nat) : Int))))]) (fun q hq => ?_) ?_
  · simp only [List.mem_cons, List.not_mem_nil, or_false] at hq
    rcases hq with rfl | rfl | rfl <;> simp [stL, lv_args, Value.category]
  exact bnm_4 hp 13 0 (by omega) ⟨rfl, rfl⟩
theorem hux_49 {G : Nat → Int} {w0 : va_W} (hX0 : HX 4 G w0) (hS0 : STO G w0) (hB : HB G) (wf : WF G) {f o S : Nat} (hf : (f : Int) < G 3) (ho : o < 6) (e4 : G 4 = (S : Int)) (h12 : S ≤ 12) {k : Nat} (hk : k ≤ 13) {post : Option Value → va_W → Prop} : ∀ (m p : Nat) (ws : va_W), p + m = 2 ^ S → GOK ad tys GG ws → XSC w0 ws → (∀ q, q < p → huW G f o q = false → bnS q 13 ≠ k) → (∀ (w : va_W) (r : Nat), r < 2 ^ S → huW G f o r = false → bnS r 13 = k → (∀ q, q < r → huW G f o q = false → bnS q 13 ≠ k) → GOK ad tys GG w → XSC w0 w → post (some (.int (Int32.ofInt (r : Int)))) w) → (∀ w : va_W, (∀ q, q < 2 ^ S → huW G f o q = false → bnS q 13 ≠ k) → GOK ad tys GG w → XSC w0 w → V l D tys A 40 5 0 0 post 0 0 104 [(0, .ref (ad 0)), (1, .int (Int32.ofInt ((f : Int)))), (2, .int (Int32.ofInt ((o : Int)))), (3, .int (Int32.ofInt (((2 ^ S : Nat) : Int)))), (4, .int (Int32.ofInt ((k : Int))))] [] w) → V l D tys A 40 5 0 0 post 0 0 49 [(0, .ref (ad 0)), (1, .int (Int32.ofInt ((f : Int)))), (2, .int (Int32.ofInt ((o : Int)))), (3, .int (Int32.ofInt (((2 ^ S : Nat) : Int)))), (4, .int (Int32.ofInt ((k : Int)))), (5, .int (Int32.ofInt ((p : Int))))] [] ws
  | 0, p, ws, hm, hG, hO, hn, kr, kn => by
    have hX : HX 4 G ws := XSC_X hO hX0
    have hS : STO G ws := XSC_S hO hS0
    have b3 := hB.b3
    have pw := pw12 h12
    refine V_iload (v := Int32.ofInt ((p : Int))) mi_40_49 (by simp [stL, lv_args, Value.category]) ?_
    refine V_iload (v := Int32.ofInt (((2 ^ S : Nat) : Int))) mi_40_51 (by simp [stL, lv_args, Value.category]) ?_
    refine V_cge mi_40_52 ⟨by omega, by omega⟩ ⟨by omega, by omega⟩ (fun q => ?_) (fun q => ?_)
    · refine V_sub (lv' := [(0, .ref (ad 0)), (1, .int (Int32.ofInt ((f : Int)))), (2, .int (Int32.ofInt ((o : Int)))), (3, .int (Int32.ofInt (((2 ^ S : Nat) : Int)))), (4, .int (Int32.ofInt ((k : Int))))]) (fun q hq => ?_) ?_
      · simp only [List.mem_cons, List.not_mem_nil, or_false] at hq
        rcases hq with rfl | rfl | rfl | rfl | rfl <;> simp [stL, lv_args, Value.category]
      exact kn ws (fun q hq hw => hn q (by omega) hw) hG hO
    · exact absurd q (by omega)
  | m + 1, p, ws, hm, hG, hO, hn, kr, kn => by
    have hX : HX 4 G ws := XSC_X hO hX0
    have hS : STO G ws := XSC_S hO hS0
    have b3 := hB.b3
    have pw := pw12 h12
    refine V_iload (v := Int32.ofInt ((p : Int))) mi_40_49 (by simp [stL, lv_args, Value.category]) ?_
    refine V_iload (v := Int32.ofInt (((2 ^ S : Nat) : Int))) mi_40_51 (by simp [stL, lv_args, Value.category]) ?_
    refine V_cge mi_40_52 ⟨by omega, by omega⟩ ⟨by omega, by omega⟩ (fun q => ?_) (fun q => ?_)
    · exact absurd q (by omega)
    · have bl := bnS_le p 13
      refine V_iload (v := Int32.ofInt ((p : Int))) mi_40_55 (by simp [stL, lv_args, Value.category]) ?_
      refine V_stat (As := [.int (Int32.ofInt ((p : Int)))]) (st := []) mi_40_57 (by omega) (bch_ct (p := p) (by omega)) (by omega) (show 1 = mN 344 by decide +kernel) (by simp [Value.category]) ⟨Nat.le_refl _, Nat.le_refl _⟩ ?_
      rintro r w1 ⟨e1, rfl⟩
      rw [e1]
      refine V_iload (v := Int32.ofInt ((k : Int))) mi_40_60 (by simp [stL, lv_args, Value.category]) ?_
      refine V_cne mi_40_62 ⟨by omega, by omega⟩ ⟨by omega, by omega⟩ (fun q2 => ?_) (fun q2 => ?_)
      · refine V_ipush mi_40_69 ?_
        refine V_istore mi_40_70 ?_
        refine V_iload (v := Int32.ofInt (0)) mi_40_72 (by simp [stL, lv_args, Value.category]) ?_
        refine V_zeq mi_40_74 ⟨by omega, by omega⟩ (fun q3 => ?_) (fun q3 => ?_)
        · refine V_iinc (v := Int32.ofInt ((p : Int))) mi_40_98 (by simp [stL, lv_args, Value.category]) ?_
          rw [ia2]
          refine V_goto mi_40_101 ?_
          refine V_sub (lv' := [(0, .ref (ad 0)), (1, .int (Int32.ofInt ((f : Int)))), (2, .int (Int32.ofInt ((o : Int)))), (3, .int (Int32.ofInt (((2 ^ S : Nat) : Int)))), (4, .int (Int32.ofInt ((k : Int)))), (5, .int (Int32.ofInt (((p + 1 : Nat) : Int))))]) (fun q hq => ?_) ?_
          · simp only [List.mem_cons, List.not_mem_nil, or_false] at hq
            rcases hq with rfl | rfl | rfl | rfl | rfl | rfl <;> simp [stL, lv_args, Value.category]
          exact hux_49 hX0 hS0 hB wf hf ho e4 h12 hk m (p + 1) ws (by omega) hG hO (fun q hq hw => by
            by_cases e : q = p
            · rw [e]; intro z2; exact q2 (by omega)
            · exact hn q (by omega) hw) kr kn
        · exact absurd rfl q3
      · refine V_ipush mi_40_65 ?_
        refine V_goto mi_40_66 ?_
        refine V_istore mi_40_70 ?_
        refine V_iload (v := Int32.ofInt (1)) mi_40_72 (by simp [stL, lv_args, Value.category]) ?_
        refine V_zeq mi_40_74 ⟨by omega, by omega⟩ (fun q3 => ?_) (fun q3 => ?_)
        · exact absurd q3 (by omega)
        · refine V_aload (v := ad 0) mi_40_77 (by simp [stL, lv_args, Value.category]) ?_
          refine V_gR mi_40_78 g0r4 (by omega) hG ?_
          refine V_aload (v := ad 0) mi_40_81 (by simp [stL, lv_args, Value.category]) ?_
          refine V_gR mi_40_82 g0r2 (by omega) hG ?_
          refine V_iload (v := Int32.ofInt ((f : Int))) mi_40_85 (by simp [stL, lv_args, Value.category]) ?_
          refine V_iload (v := Int32.ofInt ((o : Int))) mi_40_86 (by simp [stL, lv_args, Value.category]) ?_
          refine V_iload (v := Int32.ofInt ((p : Int))) mi_40_87 (by simp [stL, lv_args, Value.category]) ?_
          refine V_cO (As := [.ref (ad 4), .int (Int32.ofInt ((f : Int))), .int (Int32.ofInt ((o : Int))), .int (Int32.ofInt ((p : Int)))]) (st := []) mi_40_89 (by omega) (by decide +kernel) (by decide +kernel) (by omega) g28o hG (xww_ct (hz := Int32.ofInt (p : Int)) hG hX hS hB wf hf ho) (by omega) (show 4 = mN 93 by decide +kernel) (by simp [Value.category]) ?_
          rintro r w2 ⟨⟨G2, o2⟩, e2⟩
          rw [e2]
          have O2 : XSC w0 w2 := fun c j hc => (o2 c j hc).trans (hO c j hc)
          change V _ _ _ _ _ _ _ _ _ _ _ _ _ [.int (bI (huW G f o p))] _
          refine V_bne mi_40_92  (fun q5 => ?_) (fun q5 => ?_)
          · refine V_iinc (v := Int32.ofInt ((p : Int))) mi_40_98 (by simp [stL, lv_args, Value.category]) ?_
            rw [ia2]
            refine V_goto mi_40_101 ?_
            refine V_sub (lv' := [(0, .ref (ad 0)), (1, .int (Int32.ofInt ((f : Int)))), (2, .int (Int32.ofInt ((o : Int)))), (3, .int (Int32.ofInt (((2 ^ S : Nat) : Int)))), (4, .int (Int32.ofInt ((k : Int)))), (5, .int (Int32.ofInt (((p + 1 : Nat) : Int))))]) (fun q hq => ?_) ?_
            · simp only [List.mem_cons, List.not_mem_nil, or_false] at hq
              rcases hq with rfl | rfl | rfl | rfl | rfl | rfl <;> simp [stL, lv_args, Value.category]
            exact hux_49 hX0 hS0 hB wf hf ho e4 h12 hk m (p + 1) w2 (by omega) G2 O2 (fun q hq hw => by
              by_cases e : q = p
              · rw [e] at hw; rw [show huW G f o p = true from q5] at hw; exact absurd hw (fun z => Bool.noConfusion z)
              · exact hn q (by omega) hw) kr kn
          · refine V_iload (v := Int32.ofInt ((p : Int))) mi_40_95 (by simp [stL, lv_args, Value.category]) ?_
            exact V_retI mi_40_97 (fun h => absurd h (by decide +kernel)) (kr w2 p (by omega) q5 (by omega) hn G2 O2)
theorem hux_34 {G : Nat → Int} {w0 : va_W} (hX0 : HX 4 G w0) (hS0 : STO G w0) (hB : HB G) (wf : WF G) {f o S : Nat} (hf : (f : Int) < G 3) (ho : o < 6) (e4 : G 4 = (S : Int)) (h12 : S ≤ 12) (hl : huW G f o (2 ^ S - 1) = false) {post : Option Value → va_W → Prop} : ∀ (m k : Nat) (ws : va_W), k + m = S + 1 → (∀ q, q < 2 ^ S → huW G f o q = false → k ≤ bnS q 13) → GOK ad tys GG ws → XSC w0 ws → (∀ (w : va_W) (r : Nat), hsP (huW G f o) (2 ^ S) r → GOK ad tys GG w → XSC w0 w → post (some (.int (Int32.ofInt (r : Int)))) w) → V l D tys A 40 5 0 0 post 0 0 34 [(0, .ref (ad 0)), (1, .int (Int32.ofInt ((f : Int)))), (2, .int (Int32.ofInt ((o : Int)))), (3, .int (Int32.ofInt (((2 ^ S : Nat) : Int)))), (4, .int (Int32.ofInt ((k : Int))))] [] ws
  | 0, k, ws, hm, ha, hG, hO, kk => by
    have hX : HX 4 G ws := XSC_X hO hX0
    have hS : STO G ws := XSC_S hO hS0
    have b3 := hB.b3
    have pw := pw12 h12
    refine V_iload (v := Int32.ofInt ((k : Int))) mi_40_34 (by simp [stL, lv_args, Value.category]) ?_
    refine V_aload (v := ad 0) mi_40_36 (by simp [stL, lv_args, Value.category]) ?_
    refine V_gR mi_40_37 g0r2 (by omega) hG ?_
    refine V_gO mi_40_40 g4o hG (show rd _ 4 5 = some (.int (Int32.ofInt (G 4))) from hx0 hX (i := 5) (by omega)) ?_
    rw [e4]
    refine V_cgt mi_40_43 ⟨by omega, by omega⟩ ⟨by omega, by omega⟩ (fun q => ?_) (fun q => ?_)
    · have a := ha (2 ^ S - 1) (by omega) hl
      have b := bnS_hi (p := 2 ^ S - 1) (S := S) (by omega) 13
      exact absurd a (by omega)
    · exact absurd q (by omega)
  | m + 1, k, ws, hm, ha, hG, hO, kk => by
    have hX : HX 4 G ws := XSC_X hO hX0
    have hS : STO G ws := XSC_S hO hS0
    have b3 := hB.b3
    have pw := pw12 h12
    refine V_iload (v := Int32.ofInt ((k : Int))) mi_40_34 (by simp [stL, lv_args, Value.category]) ?_
    refine V_aload (v := ad 0) mi_40_36 (by simp [stL, lv_args, Value.category]) ?_
    refine V_gR mi_40_37 g0r2 (by omega) hG ?_
    refine V_gO mi_40_40 g4o hG (show rd _ 4 5 = some (.int (Int32.ofInt (G 4))) from hx0 hX (i := 5) (by omega)) ?_
    rw [e4]
    refine V_cgt mi_40_43 ⟨by omega, by omega⟩ ⟨by omega, by omega⟩ (fun q => ?_) (fun q => ?_)
    · exact absurd q (by omega)
    · refine V_ipush mi_40_46 ?_
      refine V_istore mi_40_47 ?_
      refine V_sub (lv' := [(0, .ref (ad 0)), (1, .int (Int32.ofInt ((f : Int)))), (2, .int (Int32.ofInt ((o : Int)))), (3, .int (Int32.ofInt (((2 ^ S : Nat) : Int)))), (4, .int (Int32.ofInt ((k : Int)))), (5, .int (Int32.ofInt (((0 : Nat) : Int))))]) (fun q hq => ?_) ?_
      · simp only [List.mem_cons, List.not_mem_nil, or_false] at hq
        rcases hq with rfl | rfl | rfl | rfl | rfl | rfl <;> simp [stL, lv_args, Value.category]
      refine hux_49 hX0 hS0 hB wf hf ho e4 h12 (k := k) (by omega) (2 ^ S) 0 ws (by omega) hG hO (fun q hq => absurd hq (by omega)) (fun w r h1 h2 h3 h4 g o2 => kk w r ⟨h1, h2, fun q hq hw => ?_⟩ g o2) (fun w hn g o2 => ?_)
      · have a := ha q hq hw
        by_cases e : bnS q 13 = k
        · refine Or.inr ⟨by omega, ?_⟩
          rcases Nat.lt_or_ge q r with c | c
          · exact absurd e (h4 q c hw)
          · exact c
        · exact Or.inl (by omega)
      · refine V_iinc (v := Int32.ofInt ((k : Int))) mi_40_104 (by simp [stL, lv_args, Value.category]) ?_
        rw [ia2]
        refine V_goto mi_40_107 ?_
        refine V_sub (lv' := [(0, .ref (ad 0)), (1, .int (Int32.ofInt ((f : Int)))), (2, .int (Int32.ofInt ((o : Int)))), (3, .int (Int32.ofInt (((2 ^ S : Nat) : Int)))), (4, .int (Int32.ofInt (((k + 1 : Nat) : Int))))]) (fun q hq => ?_) ?_
        · simp only [List.mem_cons, List.not_mem_nil, or_false] at hq
          rcases hq with rfl | rfl | rfl | rfl | rfl <;> simp [stL, lv_args, Value.category]
        exact hux_34 hX0 hS0 hB wf hf ho e4 h12 hl m (k + 1) w (by omega) (fun q hq hw => by have := ha q hq hw; have := hn q hq hw; omega) g o2 kk
theorem fhX_ct {G : Nat → Int} (hG : GOK ad tys GG ws) (hX : HX 4 G ws) (hS : STO G ws) (hB : HB G) (wf : WF G) (wi : WI G) {f o S : Nat} (hf : (f : Int) < G 3) (ho : o < 6) (e4 : G 4 = (S : Int)) (h12 : S ≤ 12) : CT l D tys A 40 5 0 0 [.ref (ad 0), .int (Int32.ofInt ((f : Int))), .int (Int32.ofInt ((o : Int)))] ws (fun r w => (GOK ad tys GG w ∧ XSC ws w) ∧ r = some (.int (Int32.ofInt (hsV (huW G f o) (2 ^ S))))) := by
  refine CT_of_V (by omega) (show (3 : Nat) ≤ mML 40 by decide +kernel) ?_
  have pw := pw12 h12
  have b3 := hB.b3
  refine V_ipush mi_40_0 ?_
  refine V_aload (v := ad 0) mi_40_1 (by simp [stL, lv_args, Value.category]) ?_
  refine V_gR mi_40_2 g0r2 (by omega) hG ?_
  refine V_gO mi_40_5 g4o hG (show rd _ 4 5 = some (.int (Int32.ofInt (G 4))) from hx0 hX (i := 5) (by omega)) ?_
  rw [e4]
  refine V_ibin mi_40_8 (by omega) ?_
  rw [sh12 h12]
  refine V_istore mi_40_9 ?_
  refine V_aload (v := ad 0) mi_40_10 (by simp [stL, lv_args, Value.category]) ?_
  refine V_gR mi_40_11 g0r4 (by omega) hG ?_
  refine V_aload (v := ad 0) mi_40_14 (by simp [stL, lv_args, Value.category]) ?_
  refine V_gR mi_40_15 g0r2 (by omega) hG ?_
  refine V_iload (v := Int32.ofInt ((f : Int))) mi_40_18 (by simp [stL, lv_args, Value.category]) ?_
  refine V_iload (v := Int32.ofInt ((o : Int))) mi_40_19 (by simp [stL, lv_args, Value.category]) ?_
  refine V_iload (v := Int32.ofInt (((2 ^ S : Nat) : Int))) mi_40_20 (by simp [stL, lv_args, Value.category]) ?_
  refine V_ipush mi_40_21 ?_
  refine V_ibin mi_40_22 (by omega) ?_
  rw [ib1]
  rw [show ((2 ^ S : Nat) : Int) - 1 = ((2 ^ S - 1 : Nat) : Int) by omega]
  refine V_cO (As := [.ref (ad 4), .int (Int32.ofInt ((f : Int))), .int (Int32.ofInt ((o : Int))), .int (Int32.ofInt (((2 ^ S - 1 : Nat) : Int)))]) (st := []) mi_40_23 (by omega) (by decide +kernel) (by decide +kernel) (by omega) g28o hG (xww_ct (hz := Int32.ofInt ((2 ^ S - 1 : Nat) : Int)) hG hX hS hB wf hf ho) (by omega) (show 4 = mN 93 by decide +kernel) (by simp [Value.category]) ?_
  rintro r w2 ⟨⟨G2, o2⟩, e2⟩
  rw [e2]
  change V _ _ _ _ _ _ _ _ _ _ _ _ _ [.int (bI (huW G f o (2 ^ S - 1)))] _
  refine V_beq mi_40_26  (fun q2 => ?_) (fun q2 => ?_)
  · refine V_ipush mi_40_31 ?_
    refine V_istore mi_40_32 ?_
    refine V_sub (lv' := [(0, .ref (ad 0)), (1, .int (Int32.ofInt ((f : Int)))), (2, .int (Int32.ofInt ((o : Int)))), (3, .int (Int32.ofInt (((2 ^ S : Nat) : Int)))), (4, .int (Int32.ofInt (((0 : Nat) : Int))))]) (fun q hq => ?_) ?_
    · simp only [List.mem_cons, List.not_mem_nil, or_false] at hq
      rcases hq with rfl | rfl | rfl | rfl | rfl <;> simp [stL, lv_args, Value.category]
    exact hux_34 hX hS hB wf hf ho e4 h12 q2 (S + 1) 0 w2 (by omega) (fun q hq hw => Nat.zero_le _) G2 o2 (fun w r h g o3 => ⟨⟨g, o3⟩, by rw [hsV_is h]⟩)
  · refine V_ipush mi_40_29 ?_
    exact V_retI mi_40_30 (fun h => absurd h (by decide +kernel)) ⟨⟨G2, o2⟩, by rw [hsV_no (fun q _ => hu_mono hB wi ho e4 q2 q)]⟩
theorem hum_5 {G : Nat → Int} {w0 : va_W} (hW0 : W91 G w0) (hB : HB G) (h24 : rd w0 90 24 = some (.int (Int32.ofInt 0))) (h22 : rd w0 90 22 = some (.int (Int32.ofInt (-1)))) {f o S : Nat} (hf : f < 6) (ho : o < 6) (e4 : G 4 = (S : Int)) (h12 : S ≤ 12) {post : Option Value → va_W → Prop} : ∀ (m p : Nat) (a : Int) (ws : va_W), p + m = 2 ^ S → -1 ≤ a → a < 4096 → GOK ad tys GG ws → MTW w0 ws → (∀ w : va_W, GOK ad tys GG w → MTW w0 w → post (some (.int (Int32.ofInt (hsS (huW G f o) m p a)))) w) → V l D tys A 288 9 0 0 post 0 0 5 [(0, .ref (ad 90)), (1, .int (Int32.ofInt ((f : Int)))), (2, .int (Int32.ofInt ((o : Int)))), (3, .int (Int32.ofInt (a))), (4, .int (Int32.ofInt ((p : Int))))] [] ws
  | 0, p, a, ws, hm, a0, a1, hG, hO, kk => by
    obtain ⟨s91, e91, -⟩ := g91s
    have pw := pw12 h12
    have hW : W91 G ws := MTW_W hO hW0
    refine V_iload (v := Int32.ofInt ((p : Int))) mi_288_5 (by simp [stL, lv_args, Value.category]) ?_
    refine V_ipush mi_288_7 ?_
    refine V_aload (v := ad 90) mi_288_8 (by simp [stL, lv_args, Value.category]) ?_
    refine V_getI mi_288_9 hG (rref gr1m (by omega) hG) ?_
    refine V_ipush mi_288_12 ?_
    refine V_aldX (j := 4) mi_288_13 rfl hG e91 (by omega) (by omega) (hW _ (by omega)) ?_
    rw [e4]
    refine V_ibin mi_288_14 (by omega) ?_
    rw [sh12 h12]
    refine V_cge mi_288_15 ⟨by omega, by omega⟩ ⟨by omega, by omega⟩ (fun q => ?_) (fun q => ?_)
    · refine V_iload (v := Int32.ofInt (a)) mi_288_55 (by simp [stL, lv_args, Value.category]) ?_
      exact V_retI mi_288_56 (fun h => absurd h (by decide +kernel)) (kk ws hG hO)
    · exact absurd q (by omega)
  | m + 1, p, a, ws, hm, a0, a1, hG, hO, kk => by
    obtain ⟨s91, e91, -⟩ := g91s
    have pw := pw12 h12
    have hW : W91 G ws := MTW_W hO hW0
    refine V_iload (v := Int32.ofInt ((p : Int))) mi_288_5 (by simp [stL, lv_args, Value.category]) ?_
    refine V_ipush mi_288_7 ?_
    refine V_aload (v := ad 90) mi_288_8 (by simp [stL, lv_args, Value.category]) ?_
    refine V_getI mi_288_9 hG (rref gr1m (by omega) hG) ?_
    refine V_ipush mi_288_12 ?_
    refine V_aldX (j := 4) mi_288_13 rfl hG e91 (by omega) (by omega) (hW _ (by omega)) ?_
    rw [e4]
    refine V_ibin mi_288_14 (by omega) ?_
    rw [sh12 h12]
    refine V_cge mi_288_15 ⟨by omega, by omega⟩ ⟨by omega, by omega⟩ (fun q => ?_) (fun q => ?_)
    · exact absurd q (by omega)
    · have bl := bnS_le p 13
      have ba := bnS_le a.toNat 13
      refine V_iload (v := Int32.ofInt (a)) mi_288_18 (by simp [stL, lv_args, Value.category]) ?_
      refine V_ipush mi_288_19 ?_
      refine V_ceq mi_288_20 ⟨by omega, by omega⟩ ⟨by omega, by omega⟩ (fun q3 => ?_) (fun q3 => ?_)
      · refine V_aload (v := ad 90) mi_288_35 (by simp [stL, lv_args, Value.category]) ?_
        refine V_iload (v := Int32.ofInt ((f : Int))) mi_288_36 (by simp [stL, lv_args, Value.category]) ?_
        refine V_iload (v := Int32.ofInt ((o : Int))) mi_288_37 (by simp [stL, lv_args, Value.category]) ?_
        refine V_iload (v := Int32.ofInt ((p : Int))) mi_288_38 (by simp [stL, lv_args, Value.category]) ?_
        refine V_callM (As := [.int (Int32.ofInt ((f : Int))), .int (Int32.ofInt ((o : Int))), .int (Int32.ofInt ((p : Int)))]) (st := []) mi_288_40 (by omega) (by decide +kernel) (by decide +kernel) hG (mwh2_ct (hz := Int32.ofInt (p : Int)) hG hW hB ((hO 90 24 (by omega) (by omega)).trans h24) ((hO 90 22 (by omega) (by omega)).trans h22) hf ho) (by omega) (show 3 = mN 284 by decide +kernel) (by simp [Value.category]) ?_
        rintro r w2 ⟨⟨G2, o2, -⟩, e2⟩
        rw [e2]
        have O2 : MTW w0 w2 := fun c j h1 h2 => (o2 c j h1 (by omega)).trans (hO c j h1 h2)
        change V _ _ _ _ _ _ _ _ _ _ _ _ _ [.int (bI (huW G f o p))] _
        refine V_bne mi_288_43  (fun q5 => ?_) (fun q5 => ?_)
        · refine V_iinc (v := Int32.ofInt ((p : Int))) mi_288_49 (by simp [stL, lv_args, Value.category]) ?_
          rw [ia2]
          refine V_goto mi_288_52 ?_
          refine V_sub (lv' := [(0, .ref (ad 90)), (1, .int (Int32.ofInt ((f : Int)))), (2, .int (Int32.ofInt ((o : Int)))), (3, .int (Int32.ofInt (a))), (4, .int (Int32.ofInt (((p + 1 : Nat) : Int))))]) (fun q hq => ?_) ?_
          · simp only [List.mem_cons, List.not_mem_nil, or_false] at hq
            rcases hq with rfl | rfl | rfl | rfl | rfl <;> simp [stL, lv_args, Value.category]
          rw [hsS_n (fun k => by rw [show huW G f o p = true from q5] at k; exact Bool.noConfusion k.1)] at kk
          exact hum_5 hW0 hB h24 h22 hf ho e4 h12 m (p + 1) a w2 (by omega) a0 a1 G2 O2 kk
        · refine V_iload (v := Int32.ofInt ((p : Int))) mi_288_46 (by simp [stL, lv_args, Value.category]) ?_
          refine V_istore mi_288_48 ?_
          refine V_iinc (v := Int32.ofInt ((p : Int))) mi_288_49 (by simp [stL, lv_args, Value.category]) ?_
          rw [ia2]
          refine V_goto mi_288_52 ?_
          refine V_sub (lv' := [(0, .ref (ad 90)), (1, .int (Int32.ofInt ((f : Int)))), (2, .int (Int32.ofInt ((o : Int)))), (3, .int (Int32.ofInt ((p : Int)))), (4, .int (Int32.ofInt (((p + 1 : Nat) : Int))))]) (fun q hq => ?_) ?_
          · simp only [List.mem_cons, List.not_mem_nil, or_false] at hq
            rcases hq with rfl | rfl | rfl | rfl | rfl <;> simp [stL, lv_args, Value.category]
          rw [hsS_y ⟨q5, Or.inl q3⟩] at kk
          exact hum_5 hW0 hB h24 h22 hf ho e4 h12 m (p + 1) (p : Int) w2 (by omega) (by omega) (by omega) G2 O2 kk
      · refine V_iload (v := Int32.ofInt ((p : Int))) mi_288_23 (by simp [stL, lv_args, Value.category]) ?_
        refine V_stat (As := [.int (Int32.ofInt ((p : Int)))]) (st := []) mi_288_25 (by omega) (bnm_ct (p := p) (by omega)) (by omega) (show 1 = mN 194 by decide +kernel) (by simp [Value.category]) ⟨Nat.le_refl _, Nat.le_refl _⟩ ?_
        rintro r w1 ⟨e1, rfl⟩
        rw [e1]
        refine V_iload (v := Int32.ofInt (a)) mi_288_28 (by simp [stL, lv_args, Value.category]) ?_
        rw [show Int32.ofInt a = Int32.ofInt ((a.toNat : Nat) : Int) by rw [show ((a.toNat : Nat) : Int) = a by omega]]
        refine V_stat (As := [.int (Int32.ofInt (((a.toNat : Nat) : Int)))]) (st := [.int (Int32.ofInt (((bnS p 13 : Nat) : Int)))]) mi_288_29 (by omega) (bnm_ct (p := a.toNat) (by omega)) (by omega) (show 1 = mN 194 by decide +kernel) (by simp [Value.category]) ⟨Nat.le_refl _, Nat.le_refl _⟩ ?_
        rintro r w3 ⟨e3, rfl⟩
        rw [e3, show ((a.toNat : Nat) : Int) = a by omega]
        refine V_cge mi_288_32 ⟨by omega, by omega⟩ ⟨by omega, by omega⟩ (fun q4 => ?_) (fun q4 => ?_)
        · refine V_iinc (v := Int32.ofInt ((p : Int))) mi_288_49 (by simp [stL, lv_args, Value.category]) ?_
          rw [ia2]
          refine V_goto mi_288_52 ?_
          refine V_sub (lv' := [(0, .ref (ad 90)), (1, .int (Int32.ofInt ((f : Int)))), (2, .int (Int32.ofInt ((o : Int)))), (3, .int (Int32.ofInt (a))), (4, .int (Int32.ofInt (((p + 1 : Nat) : Int))))]) (fun q hq => ?_) ?_
          · simp only [List.mem_cons, List.not_mem_nil, or_false] at hq
            rcases hq with rfl | rfl | rfl | rfl | rfl <;> simp [stL, lv_args, Value.category]
          rw [hsS_n (fun k => by have := k.2; omega)] at kk
          exact hum_5 hW0 hB h24 h22 hf ho e4 h12 m (p + 1) a ws (by omega) a0 a1 hG hO kk
        · refine V_aload (v := ad 90) mi_288_35 (by simp [stL, lv_args, Value.category]) ?_
          refine V_iload (v := Int32.ofInt ((f : Int))) mi_288_36 (by simp [stL, lv_args, Value.category]) ?_
          refine V_iload (v := Int32.ofInt ((o : Int))) mi_288_37 (by simp [stL, lv_args, Value.category]) ?_
          refine V_iload (v := Int32.ofInt ((p : Int))) mi_288_38 (by simp [stL, lv_args, Value.category]) ?_
          refine V_callM (As := [.int (Int32.ofInt ((f : Int))), .int (Int32.ofInt ((o : Int))), .int (Int32.ofInt ((p : Int)))]) (st := []) mi_288_40 (by omega) (by decide +kernel) (by decide +kernel) hG (mwh2_ct (hz := Int32.ofInt (p : Int)) hG hW hB ((hO 90 24 (by omega) (by omega)).trans h24) ((hO 90 22 (by omega) (by omega)).trans h22) hf ho) (by omega) (show 3 = mN 284 by decide +kernel) (by simp [Value.category]) ?_
          rintro r w2 ⟨⟨G2, o2, -⟩, e2⟩
          rw [e2]
          have O2 : MTW w0 w2 := fun c j h1 h2 => (o2 c j h1 (by omega)).trans (hO c j h1 h2)
          change V _ _ _ _ _ _ _ _ _ _ _ _ _ [.int (bI (huW G f o p))] _
          refine V_bne mi_288_43  (fun q5 => ?_) (fun q5 => ?_)
          · refine V_iinc (v := Int32.ofInt ((p : Int))) mi_288_49 (by simp [stL, lv_args, Value.category]) ?_
            rw [ia2]
            refine V_goto mi_288_52 ?_
            refine V_sub (lv' := [(0, .ref (ad 90)), (1, .int (Int32.ofInt ((f : Int)))), (2, .int (Int32.ofInt ((o : Int)))), (3, .int (Int32.ofInt (a))), (4, .int (Int32.ofInt (((p + 1 : Nat) : Int))))]) (fun q hq => ?_) ?_
            · simp only [List.mem_cons, List.not_mem_nil, or_false] at hq
              rcases hq with rfl | rfl | rfl | rfl | rfl <;> simp [stL, lv_args, Value.category]
            rw [hsS_n (fun k => by rw [show huW G f o p = true from q5] at k; exact Bool.noConfusion k.1)] at kk
            exact hum_5 hW0 hB h24 h22 hf ho e4 h12 m (p + 1) a w2 (by omega) a0 a1 G2 O2 kk
          · refine V_iload (v := Int32.ofInt ((p : Int))) mi_288_46 (by simp [stL, lv_args, Value.category]) ?_
            refine V_istore mi_288_48 ?_
            refine V_iinc (v := Int32.ofInt ((p : Int))) mi_288_49 (by simp [stL, lv_args, Value.category]) ?_
            rw [ia2]
            refine V_goto mi_288_52 ?_
            refine V_sub (lv' := [(0, .ref (ad 90)), (1, .int (Int32.ofInt ((f : Int)))), (2, .int (Int32.ofInt ((o : Int)))), (3, .int (Int32.ofInt ((p : Int)))), (4, .int (Int32.ofInt (((p + 1 : Nat) : Int))))]) (fun q hq => ?_) ?_
            · simp only [List.mem_cons, List.not_mem_nil, or_false] at hq
              rcases hq with rfl | rfl | rfl | rfl | rfl <;> simp [stL, lv_args, Value.category]
            rw [hsS_y ⟨q5, Or.inr (by omega)⟩] at kk
            exact hum_5 hW0 hB h24 h22 hf ho e4 h12 m (p + 1) (p : Int) w2 (by omega) (by omega) (by omega) G2 O2 kk
theorem fhM_ct {G : Nat → Int} (hG : GOK ad tys GG ws) (hW : W91 G ws) (hB : HB G) (h24 : rd ws 90 24 = some (.int (Int32.ofInt 0))) (h22 : rd ws 90 22 = some (.int (Int32.ofInt (-1)))) {f o S : Nat} (hf : f < 6) (ho : o < 6) (e4 : G 4 = (S : Int)) (h12 : S ≤ 12) : CT l D tys A 288 9 0 0 [.ref (ad 90), .int (Int32.ofInt ((f : Int))), .int (Int32.ofInt ((o : Int)))] ws (fun r w => (GOK ad tys GG w ∧ MTW ws w) ∧ r = some (.int (Int32.ofInt (hsV (huW G f o) (2 ^ S))))) := by
  refine CT_of_V (by omega) (show (3 : Nat) ≤ mML 288 by decide +kernel) ?_
  refine V_ipush mi_288_0 ?_
  refine V_istore mi_288_1 ?_
  refine V_ipush mi_288_2 ?_
  refine V_istore mi_288_3 ?_
  refine V_sub (lv' := [(0, .ref (ad 90)), (1, .int (Int32.ofInt ((f : Int)))), (2, .int (Int32.ofInt ((o : Int)))), (3, .int (Int32.ofInt ((-1)))), (4, .int (Int32.ofInt (((0 : Nat) : Int))))]) (fun q hq => ?_) ?_
  · simp only [List.mem_cons, List.not_mem_nil, or_false] at hq
    rcases hq with rfl | rfl | rfl | rfl | rfl <;> simp [stL, lv_args, Value.category]
  exact hum_5 hW hB h24 h22 hf ho e4 h12 (2 ^ S) 0 (-1) ws (by omega) (by omega) (by omega) hG (fun _ _ _ _ => rfl) (fun w g o3 => ⟨⟨g, o3⟩, rfl⟩)
theorem hdX_ct {G : Nat → Int} (hG : GOK ad tys GG ws) (hX : HX 4 G ws) (hB : HB G) (hS : STO G ws) (wf : WY G) {f o : Int} (fI : I32 f) (oI : I32 o) : CT l D tys A 39 6 0 0 [.ref (ad 0), .int (Int32.ofInt (f)), .int (Int32.ofInt (o))] ws (fun r w => (GOK ad tys GG w ∧ XSC ws w) ∧ r = some (.int (if (0 ≤ f ∧ f < G 3) ∧ (0 ≤ o ∧ o < G 3) ∧ f ≠ o then Int32.ofInt (hsV (huW G f.toNat o.toNat) (2 ^ (G 4).toNat)) else Int32.ofInt (-2)))) := by
  refine CT_of_V (by omega) (show (3 : Nat) ≤ mML 39 by decide +kernel) ?_
  have b3 := hB.b3
  have b4 := hB.b4
  refine V_aload (v := ad 0) mi_39_0 (by simp [stL, lv_args, Value.category]) ?_
  refine V_iload (v := Int32.ofInt (f)) mi_39_1 (by simp [stL, lv_args, Value.category]) ?_
  refine V_iload (v := Int32.ofInt (o)) mi_39_2 (by simp [stL, lv_args, Value.category]) ?_
  refine V_cO (As := [.int (Int32.ofInt (f)), .int (Int32.ofInt (o))]) (st := []) mi_39_3 (by omega) (by decide +kernel) (by decide +kernel) (by omega) g0o hG (x2_ct hG hX hB fI oI) (by omega) (show 2 = mN 74 by decide +kernel) (by simp [Value.category]) ?_
  rintro r w1 ⟨rfl, rfl⟩
  refine V_beq mi_39_6  (fun c1 => ?_) (fun c1 => ?_)
  · refine V_ipush mi_39_18 ?_
    exact V_retI mi_39_20 (fun h => absurd h (by decide +kernel)) ⟨⟨hG, fun _ _ _ => rfl⟩, by rw [if_neg (of_decide_eq_false c1)]⟩
  · have k1 := of_decide_eq_true c1
    obtain ⟨m, rfl⟩ := Int.eq_ofNat_of_zero_le k1.1.1
    obtain ⟨n, rfl⟩ := Int.eq_ofNat_of_zero_le k1.2.1.1
    have e4 : G 4 = ((G 4).toNat : Int) := by omega
    have pw := pw12 (s := (G 4).toNat) (by omega)
    have hb := hsV_bd (W := huW G m n) (N := 2 ^ (G 4).toNat)
    refine V_aload (v := ad 0) mi_39_9 (by simp [stL, lv_args, Value.category]) ?_
    refine V_iload (v := Int32.ofInt ((m : Int))) mi_39_10 (by simp [stL, lv_args, Value.category]) ?_
    refine V_iload (v := Int32.ofInt ((n : Int))) mi_39_11 (by simp [stL, lv_args, Value.category]) ?_
    refine V_cO (As := [.int (Int32.ofInt ((m : Int))), .int (Int32.ofInt ((n : Int)))]) (st := []) mi_39_12 (by omega) (by decide +kernel) (by decide +kernel) (by omega) g0o hG (fhX_ct (f := m) (o := n) hG hX hS hB wf.1 wf.2 (by omega) (by omega) e4 (by omega)) (by omega) (show 2 = mN 40 by decide +kernel) (by simp [Value.category]) ?_
    rintro r w2 ⟨⟨G2, o2⟩, rfl⟩
    refine V_goto mi_39_15 ?_
    exact V_retI mi_39_20 (fun h => absurd h (by decide +kernel)) ⟨⟨G2, o2⟩, by rw [if_pos k1, Int.toNat_natCast, Int.toNat_natCast]⟩
theorem hdM_ct {G : Nat → Int} (hG : GOK ad tys GG ws) (hW : W91 G ws) (hB : HB G) (h24 : rd ws 90 24 = some (.int (Int32.ofInt 0))) (h22 : rd ws 90 22 = some (.int (Int32.ofInt (-1)))) {f o : Int} (fI : I32 f) (oI : I32 o) : CT l D tys A 290 10 0 0 [.ref (ad 90), .int (Int32.ofInt (f)), .int (Int32.ofInt (o))] ws (fun r w => (GOK ad tys GG w ∧ MTW ws w) ∧ r = some (.int (if (0 ≤ f ∧ f < G 3) ∧ (0 ≤ o ∧ o < G 3) ∧ f ≠ o then Int32.ofInt (hsV (huW G f.toNat o.toNat) (2 ^ (G 4).toNat)) else Int32.ofInt (-2)))) := by
  refine CT_of_V (by omega) (show (3 : Nat) ≤ mML 290 by decide +kernel) ?_
  have b3 := hB.b3
  have b4 := hB.b4
  refine V_aload (v := ad 90) mi_290_0 (by simp [stL, lv_args, Value.category]) ?_
  refine V_iload (v := Int32.ofInt (f)) mi_290_1 (by simp [stL, lv_args, Value.category]) ?_
  refine V_iload (v := Int32.ofInt (o)) mi_290_2 (by simp [stL, lv_args, Value.category]) ?_
  refine V_callM (As := [.int (Int32.ofInt (f)), .int (Int32.ofInt (o))]) (st := []) mi_290_3 (by omega) (by decide +kernel) (by decide +kernel) hG (m2_ct hG hW hB fI oI) (by omega) (show 2 = mN 200 by decide +kernel) (by simp [Value.category]) ?_
  rintro r w1 ⟨rfl, rfl⟩
  refine V_beq mi_290_6  (fun c1 => ?_) (fun c1 => ?_)
  · refine V_ipush mi_290_18 ?_
    exact V_retI mi_290_20 (fun h => absurd h (by decide +kernel)) ⟨⟨hG, fun _ _ _ _ => rfl⟩, by rw [if_neg (of_decide_eq_false c1)]⟩
  · have k1 := of_decide_eq_true c1
    obtain ⟨m, rfl⟩ := Int.eq_ofNat_of_zero_le k1.1.1
    obtain ⟨n, rfl⟩ := Int.eq_ofNat_of_zero_le k1.2.1.1
    have e4 : G 4 = ((G 4).toNat : Int) := by omega
    have pw := pw12 (s := (G 4).toNat) (by omega)
    have hb := hsV_bd (W := huW G m n) (N := 2 ^ (G 4).toNat)
    refine V_aload (v := ad 90) mi_290_9 (by simp [stL, lv_args, Value.category]) ?_
    refine V_iload (v := Int32.ofInt ((m : Int))) mi_290_10 (by simp [stL, lv_args, Value.category]) ?_
    refine V_iload (v := Int32.ofInt ((n : Int))) mi_290_11 (by simp [stL, lv_args, Value.category]) ?_
    refine V_callM (As := [.int (Int32.ofInt ((m : Int))), .int (Int32.ofInt ((n : Int)))]) (st := []) mi_290_12 (by omega) (by decide +kernel) (by decide +kernel) hG (fhM_ct (f := m) (o := n) hG hW hB h24 h22 (by omega) (by omega) e4 (by omega)) (by omega) (show 2 = mN 288 by decide +kernel) (by simp [Value.category]) ?_
    rintro r w2 ⟨⟨G2, o2⟩, rfl⟩
    refine V_goto mi_290_15 ?_
    exact V_retI mi_290_20 (fun h => absurd h (by decide +kernel)) ⟨⟨G2, o2⟩, by rw [if_pos k1, Int.toNat_natCast, Int.toNat_natCast]⟩
theorem pairY_sw {kx km d1 d2 : Nat} {xs ms : List Value} {v : Int32} (hR : RELY ws) (h1 : d1 < 11) (h2 : d2 < 11) (c1 : CT l D tys A kx d1 0 0 xs ws (fun r w => (GOK ad tys GG w ∧ XSC ws w) ∧ r = some (.int v))) (c2 : ∀ w : va_W, GOK ad tys GG w → XSC ws w → CT l D tys A km d2 0 0 ms w (fun r w2 => (GOK ad tys GG w2 ∧ MTW w w2) ∧ r = some (.int v))) : PAIRY l D tys A ad kx km xs ms ws := by
  refine ⟨v, fun w => XSC ws w, ⟨d1, h1, CT_post c1 (fun r w h => ⟨h.2, h.1.1, h.1.2⟩)⟩, fun w hw K => ⟨d2, h2, CT_post (c2 w hw K) (fun r w2 h => ?_)⟩⟩
  obtain ⟨⟨g, o⟩, e⟩ := h
  have oo : ∀ c j, ¬ (c = 31 ∨ c = 37 ∨ c = 38 ∨ c = 48 ∨ c = 49 ∨ c = 51 ∨ c = 52) → ¬ (98 ≤ c ∧ c ≤ 101) → ¬ (c = 90 ∧ (j = 18 ∨ j = 21 ∨ j = 23 ∨ j = 25)) → rd w2 c j = rd ws c j := fun c j h3 h4 h5 => (o c j h4 h5).trans (K c j h3)
  exact ⟨e, g, relh_keep hR.1 (fun c hc j => oo c j (by omega) (by omega) (by omega)) (fun j hj => oo 90 j (by omega) (by omega) (fun q => by
      obtain ⟨-, q⟩ := q
      rcases q with rfl | rfl | rfl | rfl
      · exact absurd hj (by unfold spK; decide)
      · exact absurd hj (by unfold spK; decide)
      · exact absurd hj (by unfold spK; decide)
      · exact absurd hj (by unfold spK; decide))), auy_keep hR.2 (fun c j hc => oo c j (by omega) (by omega) (by omega))⟩
theorem pairY_hushed (hAD : ∀ i : Nat, ad (1000 + i) = D.2 1000 i) (hG : GOK ad tys GG ws) (hR : RELY ws) (a1 a2 : Int32) : PAIRY l D tys A ad 39 290 [.ref (ad 0), .int a1, .int a2] [.ref (ad 90), .int a1, .int a2] ws := by
  obtain ⟨G0, o0, x0, y0⟩ := hR.1.2.1
  obtain ⟨G, o, x, y, hb, wf, hS⟩ := auy_sto hR.2 x0 y0 o0 (hb_of hG y0 o0)
  have c1 := hdX_ct (l := l) (D := D) (A := A) hG x hb hS wf (i32b a1) (i32b a2)
  have c2 := fun (w : va_W) (hw : GOK ad tys GG w) (K : XSC ws w) => hdM_ct (l := l) (D := D) (A := A) hw (XSC_W K y) hb ((K _ _ (by omega)).trans hR.2.2.2.2.2) ((K _ _ (by omega)).trans hR.2.2.2.2.1) (i32b a1) (i32b a2)
  simp only [oi] at c1 c2
  exact pairY_sw hR (by omega) (by omega) c1 c2
end XUH
