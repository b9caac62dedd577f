section XHG
variable {l : Launch} {D : va_G} {tys : List (ClassId × FieldType)} {A : Nat → Prop} {ad : Nat → Nat} {ws : va_W}
theorem g0r10 : gOr 0 10 13 10 50 := ⟨_, rfl, by decide +kernel⟩
theorem g50o : gO 50 4 2 := ⟨_, rfl⟩
theorem g50r1 : gOr 50 4 2 1 52 := ⟨_, rfl, by decide +kernel⟩
theorem a52 : gA 52 7 (-2147483648) 2147483647 := gA_of rfl
theorem gr31 : ∃ g, GG[90]? = some ((0, 11, 36), g) ∧ segAt g 31 = some (2, ((106 : Nat) : Int), ((106 : Nat) : Int)) := ⟨_, rfl, by decide +kernel⟩
theorem a106 : gA 106 49 (-2147483648) 2147483647 := gA_of rfl
theorem V_zge {k pc d y z : Nat} {a : Int} {post : Option Value → va_W → Prop} {lv : List (Nat × Value)} {st : List Value} {u : Int} (hi : mI k pc = (14, a, 3, y, z)) (b : I32 u) (kt : 0 ≤ u → V l D tys A k d 0 0 post 0 0 y lv st ws) (kf : u < 0 → V l D tys A k d 0 0 post 0 0 (pc + 3) lv st ws) : V l D tys A k d 0 0 post 0 0 pc lv (.int (Int32.ofInt u) :: st) ws := by
  have h : cdP 3 (Int32.ofInt u) 0 ↔ cdZ 3 (u - 0) := cdP_iff (b := 0) b.1 b.2 (by omega) (by omega)
  exact V_if hi (fun q => kt (by have : 0 ≤ u - 0 := h.mp q; omega)) (fun q => kf (by by_cases e : u < 0; exact e; exact absurd (h.mpr (show 0 ≤ u - 0 by omega)) q))
noncomputable def abI (x : Int) : Int := if 0 ≤ x then x else -x
/-- in how many orders, i of the one and k of the other told: a row of them behind the row pv -/
noncomputable def lvR (n : Int) (pv : Nat → Int) (i : Nat) : Nat → Int
  | 0 => if abI ((i : Int) - ((0 : Nat) : Int)) ≤ n then (if i = 0 then 1 else pv 0) else 0
  | k + 1 => if abI ((i : Int) - ((k + 1 : Nat) : Int)) ≤ n then pv (k + 1) + lvR n pv i k else 0
noncomputable def lvF (n : Int) : Nat → Nat → Int
  | 0 => lvR n (fun _ => 0) 0
  | i + 1 => lvR n (lvF n i) (i + 1)
noncomputable def lvP (n : Int) : Nat → Nat → Int
  | 0 => fun _ => 0
  | i + 1 => lvF n i
noncomputable def lvS (n : Int) (i k : Nat) : Int := if k = 0 then (if i = 0 then 1 else lvP n i 0) else lvP n i k + lvF n i (k - 1)
theorem lvF_S {n : Int} {i : Nat} : ∀ k : Nat, lvF n i k = if abI ((i : Int) - (k : Int)) ≤ n then lvS n i k else 0 := by
  cases i with
  | zero => intro k; cases k <;> rfl
  | succ i => intro k; cases k <;> rfl
theorem lv_all : (List.range 7).all (fun n => (List.range 7).all (fun i => (List.range 7).all (fun k => decide (0 ≤ lvF (n : Nat) i k) && decide (lvF (n : Nat) i k ≤ 1000) && (decide (n < 6) || decide (0 < lvF (n : Nat) i k))))) = true := by decide +kernel
theorem lv_bd {n i k : Nat} (hn : n < 7) (hi : i < 7) (hk : k < 7) : (0 ≤ lvF (n : Int) i k ∧ lvF (n : Int) i k ≤ 1000) ∧ (n = 6 → 0 < lvF (n : Int) i k) := by
  have q := List.all_eq_true.mp (List.all_eq_true.mp (List.all_eq_true.mp lv_all n (List.mem_range.mpr hn)) i (List.mem_range.mpr hi)) k (List.mem_range.mpr hk)
  rw [Bool.and_eq_true, Bool.and_eq_true, Bool.or_eq_true, decide_eq_true_eq, decide_eq_true_eq, decide_eq_true_eq, decide_eq_true_eq] at q
  exact ⟨q.1, fun e => q.2.resolve_left (by omega)⟩
/-- the least lead that there is an order for -/
noncomputable def tuS (a b : Nat) : Nat → Nat → Int
  | 0, _ => -1
  | m + 1, n => if 0 < lvF (n : Int) a b then (n : Int) else tuS a b m (n + 1)
theorem tuS_y {a b m n : Nat} (h : 0 < lvF (n : Int) a b) : tuS a b (m + 1) n = (n : Int) := if_pos h
theorem tuS_n {a b m n : Nat} (h : ¬ 0 < lvF (n : Int) a b) : tuS a b (m + 1) n = tuS a b m (n + 1) := if_neg h
noncomputable def O52 (w0 w : va_W) : Prop := ∀ c j, c ≠ 52 → rd w c j = rd w0 c j
noncomputable def O106 (w0 w : va_W) : Prop := ∀ c j, c ≠ 106 → rd w c j = rd w0 c j
/-- the class's row: up to k of row i, behind it of the row ahead -/
noncomputable def LRW (n : Int) (b i k : Nat) (w : va_W) : Prop := ∀ q : Nat, q ≤ b → rd w 52 q = some (.int (Int32.ofInt (if q < k then lvF n i q else lvP n i q)))
noncomputable def LMW (n : Int) (b i k : Nat) (w : va_W) : Prop := ∀ p q : Nat, q ≤ b → (p < i ∨ (p = i ∧ q < k)) → rd w 106 (7 * p + q) = some (.int (Int32.ofInt (lvF n p q)))
theorem LRW_n {n : Int} {b i : Nat} {w : va_W} (h : LRW n b i (b + 1) w) : LRW n b (i + 1) 0 w := fun q hq => by
  have g := h q hq
  rw [if_pos (by omega)] at g
  rw [if_neg (by omega)]
  exact g
theorem LMW_n {n : Int} {b i : Nat} {w : va_W} (h : LMW n b i (b + 1) w) : LMW n b (i + 1) 0 w := fun p q hq e => h p q hq (by omega)
theorem abs_ct {x : Int} (h : I32 x) : CT l D tys A 343 0 0 0 [.int (Int32.ofInt (x))] ws (fun r w => w = ws ∧ r = some (.int (Int32.ofInt (abI x)))) := by
  refine CT_of_V (by omega) (show (1 : Nat) ≤ mML 343 by decide +kernel) ?_
  refine V_iload (v := Int32.ofInt (x)) mi_343_0 (by simp [stL, lv_args, Value.category]) ?_
  refine V_zge mi_343_1 h (fun q => ?_) (fun q => ?_)
  · refine V_iload (v := Int32.ofInt (x)) mi_343_9 (by simp [stL, lv_args, Value.category]) ?_
    exact V_retI mi_343_10 (fun h => absurd h (by decide +kernel)) ⟨rfl, by unfold abI; rw [if_pos (by omega)]⟩
  · refine V_iload (v := Int32.ofInt (x)) mi_343_4 (by simp [stL, lv_args, Value.category]) ?_
    refine V_ineg mi_343_5 ?_
    rw [show -(Int32.ofInt x) = Int32.ofInt (-x) from (Int32.ofInt_neg x).symm]
    refine V_goto mi_343_6 ?_
    exact V_retI mi_343_10 (fun h => absurd h (by decide +kernel)) ⟨rfl, by unfold abI; rw [if_neg (by omega)]⟩
theorem tlx_74 {a b i : Nat} {n : Int} (ha : a ≤ 6) (hb : b ≤ 6) (n0 : 0 ≤ n) (n6 : n ≤ 6) {k : Nat} (hi : i ≤ a) (hk : k ≤ b) {w0 : va_W} {post : Option Value → va_W → Prop} {v6 : Value} (hG : GOK ad tys GG ws) (hO : O52 w0 ws) (hR : LRW n b i k ws) (kk : ∀ w : va_W, GOK ad tys GG w → O52 w0 w → LRW n b i (k + 1) w → V l D tys A 131 2 0 0 post 0 0 20 [(0, .ref (ad 50)), (1, .int (Int32.ofInt ((a : Int)))), (2, .int (Int32.ofInt ((b : Int)))), (3, .int (Int32.ofInt (n))), (4, .int (Int32.ofInt ((i : Int)))), (5, .int (Int32.ofInt (((k + 1 : Nat) : Int))))] [] w) : V l D tys A 131 2 0 0 post 0 0 74 [(0, .ref (ad 50)), (1, .int (Int32.ofInt ((a : Int)))), (2, .int (Int32.ofInt ((b : Int)))), (3, .int (Int32.ofInt (n))), (4, .int (Int32.ofInt ((i : Int)))), (5, .int (Int32.ofInt ((k : Int)))), (6, v6)] [.int (Int32.ofInt (lvS n i k))] ws := by
  refine V_istore mi_131_74 ?_
  refine V_aload (v := ad 50) mi_131_76 (by simp [stL, lv_args, Value.category]) ?_
  refine V_gR mi_131_77 g50r1 (by omega) hG ?_
  refine V_iload (v := Int32.ofInt ((k : Int))) mi_131_80 (by simp [stL, lv_args, Value.category]) ?_
  refine V_iload (v := Int32.ofInt ((i : Int))) mi_131_82 (by simp [stL, lv_args, Value.category]) ?_
  refine V_iload (v := Int32.ofInt ((k : Int))) mi_131_84 (by simp [stL, lv_args, Value.category]) ?_
  refine V_ibin mi_131_86 (by omega) ?_
  rw [ib1]
  refine V_stat (As := [.int (Int32.ofInt (((i : Int)) - ((k : Int))))]) (st := [.int (Int32.ofInt ((k : Int))), .ref (ad 52)]) mi_131_87 (by omega) (abs_ct (x := (i : Int) - (k : Int)) ⟨by omega, by omega⟩) (by omega) (show 1 = mN 343 by decide +kernel) (by simp [Value.category]) ⟨Nat.le_refl _, Nat.le_refl _⟩ ?_
  rintro r w1 ⟨e1, rfl⟩
  rw [e1]
  have ab : 0 ≤ abI ((i : Int) - (k : Int)) ∧ abI ((i : Int) - (k : Int)) ≤ 6 := by unfold abI; split <;> omega
  have es := lvF_S (n := n) (i := i) k
  refine V_iload (v := Int32.ofInt (n)) mi_131_90 (by simp [stL, lv_args, Value.category]) ?_
  refine V_cgt mi_131_91 ⟨by omega, by omega⟩ ⟨by omega, by omega⟩ (fun q => ?_) (fun q => ?_)
  · rw [if_neg (by omega)] at es
    refine V_ipush mi_131_99 ?_
    rw [← es]
    refine V_stat (As := [.ref (ad 52), .int (Int32.ofInt ((k : Int))), .int (Int32.ofInt (lvF n i k))]) (st := []) mi_131_100 (by omega) (putk_ct (j := k) a52 hG (by omega) (by omega)) (by omega) (show 3 = mN 148 by decide +kernel) (by simp [Value.category]) ⟨Nat.le_refl _, Nat.le_refl _⟩ ?_
    rintro r w3 ⟨rfl, G3, U3⟩
    refine V_iinc (v := Int32.ofInt ((k : Int))) mi_131_103 (by simp [stL, lv_args, Value.category]) ?_
    rw [ia2]
    refine V_goto mi_131_106 ?_
    refine V_sub (lv' := [(0, .ref (ad 50)), (1, .int (Int32.ofInt ((a : Int)))), (2, .int (Int32.ofInt ((b : Int)))), (3, .int (Int32.ofInt (n))), (4, .int (Int32.ofInt ((i : Int)))), (5, .int (Int32.ofInt (((k + 1 : Nat) : Int))))]) (fun q hq => ?_) ?_
    · simp only [List.mem_cons, List.not_mem_nil, or_false] at hq
      rcases hq with rfl | rfl | rfl | rfl | rfl | rfl <;> simp [stL, lv_args, Value.category]
    refine kk w3 G3 (fun c j hc => (upd_ne U3 (by omega)).trans (hO c j hc)) (fun q hq => ?_)
    by_cases e : q = k
    · rw [e, if_pos (by omega)]
      exact upd_eq U3
    · have g := hR q hq
      rw [show (if q < k + 1 then lvF n i q else lvP n i q) = (if q < k then lvF n i q else lvP n i q) by
        by_cases c : q < k
        · rw [if_pos c, if_pos (by omega)]
        · rw [if_neg c, if_neg (by omega)]]
      exact (upd_ne U3 (by omega)).trans g
  · rw [if_pos (by omega)] at es
    refine V_iload (v := Int32.ofInt (lvS n i k)) mi_131_94 (by simp [stL, lv_args, Value.category]) ?_
    refine V_goto mi_131_96 ?_
    rw [← es]
    refine V_stat (As := [.ref (ad 52), .int (Int32.ofInt ((k : Int))), .int (Int32.ofInt (lvF n i k))]) (st := []) mi_131_100 (by omega) (putk_ct (j := k) a52 hG (by omega) (by omega)) (by omega) (show 3 = mN 148 by decide +kernel) (by simp [Value.category]) ⟨Nat.le_refl _, Nat.le_refl _⟩ ?_
    rintro r w3 ⟨rfl, G3, U3⟩
    refine V_iinc (v := Int32.ofInt ((k : Int))) mi_131_103 (by simp [stL, lv_args, Value.category]) ?_
    rw [ia2]
    refine V_goto mi_131_106 ?_
    refine V_sub (lv' := [(0, .ref (ad 50)), (1, .int (Int32.ofInt ((a : Int)))), (2, .int (Int32.ofInt ((b : Int)))), (3, .int (Int32.ofInt (n))), (4, .int (Int32.ofInt ((i : Int)))), (5, .int (Int32.ofInt (((k + 1 : Nat) : Int))))]) (fun q hq => ?_) ?_
    · simp only [List.mem_cons, List.not_mem_nil, or_false] at hq
      rcases hq with rfl | rfl | rfl | rfl | rfl | rfl <;> simp [stL, lv_args, Value.category]
    refine kk w3 G3 (fun c j hc => (upd_ne U3 (by omega)).trans (hO c j hc)) (fun q hq => ?_)
    by_cases e : q = k
    · rw [e, if_pos (by omega)]
      exact upd_eq U3
    · have g := hR q hq
      rw [show (if q < k + 1 then lvF n i q else lvP n i q) = (if q < k then lvF n i q else lvP n i q) by
        by_cases c : q < k
        · rw [if_pos c, if_pos (by omega)]
        · rw [if_neg c, if_neg (by omega)]]
      exact (upd_ne U3 (by omega)).trans g
theorem tlx_20 {a b i : Nat} {n : Int} (ha : a ≤ 6) (hb : b ≤ 6) (n0 : 0 ≤ n) (n6 : n ≤ 6) (hi : i ≤ a) {w0 : va_W} {post : Option Value → va_W → Prop} : ∀ (m k : Nat) (ws : va_W), k + m = b + 1 → GOK ad tys GG ws → O52 w0 ws → LRW n b i k ws → (∀ w : va_W, GOK ad tys GG w → O52 w0 w → LRW n b (i + 1) 0 w → V l D tys A 131 2 0 0 post 0 0 11 [(0, .ref (ad 50)), (1, .int (Int32.ofInt ((a : Int)))), (2, .int (Int32.ofInt ((b : Int)))), (3, .int (Int32.ofInt (n))), (4, .int (Int32.ofInt (((i + 1 : Nat) : Int))))] [] w) → V l D tys A 131 2 0 0 post 0 0 20 [(0, .ref (ad 50)), (1, .int (Int32.ofInt ((a : Int)))), (2, .int (Int32.ofInt ((b : Int)))), (3, .int (Int32.ofInt (n))), (4, .int (Int32.ofInt ((i : Int)))), (5, .int (Int32.ofInt ((k : Int))))] [] ws
  | 0, k, ws, hm, hG, hO, hR, kk => by
    refine V_iload (v := Int32.ofInt ((k : Int))) mi_131_20 (by simp [stL, lv_args, Value.category]) ?_
    refine V_iload (v := Int32.ofInt ((b : Int))) mi_131_22 (by simp [stL, lv_args, Value.category]) ?_
    refine V_cgt mi_131_23 ⟨by omega, by omega⟩ ⟨by omega, by omega⟩ (fun q => ?_) (fun q => ?_)
    · have e : k = b + 1 := by omega
      rw [e] at hR
      refine V_iinc (v := Int32.ofInt ((i : Int))) mi_131_109 (by simp [stL, lv_args, Value.category]) ?_
      rw [ia2]
      rw [show (i : Int) + (1) = ((i + 1 : Nat) : Int) by omega]
      refine V_goto mi_131_112 ?_
      refine V_sub (lv' := [(0, .ref (ad 50)), (1, .int (Int32.ofInt ((a : Int)))), (2, .int (Int32.ofInt ((b : Int)))), (3, .int (Int32.ofInt (n))), (4, .int (Int32.ofInt (((i + 1 : Nat) : Int))))]) (fun q hq => ?_) ?_
      · simp only [List.mem_cons, List.not_mem_nil, or_false] at hq
        rcases hq with rfl | rfl | rfl | rfl | rfl <;> simp [stL, lv_args, Value.category]
      exact kk ws hG hO (LRW_n hR)
    · exact absurd q (by omega)
  | m + 1, k, ws, hm, hG, hO, hR, kk => by
    refine V_iload (v := Int32.ofInt ((k : Int))) mi_131_20 (by simp [stL, lv_args, Value.category]) ?_
    refine V_iload (v := Int32.ofInt ((b : Int))) mi_131_22 (by simp [stL, lv_args, Value.category]) ?_
    refine V_cgt mi_131_23 ⟨by omega, by omega⟩ ⟨by omega, by omega⟩ (fun q => ?_) (fun q => ?_)
    · exact absurd q (by omega)
    · have hk := hR k (by omega)
      rw [if_neg (by omega)] at hk
      refine V_aload (v := ad 50) mi_131_26 (by simp [stL, lv_args, Value.category]) ?_
      refine V_gR mi_131_27 g50r1 (by omega) hG ?_
      refine V_iload (v := Int32.ofInt ((k : Int))) mi_131_30 (by simp [stL, lv_args, Value.category]) ?_
      refine V_stat (As := [.ref (ad 52), .int (Int32.ofInt ((k : Int)))]) (st := []) mi_131_32 (by omega) (atk_ct (j := k) a52 hG (by omega) (by omega) hk) (by omega) (show 2 = mN 147 by decide +kernel) (by simp [Value.category]) ⟨Nat.le_refl _, Nat.le_refl _⟩ ?_
      rintro r w1 ⟨e1, rfl⟩
      rw [e1]
      refine V_istore mi_131_35 ?_
      refine V_iload (v := Int32.ofInt ((i : Int))) mi_131_37 (by simp [stL, lv_args, Value.category]) ?_
      refine V_zne mi_131_39 ⟨by omega, by omega⟩ (fun q2 => ?_) (fun q2 => ?_)
      · refine V_iload (v := Int32.ofInt (lvP n i k)) mi_131_51 (by simp [stL, lv_args, Value.category]) ?_
        refine V_iload (v := Int32.ofInt ((k : Int))) mi_131_53 (by simp [stL, lv_args, Value.category]) ?_
        refine V_zle mi_131_55 ⟨by omega, by omega⟩ (fun q3 => ?_) (fun q3 => ?_)
        · refine V_ipush mi_131_72 ?_
          refine V_ibin mi_131_73 (by omega) ?_
          rw [ib0]
          rw [show (lvP n i k) + (0) = lvS n i k from by unfold lvS; rw [if_pos (by omega), if_neg (by omega), show k = 0 by omega]; omega]
          refine V_sub (lv' := [(0, .ref (ad 50)), (1, .int (Int32.ofInt ((a : Int)))), (2, .int (Int32.ofInt ((b : Int)))), (3, .int (Int32.ofInt (n))), (4, .int (Int32.ofInt ((i : Int)))), (5, .int (Int32.ofInt ((k : Int)))), (6, .int (Int32.ofInt (lvP n i k)))]) (fun q hq => ?_) ?_
          · simp only [List.mem_cons, List.not_mem_nil, or_false] at hq
            rcases hq with rfl | rfl | rfl | rfl | rfl | rfl | rfl <;> simp [stL, lv_args, Value.category]
          exact tlx_74 ha hb n0 n6 hi (by omega) hG hO hR (fun w g o r => tlx_20 ha hb n0 n6 hi m (k + 1) w (by omega) g o r kk)
        · have hl := hR (k - 1) (by omega)
          rw [if_pos (by omega)] at hl
          refine V_aload (v := ad 50) mi_131_58 (by simp [stL, lv_args, Value.category]) ?_
          refine V_gR mi_131_59 g50r1 (by omega) hG ?_
          refine V_iload (v := Int32.ofInt ((k : Int))) mi_131_62 (by simp [stL, lv_args, Value.category]) ?_
          refine V_ipush mi_131_64 ?_
          refine V_ibin mi_131_65 (by omega) ?_
          rw [ib1]
          rw [show (k : Int) - (1) = ((k - 1 : Nat) : Int) by omega]
          refine V_stat (As := [.ref (ad 52), .int (Int32.ofInt (((k - 1 : Nat) : Int)))]) (st := [.int (Int32.ofInt (lvP n i k))]) mi_131_66 (by omega) (atk_ct (j := k - 1) a52 hG (by omega) (by omega) hl) (by omega) (show 2 = mN 147 by decide +kernel) (by simp [Value.category]) ⟨Nat.le_refl _, Nat.le_refl _⟩ ?_
          rintro r w2 ⟨e2, rfl⟩
          rw [e2]
          refine V_goto mi_131_69 ?_
          refine V_ibin mi_131_73 (by omega) ?_
          rw [ib0]
          rw [show (lvP n i k) + (lvF n i (k - 1)) = lvS n i k from by unfold lvS; rw [if_neg (by omega)]]
          refine V_sub (lv' := [(0, .ref (ad 50)), (1, .int (Int32.ofInt ((a : Int)))), (2, .int (Int32.ofInt ((b : Int)))), (3, .int (Int32.ofInt (n))), (4, .int (Int32.ofInt ((i : Int)))), (5, .int (Int32.ofInt ((k : Int)))), (6, .int (Int32.ofInt (lvP n i k)))]) (fun q hq => ?_) ?_
          · simp only [List.mem_cons, List.not_mem_nil, or_false] at hq
            rcases hq with rfl | rfl | rfl | rfl | rfl | rfl | rfl <;> simp [stL, lv_args, Value.category]
          exact tlx_74 ha hb n0 n6 hi (by omega) hG hO hR (fun w g o r => tlx_20 ha hb n0 n6 hi m (k + 1) w (by omega) g o r kk)
      · refine V_iload (v := Int32.ofInt ((k : Int))) mi_131_42 (by simp [stL, lv_args, Value.category]) ?_
        refine V_zne mi_131_44 ⟨by omega, by omega⟩ (fun q3 => ?_) (fun q3 => ?_)
        · refine V_iload (v := Int32.ofInt (lvP n i k)) mi_131_51 (by simp [stL, lv_args, Value.category]) ?_
          refine V_iload (v := Int32.ofInt ((k : Int))) mi_131_53 (by simp [stL, lv_args, Value.category]) ?_
          refine V_zle mi_131_55 ⟨by omega, by omega⟩ (fun q4 => ?_) (fun q4 => ?_)
          · exact absurd (show (k : Int) ≤ 0 from q4) (by omega)
          · have hl := hR (k - 1) (by omega)
            rw [if_pos (by omega)] at hl
            refine V_aload (v := ad 50) mi_131_58 (by simp [stL, lv_args, Value.category]) ?_
            refine V_gR mi_131_59 g50r1 (by omega) hG ?_
            refine V_iload (v := Int32.ofInt ((k : Int))) mi_131_62 (by simp [stL, lv_args, Value.category]) ?_
            refine V_ipush mi_131_64 ?_
            refine V_ibin mi_131_65 (by omega) ?_
            rw [ib1]
            rw [show (k : Int) - (1) = ((k - 1 : Nat) : Int) by omega]
            refine V_stat (As := [.ref (ad 52), .int (Int32.ofInt (((k - 1 : Nat) : Int)))]) (st := [.int (Int32.ofInt (lvP n i k))]) mi_131_66 (by omega) (atk_ct (j := k - 1) a52 hG (by omega) (by omega) hl) (by omega) (show 2 = mN 147 by decide +kernel) (by simp [Value.category]) ⟨Nat.le_refl _, Nat.le_refl _⟩ ?_
            rintro r w2 ⟨e2, rfl⟩
            rw [e2]
            refine V_goto mi_131_69 ?_
            refine V_ibin mi_131_73 (by omega) ?_
            rw [ib0]
            rw [show (lvP n i k) + (lvF n i (k - 1)) = lvS n i k from by unfold lvS; rw [if_neg (by omega)]]
            refine V_sub (lv' := [(0, .ref (ad 50)), (1, .int (Int32.ofInt ((a : Int)))), (2, .int (Int32.ofInt ((b : Int)))), (3, .int (Int32.ofInt (n))), (4, .int (Int32.ofInt ((i : Int)))), (5, .int (Int32.ofInt ((k : Int)))), (6, .int (Int32.ofInt (lvP n i k)))]) (fun q hq => ?_) ?_
            · simp only [List.mem_cons, List.not_mem_nil, or_false] at hq
              rcases hq with rfl | rfl | rfl | rfl | rfl | rfl | rfl <;> simp [stL, lv_args, Value.category]
            exact tlx_74 ha hb n0 n6 hi (by omega) hG hO hR (fun w g o r => tlx_20 ha hb n0 n6 hi m (k + 1) w (by omega) g o r kk)
        · refine V_ipush mi_131_47 ?_
          refine V_goto mi_131_48 ?_
          rw [show 1 = lvS n i k from by unfold lvS; rw [if_pos (by omega), if_pos (by omega)]]
          refine V_sub (lv' := [(0, .ref (ad 50)), (1, .int (Int32.ofInt ((a : Int)))), (2, .int (Int32.ofInt ((b : Int)))), (3, .int (Int32.ofInt (n))), (4, .int (Int32.ofInt ((i : Int)))), (5, .int (Int32.ofInt ((k : Int)))), (6, .int (Int32.ofInt (lvP n i k)))]) (fun q hq => ?_) ?_
          · simp only [List.mem_cons, List.not_mem_nil, or_false] at hq
            rcases hq with rfl | rfl | rfl | rfl | rfl | rfl | rfl <;> simp [stL, lv_args, Value.category]
          exact tlx_74 ha hb n0 n6 hi (by omega) hG hO hR (fun w g o r => tlx_20 ha hb n0 n6 hi m (k + 1) w (by omega) g o r kk)
theorem tlx_11 {a b : Nat} {n : Int} (ha : a ≤ 6) (hb : b ≤ 6) (n0 : 0 ≤ n) (n6 : n ≤ 6) {w0 : va_W} {post : Option Value → va_W → Prop} : ∀ (m i : Nat) (ws : va_W), i + m = a + 1 → GOK ad tys GG ws → O52 w0 ws → LRW n b i 0 ws → (∀ w : va_W, GOK ad tys GG w → O52 w0 w → post (some (.int (Int32.ofInt (lvF n a b)))) w) → V l D tys A 131 2 0 0 post 0 0 11 [(0, .ref (ad 50)), (1, .int (Int32.ofInt ((a : Int)))), (2, .int (Int32.ofInt ((b : Int)))), (3, .int (Int32.ofInt (n))), (4, .int (Int32.ofInt ((i : Int))))] [] ws
  | 0, i, ws, hm, hG, hO, hR, kk => by
    refine V_iload (v := Int32.ofInt ((i : Int))) mi_131_11 (by simp [stL, lv_args, Value.category]) ?_
    refine V_iload (v := Int32.ofInt ((a : Int))) mi_131_13 (by simp [stL, lv_args, Value.category]) ?_
    refine V_cgt mi_131_14 ⟨by omega, by omega⟩ ⟨by omega, by omega⟩ (fun q => ?_) (fun q => ?_)
    · have e : i = a + 1 := by omega
      rw [e] at hR
      have g := hR b (Nat.le_refl b)
      rw [if_neg (by omega)] at g
      refine V_aload (v := ad 50) mi_131_115 (by simp [stL, lv_args, Value.category]) ?_
      refine V_gR mi_131_116 g50r1 (by omega) hG ?_
      refine V_iload (v := Int32.ofInt ((b : Int))) mi_131_119 (by simp [stL, lv_args, Value.category]) ?_
      refine V_stat (As := [.ref (ad 52), .int (Int32.ofInt ((b : Int)))]) (st := []) mi_131_120 (by omega) (atk_ct (j := b) a52 hG (by omega) (by omega) g) (by omega) (show 2 = mN 147 by decide +kernel) (by simp [Value.category]) ⟨Nat.le_refl _, Nat.le_refl _⟩ ?_
      rintro r w2 ⟨e2, rfl⟩
      rw [e2]
      change V _ _ _ _ _ _ _ _ _ _ _ _ _ [.int (Int32.ofInt (lvF n a b))] _
      exact V_retI mi_131_123 (fun h => absurd h (by decide +kernel)) (kk _ hG hO)
    · exact absurd q (by omega)
  | m + 1, i, ws, hm, hG, hO, hR, kk => by
    refine V_iload (v := Int32.ofInt ((i : Int))) mi_131_11 (by simp [stL, lv_args, Value.category]) ?_
    refine V_iload (v := Int32.ofInt ((a : Int))) mi_131_13 (by simp [stL, lv_args, Value.category]) ?_
    refine V_cgt mi_131_14 ⟨by omega, by omega⟩ ⟨by omega, by omega⟩ (fun q => ?_) (fun q => ?_)
    · exact absurd q (by omega)
    · refine V_ipush mi_131_17 ?_
      refine V_istore mi_131_18 ?_
      refine V_sub (lv' := [(0, .ref (ad 50)), (1, .int (Int32.ofInt ((a : Int)))), (2, .int (Int32.ofInt ((b : Int)))), (3, .int (Int32.ofInt (n))), (4, .int (Int32.ofInt ((i : Int)))), (5, .int (Int32.ofInt (((0 : Nat) : Int))))]) (fun q hq => ?_) ?_
      · simp only [List.mem_cons, List.not_mem_nil, or_false] at hq
        rcases hq with rfl | rfl | rfl | rfl | rfl | rfl <;> simp [stL, lv_args, Value.category]
      exact tlx_20 ha hb n0 n6 (by omega) (b + 1) 0 ws (by omega) hG hO hR (fun w g o r => tlx_11 ha hb n0 n6 m (i + 1) w (by omega) g o r kk)
theorem tlx_ct {a b : Nat} {n : Int} (ha : a ≤ 6) (hb : b ≤ 6) (n0 : 0 ≤ n) (n6 : n ≤ 6) (hG : GOK ad tys GG ws) : CT l D tys A 131 2 0 0 [.ref (ad 50), .int (Int32.ofInt ((a : Int))), .int (Int32.ofInt ((b : Int))), .int (Int32.ofInt (n))] ws (fun r w => (GOK ad tys GG w ∧ O52 ws w) ∧ r = some (.int (Int32.ofInt (lvF n a b)))) := by
  refine CT_of_V (by omega) (show (4 : Nat) ≤ mML 131 by decide +kernel) ?_
  refine V_aload (v := ad 50) mi_131_0 (by simp [stL, lv_args, Value.category]) ?_
  refine V_gR mi_131_1 g50r1 (by omega) hG ?_
  refine V_ipush mi_131_4 ?_
  refine V_stat (As := [.ref (ad 52), .int (Int32.ofInt (0))]) (st := []) mi_131_5 (by omega) (fill_ct (c := 52) (n := 7) (v := 0) a52 hG (by omega) ⟨by omega, by omega⟩ (by omega) (by omega)) (by omega) (show 2 = mN 149 by decide +kernel) (by simp [Value.category]) ⟨Nat.le_refl _, Nat.le_refl _⟩ ?_
  rintro r w1 ⟨rfl, G1, o1, z1⟩
  refine V_ipush mi_131_8 ?_
  refine V_istore mi_131_9 ?_
  refine V_sub (lv' := [(0, .ref (ad 50)), (1, .int (Int32.ofInt ((a : Int)))), (2, .int (Int32.ofInt ((b : Int)))), (3, .int (Int32.ofInt (n))), (4, .int (Int32.ofInt (((0 : Nat) : Int))))]) (fun q hq => ?_) ?_
  · simp only [List.mem_cons, List.not_mem_nil, or_false] at hq
    rcases hq with rfl | rfl | rfl | rfl | rfl <;> simp [stL, lv_args, Value.category]
  exact tlx_11 ha hb n0 n6 (a + 1) 0 w1 (by omega) G1 o1 (fun q hq => by rw [if_neg (by omega)]; exact z1 q (by omega)) (fun w g o => ⟨⟨g, o⟩, rfl⟩)
theorem tlm_85 {a b i : Nat} {n : Int} (ha : a ≤ 6) (hb : b ≤ 6) (n0 : 0 ≤ n) (n6 : n ≤ 6) {k : Nat} (hi : i ≤ a) (hk : k ≤ b) {w0 : va_W} {post : Option Value → va_W → Prop} (hG : GOK ad tys GG ws) (hO : O106 w0 ws) (hR : LMW n b i k ws) (kk : ∀ w : va_W, GOK ad tys GG w → O106 w0 w → LMW n b i (k + 1) w → V l D tys A 320 1 0 0 post 0 0 12 [(0, .ref (ad 90)), (1, .int (Int32.ofInt ((a : Int)))), (2, .int (Int32.ofInt ((b : Int)))), (3, .int (Int32.ofInt (n))), (4, .int (Int32.ofInt ((i : Int)))), (5, .int (Int32.ofInt (((k + 1 : Nat) : Int))))] [] w) : V l D tys A 320 1 0 0 post 0 0 85 [(0, .ref (ad 90)), (1, .int (Int32.ofInt ((a : Int)))), (2, .int (Int32.ofInt ((b : Int)))), (3, .int (Int32.ofInt (n))), (4, .int (Int32.ofInt ((i : Int)))), (5, .int (Int32.ofInt ((k : Int)))), (6, .int (Int32.ofInt (lvS n i k)))] [] ws := by
  obtain ⟨s106, e106, f106⟩ := a106
  refine V_aload (v := ad 90) mi_320_85 (by simp [stL, lv_args, Value.category]) ?_
  refine V_getI mi_320_86 hG (rref gr31 (by omega) hG) ?_
  refine V_ipush mi_320_89 ?_
  refine V_iload (v := Int32.ofInt ((i : Int))) mi_320_91 (by simp [stL, lv_args, Value.category]) ?_
  refine V_ibin mi_320_93 (by omega) ?_
  rw [ib2]
  refine V_iload (v := Int32.ofInt ((k : Int))) mi_320_94 (by simp [stL, lv_args, Value.category]) ?_
  refine V_ibin mi_320_96 (by omega) ?_
  rw [ib0]
  refine V_iload (v := Int32.ofInt ((i : Int))) mi_320_97 (by simp [stL, lv_args, Value.category]) ?_
  refine V_iload (v := Int32.ofInt ((k : Int))) mi_320_99 (by simp [stL, lv_args, Value.category]) ?_
  refine V_ibin mi_320_101 (by omega) ?_
  rw [ib1]
  refine V_stat (As := [.int (Int32.ofInt (((i : Int)) - ((k : Int))))]) (st := [.int (Int32.ofInt (((7) * ((i : Int))) + ((k : Int)))), .ref (ad 106)]) mi_320_102 (by omega) (abs_ct (x := (i : Int) - (k : Int)) ⟨by omega, by omega⟩) (by omega) (show 1 = mN 343 by decide +kernel) (by simp [Value.category]) ⟨Nat.le_refl _, Nat.le_refl _⟩ ?_
  rintro r w1 ⟨e1, rfl⟩
  rw [e1]
  have ab : 0 ≤ abI ((i : Int) - (k : Int)) ∧ abI ((i : Int) - (k : Int)) ≤ 6 := by unfold abI; split <;> omega
  have es := lvF_S (n := n) (i := i) k
  refine V_iload (v := Int32.ofInt (n)) mi_320_105 (by simp [stL, lv_args, Value.category]) ?_
  refine V_cgt mi_320_106 ⟨by omega, by omega⟩ ⟨by omega, by omega⟩ (fun q => ?_) (fun q => ?_)
  · rw [if_neg (by omega)] at es
    refine V_ipush mi_320_114 ?_
    rw [← es]
    refine V_astX (j := 7 * i + k) mi_320_115 (by rw [show 7 * (i : Int) + (k : Int) = ((7 * i + k : Nat) : Int) by omega]) hG e106 (by omega) (by omega) (f106 _ (by omega)) (i32b _).1 (i32b _).2 (fun w3 G3 U3 => ?_)
    refine V_iinc (v := Int32.ofInt ((k : Int))) mi_320_116 (by simp [stL, lv_args, Value.category]) ?_
    rw [ia2]
    refine V_goto mi_320_119 ?_
    refine V_sub (lv' := [(0, .ref (ad 90)), (1, .int (Int32.ofInt ((a : Int)))), (2, .int (Int32.ofInt ((b : Int)))), (3, .int (Int32.ofInt (n))), (4, .int (Int32.ofInt ((i : Int)))), (5, .int (Int32.ofInt (((k + 1 : Nat) : Int))))]) (fun q hq => ?_) ?_
    · simp only [List.mem_cons, List.not_mem_nil, or_false] at hq
      rcases hq with rfl | rfl | rfl | rfl | rfl | rfl <;> simp [stL, lv_args, Value.category]
    refine kk w3 G3 (fun c j hc => (upd_ne U3 (by omega)).trans (hO c j hc)) (fun p q hq h => ?_)
    by_cases e : p = i ∧ q = k
    · rw [e.1, e.2]
      exact upd_eq U3
    · exact (upd_ne U3 (by omega)).trans (hR p q hq (by omega))
  · rw [if_pos (by omega)] at es
    refine V_iload (v := Int32.ofInt (lvS n i k)) mi_320_109 (by simp [stL, lv_args, Value.category]) ?_
    refine V_goto mi_320_111 ?_
    rw [← es]
    refine V_astX (j := 7 * i + k) mi_320_115 (by rw [show 7 * (i : Int) + (k : Int) = ((7 * i + k : Nat) : Int) by omega]) hG e106 (by omega) (by omega) (f106 _ (by omega)) (i32b _).1 (i32b _).2 (fun w3 G3 U3 => ?_)
    refine V_iinc (v := Int32.ofInt ((k : Int))) mi_320_116 (by simp [stL, lv_args, Value.category]) ?_
    rw [ia2]
    refine V_goto mi_320_119 ?_
    refine V_sub (lv' := [(0, .ref (ad 90)), (1, .int (Int32.ofInt ((a : Int)))), (2, .int (Int32.ofInt ((b : Int)))), (3, .int (Int32.ofInt (n))), (4, .int (Int32.ofInt ((i : Int)))), (5, .int (Int32.ofInt (((k + 1 : Nat) : Int))))]) (fun q hq => ?_) ?_
    · simp only [List.mem_cons, List.not_mem_nil, or_false] at hq
      rcases hq with rfl | rfl | rfl | rfl | rfl | rfl <;> simp [stL, lv_args, Value.category]
    refine kk w3 G3 (fun c j hc => (upd_ne U3 (by omega)).trans (hO c j hc)) (fun p q hq h => ?_)
    by_cases e : p = i ∧ q = k
    · rw [e.1, e.2]
      exact upd_eq U3
    · exact (upd_ne U3 (by omega)).trans (hR p q hq (by omega))
theorem tlm_12 {a b i : Nat} {n : Int} (ha : a ≤ 6) (hb : b ≤ 6) (n0 : 0 ≤ n) (n6 : n ≤ 6) (hi : i ≤ a) {w0 : va_W} {post : Option Value → va_W → Prop} : ∀ (m k : Nat) (ws : va_W), k + m = b + 1 → GOK ad tys GG ws → O106 w0 ws → LMW n b i k ws → (∀ w : va_W, GOK ad tys GG w → O106 w0 w → LMW n b (i + 1) 0 w → V l D tys A 320 1 0 0 post 0 0 3 [(0, .ref (ad 90)), (1, .int (Int32.ofInt ((a : Int)))), (2, .int (Int32.ofInt ((b : Int)))), (3, .int (Int32.ofInt (n))), (4, .int (Int32.ofInt (((i + 1 : Nat) : Int))))] [] w) → V l D tys A 320 1 0 0 post 0 0 12 [(0, .ref (ad 90)), (1, .int (Int32.ofInt ((a : Int)))), (2, .int (Int32.ofInt ((b : Int)))), (3, .int (Int32.ofInt (n))), (4, .int (Int32.ofInt ((i : Int)))), (5, .int (Int32.ofInt ((k : Int))))] [] ws
  | 0, k, ws, hm, hG, hO, hR, kk => by
    refine V_iload (v := Int32.ofInt ((k : Int))) mi_320_12 (by simp [stL, lv_args, Value.category]) ?_
    refine V_iload (v := Int32.ofInt ((b : Int))) mi_320_14 (by simp [stL, lv_args, Value.category]) ?_
    refine V_cgt mi_320_15 ⟨by omega, by omega⟩ ⟨by omega, by omega⟩ (fun q => ?_) (fun q => ?_)
    · have e : k = b + 1 := by omega
      rw [e] at hR
      refine V_iinc (v := Int32.ofInt ((i : Int))) mi_320_122 (by simp [stL, lv_args, Value.category]) ?_
      rw [ia2]
      rw [show (i : Int) + (1) = ((i + 1 : Nat) : Int) by omega]
      refine V_goto mi_320_125 ?_
      refine V_sub (lv' := [(0, .ref (ad 90)), (1, .int (Int32.ofInt ((a : Int)))), (2, .int (Int32.ofInt ((b : Int)))), (3, .int (Int32.ofInt (n))), (4, .int (Int32.ofInt (((i + 1 : Nat) : Int))))]) (fun q hq => ?_) ?_
      · simp only [List.mem_cons, List.not_mem_nil, or_false] at hq
        rcases hq with rfl | rfl | rfl | rfl | rfl <;> simp [stL, lv_args, Value.category]
      exact kk ws hG hO (LMW_n hR)
    · exact absurd q (by omega)
  | m + 1, k, ws, hm, hG, hO, hR, kk => by
    obtain ⟨s106, e106, f106⟩ := a106
    refine V_iload (v := Int32.ofInt ((k : Int))) mi_320_12 (by simp [stL, lv_args, Value.category]) ?_
    refine V_iload (v := Int32.ofInt ((b : Int))) mi_320_14 (by simp [stL, lv_args, Value.category]) ?_
    refine V_cgt mi_320_15 ⟨by omega, by omega⟩ ⟨by omega, by omega⟩ (fun q => ?_) (fun q => ?_)
    · exact absurd q (by omega)
    · refine V_iload (v := Int32.ofInt ((i : Int))) mi_320_18 (by simp [stL, lv_args, Value.category]) ?_
      refine V_zne mi_320_20 ⟨by omega, by omega⟩ (fun q2 => ?_) (fun q2 => ?_)
      · refine V_ipush mi_320_32 ?_
        refine V_istore mi_320_33 ?_
        refine V_iload (v := Int32.ofInt ((i : Int))) mi_320_35 (by simp [stL, lv_args, Value.category]) ?_
        refine V_zle mi_320_37 ⟨by omega, by omega⟩ (fun q3 => ?_) (fun q3 => ?_)
        · exact absurd q3 (by omega)
        · refine V_iload (v := Int32.ofInt (0)) mi_320_40 (by simp [stL, lv_args, Value.category]) ?_
          refine V_aload (v := ad 90) mi_320_42 (by simp [stL, lv_args, Value.category]) ?_
          refine V_getI mi_320_43 hG (rref gr31 (by omega) hG) ?_
          refine V_ipush mi_320_46 ?_
          refine V_iload (v := Int32.ofInt ((i : Int))) mi_320_48 (by simp [stL, lv_args, Value.category]) ?_
          refine V_ipush mi_320_50 ?_
          refine V_ibin mi_320_51 (by omega) ?_
          rw [ib1]
          refine V_ibin mi_320_52 (by omega) ?_
          rw [ib2]
          refine V_iload (v := Int32.ofInt ((k : Int))) mi_320_53 (by simp [stL, lv_args, Value.category]) ?_
          refine V_ibin mi_320_55 (by omega) ?_
          rw [ib0]
          have hu : rd ws 106 (7 * (i - 1) + k) = some (.int (Int32.ofInt (lvP n i k))) := by
            obtain ⟨j, rfl⟩ : ∃ j, i = j + 1 := ⟨i - 1, by omega⟩
            exact hR j k (by omega) (Or.inl (by omega))
          refine V_aldX (j := 7 * (i - 1) + k) mi_320_56 (by rw [show ((7) * (((i : Int)) - (1))) + ((k : Int)) = ((7 * (i - 1) + k : Nat) : Int) by omega]) hG e106 (by omega) (by omega) (hu) ?_
          refine V_ibin mi_320_57 (by omega) ?_
          rw [ib0]
          refine V_istore mi_320_58 ?_
          refine V_iload (v := Int32.ofInt ((k : Int))) mi_320_60 (by simp [stL, lv_args, Value.category]) ?_
          refine V_zle mi_320_62 ⟨by omega, by omega⟩ (fun q4 => ?_) (fun q4 => ?_)
          · rw [show (0) + (lvP n i k) = lvS n i k from by unfold lvS; rw [if_pos (by omega), if_neg (by omega), show k = 0 by omega]; omega]
            refine V_sub (lv' := [(0, .ref (ad 90)), (1, .int (Int32.ofInt ((a : Int)))), (2, .int (Int32.ofInt ((b : Int)))), (3, .int (Int32.ofInt (n))), (4, .int (Int32.ofInt ((i : Int)))), (5, .int (Int32.ofInt ((k : Int)))), (6, .int (Int32.ofInt (lvS n i k)))]) (fun q hq => ?_) ?_
            · simp only [List.mem_cons, List.not_mem_nil, or_false] at hq
              rcases hq with rfl | rfl | rfl | rfl | rfl | rfl | rfl <;> simp [stL, lv_args, Value.category]
            exact tlm_85 ha hb n0 n6 hi (by omega) hG hO hR (fun w g o r => tlm_12 ha hb n0 n6 hi m (k + 1) w (by omega) g o r kk)
          · refine V_iload (v := Int32.ofInt ((0) + (lvP n i k))) mi_320_65 (by simp [stL, lv_args, Value.category]) ?_
            refine V_aload (v := ad 90) mi_320_67 (by simp [stL, lv_args, Value.category]) ?_
            refine V_getI mi_320_68 hG (rref gr31 (by omega) hG) ?_
            refine V_ipush mi_320_71 ?_
            refine V_iload (v := Int32.ofInt ((i : Int))) mi_320_73 (by simp [stL, lv_args, Value.category]) ?_
            refine V_ibin mi_320_75 (by omega) ?_
            rw [ib2]
            refine V_iload (v := Int32.ofInt ((k : Int))) mi_320_76 (by simp [stL, lv_args, Value.category]) ?_
            refine V_ibin mi_320_78 (by omega) ?_
            rw [ib0]
            refine V_ipush mi_320_79 ?_
            refine V_ibin mi_320_80 (by omega) ?_
            rw [ib1]
            have hl := hR i (k - 1) (by omega) (Or.inr ⟨rfl, by omega⟩)
            refine V_aldX (j := 7 * i + (k - 1)) mi_320_81 (by rw [show (((7) * ((i : Int))) + ((k : Int))) - (1) = ((7 * i + (k - 1) : Nat) : Int) by omega]) hG e106 (by omega) (by omega) (hl) ?_
            refine V_ibin mi_320_82 (by omega) ?_
            rw [ib0]
            refine V_istore mi_320_83 ?_
            rw [show ((0) + (lvP n i k)) + (lvF n i (k - 1)) = lvS n i k from by unfold lvS; rw [if_neg (by omega)]; omega]
            refine V_sub (lv' := [(0, .ref (ad 90)), (1, .int (Int32.ofInt ((a : Int)))), (2, .int (Int32.ofInt ((b : Int)))), (3, .int (Int32.ofInt (n))), (4, .int (Int32.ofInt ((i : Int)))), (5, .int (Int32.ofInt ((k : Int)))), (6, .int (Int32.ofInt (lvS n i k)))]) (fun q hq => ?_) ?_
            · simp only [List.mem_cons, List.not_mem_nil, or_false] at hq
              rcases hq with rfl | rfl | rfl | rfl | rfl | rfl | rfl <;> simp [stL, lv_args, Value.category]
            exact tlm_85 ha hb n0 n6 hi (by omega) hG hO hR (fun w g o r => tlm_12 ha hb n0 n6 hi m (k + 1) w (by omega) g o r kk)
      · refine V_iload (v := Int32.ofInt ((k : Int))) mi_320_23 (by simp [stL, lv_args, Value.category]) ?_
        refine V_zne mi_320_25 ⟨by omega, by omega⟩ (fun q5 => ?_) (fun q5 => ?_)
        · refine V_ipush mi_320_32 ?_
          refine V_istore mi_320_33 ?_
          refine V_iload (v := Int32.ofInt ((i : Int))) mi_320_35 (by simp [stL, lv_args, Value.category]) ?_
          refine V_zle mi_320_37 ⟨by omega, by omega⟩ (fun q3 => ?_) (fun q3 => ?_)
          · refine V_iload (v := Int32.ofInt ((k : Int))) mi_320_60 (by simp [stL, lv_args, Value.category]) ?_
            refine V_zle mi_320_62 ⟨by omega, by omega⟩ (fun q4 => ?_) (fun q4 => ?_)
            · exact absurd q4 (by omega)
            · refine V_iload (v := Int32.ofInt (0)) mi_320_65 (by simp [stL, lv_args, Value.category]) ?_
              refine V_aload (v := ad 90) mi_320_67 (by simp [stL, lv_args, Value.category]) ?_
              refine V_getI mi_320_68 hG (rref gr31 (by omega) hG) ?_
              refine V_ipush mi_320_71 ?_
              refine V_iload (v := Int32.ofInt ((i : Int))) mi_320_73 (by simp [stL, lv_args, Value.category]) ?_
              refine V_ibin mi_320_75 (by omega) ?_
              rw [ib2]
              refine V_iload (v := Int32.ofInt ((k : Int))) mi_320_76 (by simp [stL, lv_args, Value.category]) ?_
              refine V_ibin mi_320_78 (by omega) ?_
              rw [ib0]
              refine V_ipush mi_320_79 ?_
              refine V_ibin mi_320_80 (by omega) ?_
              rw [ib1]
              have hl := hR i (k - 1) (by omega) (Or.inr ⟨rfl, by omega⟩)
              refine V_aldX (j := 7 * i + (k - 1)) mi_320_81 (by rw [show (((7) * ((i : Int))) + ((k : Int))) - (1) = ((7 * i + (k - 1) : Nat) : Int) by omega]) hG e106 (by omega) (by omega) (hl) ?_
              refine V_ibin mi_320_82 (by omega) ?_
              rw [ib0]
              refine V_istore mi_320_83 ?_
              rw [show (0) + (lvF n i (k - 1)) = lvS n i k from by unfold lvS; rw [if_neg (by omega), show lvP n i k = 0 by rw [show i = 0 by omega]; rfl]]
              refine V_sub (lv' := [(0, .ref (ad 90)), (1, .int (Int32.ofInt ((a : Int)))), (2, .int (Int32.ofInt ((b : Int)))), (3, .int (Int32.ofInt (n))), (4, .int (Int32.ofInt ((i : Int)))), (5, .int (Int32.ofInt ((k : Int)))), (6, .int (Int32.ofInt (lvS n i k)))]) (fun q hq => ?_) ?_
              · simp only [List.mem_cons, List.not_mem_nil, or_false] at hq
                rcases hq with rfl | rfl | rfl | rfl | rfl | rfl | rfl <;> simp [stL, lv_args, Value.category]
              exact tlm_85 ha hb n0 n6 hi (by omega) hG hO hR (fun w g o r => tlm_12 ha hb n0 n6 hi m (k + 1) w (by omega) g o r kk)
          · exact absurd q3 (by omega)
        · refine V_ipush mi_320_28 ?_
          refine V_goto mi_320_29 ?_
          refine V_istore mi_320_33 ?_
          refine V_iload (v := Int32.ofInt ((i : Int))) mi_320_35 (by simp [stL, lv_args, Value.category]) ?_
          refine V_zle mi_320_37 ⟨by omega, by omega⟩ (fun q3 => ?_) (fun q3 => ?_)
          · refine V_iload (v := Int32.ofInt ((k : Int))) mi_320_60 (by simp [stL, lv_args, Value.category]) ?_
            refine V_zle mi_320_62 ⟨by omega, by omega⟩ (fun q4 => ?_) (fun q4 => ?_)
            · rw [show 1 = lvS n i k from by unfold lvS; rw [if_pos (by omega), if_pos (by omega)]]
              refine V_sub (lv' := [(0, .ref (ad 90)), (1, .int (Int32.ofInt ((a : Int)))), (2, .int (Int32.ofInt ((b : Int)))), (3, .int (Int32.ofInt (n))), (4, .int (Int32.ofInt ((i : Int)))), (5, .int (Int32.ofInt ((k : Int)))), (6, .int (Int32.ofInt (lvS n i k)))]) (fun q hq => ?_) ?_
              · simp only [List.mem_cons, List.not_mem_nil, or_false] at hq
                rcases hq with rfl | rfl | rfl | rfl | rfl | rfl | rfl <;> simp [stL, lv_args, Value.category]
              exact tlm_85 ha hb n0 n6 hi (by omega) hG hO hR (fun w g o r => tlm_12 ha hb n0 n6 hi m (k + 1) w (by omega) g o r kk)
            · exact absurd q4 (by omega)
          · exact absurd q3 (by omega)
theorem tlm_3 {a b : Nat} {n : Int} (ha : a ≤ 6) (hb : b ≤ 6) (n0 : 0 ≤ n) (n6 : n ≤ 6) {w0 : va_W} {post : Option Value → va_W → Prop} : ∀ (m i : Nat) (ws : va_W), i + m = a + 1 → GOK ad tys GG ws → O106 w0 ws → LMW n b i 0 ws → (∀ w : va_W, GOK ad tys GG w → O106 w0 w → post (some (.int (Int32.ofInt (lvF n a b)))) w) → V l D tys A 320 1 0 0 post 0 0 3 [(0, .ref (ad 90)), (1, .int (Int32.ofInt ((a : Int)))), (2, .int (Int32.ofInt ((b : Int)))), (3, .int (Int32.ofInt (n))), (4, .int (Int32.ofInt ((i : Int))))] [] ws
  | 0, i, ws, hm, hG, hO, hR, kk => by
    obtain ⟨s106, e106, f106⟩ := a106
    refine V_iload (v := Int32.ofInt ((i : Int))) mi_320_3 (by simp [stL, lv_args, Value.category]) ?_
    refine V_iload (v := Int32.ofInt ((a : Int))) mi_320_5 (by simp [stL, lv_args, Value.category]) ?_
    refine V_cgt mi_320_6 ⟨by omega, by omega⟩ ⟨by omega, by omega⟩ (fun q => ?_) (fun q => ?_)
    · have g := hR a b (Nat.le_refl b) (Or.inl (by omega))
      refine V_aload (v := ad 90) mi_320_128 (by simp [stL, lv_args, Value.category]) ?_
      refine V_getI mi_320_129 hG (rref gr31 (by omega) hG) ?_
      refine V_ipush mi_320_132 ?_
      refine V_iload (v := Int32.ofInt ((a : Int))) mi_320_134 (by simp [stL, lv_args, Value.category]) ?_
      refine V_ibin mi_320_135 (by omega) ?_
      rw [ib2]
      refine V_iload (v := Int32.ofInt ((b : Int))) mi_320_136 (by simp [stL, lv_args, Value.category]) ?_
      refine V_ibin mi_320_137 (by omega) ?_
      rw [ib0]
      refine V_aldX (j := 7 * a + b) mi_320_138 (by rw [show ((7) * ((a : Int))) + ((b : Int)) = ((7 * a + b : Nat) : Int) by omega]) hG e106 (by omega) (by omega) (g) ?_
      exact V_retI mi_320_139 (fun h => absurd h (by decide +kernel)) (kk _ hG hO)
    · exact absurd q (by omega)
  | m + 1, i, ws, hm, hG, hO, hR, kk => by
    refine V_iload (v := Int32.ofInt ((i : Int))) mi_320_3 (by simp [stL, lv_args, Value.category]) ?_
    refine V_iload (v := Int32.ofInt ((a : Int))) mi_320_5 (by simp [stL, lv_args, Value.category]) ?_
    refine V_cgt mi_320_6 ⟨by omega, by omega⟩ ⟨by omega, by omega⟩ (fun q => ?_) (fun q => ?_)
    · exact absurd q (by omega)
    · refine V_ipush mi_320_9 ?_
      refine V_istore mi_320_10 ?_
      refine V_sub (lv' := [(0, .ref (ad 90)), (1, .int (Int32.ofInt ((a : Int)))), (2, .int (Int32.ofInt ((b : Int)))), (3, .int (Int32.ofInt (n))), (4, .int (Int32.ofInt ((i : Int)))), (5, .int (Int32.ofInt (((0 : Nat) : Int))))]) (fun q hq => ?_) ?_
      · simp only [List.mem_cons, List.not_mem_nil, or_false] at hq
        rcases hq with rfl | rfl | rfl | rfl | rfl | rfl <;> simp [stL, lv_args, Value.category]
      exact tlm_12 ha hb n0 n6 (by omega) (b + 1) 0 ws (by omega) hG hO hR (fun w g o r => tlm_3 ha hb n0 n6 m (i + 1) w (by omega) g o r kk)
theorem tlm_ct {a b : Nat} {n : Int} (ha : a ≤ 6) (hb : b ≤ 6) (n0 : 0 ≤ n) (n6 : n ≤ 6) (hG : GOK ad tys GG ws) : CT l D tys A 320 1 0 0 [.ref (ad 90), .int (Int32.ofInt ((a : Int))), .int (Int32.ofInt ((b : Int))), .int (Int32.ofInt (n))] ws (fun r w => (GOK ad tys GG w ∧ O106 ws w) ∧ r = some (.int (Int32.ofInt (lvF n a b)))) := by
  refine CT_of_V (by omega) (show (4 : Nat) ≤ mML 320 by decide +kernel) ?_
  refine V_ipush mi_320_0 ?_
  refine V_istore mi_320_1 ?_
  refine V_sub (lv' := [(0, .ref (ad 90)), (1, .int (Int32.ofInt ((a : Int)))), (2, .int (Int32.ofInt ((b : Int)))), (3, .int (Int32.ofInt (n))), (4, .int (Int32.ofInt (((0 : Nat) : Int))))]) (fun q hq => ?_) ?_
  · simp only [List.mem_cons, List.not_mem_nil, or_false] at hq
    rcases hq with rfl | rfl | rfl | rfl | rfl <;> simp [stL, lv_args, Value.category]
  exact tlm_3 ha hb n0 n6 (a + 1) 0 ws (by omega) hG (fun _ _ _ => rfl) (fun p q _ h => absurd h (by omega)) (fun w g o => ⟨⟨g, o⟩, rfl⟩)
theorem trx_14 {G : Nat → Int} {w0 : va_W} (hX0 : HX 4 G w0) (hB : HB G) {m p : Nat} (hm : (m : Int) < G 3) (hp : (p : Int) < G 3) {post : Option Value → va_W → Prop} : ∀ (k n : Nat) (ws : va_W), n + k = 7 → GOK ad tys GG ws → O52 w0 ws → (∀ w : va_W, GOK ad tys GG w → O52 w0 w → post (some (.int (Int32.ofInt (tuS (G (6 + 7 * m)).toNat (G (6 + 7 * p)).toNat k n)))) w) → V l D tys A 59 3 0 0 post 0 0 14 [(0, .ref (ad 0)), (1, .int (Int32.ofInt ((m : Int)))), (2, .int (Int32.ofInt ((p : Int)))), (3, .int (Int32.ofInt ((n : Int))))] [] ws
  | 0, n, ws, hn, hG, hO, kk => by
    refine V_iload (v := Int32.ofInt ((n : Int))) mi_59_14 (by simp [stL, lv_args, Value.category]) ?_
    refine V_ipush mi_59_15 ?_
    refine V_cgt mi_59_17 ⟨by omega, by omega⟩ ⟨by omega, by omega⟩ (fun q => ?_) (fun q => ?_)
    · refine V_ipush mi_59_55 ?_
      exact V_retI mi_59_56 (fun h => absurd h (by decide +kernel)) (kk ws hG hO)
    · exact absurd q (by omega)
  | k + 1, n, ws, hn, hG, hO, kk => by
    have hX : HX 4 G ws := HX_keep hX0 (fun c i h1 h2 => hO c i (by omega))
    refine V_iload (v := Int32.ofInt ((n : Int))) mi_59_14 (by simp [stL, lv_args, Value.category]) ?_
    refine V_ipush mi_59_15 ?_
    refine V_cgt mi_59_17 ⟨by omega, by omega⟩ ⟨by omega, by omega⟩ (fun q => ?_) (fun q => ?_)
    · exact absurd q (by omega)
    · have b3 := hB.b3
      have la := hB.bl m (by omega)
      have lb := hB.bl p (by omega)
      have ea : (((G (6 + 7 * m)).toNat : Nat) : Int) = G (6 + 7 * m) := by omega
      have eb : (((G (6 + 7 * p)).toNat : Nat) : Int) = G (6 + 7 * p) := by omega
      have lvb := lv_bd (n := n) (i := (G (6 + 7 * m)).toNat) (k := (G (6 + 7 * p)).toNat) (by omega) (by omega) (by omega)
      refine V_aload (v := ad 0) mi_59_20 (by simp [stL, lv_args, Value.category]) ?_
      refine V_gR mi_59_21 g0r10 (by omega) hG ?_
      refine V_aload (v := ad 0) mi_59_24 (by simp [stL, lv_args, Value.category]) ?_
      refine V_gR mi_59_25 g0r2 (by omega) hG ?_
      refine V_iload (v := Int32.ofInt ((m : Int))) mi_59_28 (by simp [stL, lv_args, Value.category]) ?_
      refine V_cO (As := [.int (Int32.ofInt ((m : Int)))]) (st := [.ref (ad 50)]) mi_59_29 (by omega) (by decide +kernel) (by decide +kernel) (by omega) g4o hG (hle_ct (f := m) hG hX hB (by omega)) (by omega) (show 1 = mN 106 by decide +kernel) (by simp [Value.category]) ?_
      rintro r w2 ⟨e2, rfl⟩
      rw [e2, ← ea]
      refine V_aload (v := ad 0) mi_59_32 (by simp [stL, lv_args, Value.category]) ?_
      refine V_gR mi_59_33 g0r2 (by omega) hG ?_
      refine V_iload (v := Int32.ofInt ((p : Int))) mi_59_36 (by simp [stL, lv_args, Value.category]) ?_
      refine V_cO (As := [.int (Int32.ofInt ((p : Int)))]) (st := [.int (Int32.ofInt (((G (6 + 7 * m)).toNat : Int))), .ref (ad 50)]) mi_59_37 (by omega) (by decide +kernel) (by decide +kernel) (by omega) g4o hG (hle_ct (f := p) hG hX hB (by omega)) (by omega) (show 1 = mN 106 by decide +kernel) (by simp [Value.category]) ?_
      rintro r w3 ⟨e3, rfl⟩
      rw [e3, ← eb]
      refine V_iload (v := Int32.ofInt ((n : Int))) mi_59_40 (by simp [stL, lv_args, Value.category]) ?_
      refine V_cO (As := [.int (Int32.ofInt (((G (6 + 7 * m)).toNat : Int))), .int (Int32.ofInt (((G (6 + 7 * p)).toNat : Int))), .int (Int32.ofInt ((n : Int)))]) (st := []) mi_59_41 (by omega) (by decide +kernel) (by decide +kernel) (by omega) g50o hG (tlx_ct (a := (G (6 + 7 * m)).toNat) (b := (G (6 + 7 * p)).toNat) (n := (n : Int)) (by omega) (by omega) (by omega) (by omega) hG) (by omega) (show 3 = mN 131 by decide +kernel) (by simp [Value.category]) ?_
      rintro r w4 ⟨⟨G4, o4⟩, e4⟩
      rw [e4]
      refine V_zle mi_59_44 ⟨by omega, by omega⟩ (fun q2 => ?_) (fun q2 => ?_)
      · refine V_iinc (v := Int32.ofInt ((n : Int))) mi_59_49 (by simp [stL, lv_args, Value.category]) ?_
        rw [ia2]
        refine V_goto mi_59_52 ?_
        refine V_sub (lv' := [(0, .ref (ad 0)), (1, .int (Int32.ofInt ((m : Int)))), (2, .int (Int32.ofInt ((p : Int)))), (3, .int (Int32.ofInt (((n + 1 : Nat) : Int))))]) (fun q hq => ?_) ?_
        · simp only [List.mem_cons, List.not_mem_nil, or_false] at hq
          rcases hq with rfl | rfl | rfl | rfl <;> simp [stL, lv_args, Value.category]
        rw [tuS_n (by omega)] at kk
        exact trx_14 hX0 hB hm hp k (n + 1) w4 (by omega) G4 (fun c j hc => (o4 c j hc).trans (hO c j hc)) kk
      · refine V_iload (v := Int32.ofInt ((n : Int))) mi_59_47 (by simp [stL, lv_args, Value.category]) ?_
        exact V_retI mi_59_48 (fun h => absurd h (by decide +kernel)) (by rw [tuS_y (by omega)] at kk; exact kk w4 G4 (fun c j hc => (o4 c j hc).trans (hO c j hc)))
theorem truX_ct {G : Nat → Int} (hG : GOK ad tys GG ws) (hX : HX 4 G ws) (hB : HB G) {f o : Int} (fI : I32 f) (oI : I32 o) : CT l D tys A 59 3 0 0 [.ref (ad 0), .int (Int32.ofInt (f)), .int (Int32.ofInt (o))] ws (fun r w => (GOK ad tys GG w ∧ O52 ws w) ∧ r = some (.int (if (0 ≤ f ∧ f < G 3) ∧ (0 ≤ o ∧ o < G 3) ∧ f ≠ o then Int32.ofInt (tuS (G (6 + 7 * f.toNat)).toNat (G (6 + 7 * o.toNat)).toNat 7 0) else Int32.ofInt (-2)))) := by
  refine CT_of_V (by omega) (show (3 : Nat) ≤ mML 59 by decide +kernel) ?_
  refine V_aload (v := ad 0) mi_59_0 (by simp [stL, lv_args, Value.category]) ?_
  refine V_iload (v := Int32.ofInt (f)) mi_59_1 (by simp [stL, lv_args, Value.category]) ?_
  refine V_iload (v := Int32.ofInt (o)) mi_59_2 (by simp [stL, lv_args, Value.category]) ?_
  refine V_cO (As := [.int (Int32.ofInt (f)), .int (Int32.ofInt (o))]) (st := []) mi_59_3 (by omega) (by decide +kernel) (by decide +kernel) (by omega) g0o hG (x2_ct hG hX hB fI oI) (by omega) (show 2 = mN 74 by decide +kernel) (by simp [Value.category]) ?_
  rintro r w1 ⟨ew1, rfl⟩
  rw [ew1]
  refine V_bne mi_59_6  (fun c1 => ?_) (fun c1 => ?_)
  · have k1 := of_decide_eq_true c1
    obtain ⟨m, rfl⟩ := Int.eq_ofNat_of_zero_le k1.1.1
    obtain ⟨p, rfl⟩ := Int.eq_ofNat_of_zero_le k1.2.1.1
    refine V_ipush mi_59_12 ?_
    refine V_istore mi_59_13 ?_
    refine V_sub (lv' := [(0, .ref (ad 0)), (1, .int (Int32.ofInt ((m : Int)))), (2, .int (Int32.ofInt ((p : Int)))), (3, .int (Int32.ofInt (((0 : Nat) : Int))))]) (fun q hq => ?_) ?_
    · simp only [List.mem_cons, List.not_mem_nil, or_false] at hq
      rcases hq with rfl | rfl | rfl | rfl <;> simp [stL, lv_args, Value.category]
    exact trx_14 hX hB k1.1.2 k1.2.1.2 7 0 ws (by omega) hG (fun _ _ _ => rfl) (fun w g o => ⟨⟨g, o⟩, by rw [if_pos k1, Int.toNat_natCast, Int.toNat_natCast]⟩)
  · refine V_ipush mi_59_9 ?_
    exact V_retI mi_59_11 (fun h => absurd h (by decide +kernel)) ⟨⟨hG, fun _ _ _ => rfl⟩, by rw [if_neg (of_decide_eq_false c1)]⟩
theorem trm_14 {G : Nat → Int} {w0 : va_W} (hW0 : W91 G w0) (hB : HB G) {m p : Nat} (hm : (m : Int) < G 3) (hp : (p : Int) < G 3) {post : Option Value → va_W → Prop} : ∀ (k n : Nat) (ws : va_W), n + k = 6 → GOK ad tys GG ws → O106 w0 ws → (∀ w : va_W, GOK ad tys GG w → O106 w0 w → post (some (.int (Int32.ofInt (tuS (G (6 + 7 * m)).toNat (G (6 + 7 * p)).toNat (k + 1) n)))) w) → V l D tys A 322 4 0 0 post 0 0 14 [(0, .ref (ad 90)), (1, .int (Int32.ofInt ((m : Int)))), (2, .int (Int32.ofInt ((p : Int)))), (3, .int (Int32.ofInt ((n : Int))))] [] ws
  | 0, n, ws, hn, hG, hO, kk => by
    have b3 := hB.b3
    have la := hB.bl m (by omega)
    have lb := hB.bl p (by omega)
    have ea : (((G (6 + 7 * m)).toNat : Nat) : Int) = G (6 + 7 * m) := by omega
    have eb : (((G (6 + 7 * p)).toNat : Nat) : Int) = G (6 + 7 * p) := by omega
    have hW : W91 G ws := fun j hj => (hO 91 j (by omega)).trans (hW0 j hj)
    have lvb := lv_bd (n := n) (i := (G (6 + 7 * m)).toNat) (k := (G (6 + 7 * p)).toNat) (by omega) (by omega) (by omega)
    refine V_aload (v := ad 90) mi_322_14 (by simp [stL, lv_args, Value.category]) ?_
    refine V_aload (v := ad 90) mi_322_15 (by simp [stL, lv_args, Value.category]) ?_
    refine V_iload (v := Int32.ofInt ((m : Int))) mi_322_16 (by simp [stL, lv_args, Value.category]) ?_
    refine V_callM (As := [.int (Int32.ofInt ((m : Int)))]) (st := [.ref (ad 90)]) mi_322_17 (by omega) (by decide +kernel) (by decide +kernel) hG (mle_ct (f := m) hG hW hB (by omega)) (by omega) (show 1 = mN 204 by decide +kernel) (by simp [Value.category]) ?_
    rintro r w2 ⟨e2, rfl⟩
    rw [e2, ← ea]
    refine V_aload (v := ad 90) mi_322_20 (by simp [stL, lv_args, Value.category]) ?_
    refine V_iload (v := Int32.ofInt ((p : Int))) mi_322_21 (by simp [stL, lv_args, Value.category]) ?_
    refine V_callM (As := [.int (Int32.ofInt ((p : Int)))]) (st := [.int (Int32.ofInt (((G (6 + 7 * m)).toNat : Int))), .ref (ad 90)]) mi_322_22 (by omega) (by decide +kernel) (by decide +kernel) hG (mle_ct (f := p) hG hW hB (by omega)) (by omega) (show 1 = mN 204 by decide +kernel) (by simp [Value.category]) ?_
    rintro r w3 ⟨e3, rfl⟩
    rw [e3, ← eb]
    refine V_iload (v := Int32.ofInt ((n : Int))) mi_322_25 (by simp [stL, lv_args, Value.category]) ?_
    refine V_callM (As := [.int (Int32.ofInt (((G (6 + 7 * m)).toNat : Int))), .int (Int32.ofInt (((G (6 + 7 * p)).toNat : Int))), .int (Int32.ofInt ((n : Int)))]) (st := []) mi_322_26 (by omega) (by decide +kernel) (by decide +kernel) hG (tlm_ct (a := (G (6 + 7 * m)).toNat) (b := (G (6 + 7 * p)).toNat) (n := (n : Int)) (by omega) (by omega) (by omega) (by omega) hG) (by omega) (show 3 = mN 320 by decide +kernel) (by simp [Value.category]) ?_
    rintro r w4 ⟨⟨G4, o4⟩, e4⟩
    rw [e4]
    refine V_zne mi_322_29 ⟨by omega, by omega⟩ (fun q2 => ?_) (fun q2 => ?_)
    · refine V_iload (v := Int32.ofInt ((n : Int))) mi_322_38 (by simp [stL, lv_args, Value.category]) ?_
      exact V_retI mi_322_39 (fun h => absurd h (by decide +kernel)) (by rw [tuS_y (by omega)] at kk; exact kk w4 G4 (fun c j hc => (o4 c j hc).trans (hO c j hc)))
    · exact absurd (lvb.2 (by omega)) (by omega)
  | k + 1, n, ws, hn, hG, hO, kk => by
    have b3 := hB.b3
    have la := hB.bl m (by omega)
    have lb := hB.bl p (by omega)
    have ea : (((G (6 + 7 * m)).toNat : Nat) : Int) = G (6 + 7 * m) := by omega
    have eb : (((G (6 + 7 * p)).toNat : Nat) : Int) = G (6 + 7 * p) := by omega
    have hW : W91 G ws := fun j hj => (hO 91 j (by omega)).trans (hW0 j hj)
    have lvb := lv_bd (n := n) (i := (G (6 + 7 * m)).toNat) (k := (G (6 + 7 * p)).toNat) (by omega) (by omega) (by omega)
    refine V_aload (v := ad 90) mi_322_14 (by simp [stL, lv_args, Value.category]) ?_
    refine V_aload (v := ad 90) mi_322_15 (by simp [stL, lv_args, Value.category]) ?_
    refine V_iload (v := Int32.ofInt ((m : Int))) mi_322_16 (by simp [stL, lv_args, Value.category]) ?_
    refine V_callM (As := [.int (Int32.ofInt ((m : Int)))]) (st := [.ref (ad 90)]) mi_322_17 (by omega) (by decide +kernel) (by decide +kernel) hG (mle_ct (f := m) hG hW hB (by omega)) (by omega) (show 1 = mN 204 by decide +kernel) (by simp [Value.category]) ?_
    rintro r w2 ⟨e2, rfl⟩
    rw [e2, ← ea]
    refine V_aload (v := ad 90) mi_322_20 (by simp [stL, lv_args, Value.category]) ?_
    refine V_iload (v := Int32.ofInt ((p : Int))) mi_322_21 (by simp [stL, lv_args, Value.category]) ?_
    refine V_callM (As := [.int (Int32.ofInt ((p : Int)))]) (st := [.int (Int32.ofInt (((G (6 + 7 * m)).toNat : Int))), .ref (ad 90)]) mi_322_22 (by omega) (by decide +kernel) (by decide +kernel) hG (mle_ct (f := p) hG hW hB (by omega)) (by omega) (show 1 = mN 204 by decide +kernel) (by simp [Value.category]) ?_
    rintro r w3 ⟨e3, rfl⟩
    rw [e3, ← eb]
    refine V_iload (v := Int32.ofInt ((n : Int))) mi_322_25 (by simp [stL, lv_args, Value.category]) ?_
    refine V_callM (As := [.int (Int32.ofInt (((G (6 + 7 * m)).toNat : Int))), .int (Int32.ofInt (((G (6 + 7 * p)).toNat : Int))), .int (Int32.ofInt ((n : Int)))]) (st := []) mi_322_26 (by omega) (by decide +kernel) (by decide +kernel) hG (tlm_ct (a := (G (6 + 7 * m)).toNat) (b := (G (6 + 7 * p)).toNat) (n := (n : Int)) (by omega) (by omega) (by omega) (by omega) hG) (by omega) (show 3 = mN 320 by decide +kernel) (by simp [Value.category]) ?_
    rintro r w4 ⟨⟨G4, o4⟩, e4⟩
    rw [e4]
    refine V_zne mi_322_29 ⟨by omega, by omega⟩ (fun q2 => ?_) (fun q2 => ?_)
    · refine V_iload (v := Int32.ofInt ((n : Int))) mi_322_38 (by simp [stL, lv_args, Value.category]) ?_
      exact V_retI mi_322_39 (fun h => absurd h (by decide +kernel)) (by rw [tuS_y (by omega)] at kk; exact kk w4 G4 (fun c j hc => (o4 c j hc).trans (hO c j hc)))
    · refine V_iinc (v := Int32.ofInt ((n : Int))) mi_322_32 (by simp [stL, lv_args, Value.category]) ?_
      rw [ia2]
      refine V_goto mi_322_35 ?_
      refine V_sub (lv' := [(0, .ref (ad 90)), (1, .int (Int32.ofInt ((m : Int)))), (2, .int (Int32.ofInt ((p : Int)))), (3, .int (Int32.ofInt (((n + 1 : Nat) : Int))))]) (fun q hq => ?_) ?_
      · simp only [List.mem_cons, List.not_mem_nil, or_false] at hq
        rcases hq with rfl | rfl | rfl | rfl <;> simp [stL, lv_args, Value.category]
      rw [tuS_n (by omega)] at kk
      exact trm_14 hW0 hB hm hp k (n + 1) w4 (by omega) G4 (fun c j hc => (o4 c j hc).trans (hO c j hc)) kk
theorem truM_ct {G : Nat → Int} (hG : GOK ad tys GG ws) (hW : W91 G ws) (hB : HB G) {f o : Int} (fI : I32 f) (oI : I32 o) : CT l D tys A 322 4 0 0 [.ref (ad 90), .int (Int32.ofInt (f)), .int (Int32.ofInt (o))] ws (fun r w => (GOK ad tys GG w ∧ O106 ws w) ∧ r = some (.int (if (0 ≤ f ∧ f < G 3) ∧ (0 ≤ o ∧ o < G 3) ∧ f ≠ o then Int32.ofInt (tuS (G (6 + 7 * f.toNat)).toNat (G (6 + 7 * o.toNat)).toNat 7 0) else Int32.ofInt (-2)))) := by
  refine CT_of_V (by omega) (show (3 : Nat) ≤ mML 322 by decide +kernel) ?_
  refine V_aload (v := ad 90) mi_322_0 (by simp [stL, lv_args, Value.category]) ?_
  refine V_iload (v := Int32.ofInt (f)) mi_322_1 (by simp [stL, lv_args, Value.category]) ?_
  refine V_iload (v := Int32.ofInt (o)) mi_322_2 (by simp [stL, lv_args, Value.category]) ?_
  refine V_callM (As := [.int (Int32.ofInt (f)), .int (Int32.ofInt (o))]) (st := []) mi_322_3 (by omega) (by decide +kernel) (by decide +kernel) hG (m2_ct hG hW hB fI oI) (by omega) (show 2 = mN 200 by decide +kernel) (by simp [Value.category]) ?_
  rintro r w1 ⟨ew1, rfl⟩
  rw [ew1]
  refine V_bne mi_322_6  (fun c1 => ?_) (fun c1 => ?_)
  · have k1 := of_decide_eq_true c1
    obtain ⟨m, rfl⟩ := Int.eq_ofNat_of_zero_le k1.1.1
    obtain ⟨p, rfl⟩ := Int.eq_ofNat_of_zero_le k1.2.1.1
    refine V_ipush mi_322_12 ?_
    refine V_istore mi_322_13 ?_
    refine V_sub (lv' := [(0, .ref (ad 90)), (1, .int (Int32.ofInt ((m : Int)))), (2, .int (Int32.ofInt ((p : Int)))), (3, .int (Int32.ofInt (((0 : Nat) : Int))))]) (fun q hq => ?_) ?_
    · simp only [List.mem_cons, List.not_mem_nil, or_false] at hq
      rcases hq with rfl | rfl | rfl | rfl <;> simp [stL, lv_args, Value.category]
    exact trm_14 hW hB k1.1.2 k1.2.1.2 6 0 ws (by omega) hG (fun _ _ _ => rfl) (fun w g o => ⟨⟨g, o⟩, by rw [if_pos k1, Int.toNat_natCast, Int.toNat_natCast]⟩)
  · refine V_ipush mi_322_9 ?_
    exact V_retI mi_322_11 (fun h => absurd h (by decide +kernel)) ⟨⟨hG, fun _ _ _ => rfl⟩, by rw [if_neg (of_decide_eq_false c1)]⟩
/-- both sides write their own scratch rows alone -/
noncomputable def XS2 (w0 w : va_W) : Prop := ∀ c j, ¬ (c = 37 ∨ c = 38 ∨ c = 48 ∨ c = 49 ∨ c = 51 ∨ c = 52) → rd w c j = rd w0 c j
noncomputable def MS2 (w0 w : va_W) : Prop := ∀ c j, ¬ (c = 105 ∨ c = 106) → ¬ (c = 90 ∧ j = 30) → rd w c j = rd w0 c j
theorem pairH_sc {kx km d1 d2 : Nat} {xs ms : List Value} {v : Int32} (hR : RELH ws) (h1 : d1 < 11) (h2 : d2 < 11) (c1 : CT l D tys A kx d1 0 0 xs ws (fun r w => (GOK ad tys GG w ∧ XS2 ws w) ∧ r = some (.int v))) (c2 : ∀ w : va_W, GOK ad tys GG w → XS2 ws w → CT l D tys A km d2 0 0 ms w (fun r w2 => (GOK ad tys GG w2 ∧ MS2 w w2) ∧ r = some (.int v))) : PAIRH l D tys A ad kx km xs ms ws := by
  refine ⟨v, fun w => XS2 ws w, ⟨d1, h1, CT_post c1 (fun r w h => ⟨h.2, h.1.1, h.1.2⟩)⟩, fun w hw K => ⟨d2, h2, CT_post (c2 w hw K) (fun r w2 h => ?_)⟩⟩
  obtain ⟨⟨g, o⟩, e⟩ := h
  have oo : ∀ c j, ¬ (c = 37 ∨ c = 38 ∨ c = 48 ∨ c = 49 ∨ c = 51 ∨ c = 52) → ¬ (c = 105 ∨ c = 106) → ¬ (c = 90 ∧ j = 30) → rd w2 c j = rd ws c j := fun c j h3 h4 h5 => (o c j h4 h5).trans (K c j h3)
  exact ⟨e, g, relh_keep hR (fun c hc j => oo c j (by omega) (by omega) (by omega)) (fun j hj => oo 90 j (by omega) (by omega) (fun q => by
      obtain ⟨-, q⟩ := q
      subst q
      exact absurd hj (by unfold spK; decide)))⟩
theorem pairH_trust (hAD : ∀ i : Nat, ad (1000 + i) = D.2 1000 i) (hG : GOK ad tys GG ws) (hR : RELH ws) (a1 a2 : Int32) : PAIRH l D tys A ad 59 322 [.ref (ad 0), .int a1, .int a2] [.ref (ad 90), .int a1, .int a2] ws := by
  obtain ⟨G, o, x, y⟩ := hR.2.1
  have hb := hb_of hG y o
  have c1 := truX_ct (l := l) (D := D) (A := A) hG x hb (i32b a1) (i32b a2)
  have c2 := fun (w : va_W) (hw : GOK ad tys GG w) (K : XS2 ws w) => truM_ct (l := l) (D := D) (A := A) hw (fun j hj => (K 91 j (by omega)).trans (y j hj)) hb (i32b a1) (i32b a2)
  simp only [oi] at c1 c2
  exact pairH_sc hR (by omega) (by omega) (CT_post c1 (fun r w h => ⟨⟨h.1.1, fun c j hc => h.1.2 c j (by omega)⟩, h.2⟩)) (fun w hw K => CT_post (c2 w hw K) (fun r w2 h => ⟨⟨h.1.1, fun c j h1 h2 => h.1.2 c j (by omega)⟩, h.2⟩))
end XHG
