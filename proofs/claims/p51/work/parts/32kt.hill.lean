section XVD
variable {l : Launch} {D : va_G} {tys : List (ClassId × FieldType)} {A : Nat → Prop} {ad : Nat → Nat} {ws : va_W}
/-- n numbers from a on stand from b on, those that f names -/
noncomputable def nmP (f : Nat → Bool) (nm : Nat → Int64) (a b n y : Nat) : Int64 := if b ≤ y ∧ y < b + n ∧ f (y - b) = true then nm (a + (y - b)) else nm y
theorem nmP_step {f g : Nat → Bool} {nm : Nat → Int64} {a b n o : Nat} (ho : o < n) (h1 : g o = true) (h2 : ∀ x, x ≠ o → x < n → g x = f x) : nmP g nm a b n = updL (nmP f nm a b n) (b + o) (nm (a + o)) := by
  funext y
  by_cases e : y = b + o
  · rw [e, updL_eq]
    unfold nmP
    rw [if_pos ⟨by omega, by omega, by rw [show b + o - b = o by omega]; exact h1⟩, show b + o - b = o by omega]
  · rw [updL_ne e]
    unfold nmP
    by_cases c : b ≤ y ∧ y < b + n
    · rw [h2 (y - b) (by omega) (by omega)]
    · rw [if_neg (fun k => c ⟨k.1, k.2.1⟩), if_neg (fun k => c ⟨k.1, k.2.1⟩)]
theorem nmP_all {f : Nat → Bool} {nm : Nat → Int64} {a b n : Nat} (h : ∀ x, x < n → f x = true) : nmP f nm a b n = nmP (fun _ => true) nm a b n := by
  funext y
  unfold nmP
  by_cases c : b ≤ y ∧ y < b + n
  · rw [h (y - b) (by omega)]
  · rw [if_neg (fun k => c ⟨k.1, k.2.1⟩), if_neg (fun k => c ⟨k.1, k.2.1⟩)]
theorem nmP_0 {f : Nat → Bool} {nm : Nat → Int64} {a b n : Nat} (h : ∀ x, x < n → f x = false) : nmP f nm a b n = nm := by
  funext y
  unfold nmP
  rw [if_neg (fun k => by rw [h (y - b) (by omega)] at k; exact Bool.false_ne_true k.2.2)]
theorem nmP_out {f : Nat → Bool} {nm : Nat → Int64} {a b n y : Nat} (h : ¬ (b ≤ y ∧ y < b + n ∧ f (y - b) = true)) : nmP f nm a b n y = nm y := if_neg h
theorem slb_pas {sz wd : Nat → Int} {nm : Nat → Int64} {j k i u n : Nat} (b : SLB sz wd nm) (hj : j < 4) (hk : k < 4) (hw : wd j = wd k) (h1 : ((i + n : Nat) : Int) ≤ sz j) (h2 : ((u + n : Nat) : Int) ≤ sz k) : SLB sz wd (nmP (fun _ => true) nm (60 * j + i) (60 * k + u) n) := fun m hm => by
  have g := b m hm
  have gk := b k hk
  have gj := b j hj
  refine ⟨g.1, g.2.1, fun x hx => ?_⟩
  by_cases c : 60 * k + u ≤ 60 * m + x ∧ 60 * m + x < 60 * k + u + n
  · have e : m = k := by omega
    subst e
    unfold nmP
    rw [if_pos ⟨c.1, c.2, rfl⟩, show 60 * j + i + (60 * m + x - (60 * m + u)) = 60 * j + (i + (x - u)) by omega, ← hw]
    exact gj.2.2 _ (by omega)
  · rw [nmP_out (fun k => c ⟨k.1, k.2.1⟩)]
    exact g.2.2 x hx
theorem slx_wr {sz wd : Nat → Int} {nm : Nat → Int64} {w : va_W} {p : Nat} {v : Int64} (h : SLX sz wd nm ws) (u : Upd1 ws w 40 p (.long v)) : SLX sz wd (updL nm p v) w := fun k hk => by
  have g0 := h k hk
  refine ⟨(upd_ne u (by omega)).trans g0.1, (upd_ne u (by omega)).trans g0.2.1, fun x hx => ?_⟩
  by_cases e : 60 * k + x = p
  · rw [e, updL_eq]
    exact upd_eq u
  · rw [updL_ne e]
    exact (upd_ne u (by omega)).trans (g0.2.2 x hx)
theorem slm_wr {sz wd : Nat → Int} {nm : Nat → Int64} {w : va_W} {p : Nat} {v : Int64} (h : SLM sz wd nm ws) (u : Upd1 ws w 109 p (.long v)) : SLM sz wd (updL nm p v) w := fun k hk => by
  have g0 := h k hk
  refine ⟨(upd_ne u (by omega)).trans g0.1, (upd_ne u (by omega)).trans g0.2.1, fun x hx => ?_⟩
  by_cases e : 60 * k + x = p
  · rw [e, updL_eq]
    exact upd_eq u
  · rw [updL_ne e]
    exact (upd_ne u (by omega)).trans (g0.2.2 x hx)
/-- those that the class has moved after m turns -/
noncomputable def mvd (b : Bool) (n m o : Nat) : Bool := if b = true then decide (n ≤ m + o) else decide (o < m)
theorem rgX_ct {j : Nat} {i n z : Int} (iI : I32 i) (nI : I32 n) (zI : I32 z) (hG : GOK ad tys GG ws) (hj : j < 4) (h : rd ws 42 j = some (.int (Int32.ofInt z))) : CT l D tys A 168 2 0 0 [.ref (ad 39), .int (Int32.ofInt ((j : Int))), .int (Int32.ofInt (i)), .int (Int32.ofInt (n))] ws (fun r w => w = ws ∧ r = some (.int (bI (decide (0 ≤ i ∧ 0 ≤ n ∧ i + n ≤ z))))) := by
  refine CT_of_V (by omega) (show (4 : Nat) ≤ mML 168 by decide +kernel) ?_
  refine V_iload (v := Int32.ofInt (i)) mi_168_0 (by simp [stL, stL2, lv_args, Value.category]) ?_
  have i1 : -2147483648 ≤ i ∧ i ≤ 2147483647 := iI
  have n1 : -2147483648 ≤ n ∧ n ≤ 2147483647 := nI
  have z1 : -2147483648 ≤ z ∧ z ≤ 2147483647 := zI
  refine V_zlt mi_168_1 iI (fun q => ?_) (fun q => ?_)
  · refine V_ipush mi_168_27 ?_
    exact V_retI mi_168_28 (fun _ => by decide) ⟨rfl, by rw [decide_eq_false (by omega)]; rfl⟩
  · refine V_iload (v := Int32.ofInt (n)) mi_168_4 (by simp [stL, stL2, lv_args, Value.category]) ?_
    refine V_zlt mi_168_5 nI (fun q2 => ?_) (fun q2 => ?_)
    · refine V_ipush mi_168_27 ?_
      exact V_retI mi_168_28 (fun _ => by decide) ⟨rfl, by rw [decide_eq_false (by omega)]; rfl⟩
    · refine V_iload (v := Int32.ofInt (i)) mi_168_8 (by simp [stL, stL2, lv_args, Value.category]) ?_
      refine V_i2l mi_168_9 ?_
      rw [i2lx ⟨by omega, by omega⟩]
      refine V_iload (v := Int32.ofInt (n)) mi_168_10 (by simp [stL, stL2, lv_args, Value.category]) ?_
      refine V_i2l mi_168_11 ?_
      rw [i2lx ⟨by omega, by omega⟩]
      refine V_lbin mi_168_12 (by omega) ?_
      rw [ladd_]
      refine V_aload (v := ad 39) mi_168_13 (by simp [stL, stL2, lv_args, Value.category]) ?_
      refine V_iload (v := Int32.ofInt ((j : Int))) mi_168_14 (by simp [stL, stL2, lv_args, Value.category]) ?_
      refine V_cO (As := [.int (Int32.ofInt ((j : Int)))]) (st := [.long (Int64.ofInt (i + n))]) mi_168_15 (by omega) (by decide +kernel) (by decide +kernel) (by omega) g39o hG (szX_ct hG hj h) (by omega) (show 1 = mN 162 by decide +kernel) (by simp [Value.category]) ?_
      rintro r w1 ⟨rfl, rfl⟩
      refine V_i2l mi_168_18 ?_
      rw [i2lx ⟨by omega, by omega⟩]
      refine V_lcmp mi_168_19 ?_
      have cl := cdL_iff (x := 4) (a := i + n) (b := z) (by omega) (by omega) (by omega) (by omega)
      refine V_if mi_168_20 (fun q3 => ?_) (fun q3 => ?_)
      · have q4 : 0 < i + n - z := cl.mp q3
        refine V_ipush mi_168_27 ?_
        exact V_retI mi_168_28 (fun _ => by decide) ⟨rfl, by rw [decide_eq_false (by omega)]; rfl⟩
      · have q4 : ¬ 0 < i + n - z := fun k => q3 (cl.mpr k)
        refine V_ipush mi_168_23 ?_
        refine V_goto mi_168_24 ?_
        exact V_retI mi_168_28 (fun _ => by decide) ⟨rfl, by rw [decide_eq_true (by omega)]; rfl⟩
theorem shX_3 {w0 : va_W} {sz wds : Nat → Int} {nm : Nat → Int64} {j k i u n : Nat} (hB : SLB sz wds nm) (hj : j < 4) (hk : k < 4) (hw : wds j = wds k) (h1 : ((i + n : Nat) : Int) ≤ sz j) (h2 : ((u + n : Nat) : Int) ≤ sz k) {post : Option Value → va_W → Prop} : ∀ (d m : Nat) (ws : va_W), m + d = n → GOK ad tys GG ws → SLX sz wds (nmP (mvd (decide (i < u)) n (m)) nm (60 * j + i) (60 * k + u) n) ws → (∀ c p, ¬ (40 ≤ c ∧ c ≤ 42) → rd ws c p = rd w0 c p) → (∀ w : va_W, GOK ad tys GG w → SLX sz wds (nmP (fun _ => true) nm (60 * j + i) (60 * k + u) n) w → (∀ c p, ¬ (40 ≤ c ∧ c ≤ 42) → rd w c p = rd w0 c p) → post none w) → V l D tys A 169 4 0 0 post 0 0 3 [(0, .ref (ad 39)), (1, .int (Int32.ofInt ((j : Int)))), (2, .int (Int32.ofInt ((i : Int)))), (3, .int (Int32.ofInt ((k : Int)))), (4, .int (Int32.ofInt ((u : Int)))), (5, .int (Int32.ofInt ((n : Int)))), (6, .int (Int32.ofInt ((m : Int))))] [] ws
  | 0, m, ws, hm, hG, hS, ho', kk => by
    have bj := hB j hj
    have bk := hB k hk
    refine V_iload (v := Int32.ofInt ((m : Int))) mi_169_3 (by simp [stL, stL2, lv_args, Value.category]) ?_
    refine V_iload (v := Int32.ofInt ((n : Int))) mi_169_5 (by simp [stL, stL2, lv_args, Value.category]) ?_
    refine V_cge mi_169_7 ⟨by omega, by omega⟩ ⟨by omega, by omega⟩ (fun q => ?_) (fun q => ?_)
    · exact V_retV mi_169_55 (kk ws hG (by rw [nmP_all (f := mvd (decide (i < u)) n m) (n := n) (fun x hx => by unfold mvd; split <;> exact decide_eq_true (by omega))] at hS; exact hS) ho')
    · exact absurd q (by omega)
  | d + 1, m, ws, hm, hG, hS, ho', kk => by
    have bj := hB j hj
    have bk := hB k hk
    refine V_iload (v := Int32.ofInt ((m : Int))) mi_169_3 (by simp [stL, stL2, lv_args, Value.category]) ?_
    refine V_iload (v := Int32.ofInt ((n : Int))) mi_169_5 (by simp [stL, stL2, lv_args, Value.category]) ?_
    refine V_cge mi_169_7 ⟨by omega, by omega⟩ ⟨by omega, by omega⟩ (fun q => ?_) (fun q => ?_)
    · exact absurd q (by omega)
    · refine V_iload (v := Int32.ofInt ((i : Int))) mi_169_10 (by simp [stL, stL2, lv_args, Value.category]) ?_
      refine V_iload (v := Int32.ofInt ((u : Int))) mi_169_11 (by simp [stL, stL2, lv_args, Value.category]) ?_
      refine V_cge mi_169_13 ⟨by omega, by omega⟩ ⟨by omega, by omega⟩ (fun q4 => ?_) (fun q4 => ?_)
      · refine V_iload (v := Int32.ofInt ((m : Int))) mi_169_26 (by simp [stL, stL2, lv_args, Value.category]) ?_
        refine V_istore mi_169_28 ?_
        have ho : (m : Nat) < n := by omega
        refine V_aload (v := ad 39) mi_169_30 (by simp [stL, stL2, lv_args, Value.category]) ?_
        refine V_iload (v := Int32.ofInt ((k : Int))) mi_169_31 (by simp [stL, stL2, lv_args, Value.category]) ?_
        refine V_iload (v := Int32.ofInt ((u : Int))) mi_169_32 (by simp [stL, stL2, lv_args, Value.category]) ?_
        refine V_iload (v := Int32.ofInt (((m : Nat) : Int))) mi_169_34 (by simp [stL, stL2, lv_args, Value.category]) ?_
        refine V_ibin mi_169_36 (by omega) ?_
        rw [ib0]
        refine V_aload (v := ad 39) mi_169_37 (by simp [stL, stL2, lv_args, Value.category]) ?_
        refine V_iload (v := Int32.ofInt ((j : Int))) mi_169_38 (by simp [stL, stL2, lv_args, Value.category]) ?_
        refine V_iload (v := Int32.ofInt ((i : Int))) mi_169_39 (by simp [stL, stL2, lv_args, Value.category]) ?_
        refine V_iload (v := Int32.ofInt (((m : Nat) : Int))) mi_169_40 (by simp [stL, stL2, lv_args, Value.category]) ?_
        refine V_ibin mi_169_42 (by omega) ?_
        rw [ib0]
        rw [show (i : Int) + ((m : Nat) : Int) = ((i + (m) : Nat) : Int) by omega]
        have gj := hS j hj
        have gk := hS k hk
        have rv : nmP (mvd (decide (i < u)) n (m)) nm (60 * j + i) (60 * k + u) n (60 * j + (i + (m))) = nm (60 * j + (i + (m))) := nmP_out (fun c => by
          have c3 := c.2.2
          unfold mvd at c3
          rw [if_neg (by rw [decide_eq_false (show ¬ i < u by omega)]; exact Bool.false_ne_true)] at c3
          have c4 := of_decide_eq_true c3
          omega)
        have rq : rd ws 40 (60 * j + (i + (m))) = some (.long (nm (60 * j + (i + (m))))) := by rw [← rv]; exact gj.2.2 (i + (m)) (by omega)
        refine V_cO (As := [.int (Int32.ofInt ((j : Int))), .int (Int32.ofInt (((i + (m) : Nat) : Int)))]) (st := [.int (Int32.ofInt (((u : Int)) + (((m : Nat) : Int)))), .int (Int32.ofInt ((k : Int))), .ref (ad 39)]) mi_169_43 (by omega) (by decide +kernel) (by decide +kernel) (by omega) g39o hG (nmX_ct2 (i := i + (m)) hG hj gj.1 bj.1.2 (by omega) rq) (by omega) (show 2 = mN 164 by decide +kernel) (by simp [Value.category]) ?_
        rintro r w1 ⟨e1, rfl⟩
        rw [e1]
        rw [show (u : Int) + ((m : Nat) : Int) = ((u + (m) : Nat) : Int) by omega]
        refine V_cO (As := [.int (Int32.ofInt ((k : Int))), .int (Int32.ofInt (((u + (m) : Nat) : Int))), .long (nm (60 * j + (i + (m))))]) (st := []) mi_169_46 (by omega) (by decide +kernel) (by decide +kernel) (by omega) g39o hG (setX_ct (i := u + (m)) (z := sz k) (wd := wds k) hG hk gk.1 bk.1.2 (by omega) gk.2.1 bk.2.1) (by omega) (show 3 = mN 166 by decide +kernel) (by simp [Value.category]) ?_
        rintro r w2 ⟨rfl, G2, U2⟩
        rw [← hw, bj.2.2 (i + (m)) (by omega)] at U2
        refine V_iinc (v := Int32.ofInt ((m : Int))) mi_169_49 (by simp [stL, stL2, lv_args, Value.category]) ?_
        rw [ia2]
        refine V_goto mi_169_52 ?_
        refine V_sub (lv' := [(0, .ref (ad 39)), (1, .int (Int32.ofInt ((j : Int)))), (2, .int (Int32.ofInt ((i : Int)))), (3, .int (Int32.ofInt ((k : Int)))), (4, .int (Int32.ofInt ((u : Int)))), (5, .int (Int32.ofInt ((n : Int)))), (6, .int (Int32.ofInt (((m + 1 : Nat) : Int))))]) (fun q hq => ?_) ?_
        · simp only [List.mem_cons, List.not_mem_nil, or_false] at hq
          rcases hq with rfl | rfl | rfl | rfl | rfl | rfl | rfl <;> simp [stL, stL2, lv_args, Value.category]
        refine shX_3 hB hj hk hw h1 h2 d (m + 1) w2 (by omega) G2 ?_ (fun c p h => (upd_ne U2 (by omega)).trans (ho' c p h)) kk
        rw [nmP_step (f := mvd (decide (i < u)) n m) (g := mvd (decide (i < u)) n (m + 1)) (n := n) (o := m) ho (by unfold mvd; rw [if_neg (by rw [decide_eq_false (show ¬ i < u by omega)]; exact Bool.false_ne_true)]; exact decide_eq_true (by omega)) (fun x hx hn => by unfold mvd; rw [if_neg (by rw [decide_eq_false (show ¬ i < u by omega)]; exact Bool.false_ne_true)]; rw [if_neg (by rw [decide_eq_false (show ¬ i < u by omega)]; exact Bool.false_ne_true)]; exact decide_eq_decide.mpr (by omega)), show 60 * k + u + (m) = 60 * k + (u + (m)) by omega, show 60 * j + i + (m) = 60 * j + (i + (m)) by omega]
        exact slx_wr hS U2
      · refine V_iload (v := Int32.ofInt ((n : Int))) mi_169_16 (by simp [stL, stL2, lv_args, Value.category]) ?_
        refine V_ipush mi_169_18 ?_
        refine V_ibin mi_169_19 (by omega) ?_
        rw [ib1]
        refine V_iload (v := Int32.ofInt ((m : Int))) mi_169_20 (by simp [stL, stL2, lv_args, Value.category]) ?_
        refine V_ibin mi_169_22 (by omega) ?_
        rw [ib1]
        rw [show (n : Int) - 1 - (m : Int) = ((n - 1 - m : Nat) : Int) by omega]
        refine V_goto mi_169_23 ?_
        refine V_istore mi_169_28 ?_
        have ho : (n - 1 - m : Nat) < n := by omega
        refine V_aload (v := ad 39) mi_169_30 (by simp [stL, stL2, lv_args, Value.category]) ?_
        refine V_iload (v := Int32.ofInt ((k : Int))) mi_169_31 (by simp [stL, stL2, lv_args, Value.category]) ?_
        refine V_iload (v := Int32.ofInt ((u : Int))) mi_169_32 (by simp [stL, stL2, lv_args, Value.category]) ?_
        refine V_iload (v := Int32.ofInt (((n - 1 - m : Nat) : Int))) mi_169_34 (by simp [stL, stL2, lv_args, Value.category]) ?_
        refine V_ibin mi_169_36 (by omega) ?_
        rw [ib0]
        refine V_aload (v := ad 39) mi_169_37 (by simp [stL, stL2, lv_args, Value.category]) ?_
        refine V_iload (v := Int32.ofInt ((j : Int))) mi_169_38 (by simp [stL, stL2, lv_args, Value.category]) ?_
        refine V_iload (v := Int32.ofInt ((i : Int))) mi_169_39 (by simp [stL, stL2, lv_args, Value.category]) ?_
        refine V_iload (v := Int32.ofInt (((n - 1 - m : Nat) : Int))) mi_169_40 (by simp [stL, stL2, lv_args, Value.category]) ?_
        refine V_ibin mi_169_42 (by omega) ?_
        rw [ib0]
        rw [show (i : Int) + ((n - 1 - m : Nat) : Int) = ((i + (n - 1 - m) : Nat) : Int) by omega]
        have gj := hS j hj
        have gk := hS k hk
        have rv : nmP (mvd (decide (i < u)) n (m)) nm (60 * j + i) (60 * k + u) n (60 * j + (i + (n - 1 - m))) = nm (60 * j + (i + (n - 1 - m))) := nmP_out (fun c => by
          have c3 := c.2.2
          unfold mvd at c3
          rw [if_pos (decide_eq_true (show i < u by omega))] at c3
          have c4 := of_decide_eq_true c3
          omega)
        have rq : rd ws 40 (60 * j + (i + (n - 1 - m))) = some (.long (nm (60 * j + (i + (n - 1 - m))))) := by rw [← rv]; exact gj.2.2 (i + (n - 1 - m)) (by omega)
        refine V_cO (As := [.int (Int32.ofInt ((j : Int))), .int (Int32.ofInt (((i + (n - 1 - m) : Nat) : Int)))]) (st := [.int (Int32.ofInt (((u : Int)) + (((n - 1 - m : Nat) : Int)))), .int (Int32.ofInt ((k : Int))), .ref (ad 39)]) mi_169_43 (by omega) (by decide +kernel) (by decide +kernel) (by omega) g39o hG (nmX_ct2 (i := i + (n - 1 - m)) hG hj gj.1 bj.1.2 (by omega) rq) (by omega) (show 2 = mN 164 by decide +kernel) (by simp [Value.category]) ?_
        rintro r w1 ⟨e1, rfl⟩
        rw [e1]
        rw [show (u : Int) + ((n - 1 - m : Nat) : Int) = ((u + (n - 1 - m) : Nat) : Int) by omega]
        refine V_cO (As := [.int (Int32.ofInt ((k : Int))), .int (Int32.ofInt (((u + (n - 1 - m) : Nat) : Int))), .long (nm (60 * j + (i + (n - 1 - m))))]) (st := []) mi_169_46 (by omega) (by decide +kernel) (by decide +kernel) (by omega) g39o hG (setX_ct (i := u + (n - 1 - m)) (z := sz k) (wd := wds k) hG hk gk.1 bk.1.2 (by omega) gk.2.1 bk.2.1) (by omega) (show 3 = mN 166 by decide +kernel) (by simp [Value.category]) ?_
        rintro r w2 ⟨rfl, G2, U2⟩
        rw [← hw, bj.2.2 (i + (n - 1 - m)) (by omega)] at U2
        refine V_iinc (v := Int32.ofInt ((m : Int))) mi_169_49 (by simp [stL, stL2, lv_args, Value.category]) ?_
        rw [ia2]
        refine V_goto mi_169_52 ?_
        refine V_sub (lv' := [(0, .ref (ad 39)), (1, .int (Int32.ofInt ((j : Int)))), (2, .int (Int32.ofInt ((i : Int)))), (3, .int (Int32.ofInt ((k : Int)))), (4, .int (Int32.ofInt ((u : Int)))), (5, .int (Int32.ofInt ((n : Int)))), (6, .int (Int32.ofInt (((m + 1 : Nat) : Int))))]) (fun q hq => ?_) ?_
        · simp only [List.mem_cons, List.not_mem_nil, or_false] at hq
          rcases hq with rfl | rfl | rfl | rfl | rfl | rfl | rfl <;> simp [stL, stL2, lv_args, Value.category]
        refine shX_3 hB hj hk hw h1 h2 d (m + 1) w2 (by omega) G2 ?_ (fun c p h => (upd_ne U2 (by omega)).trans (ho' c p h)) kk
        rw [nmP_step (f := mvd (decide (i < u)) n m) (g := mvd (decide (i < u)) n (m + 1)) (n := n) (o := n - 1 - m) ho (by unfold mvd; rw [if_pos (decide_eq_true (show i < u by omega))]; exact decide_eq_true (by omega)) (fun x hx hn => by unfold mvd; rw [if_pos (decide_eq_true (show i < u by omega))]; rw [if_pos (decide_eq_true (show i < u by omega))]; exact decide_eq_decide.mpr (by omega)), show 60 * k + u + (n - 1 - m) = 60 * k + (u + (n - 1 - m)) by omega, show 60 * j + i + (n - 1 - m) = 60 * j + (i + (n - 1 - m)) by omega]
        exact slx_wr hS U2
theorem shX_ct {sz wds : Nat → Int} {nm : Nat → Int64} {j k i u n : Nat} (hB : SLB sz wds nm) (hj : j < 4) (hk : k < 4) (hw : wds j = wds k) (h1 : ((i + n : Nat) : Int) ≤ sz j) (h2 : ((u + n : Nat) : Int) ≤ sz k) (hG : GOK ad tys GG ws) (hS : SLX sz wds nm ws) : CT l D tys A 169 4 0 0 [.ref (ad 39), .int (Int32.ofInt ((j : Int))), .int (Int32.ofInt ((i : Int))), .int (Int32.ofInt ((k : Int))), .int (Int32.ofInt ((u : Int))), .int (Int32.ofInt ((n : Int)))] ws (fun r w => r = none ∧ GOK ad tys GG w ∧ SLX sz wds (nmP (fun _ => true) nm (60 * j + i) (60 * k + u) n) w ∧ (∀ c p, ¬ (40 ≤ c ∧ c ≤ 42) → rd w c p = rd ws c p)) := by
  refine CT_of_V (by omega) (show (6 : Nat) ≤ mML 169 by decide +kernel) ?_
  refine V_ipush mi_169_0 ?_
  refine V_istore mi_169_1 ?_
  refine V_sub (lv' := [(0, .ref (ad 39)), (1, .int (Int32.ofInt ((j : Int)))), (2, .int (Int32.ofInt ((i : Int)))), (3, .int (Int32.ofInt ((k : Int)))), (4, .int (Int32.ofInt ((u : Int)))), (5, .int (Int32.ofInt ((n : Int)))), (6, .int (Int32.ofInt (((0 : Nat) : Int))))]) (fun q hq => ?_) ?_
  · simp only [List.mem_cons, List.not_mem_nil, or_false] at hq
    rcases hq with rfl | rfl | rfl | rfl | rfl | rfl | rfl <;> simp [stL, stL2, lv_args, Value.category]
  exact shX_3 (w0 := ws) hB hj hk hw h1 h2 n 0 ws (by omega) hG (by rw [nmP_0 (f := mvd (decide (i < u)) n 0) (n := n) (fun x hx => by unfold mvd; split <;> exact decide_eq_false (by omega))]; exact hS) (fun _ _ _ => rfl) (fun w g h o => ⟨rfl, g, h, o⟩)
theorem paX_ct {sz wds : Nat → Int} {nm : Nat → Int64} {s i t u n : Int} (sI : I32 s) (iI : I32 i) (tI : I32 t) (uI : I32 u) (nI : I32 n) (hG : GOK ad tys GG ws) (hS : SLX sz wds nm ws) (hB : SLB sz wds nm) : CT l D tys A 72 5 0 0 [.ref (ad 0), .int (Int32.ofInt (s)), .int (Int32.ofInt (i)), .int (Int32.ofInt (t)), .int (Int32.ofInt (u)), .int (Int32.ofInt (n))] ws (fun r w => r = some (.int (Int32.ofInt (if (0 ≤ s ∧ s < 4) ∧ (0 ≤ t ∧ t < 4) then (if sz s.toNat < 0 ∨ sz t.toNat < 0 then -6 else if wds s.toNat = wds t.toNat then (if (0 ≤ i ∧ 0 ≤ n ∧ i + n ≤ sz s.toNat) ∧ (0 ≤ u ∧ 0 ≤ n ∧ u + n ≤ sz t.toNat) then 0 else -7) else -8) else -2))) ∧ GOK ad tys GG w ∧ ((((0 ≤ s ∧ s < 4) ∧ (0 ≤ t ∧ t < 4)) ∧ ¬ (sz s.toNat < 0 ∨ sz t.toNat < 0) ∧ wds s.toNat = wds t.toNat ∧ ((0 ≤ i ∧ 0 ≤ n ∧ i + n ≤ sz s.toNat) ∧ (0 ≤ u ∧ 0 ≤ n ∧ u + n ≤ sz t.toNat)) → SLX sz wds (nmP (fun _ => true) nm (60 * s.toNat + i.toNat) (60 * t.toNat + u.toNat) n.toNat) w) ∧ (¬ (((0 ≤ s ∧ s < 4) ∧ (0 ≤ t ∧ t < 4)) ∧ ¬ (sz s.toNat < 0 ∨ sz t.toNat < 0) ∧ wds s.toNat = wds t.toNat ∧ ((0 ≤ i ∧ 0 ≤ n ∧ i + n ≤ sz s.toNat) ∧ (0 ≤ u ∧ 0 ≤ n ∧ u + n ≤ sz t.toNat))) → w = ws)) ∧ (∀ c p, ¬ (40 ≤ c ∧ c ≤ 42) → rd w c p = rd ws c p)) := by
  refine CT_of_V (by omega) (show (6 : Nat) ≤ mML 72 by decide +kernel) ?_
  refine V_aload (v := ad 0) mi_72_0 (by simp [stL, stL2, lv_args, Value.category]) ?_
  refine V_gR mi_72_1 g0r7 (by omega) hG ?_
  refine V_iload (v := Int32.ofInt (s)) mi_72_4 (by simp [stL, stL2, lv_args, Value.category]) ?_
  refine V_cO (As := [.int (Int32.ofInt (s))]) (st := []) mi_72_5 (by omega) (by decide +kernel) (by decide +kernel) (by omega) g39o hG (hsX_ct sI) (by omega) (show 1 = mN 160 by decide +kernel) (by simp [Value.category]) ?_
  rintro r wc1 ⟨rfl, rfl⟩
  refine V_beq mi_72_8  (fun c1 => ?_) (fun c1 => ?_)
  · refine V_ipush mi_72_22 ?_
    exact V_retI mi_72_24 (fun h => absurd h (by decide +kernel)) ⟨by rw [if_neg (fun k => of_decide_eq_false c1 k.1)], hG, ⟨fun k => absurd k (fun k => of_decide_eq_false c1 k.1.1), fun _ => rfl⟩, fun _ _ _ => rfl⟩
  · have k1 := of_decide_eq_true c1
    refine V_aload (v := ad 0) mi_72_11 (by simp [stL, stL2, lv_args, Value.category]) ?_
    refine V_gR mi_72_12 g0r7 (by omega) hG ?_
    refine V_iload (v := Int32.ofInt (t)) mi_72_15 (by simp [stL, stL2, lv_args, Value.category]) ?_
    refine V_cO (As := [.int (Int32.ofInt (t))]) (st := []) mi_72_16 (by omega) (by decide +kernel) (by decide +kernel) (by omega) g39o hG (hsX_ct tI) (by omega) (show 1 = mN 160 by decide +kernel) (by simp [Value.category]) ?_
    rintro r wc2 ⟨rfl, rfl⟩
    refine V_bne mi_72_19  (fun c2 => ?_) (fun c2 => ?_)
    · have k2 := of_decide_eq_true c2
      obtain ⟨j, rfl⟩ := Int.eq_ofNat_of_zero_le k1.1
      obtain ⟨k, rfl⟩ := Int.eq_ofNat_of_zero_le k2.1
      have kj : j < 4 := by omega
      have kk : k < 4 := by omega
      have gj := hS j kj
      have gk := hS k kk
      have bj := hB j kj
      have bk := hB k kk
      have k12 : (0 ≤ (j : Int) ∧ (j : Int) < 4) ∧ (0 ≤ (k : Int) ∧ (k : Int) < 4) := ⟨k1, k2⟩
      have i1 : -2147483648 ≤ i ∧ i ≤ 2147483647 := iI
      have n1 : -2147483648 ≤ n ∧ n ≤ 2147483647 := nI
      have u1 : -2147483648 ≤ u ∧ u ≤ 2147483647 := uI
      rw [Int.toNat_natCast, Int.toNat_natCast]
      refine V_aload (v := ad 0) mi_72_25 (by simp [stL, stL2, lv_args, Value.category]) ?_
      refine V_gR mi_72_26 g0r7 (by omega) hG ?_
      refine V_iload (v := Int32.ofInt ((j : Int))) mi_72_29 (by simp [stL, stL2, lv_args, Value.category]) ?_
      refine V_cO (As := [.int (Int32.ofInt ((j : Int)))]) (st := []) mi_72_30 (by omega) (by decide +kernel) (by decide +kernel) (by omega) g39o hG (baX_ct hG kj ⟨by omega, by omega⟩ gj.1) (by omega) (show 1 = mN 161 by decide +kernel) (by simp [Value.category]) ?_
      rintro r w3 ⟨rfl, rfl⟩
      refine V_bne mi_72_33  (fun c3 => ?_) (fun c3 => ?_)
      · refine V_ipush mi_72_47 ?_
        exact V_retI mi_72_49 (fun h => absurd h (by decide +kernel)) ⟨by rw [if_pos k12, if_pos (Or.inl (of_decide_eq_true c3))], hG, ⟨fun k => absurd k (fun k => k.2.1 (Or.inl (of_decide_eq_true c3))), fun _ => rfl⟩, fun _ _ _ => rfl⟩
      · refine V_aload (v := ad 0) mi_72_36 (by simp [stL, stL2, lv_args, Value.category]) ?_
        refine V_gR mi_72_37 g0r7 (by omega) hG ?_
        refine V_iload (v := Int32.ofInt ((k : Int))) mi_72_40 (by simp [stL, stL2, lv_args, Value.category]) ?_
        refine V_cO (As := [.int (Int32.ofInt ((k : Int)))]) (st := []) mi_72_41 (by omega) (by decide +kernel) (by decide +kernel) (by omega) g39o hG (baX_ct hG kk ⟨by omega, by omega⟩ gk.1) (by omega) (show 1 = mN 161 by decide +kernel) (by simp [Value.category]) ?_
        rintro r w4 ⟨rfl, rfl⟩
        refine V_beq mi_72_44  (fun c4 => ?_) (fun c4 => ?_)
        · have kb : ¬ (sz j < 0 ∨ sz k < 0) := by have := of_decide_eq_false c3; have := of_decide_eq_false c4; omega
          refine V_aload (v := ad 0) mi_72_50 (by simp [stL, stL2, lv_args, Value.category]) ?_
          refine V_gR mi_72_51 g0r7 (by omega) hG ?_
          refine V_iload (v := Int32.ofInt ((j : Int))) mi_72_54 (by simp [stL, stL2, lv_args, Value.category]) ?_
          refine V_cO (As := [.int (Int32.ofInt ((j : Int)))]) (st := []) mi_72_55 (by omega) (by decide +kernel) (by decide +kernel) (by omega) g39o hG (wdX_ct hG kj gj.2.1) (by omega) (show 1 = mN 163 by decide +kernel) (by simp [Value.category]) ?_
          rintro r w5 ⟨rfl, rfl⟩
          refine V_aload (v := ad 0) mi_72_58 (by simp [stL, stL2, lv_args, Value.category]) ?_
          refine V_gR mi_72_59 g0r7 (by omega) hG ?_
          refine V_iload (v := Int32.ofInt ((k : Int))) mi_72_62 (by simp [stL, stL2, lv_args, Value.category]) ?_
          refine V_cO (As := [.int (Int32.ofInt ((k : Int)))]) (st := [.int (Int32.ofInt (wds j))]) mi_72_63 (by omega) (by decide +kernel) (by decide +kernel) (by omega) g39o hG (wdX_ct hG kk gk.2.1) (by omega) (show 1 = mN 163 by decide +kernel) (by simp [Value.category]) ?_
          rintro r w6 ⟨rfl, rfl⟩
          refine V_ceq mi_72_66 ⟨by omega, by omega⟩ ⟨by omega, by omega⟩ (fun q6 => ?_) (fun q6 => ?_)
          · have kw : wds j = wds k := by omega
            refine V_aload (v := ad 0) mi_72_72 (by simp [stL, stL2, lv_args, Value.category]) ?_
            refine V_gR mi_72_73 g0r7 (by omega) hG ?_
            refine V_iload (v := Int32.ofInt ((j : Int))) mi_72_76 (by simp [stL, stL2, lv_args, Value.category]) ?_
            refine V_iload (v := Int32.ofInt (i)) mi_72_77 (by simp [stL, stL2, lv_args, Value.category]) ?_
            refine V_iload (v := Int32.ofInt (n)) mi_72_78 (by simp [stL, stL2, lv_args, Value.category]) ?_
            refine V_cO (As := [.int (Int32.ofInt ((j : Int))), .int (Int32.ofInt (i)), .int (Int32.ofInt (n))]) (st := []) mi_72_80 (by omega) (by decide +kernel) (by decide +kernel) (by omega) g39o hG (rgX_ct iI nI ⟨by omega, by omega⟩ hG kj gj.1) (by omega) (show 3 = mN 168 by decide +kernel) (by simp [Value.category]) ?_
            rintro r w7 ⟨rfl, rfl⟩
            refine V_beq mi_72_83  (fun c7 => ?_) (fun c7 => ?_)
            · refine V_ipush mi_72_101 ?_
              exact V_retI mi_72_103 (fun h => absurd h (by decide +kernel)) ⟨by rw [if_pos k12, if_neg kb, if_pos kw, if_neg (fun z => of_decide_eq_false c7 z.1)], hG, ⟨fun k => absurd k (fun k => absurd k.2.2.2 (fun z => of_decide_eq_false c7 z.1)), fun _ => rfl⟩, fun _ _ _ => rfl⟩
            · refine V_aload (v := ad 0) mi_72_86 (by simp [stL, stL2, lv_args, Value.category]) ?_
              refine V_gR mi_72_87 g0r7 (by omega) hG ?_
              refine V_iload (v := Int32.ofInt ((k : Int))) mi_72_90 (by simp [stL, stL2, lv_args, Value.category]) ?_
              refine V_iload (v := Int32.ofInt (u)) mi_72_91 (by simp [stL, stL2, lv_args, Value.category]) ?_
              refine V_iload (v := Int32.ofInt (n)) mi_72_93 (by simp [stL, stL2, lv_args, Value.category]) ?_
              refine V_cO (As := [.int (Int32.ofInt ((k : Int))), .int (Int32.ofInt (u)), .int (Int32.ofInt (n))]) (st := []) mi_72_95 (by omega) (by decide +kernel) (by decide +kernel) (by omega) g39o hG (rgX_ct uI nI ⟨by omega, by omega⟩ hG kk gk.1) (by omega) (show 3 = mN 168 by decide +kernel) (by simp [Value.category]) ?_
              rintro r w8 ⟨rfl, rfl⟩
              refine V_bne mi_72_98  (fun c8 => ?_) (fun c8 => ?_)
              · have h7 := of_decide_eq_true c7
                have h8 := of_decide_eq_true c8
                obtain ⟨ii, rfl⟩ := Int.eq_ofNat_of_zero_le h7.1
                obtain ⟨nn, rfl⟩ := Int.eq_ofNat_of_zero_le h7.2.1
                obtain ⟨uu, rfl⟩ := Int.eq_ofNat_of_zero_le h8.1
                rw [Int.toNat_natCast, Int.toNat_natCast, Int.toNat_natCast]
                refine V_aload (v := ad 0) mi_72_104 (by simp [stL, stL2, lv_args, Value.category]) ?_
                refine V_gR mi_72_105 g0r7 (by omega) hG ?_
                refine V_iload (v := Int32.ofInt ((j : Int))) mi_72_108 (by simp [stL, stL2, lv_args, Value.category]) ?_
                refine V_iload (v := Int32.ofInt ((ii : Int))) mi_72_109 (by simp [stL, stL2, lv_args, Value.category]) ?_
                refine V_iload (v := Int32.ofInt ((k : Int))) mi_72_110 (by simp [stL, stL2, lv_args, Value.category]) ?_
                refine V_iload (v := Int32.ofInt ((uu : Int))) mi_72_111 (by simp [stL, stL2, lv_args, Value.category]) ?_
                refine V_iload (v := Int32.ofInt ((nn : Int))) mi_72_113 (by simp [stL, stL2, lv_args, Value.category]) ?_
                refine V_cO (As := [.int (Int32.ofInt ((j : Int))), .int (Int32.ofInt ((ii : Int))), .int (Int32.ofInt ((k : Int))), .int (Int32.ofInt ((uu : Int))), .int (Int32.ofInt ((nn : Int)))]) (st := []) mi_72_115 (by omega) (by decide +kernel) (by decide +kernel) (by omega) g39o hG (shX_ct (i := ii) (u := uu) (n := nn) hB kj kk kw (by omega) (by omega) hG hS) (by omega) (show 5 = mN 169 by decide +kernel) (by simp [Value.category]) ?_
                rintro r w9 ⟨rfl, G9, S9, O9⟩
                refine V_ipush mi_72_118 ?_
                exact V_retI mi_72_119 (fun h => absurd h (by decide +kernel)) ⟨by rw [if_pos k12, if_neg kb, if_pos kw, if_pos ⟨h7, h8⟩], G9, ⟨fun _ => S9, fun k => absurd ⟨k12, kb, kw, h7, h8⟩ k⟩, O9⟩
              · refine V_ipush mi_72_101 ?_
                exact V_retI mi_72_103 (fun h => absurd h (by decide +kernel)) ⟨by rw [if_pos k12, if_neg kb, if_pos kw, if_neg (fun z => of_decide_eq_false c8 z.2)], hG, ⟨fun k => absurd k (fun k => absurd k.2.2.2 (fun z => of_decide_eq_false c8 z.2)), fun _ => rfl⟩, fun _ _ _ => rfl⟩
          · refine V_ipush mi_72_69 ?_
            exact V_retI mi_72_71 (fun h => absurd h (by decide +kernel)) ⟨by rw [if_pos k12, if_neg kb, if_neg (by omega)], hG, ⟨fun k => absurd k (fun k => absurd k.2.2.1 (by omega)), fun _ => rfl⟩, fun _ _ _ => rfl⟩
        · refine V_ipush mi_72_47 ?_
          exact V_retI mi_72_49 (fun h => absurd h (by decide +kernel)) ⟨by rw [if_pos k12, if_pos (Or.inr (of_decide_eq_true c4))], hG, ⟨fun k => absurd k (fun k => k.2.1 (Or.inr (of_decide_eq_true c4))), fun _ => rfl⟩, fun _ _ _ => rfl⟩
    · refine V_ipush mi_72_22 ?_
      exact V_retI mi_72_24 (fun h => absurd h (by decide +kernel)) ⟨by rw [if_neg (fun k => of_decide_eq_false c2 k.2)], hG, ⟨fun k => absurd k (fun k => of_decide_eq_false c2 k.1.2), fun _ => rfl⟩, fun _ _ _ => rfl⟩
theorem paM_150 {w0 : va_W} {sz wds : Nat → Int} {nm : Nat → Int64} {j k i u n : Nat} (hB : SLB sz wds nm) (hj : j < 4) (hk : k < 4) (h1 : ((i + n : Nat) : Int) ≤ sz j) (h2 : ((u + n : Nat) : Int) ≤ sz k) {post : Option Value → va_W → Prop} : ∀ (d m : Nat) (ws : va_W), m + d = n → GOK ad tys GG ws → SLM sz wds (nmP (fun o => decide (o < m)) nm (60 * j + i) (60 * k + u) n) ws → (∀ x : Nat, x < n → rd ws 110 x = some (.long (nm (60 * j + i + x)))) → (∀ c p, ¬ (109 ≤ c ∧ c ≤ 110) → rd ws c p = rd w0 c p) → (∀ w : va_W, GOK ad tys GG w → SLM sz wds (nmP (fun _ => true) nm (60 * j + i) (60 * k + u) n) w → (∀ c p, ¬ (109 ≤ c ∧ c ≤ 110) → rd w c p = rd w0 c p) → post (some (.int (Int32.ofInt 0))) w) → V l D tys A 340 2 0 0 post 0 0 150 [(0, .ref (ad 90)), (1, .int (Int32.ofInt ((j : Int)))), (2, .int (Int32.ofInt ((i : Int)))), (3, .int (Int32.ofInt ((k : Int)))), (4, .int (Int32.ofInt ((u : Int)))), (5, .int (Int32.ofInt ((n : Int)))), (6, .int (Int32.ofInt ((m : Int))))] [] ws
  | 0, m, ws, hm, hG, hS, hM, ho', kk => by
    have bj := hB j hj
    have bk := hB k hk
    refine V_iload (v := Int32.ofInt ((m : Int))) mi_340_150 (by simp [stL, stL2, lv_args, Value.category]) ?_
    refine V_iload (v := Int32.ofInt ((n : Int))) mi_340_152 (by simp [stL, stL2, lv_args, Value.category]) ?_
    refine V_cge mi_340_154 ⟨by omega, by omega⟩ ⟨by omega, by omega⟩ (fun q => ?_) (fun q => ?_)
    · refine V_ipush mi_340_185 ?_
      exact V_retI mi_340_186 (fun h => absurd h (by decide +kernel)) (kk ws hG (by rw [nmP_all (f := fun o => decide (o < m)) (n := n) (fun x hx => show decide (x < m) = true from decide_eq_true (by omega))] at hS; exact hS) ho')
    · exact absurd q (by omega)
  | d + 1, m, ws, hm, hG, hS, hM, ho', kk => by
    obtain ⟨s109, e109, f109⟩ := gl109
    obtain ⟨s110, e110, f110⟩ := gl110
    have bj := hB j hj
    have bk := hB k hk
    refine V_iload (v := Int32.ofInt ((m : Int))) mi_340_150 (by simp [stL, stL2, lv_args, Value.category]) ?_
    refine V_iload (v := Int32.ofInt ((n : Int))) mi_340_152 (by simp [stL, stL2, lv_args, Value.category]) ?_
    refine V_cge mi_340_154 ⟨by omega, by omega⟩ ⟨by omega, by omega⟩ (fun q => ?_) (fun q => ?_)
    · exact absurd q (by omega)
    · have ho : m < n := by omega
      refine V_aload (v := ad 90) mi_340_157 (by simp [stL, stL2, lv_args, Value.category]) ?_
      refine V_getI mi_340_158 hG (rref gr34 (by omega) hG) ?_
      refine V_ipush mi_340_161 ?_
      refine V_iload (v := Int32.ofInt ((k : Int))) mi_340_163 (by simp [stL, stL2, lv_args, Value.category]) ?_
      refine V_ibin mi_340_164 (by omega) ?_
      rw [ib2]
      refine V_iload (v := Int32.ofInt ((u : Int))) mi_340_165 (by simp [stL, stL2, lv_args, Value.category]) ?_
      refine V_ibin mi_340_167 (by omega) ?_
      rw [ib0]
      refine V_iload (v := Int32.ofInt ((m : Int))) mi_340_168 (by simp [stL, stL2, lv_args, Value.category]) ?_
      refine V_ibin mi_340_170 (by omega) ?_
      rw [ib0]
      refine V_aload (v := ad 90) mi_340_171 (by simp [stL, stL2, lv_args, Value.category]) ?_
      refine V_getI mi_340_172 hG (rref gr35 (by omega) hG) ?_
      refine V_iload (v := Int32.ofInt ((m : Int))) mi_340_175 (by simp [stL, stL2, lv_args, Value.category]) ?_
      refine V_laldX (j := m) (q := nm (60 * j + i + m)) mi_340_177 rfl hG e110 (by omega) (by omega) (hM m ho) ?_
      refine V_lastI (j := 60 * k + u + m) mi_340_178 (by rw [show (((60) * ((k : Int))) + ((u : Int))) + ((m : Int)) = ((60 * k + u + m : Nat) : Int) by omega]) hG e109 (by omega) (by omega) (f109 _ (by omega)) (fun w2 Gw2 Uw2 => ?_)
      refine V_iinc (v := Int32.ofInt ((m : Int))) mi_340_179 (by simp [stL, stL2, lv_args, Value.category]) ?_
      rw [ia2]
      refine V_goto mi_340_182 ?_
      refine V_sub (lv' := [(0, .ref (ad 90)), (1, .int (Int32.ofInt ((j : Int)))), (2, .int (Int32.ofInt ((i : Int)))), (3, .int (Int32.ofInt ((k : Int)))), (4, .int (Int32.ofInt ((u : Int)))), (5, .int (Int32.ofInt ((n : Int)))), (6, .int (Int32.ofInt (((m + 1 : Nat) : Int))))]) (fun q hq => ?_) ?_
      · simp only [List.mem_cons, List.not_mem_nil, or_false] at hq
        rcases hq with rfl | rfl | rfl | rfl | rfl | rfl | rfl <;> simp [stL, stL2, lv_args, Value.category]
      refine paM_150 hB hj hk h1 h2 d (m + 1) w2 (by omega) Gw2 ?_ (fun x hx => (upd_ne Uw2 (by omega)).trans (hM x hx)) (fun c p h => (upd_ne Uw2 (by omega)).trans (ho' c p h)) kk
      rw [nmP_step (f := fun o => decide (o < m)) (g := fun o => decide (o < m + 1)) (n := n) (o := m) ho (show decide (m < m + 1) = true from decide_eq_true (by omega)) (fun x hx hn => show decide (x < m + 1) = decide (x < m) from decide_eq_decide.mpr (by omega))]
      exact slm_wr hS Uw2
theorem paM_113 {w0 : va_W} {sz wds : Nat → Int} {nm : Nat → Int64} {j k i u n : Nat} (hB : SLB sz wds nm) (hj : j < 4) (hk : k < 4) (h1 : ((i + n : Nat) : Int) ≤ sz j) (h2 : ((u + n : Nat) : Int) ≤ sz k) {post : Option Value → va_W → Prop} : ∀ (d m : Nat) (ws : va_W), m + d = n → GOK ad tys GG ws → SLM sz wds nm ws → (∀ x : Nat, x < m → rd ws 110 x = some (.long (nm (60 * j + i + x)))) → (∀ c p, ¬ (109 ≤ c ∧ c ≤ 110) → rd ws c p = rd w0 c p) → (∀ w : va_W, GOK ad tys GG w → SLM sz wds (nmP (fun _ => true) nm (60 * j + i) (60 * k + u) n) w → (∀ c p, ¬ (109 ≤ c ∧ c ≤ 110) → rd w c p = rd w0 c p) → post (some (.int (Int32.ofInt 0))) w) → V l D tys A 340 2 0 0 post 0 0 113 [(0, .ref (ad 90)), (1, .int (Int32.ofInt ((j : Int)))), (2, .int (Int32.ofInt ((i : Int)))), (3, .int (Int32.ofInt ((k : Int)))), (4, .int (Int32.ofInt ((u : Int)))), (5, .int (Int32.ofInt ((n : Int)))), (6, .int (Int32.ofInt ((m : Int))))] [] ws
  | 0, m, ws, hm, hG, hS, hM, ho', kk => by
    have bj := hB j hj
    have bk := hB k hk
    refine V_iload (v := Int32.ofInt ((m : Int))) mi_340_113 (by simp [stL, stL2, lv_args, Value.category]) ?_
    refine V_iload (v := Int32.ofInt ((n : Int))) mi_340_115 (by simp [stL, stL2, lv_args, Value.category]) ?_
    refine V_cge mi_340_117 ⟨by omega, by omega⟩ ⟨by omega, by omega⟩ (fun q => ?_) (fun q => ?_)
    · refine V_ipush mi_340_147 ?_
      refine V_istore mi_340_148 ?_
      refine V_sub (lv' := [(0, .ref (ad 90)), (1, .int (Int32.ofInt ((j : Int)))), (2, .int (Int32.ofInt ((i : Int)))), (3, .int (Int32.ofInt ((k : Int)))), (4, .int (Int32.ofInt ((u : Int)))), (5, .int (Int32.ofInt ((n : Int)))), (6, .int (Int32.ofInt (((0 : Nat) : Int))))]) (fun q hq => ?_) ?_
      · simp only [List.mem_cons, List.not_mem_nil, or_false] at hq
        rcases hq with rfl | rfl | rfl | rfl | rfl | rfl | rfl <;> simp [stL, stL2, lv_args, Value.category]
      exact paM_150 hB hj hk h1 h2 n 0 ws (by omega) hG (by rw [nmP_0 (f := fun o => decide (o < 0)) (n := n) (fun x hx => show decide (x < 0) = false from decide_eq_false (by omega))]; exact hS) (fun x hx => hM x (by omega)) ho' kk
    · exact absurd q (by omega)
  | d + 1, m, ws, hm, hG, hS, hM, ho', kk => by
    obtain ⟨s109, e109, f109⟩ := gl109
    obtain ⟨s110, e110, f110⟩ := gl110
    have bj := hB j hj
    have bk := hB k hk
    refine V_iload (v := Int32.ofInt ((m : Int))) mi_340_113 (by simp [stL, stL2, lv_args, Value.category]) ?_
    refine V_iload (v := Int32.ofInt ((n : Int))) mi_340_115 (by simp [stL, stL2, lv_args, Value.category]) ?_
    refine V_cge mi_340_117 ⟨by omega, by omega⟩ ⟨by omega, by omega⟩ (fun q => ?_) (fun q => ?_)
    · exact absurd q (by omega)
    · have ho : m < n := by omega
      have gj := hS j hj
      refine V_aload (v := ad 90) mi_340_120 (by simp [stL, stL2, lv_args, Value.category]) ?_
      refine V_getI mi_340_121 hG (rref gr35 (by omega) hG) ?_
      refine V_iload (v := Int32.ofInt ((m : Int))) mi_340_124 (by simp [stL, stL2, lv_args, Value.category]) ?_
      refine V_aload (v := ad 90) mi_340_126 (by simp [stL, stL2, lv_args, Value.category]) ?_
      refine V_getI mi_340_127 hG (rref gr34 (by omega) hG) ?_
      refine V_ipush mi_340_130 ?_
      refine V_iload (v := Int32.ofInt ((j : Int))) mi_340_132 (by simp [stL, stL2, lv_args, Value.category]) ?_
      refine V_ibin mi_340_133 (by omega) ?_
      rw [ib2]
      refine V_iload (v := Int32.ofInt ((i : Int))) mi_340_134 (by simp [stL, stL2, lv_args, Value.category]) ?_
      refine V_ibin mi_340_135 (by omega) ?_
      rw [ib0]
      refine V_iload (v := Int32.ofInt ((m : Int))) mi_340_136 (by simp [stL, stL2, lv_args, Value.category]) ?_
      refine V_ibin mi_340_138 (by omega) ?_
      rw [ib0]
      refine V_laldX (j := 60 * j + i + m) (q := nm (60 * j + i + m)) mi_340_139 (by rw [show (((60) * ((j : Int))) + ((i : Int))) + ((m : Int)) = ((60 * j + i + m : Nat) : Int) by omega]) hG e109 (by omega) (by omega) (by rw [Nat.add_assoc]; exact gj.2.2 (i + m) (by omega)) ?_
      refine V_lastI (j := m) mi_340_140 rfl hG e110 (by omega) (by omega) (f110 _ (by omega)) (fun w2 Gw2 Uw2 => ?_)
      refine V_iinc (v := Int32.ofInt ((m : Int))) mi_340_141 (by simp [stL, stL2, lv_args, Value.category]) ?_
      rw [ia2]
      refine V_goto mi_340_144 ?_
      refine V_sub (lv' := [(0, .ref (ad 90)), (1, .int (Int32.ofInt ((j : Int)))), (2, .int (Int32.ofInt ((i : Int)))), (3, .int (Int32.ofInt ((k : Int)))), (4, .int (Int32.ofInt ((u : Int)))), (5, .int (Int32.ofInt ((n : Int)))), (6, .int (Int32.ofInt (((m + 1 : Nat) : Int))))]) (fun q hq => ?_) ?_
      · simp only [List.mem_cons, List.not_mem_nil, or_false] at hq
        rcases hq with rfl | rfl | rfl | rfl | rfl | rfl | rfl <;> simp [stL, stL2, lv_args, Value.category]
      refine paM_113 hB hj hk h1 h2 d (m + 1) w2 (by omega) Gw2 (fun s hs => ⟨(upd_ne Uw2 (by omega)).trans (hS s hs).1, (upd_ne Uw2 (by omega)).trans (hS s hs).2.1, fun x hx => (upd_ne Uw2 (by omega)).trans ((hS s hs).2.2 x hx)⟩) (fun x hx => ?_) (fun c p h => (upd_ne Uw2 (by omega)).trans (ho' c p h)) kk
      by_cases e : x = m
      · rw [e]
        exact upd_eq Uw2
      · exact (upd_ne Uw2 (by omega)).trans (hM x (by omega))
theorem paM_ct {sz wds : Nat → Int} {nm : Nat → Int64} {s i t u n : Int} (sI : I32 s) (iI : I32 i) (tI : I32 t) (uI : I32 u) (nI : I32 n) (hG : GOK ad tys GG ws) (hS : SLM sz wds nm ws) (hB : SLB sz wds nm) : CT l D tys A 340 2 0 0 [.ref (ad 90), .int (Int32.ofInt (s)), .int (Int32.ofInt (i)), .int (Int32.ofInt (t)), .int (Int32.ofInt (u)), .int (Int32.ofInt (n))] ws (fun r w => r = some (.int (Int32.ofInt (if (0 ≤ s ∧ s < 4) ∧ (0 ≤ t ∧ t < 4) then (if sz s.toNat < 0 ∨ sz t.toNat < 0 then -6 else if wds s.toNat = wds t.toNat then (if (0 ≤ i ∧ 0 ≤ n ∧ i + n ≤ sz s.toNat) ∧ (0 ≤ u ∧ 0 ≤ n ∧ u + n ≤ sz t.toNat) then 0 else -7) else -8) else -2))) ∧ GOK ad tys GG w ∧ ((((0 ≤ s ∧ s < 4) ∧ (0 ≤ t ∧ t < 4)) ∧ ¬ (sz s.toNat < 0 ∨ sz t.toNat < 0) ∧ wds s.toNat = wds t.toNat ∧ ((0 ≤ i ∧ 0 ≤ n ∧ i + n ≤ sz s.toNat) ∧ (0 ≤ u ∧ 0 ≤ n ∧ u + n ≤ sz t.toNat)) → SLM sz wds (nmP (fun _ => true) nm (60 * s.toNat + i.toNat) (60 * t.toNat + u.toNat) n.toNat) w) ∧ (¬ (((0 ≤ s ∧ s < 4) ∧ (0 ≤ t ∧ t < 4)) ∧ ¬ (sz s.toNat < 0 ∨ sz t.toNat < 0) ∧ wds s.toNat = wds t.toNat ∧ ((0 ≤ i ∧ 0 ≤ n ∧ i + n ≤ sz s.toNat) ∧ (0 ≤ u ∧ 0 ≤ n ∧ u + n ≤ sz t.toNat))) → w = ws)) ∧ (∀ c p, ¬ (107 ≤ c ∧ c ≤ 110) → rd w c p = rd ws c p)) := by
  refine CT_of_V (by omega) (show (6 : Nat) ≤ mML 340 by decide +kernel) ?_
  obtain ⟨s107, e107, f107⟩ := a107
  obtain ⟨s108, e108, f108⟩ := a108
  refine V_iload (v := Int32.ofInt (s)) mi_340_0 (by simp [stL, stL2, lv_args, Value.category]) ?_
  refine V_stat (As := [.int (Int32.ofInt (s))]) (st := []) mi_340_1 (by omega) (isl_ct sI) (by omega) (show 1 = mN 336 by decide +kernel) (by simp [Value.category]) ⟨Nat.le_refl _, Nat.le_refl _⟩ ?_
  rintro r wc1 ⟨rfl, rfl⟩
  refine V_beq mi_340_4  (fun c1 => ?_) (fun c1 => ?_)
  · refine V_ipush mi_340_14 ?_
    exact V_retI mi_340_16 (fun h => absurd h (by decide +kernel)) ⟨by rw [if_neg (fun k => of_decide_eq_false c1 k.1)], hG, ⟨fun k => absurd k (fun k => of_decide_eq_false c1 k.1.1), fun _ => rfl⟩, fun _ _ _ => rfl⟩
  · have k1 := of_decide_eq_true c1
    refine V_iload (v := Int32.ofInt (t)) mi_340_7 (by simp [stL, stL2, lv_args, Value.category]) ?_
    refine V_stat (As := [.int (Int32.ofInt (t))]) (st := []) mi_340_8 (by omega) (isl_ct tI) (by omega) (show 1 = mN 336 by decide +kernel) (by simp [Value.category]) ⟨Nat.le_refl _, Nat.le_refl _⟩ ?_
    rintro r wc2 ⟨rfl, rfl⟩
    refine V_bne mi_340_11  (fun c2 => ?_) (fun c2 => ?_)
    · have k2 := of_decide_eq_true c2
      obtain ⟨j, rfl⟩ := Int.eq_ofNat_of_zero_le k1.1
      obtain ⟨k, rfl⟩ := Int.eq_ofNat_of_zero_le k2.1
      have kj : j < 4 := by omega
      have kk : k < 4 := by omega
      have gj := hS j kj
      have gk := hS k kk
      have bj := hB j kj
      have bk := hB k kk
      have k12 : (0 ≤ (j : Int) ∧ (j : Int) < 4) ∧ (0 ≤ (k : Int) ∧ (k : Int) < 4) := ⟨k1, k2⟩
      have i1 : -2147483648 ≤ i ∧ i ≤ 2147483647 := iI
      have n1 : -2147483648 ≤ n ∧ n ≤ 2147483647 := nI
      have u1 : -2147483648 ≤ u ∧ u ≤ 2147483647 := uI
      rw [Int.toNat_natCast, Int.toNat_natCast]
      refine V_aload (v := ad 90) mi_340_17 (by simp [stL, stL2, lv_args, Value.category]) ?_
      refine V_getI mi_340_18 hG (rref gr32 (by omega) hG) ?_
      refine V_iload (v := Int32.ofInt ((j : Int))) mi_340_21 (by simp [stL, stL2, lv_args, Value.category]) ?_
      refine V_aldX (j := j) mi_340_22 rfl hG e107 (by omega) (by omega) (gj.1) ?_
      refine V_ipush mi_340_23 ?_
      refine V_ceq mi_340_24 ⟨by omega, by omega⟩ ⟨by omega, by omega⟩ (fun q2 => ?_) (fun q2 => ?_)
      · refine V_ipush mi_340_37 ?_
        exact V_retI mi_340_39 (fun h => absurd h (by decide +kernel)) ⟨by rw [if_pos k12, if_pos (Or.inl (by omega))], hG, ⟨fun k => absurd k (fun k => k.2.1 (Or.inl (by omega))), fun _ => rfl⟩, fun _ _ _ => rfl⟩
      · refine V_aload (v := ad 90) mi_340_27 (by simp [stL, stL2, lv_args, Value.category]) ?_
        refine V_getI mi_340_28 hG (rref gr32 (by omega) hG) ?_
        refine V_iload (v := Int32.ofInt ((k : Int))) mi_340_31 (by simp [stL, stL2, lv_args, Value.category]) ?_
        refine V_aldX (j := k) mi_340_32 rfl hG e107 (by omega) (by omega) (gk.1) ?_
        refine V_ipush mi_340_33 ?_
        refine V_cne mi_340_34 ⟨by omega, by omega⟩ ⟨by omega, by omega⟩ (fun q3 => ?_) (fun q3 => ?_)
        · have kb : ¬ (sz j < 0 ∨ sz k < 0) := by omega
          refine V_aload (v := ad 90) mi_340_40 (by simp [stL, stL2, lv_args, Value.category]) ?_
          refine V_getI mi_340_41 hG (rref gr33 (by omega) hG) ?_
          refine V_iload (v := Int32.ofInt ((j : Int))) mi_340_44 (by simp [stL, stL2, lv_args, Value.category]) ?_
          refine V_aldX (j := j) mi_340_45 rfl hG e108 (by omega) (by omega) (gj.2.1) ?_
          refine V_aload (v := ad 90) mi_340_46 (by simp [stL, stL2, lv_args, Value.category]) ?_
          refine V_getI mi_340_47 hG (rref gr33 (by omega) hG) ?_
          refine V_iload (v := Int32.ofInt ((k : Int))) mi_340_50 (by simp [stL, stL2, lv_args, Value.category]) ?_
          refine V_aldX (j := k) mi_340_51 rfl hG e108 (by omega) (by omega) (gk.2.1) ?_
          refine V_ceq mi_340_52 ⟨by omega, by omega⟩ ⟨by omega, by omega⟩ (fun q4 => ?_) (fun q4 => ?_)
          · have kw : wds j = wds k := by omega
            refine V_iload (v := Int32.ofInt (i)) mi_340_58 (by simp [stL, stL2, lv_args, Value.category]) ?_
            refine V_zlt mi_340_59 iI (fun q5 => ?_) (fun q5 => ?_)
            · refine V_ipush mi_340_107 ?_
              exact V_retI mi_340_109 (fun h => absurd h (by decide +kernel)) ⟨by rw [if_pos k12, if_neg kb, if_pos kw, if_neg (by omega)], hG, ⟨fun k => absurd k (fun k => absurd k.2.2.2 (by omega)), fun _ => rfl⟩, fun _ _ _ => rfl⟩
            · refine V_iload (v := Int32.ofInt (u)) mi_340_62 (by simp [stL, stL2, lv_args, Value.category]) ?_
              refine V_zlt mi_340_64 uI (fun q6 => ?_) (fun q6 => ?_)
              · refine V_ipush mi_340_107 ?_
                exact V_retI mi_340_109 (fun h => absurd h (by decide +kernel)) ⟨by rw [if_pos k12, if_neg kb, if_pos kw, if_neg (by omega)], hG, ⟨fun k => absurd k (fun k => absurd k.2.2.2 (by omega)), fun _ => rfl⟩, fun _ _ _ => rfl⟩
              · refine V_iload (v := Int32.ofInt (n)) mi_340_67 (by simp [stL, stL2, lv_args, Value.category]) ?_
                refine V_zlt mi_340_69 nI (fun q7 => ?_) (fun q7 => ?_)
                · refine V_ipush mi_340_107 ?_
                  exact V_retI mi_340_109 (fun h => absurd h (by decide +kernel)) ⟨by rw [if_pos k12, if_neg kb, if_pos kw, if_neg (by omega)], hG, ⟨fun k => absurd k (fun k => absurd k.2.2.2 (by omega)), fun _ => rfl⟩, fun _ _ _ => rfl⟩
                · refine V_iload (v := Int32.ofInt (i)) mi_340_72 (by simp [stL, stL2, lv_args, Value.category]) ?_
                  refine V_i2l mi_340_73 ?_
                  rw [i2lx ⟨by omega, by omega⟩]
                  refine V_iload (v := Int32.ofInt (n)) mi_340_74 (by simp [stL, stL2, lv_args, Value.category]) ?_
                  refine V_i2l mi_340_76 ?_
                  rw [i2lx ⟨by omega, by omega⟩]
                  refine V_lbin mi_340_77 (by omega) ?_
                  rw [ladd_]
                  refine V_aload (v := ad 90) mi_340_78 (by simp [stL, stL2, lv_args, Value.category]) ?_
                  refine V_getI mi_340_79 hG (rref gr32 (by omega) hG) ?_
                  refine V_iload (v := Int32.ofInt ((j : Int))) mi_340_82 (by simp [stL, stL2, lv_args, Value.category]) ?_
                  refine V_aldX (j := j) mi_340_83 rfl hG e107 (by omega) (by omega) (gj.1) ?_
                  refine V_i2l mi_340_84 ?_
                  rw [i2lx ⟨by omega, by omega⟩]
                  refine V_lcmp mi_340_85 ?_
                  have clj := cdL_iff (x := 4) (a := i + n) (b := sz j) (by omega) (by omega) (by omega) (by omega)
                  refine V_if mi_340_86 (fun q8 => ?_) (fun q8 => ?_)
                  · have h8 : 0 < i + n - sz j := clj.mp q8
                    refine V_ipush mi_340_107 ?_
                    exact V_retI mi_340_109 (fun h => absurd h (by decide +kernel)) ⟨by rw [if_pos k12, if_neg kb, if_pos kw, if_neg (by omega)], hG, ⟨fun k => absurd k (fun k => absurd k.2.2.2 (by omega)), fun _ => rfl⟩, fun _ _ _ => rfl⟩
                  · have h8 : ¬ 0 < i + n - sz j := fun z => q8 (clj.mpr z)
                    refine V_iload (v := Int32.ofInt (u)) mi_340_89 (by simp [stL, stL2, lv_args, Value.category]) ?_
                    refine V_i2l mi_340_91 ?_
                    rw [i2lx ⟨by omega, by omega⟩]
                    refine V_iload (v := Int32.ofInt (n)) mi_340_92 (by simp [stL, stL2, lv_args, Value.category]) ?_
                    refine V_i2l mi_340_94 ?_
                    rw [i2lx ⟨by omega, by omega⟩]
                    refine V_lbin mi_340_95 (by omega) ?_
                    rw [ladd_]
                    refine V_aload (v := ad 90) mi_340_96 (by simp [stL, stL2, lv_args, Value.category]) ?_
                    refine V_getI mi_340_97 hG (rref gr32 (by omega) hG) ?_
                    refine V_iload (v := Int32.ofInt ((k : Int))) mi_340_100 (by simp [stL, stL2, lv_args, Value.category]) ?_
                    refine V_aldX (j := k) mi_340_101 rfl hG e107 (by omega) (by omega) (gk.1) ?_
                    refine V_i2l mi_340_102 ?_
                    rw [i2lx ⟨by omega, by omega⟩]
                    refine V_lcmp mi_340_103 ?_
                    have clk := cdL_iff (x := 5) (a := u + n) (b := sz k) (by omega) (by omega) (by omega) (by omega)
                    refine V_if mi_340_104 (fun q9 => ?_) (fun q9 => ?_)
                    · have h9 : u + n - sz k ≤ 0 := clk.mp q9
                      obtain ⟨ii, rfl⟩ := Int.eq_ofNat_of_zero_le (show 0 ≤ i by omega)
                      obtain ⟨nn, rfl⟩ := Int.eq_ofNat_of_zero_le (show 0 ≤ n by omega)
                      obtain ⟨uu, rfl⟩ := Int.eq_ofNat_of_zero_le (show 0 ≤ u by omega)
                      rw [Int.toNat_natCast, Int.toNat_natCast, Int.toNat_natCast]
                      refine V_ipush mi_340_110 ?_
                      refine V_istore mi_340_111 ?_
                      refine V_sub (lv' := [(0, .ref (ad 90)), (1, .int (Int32.ofInt ((j : Int)))), (2, .int (Int32.ofInt ((ii : Int)))), (3, .int (Int32.ofInt ((k : Int)))), (4, .int (Int32.ofInt ((uu : Int)))), (5, .int (Int32.ofInt ((nn : Int)))), (6, .int (Int32.ofInt (((0 : Nat) : Int))))]) (fun q hq => ?_) ?_
                      · simp only [List.mem_cons, List.not_mem_nil, or_false] at hq
                        rcases hq with rfl | rfl | rfl | rfl | rfl | rfl | rfl <;> simp [stL, stL2, lv_args, Value.category]
                      exact paM_113 (i := ii) (u := uu) (n := nn) hB kj kk (by omega) (by omega) nn 0 _ (by omega) hG hS (fun x hx => absurd hx (by omega)) (fun _ _ _ => rfl) (fun w g h o => ⟨by rw [if_pos k12, if_neg kb, if_pos kw, if_pos ⟨⟨by omega, by omega, by omega⟩, ⟨by omega, by omega, by omega⟩⟩], g, ⟨fun _ => h, fun z => absurd ⟨k12, kb, kw, ⟨by omega, by omega, by omega⟩, ⟨by omega, by omega, by omega⟩⟩ z⟩, fun c p z => o c p (by omega)⟩)
                    · have h9 : ¬ u + n - sz k ≤ 0 := fun z => q9 (clk.mpr z)
                      refine V_ipush mi_340_107 ?_
                      exact V_retI mi_340_109 (fun h => absurd h (by decide +kernel)) ⟨by rw [if_pos k12, if_neg kb, if_pos kw, if_neg (by omega)], hG, ⟨fun k => absurd k (fun k => absurd k.2.2.2 (by omega)), fun _ => rfl⟩, fun _ _ _ => rfl⟩
          · refine V_ipush mi_340_55 ?_
            exact V_retI mi_340_57 (fun h => absurd h (by decide +kernel)) ⟨by rw [if_pos k12, if_neg kb, if_neg (by omega)], hG, ⟨fun k => absurd k (fun k => absurd k.2.2.1 (by omega)), fun _ => rfl⟩, fun _ _ _ => rfl⟩
        · refine V_ipush mi_340_37 ?_
          exact V_retI mi_340_39 (fun h => absurd h (by decide +kernel)) ⟨by rw [if_pos k12, if_pos (Or.inr (by omega))], hG, ⟨fun k => absurd k (fun k => k.2.1 (Or.inr (by omega))), fun _ => rfl⟩, fun _ _ _ => rfl⟩
    · refine V_ipush mi_340_14 ?_
      exact V_retI mi_340_16 (fun h => absurd h (by decide +kernel)) ⟨by rw [if_neg (fun k => of_decide_eq_false c2 k.2)], hG, ⟨fun k => absurd k (fun k => of_decide_eq_false c2 k.1.2), fun _ => rfl⟩, fun _ _ _ => rfl⟩
end XVD
