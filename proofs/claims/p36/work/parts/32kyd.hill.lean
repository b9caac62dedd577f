section XUD
variable {l : Launch} {D : va_G} {tys : List (ClassId × FieldType)} {A : Nat → Prop} {ad : Nat → Nat} {ws : va_W}
theorem V_putL {k d pc : Nat} {post : Option Value → va_W → Prop} {lv : List (Nat × Value)} {st : List Value} {a : Int} {x y z i : Nat} {v : Int64} (hi0 : mI k pc = (18, a, x, 11, i)) (hG : GOK ad tys GG ws) (hs : ∃ g, GG[90]? = some ((0, 11, 36), g) ∧ segAt g i = some (1, -9223372036854775808, 9223372036854775807)) (h36 : i < 36) (hty : clTy 11 i = .long) (hn : nfin 11 i = true) (kk : ∀ w : va_W, GOK ad tys GG w → Upd1 ws w 90 i (.long v) → V l D tys A k d 0 0 post 0 0 (pc + 3) lv st w) : V l D tys A k d 0 0 post 0 0 pc lv (.long v :: .ref (ad 90) :: st) ws := by
  obtain ⟨g, hg, hs⟩ := hs
  obtain ⟨e, a1, a2, a3⟩ := hG 90 _ hg
  obtain ⟨fs, rfl, hl⟩ := a2
  refine V_put hi0 a1 (by omega) (fun C T N hc => ?_) (by rw [hty]; rfl) (by rw [hty]; rfl) ?_
  · unfold nfin at hn
    rw [hc] at hn
    simpa using hn
  · obtain ⟨u1, u2⟩ := GOK_upd (e' := .inr (11, fs.set i (.long v))) hG hg a1 ⟨_, rfl, by rw [List.length_set]; exact hl⟩ (rdE_obj (by omega) _) hs ⟨v.toInt, by rw [Int64.ofInt_toInt], by have := v.le_toInt; omega, by have := v.toInt_lt; omega⟩
    exact kk _ u1 u2
theorem f25m : ∃ g, GG[90]? = some ((0, 11, 36), g) ∧ segAt g 25 = some (1, -9223372036854775808, 9223372036854775807) := ⟨_, rfl, by decide +kernel⟩
theorem f24m : gF 24 0 1 := ⟨_, rfl, by decide +kernel⟩
/-- the next draw -/
def nxV (x : Int) : Int := (lbF 4 (lbF 0 (lbF 2 (Int64.ofInt 1103515245) (Int64.ofInt x)) (Int64.ofInt 12345)) (Int64.ofInt 2147483648)).toInt
theorem nx_i (x : Int) : lbF 4 (lbF 0 (lbF 2 (Int64.ofInt 1103515245) (Int64.ofInt x)) (Int64.ofInt 12345)) (Int64.ofInt 2147483648) = Int64.ofInt (nxV x) := by
  unfold nxV
  rw [Int64.ofInt_toInt]
def dwZ (x : Int) : Int := (lbF 4 (lbF 3 (Int64.ofInt x) (Int64.ofInt 65536)) (Int64.ofInt 100)).toInt
theorem dw_i (x : Int) : lbF 4 (lbF 3 (Int64.ofInt x) (Int64.ofInt 65536)) (Int64.ofInt 100) = Int64.ofInt (dwZ x) := by
  unfold dwZ
  rw [Int64.ofInt_toInt]
theorem dw_bd (x : Int) : -99 ≤ dwZ x ∧ dwZ x ≤ 99 := by
  have h1 := (Int64.ofInt x).le_toInt
  have h2 := (Int64.ofInt x).toInt_lt
  have e1 : lbF 3 (Int64.ofInt x) (Int64.ofInt 65536) = Int64.ofInt ((Int64.ofInt x).toInt.tdiv 65536) := by
    have q := div64 (a := (Int64.ofInt x).toInt) (c := 65536) (by omega) (by omega) (by omega) (by omega)
    rw [Int64.ofInt_toInt] at q
    exact q
  have t := tdiv_bd (a := (Int64.ofInt x).toInt) (c := 65536) (by omega)
  generalize (Int64.ofInt x).toInt.tdiv 65536 = y at e1 t
  have yb : -9223372036854775808 ≤ y ∧ y ≤ 9223372036854775807 := by
    by_cases c : 0 ≤ (Int64.ofInt x).toInt
    · have := t.1 c
      omega
    · have := t.2 (by omega)
      omega
  have e2 : lbF 4 (Int64.ofInt y) (Int64.ofInt 100) = Int64.ofInt (y - y.tdiv 100 * 100) := by
    show Int64.ofInt y - Int64.ofInt y / Int64.ofInt 100 * Int64.ofInt 100 = _
    rw [div64 yb.1 yb.2 (by omega) (by omega), Int64.ofInt_sub, Int64.ofInt_mul]
  have r := rem_bd (a := y) (c := 100) (by omega)
  have rb : -99 ≤ y - y.tdiv 100 * 100 ∧ y - y.tdiv 100 * 100 ≤ 99 := by
    by_cases c : 0 ≤ y
    · have := r.1 c
      omega
    · have := r.2 (by omega)
      omega
  unfold dwZ
  rw [e1, e2, Int64.toInt_ofInt_of_le (by omega) (by omega)]
  exact rb
/-- the draws, saying by saying -/
def dxD (G : Nat → Int) (s : Nat) (x : Int) : Nat → Int
  | 0 => x
  | f + 1 => if preP G s f = true then nxV (dxD G s x f) else dxD G s x f
def heD (G : Nat → Int) (s : Nat) (x : Int) (f : Nat) : Bool := !(decide (dwZ (nxV (dxD G s x f)) < G (54 + f)))
theorem dxD_y {G : Nat → Int} {s f : Nat} {x : Int} (h : preP G s f = true) : dxD G s x (f + 1) = nxV (dxD G s x f) := if_pos h
theorem dxD_n {G : Nat → Int} {s f : Nat} {x : Int} (h : preP G s f = false) : dxD G s x (f + 1) = dxD G s x f := if_neg (by rw [h]; exact Bool.false_ne_true)
def huF : Nat → Bool := fun _ => false
def dwS (G : Nat → Int) (x0 : Int) (h : Nat) : TT × Int := tellW G huF (heD G) (dxD G) x0 h
theorem drw_ct {x : Int} (hG : GOK ad tys GG ws) (hx : rd ws 90 25 = some (.long (Int64.ofInt x))) : CT l D tys A 234 0 0 0 [.ref (ad 90)] ws (fun r w => r = some (.int (Int32.ofInt (dwZ (nxV x)))) ∧ GOK ad tys GG w ∧ Upd1 ws w 90 25 (.long (Int64.ofInt (nxV x)))) := by
  refine CT_of_V (by omega) (show (1 : Nat) ≤ mML 234 by decide +kernel) ?_
  refine V_aload (v := ad 90) mi_234_0 (by simp [stL, stL2, lv_args, Value.category]) ?_
  refine V_lpush mi_234_1 ?_
  refine V_aload (v := ad 90) mi_234_4 (by simp [stL, stL2, lv_args, Value.category]) ?_
  refine V_getI mi_234_5 hG (hx) ?_
  refine V_lbin mi_234_8 (by omega) ?_
  refine V_lpush mi_234_9 ?_
  refine V_lbin mi_234_12 (by omega) ?_
  refine V_lpush mi_234_13 ?_
  refine V_lbin mi_234_16 (fun _ => by decide) ?_
  rw [nx_i]
  refine V_putL mi_234_17 hG f25m (by omega) rfl (by decide +kernel) (fun w2 G2 U2 => ?_)
  refine V_aload (v := ad 90) mi_234_20 (by simp [stL, stL2, lv_args, Value.category]) ?_
  refine V_getI mi_234_21 G2 (upd_eq U2) ?_
  refine V_lpush mi_234_24 ?_
  refine V_lbin mi_234_27 (fun _ => by decide) ?_
  refine V_lpush mi_234_28 ?_
  refine V_lbin mi_234_31 (fun _ => by decide) ?_
  rw [dw_i]
  refine V_l2i mi_234_32 ?_
  rw [Int64.toInt32_ofInt]
  exact V_retI mi_234_33 (fun h => absurd h (by decide +kernel)) ⟨rfl, G2, U2⟩
theorem hed_ct {G : Nat → Int} {f s : Nat} {x : Int} (hB : HB G) (hf : f < 6) (hG : GOK ad tys GG ws) (hW : W91 G ws) (h24 : rd ws 90 24 = some (.int (Int32.ofInt 1))) (hx : rd ws 90 25 = some (.long (Int64.ofInt x))) : CT l D tys A 235 2 0 0 [.ref (ad 90), .int (Int32.ofInt ((f : Int))), .int (Int32.ofInt ((s : Int)))] ws (fun r w => r = some (.int (bI (!(decide (dwZ (nxV x) < G (54 + f)))))) ∧ GOK ad tys GG w ∧ Upd1 ws w 90 25 (.long (Int64.ofInt (nxV x)))) := by
  refine CT_of_V (by omega) (show (3 : Nat) ≤ mML 235 by decide +kernel) ?_
  obtain ⟨s91, e91, -⟩ := g91s
  have bd := hB.bd f hf
  have db := dw_bd (nxV x)
  refine V_aload (v := ad 90) mi_235_0 (by simp [stL, stL2, lv_args, Value.category]) ?_
  refine V_getI mi_235_1 hG (h24) ?_
  refine V_zeq mi_235_4 ⟨by omega, by omega⟩ (fun q => ?_) (fun q => ?_)
  · exact absurd q (by omega)
  · refine V_aload (v := ad 90) mi_235_7 (by simp [stL, stL2, lv_args, Value.category]) ?_
    refine V_callM (As := []) (st := []) mi_235_8 (by omega) (by decide +kernel) (by decide +kernel) hG (drw_ct hG hx) (by omega) (show 0 = mN 234 by decide +kernel) (by simp [Value.category]) ?_
    rintro r w1 ⟨e1, G1, U1⟩
    rw [e1]
    have hW1 : W91 G w1 := fun j hj => (upd_ne U1 (by omega)).trans (hW j hj)
    refine V_aload (v := ad 90) mi_235_11 (by simp [stL, stL2, lv_args, Value.category]) ?_
    refine V_getI mi_235_12 G1 (rref gr1m (by omega) G1) ?_
    refine V_ipush mi_235_15 ?_
    refine V_iload (v := Int32.ofInt ((f : Int))) mi_235_17 (by simp [stL, stL2, lv_args, Value.category]) ?_
    refine V_ibin mi_235_18 (by omega) ?_
    rw [ib0]
    refine V_aldX (j := 54 + f) mi_235_19 (by rw [show (54) + ((f : Int)) = ((54 + f : Nat) : Int) by omega]) G1 e91 (by omega) (by omega) (hW1 _ (by omega)) ?_
    refine V_clt mi_235_20 ⟨by omega, by omega⟩ ⟨by omega, by omega⟩ (fun q2 => ?_) (fun q2 => ?_)
    · refine V_ipush mi_235_27 ?_
      exact V_retI mi_235_28 (fun _ => by decide) ⟨by rw [decide_eq_true (show dwZ (nxV x) < G (54 + f) by omega)]; rfl, G1, U1⟩
    · refine V_ipush mi_235_23 ?_
      refine V_goto mi_235_24 ?_
      exact V_retI mi_235_28 (fun _ => by decide) ⟨by rw [decide_eq_false (show ¬ dwZ (nxV x) < G (54 + f) by omega)]; rfl, G1, U1⟩
def MoD (x : Int) (w : va_W) : Prop := rd w 90 25 = some (.long (Int64.ofInt x)) ∧ rd w 90 24 = some (.int (Int32.ofInt 1)) ∧ rd w 90 21 = some (.int (Int32.ofInt 0))
theorem heaD {G : Nat → Int} (hB : HB G) : HEA l D tys A ad G (Int32.ofInt 0) huF (heD G) (dxD G) MoD :=
  ⟨fun x w w2 h o => ⟨(o _ _ (by omega) (by omega)).trans h.1, (o _ _ (by omega) (by omega)).trans h.2.1, (o _ _ (by omega) (by omega)).trans h.2.2⟩, fun x w h => h.2.2, fun s hs => by rw [hsh0 hs]; rfl, fun s x f w hs hf hG hW hM hp => ⟨2, by omega, CT_post (hed_ct (f := f) (s := s) hB (by have := hB.b3; omega) hG hW hM.2.1 hM.1) (fun r w2 h => by
    obtain ⟨e, g, u⟩ := h
    exact ⟨e, g, ⟨by rw [dxD_y hp]; exact upd_eq u, (upd_ne u (by omega)).trans hM.2.1, (upd_ne u (by omega)).trans hM.2.2⟩, fun c j hc => upd_ne u (by omega)⟩)⟩, fun s x f hp => dxD_n hp, fun _ _ => rfl⟩
theorem god_ct {G : Nat → Int} {x : Int} (hB : HB G) (hG : GOK ad tys GG ws) (hW : W91 G ws) (hx : rd ws 90 25 = some (.long (Int64.ofInt x))) (h24 : rd ws 90 24 = some (.int (Int32.ofInt 1))) : CT l D tys A 238 8 0 0 [.ref (ad 90)] ws (fun r w => r = none ∧ GOK ad tys GG w ∧ (∀ j, j < 36 → rd w 98 (36 * (G 2).toNat + j) = some (.int (Int32.ofInt ((dwS G x (G 2).toNat).1.K j)))) ∧ ∀ c j, ¬ (98 ≤ c ∧ c ≤ 101) → ¬ (c = 90 ∧ (j = 18 ∨ j = 21 ∨ j = 25)) → rd w c j = rd ws c j) := by
  refine CT_of_V (by omega) (show (1 : Nat) ≤ mML 238 by decide +kernel) ?_
  have b2 := hB.b2
  refine V_aload (v := ad 90) mi_238_0 (by simp [stL, stL2, lv_args, Value.category]) ?_
  refine V_ipush mi_238_1 ?_
  refine V_putI mi_238_2 hG f21m (by omega) rfl (by decide +kernel) (by rw [Int32.toInt_ofInt_of_le (by omega) (by omega)]; omega) (by rw [Int32.toInt_ofInt_of_le (by omega) (by omega)]; omega) (fun w1 G1 U1 => ?_)
  refine V_aload (v := ad 90) mi_238_5 (by simp [stL, stL2, lv_args, Value.category]) ?_
  refine V_callM (As := []) (st := []) mi_238_6 (by omega) (by decide +kernel) (by decide +kernel) G1 (gonw_ct (heaD hB) (x0 := x) hB G1 (fun j hj => (upd_ne U1 (by omega)).trans (hW j hj)) ⟨(upd_ne U1 (by omega)).trans hx, (upd_ne U1 (by omega)).trans h24, upd_eq U1⟩) (by omega) (show 0 = mN 237 by decide +kernel) (by simp [Value.category]) ?_
  rintro r w2 ⟨rfl, T2, k2, o2⟩
  exact V_retV mi_238_9 ⟨rfl, T2.g, fun j hj => k2 (G 2).toNat (by omega) j hj, fun c j h1 h2 => (o2 c j h1 (by omega)).trans (upd_ne U1 (by omega))⟩
theorem gdr_ct {G : Nat → Int} {x : Int} (hB : HB G) (hG : GOK ad tys GG ws) (hW : W91 G ws) (h24 : rd ws 90 24 = some (.int (Int32.ofInt 0))) : CT l D tys A 331 9 0 0 [.ref (ad 90), .long (Int64.ofInt (x))] ws (fun r w => r = none ∧ GOK ad tys GG w ∧ (∀ j, j < 36 → rd w 98 (36 * (G 2).toNat + j) = some (.int (Int32.ofInt ((dwS G x (G 2).toNat).1.K j)))) ∧ MTW ws w) := by
  refine CT_of_V (by omega) (show (3 : Nat) ≤ mML 331 by decide +kernel) ?_
  have b2 := hB.b2
  refine V_aload (v := ad 90) mi_331_0 (by simp [stL, stL2, lv_args, Value.category]) ?_
  refine V_lload (v := Int64.ofInt (x)) mi_331_1 (by simp [stL, stL2, lv_args, Value.category]) ?_
  refine V_putL mi_331_2 hG f25m (by omega) rfl (by decide +kernel) (fun w1 G1 U1 => ?_)
  refine V_aload (v := ad 90) mi_331_5 (by simp [stL, stL2, lv_args, Value.category]) ?_
  refine V_ipush mi_331_6 ?_
  refine V_putI mi_331_7 G1 f24m (by omega) rfl (by decide +kernel) (by rw [Int32.toInt_ofInt_of_le (by omega) (by omega)]; omega) (by rw [Int32.toInt_ofInt_of_le (by omega) (by omega)]; omega) (fun w2 G2 U2 => ?_)
  refine V_aload (v := ad 90) mi_331_10 (by simp [stL, stL2, lv_args, Value.category]) ?_
  refine V_callM (As := []) (st := []) mi_331_11 (by omega) (by decide +kernel) (by decide +kernel) G2 (god_ct hB G2 (fun j hj => (upd_ne U2 (by omega)).trans ((upd_ne U1 (by omega)).trans (hW j hj))) ((upd_ne U2 (by omega)).trans (upd_eq U1)) (upd_eq U2)) (by omega) (show 0 = mN 238 by decide +kernel) (by simp [Value.category]) ?_
  rintro r w3 ⟨rfl, G3, k3, o3⟩
  refine V_aload (v := ad 90) mi_331_14 (by simp [stL, stL2, lv_args, Value.category]) ?_
  refine V_ipush mi_331_15 ?_
  refine V_putI mi_331_16 G3 f24m (by omega) rfl (by decide +kernel) (by rw [Int32.toInt_ofInt_of_le (by omega) (by omega)]; omega) (by rw [Int32.toInt_ofInt_of_le (by omega) (by omega)]; omega) (fun w4 G4 U4 => ?_)
  exact V_retV mi_331_19 ⟨rfl, G4, fun j hj => (upd_ne U4 (by omega)).trans (k3 j hj), fun c j h1 h2 => ?_⟩
  by_cases e : c = 90 ∧ j = 24
  · rw [e.1, e.2, h24]
    exact upd_eq U4
  · exact (upd_ne U4 e).trans ((o3 c j h1 (by omega)).trans ((upd_ne U2 e).trans (upd_ne U1 (by omega))))
theorem orI_cg {P Q : Nat → Bool} : ∀ n : Nat, (∀ f, f < n → P f = Q f) → orI P n = orI Q n
  | 0, _ => rfl
  | n + 1, h => by
    unfold orI
    rw [orI_cg n (fun f hf => h f (by omega)), h n (by omega)]
theorem tb_cl {a : Int} {i j : Nat} (a0 : 0 ≤ a) (a1 : a ≤ 63) (hi : i < 6) (hj : j < 6) : tb (clB a (i : Int)) (j : Int) = (tb a (j : Int) && !(Nat.beq j i)) := by
  have q := List.all_eq_true.mp (List.all_eq_true.mp (List.all_eq_true.mp clC_all a.toNat (List.mem_range.mpr (by omega))) i (List.mem_range.mpr hi)) j (List.mem_range.mpr hj)
  rw [Int.toNat_of_nonneg a0, Bool.and_eq_true] at q
  simpa using q.1
/-- one who does not hear it is left out -/
theorem orI_cl {P Q : Nat → Bool} {i n : Nat} (hn : n ≤ 6) (hi : i < n) (h : ∀ f, f < n → Q f = (P f && !(Nat.beq f i))) : clB (orI P n) (i : Int) = orI Q n := by
  have bp := orI_bd (P := P) hn
  have bq := orI_bd (P := Q) hn
  refine tb_ext (clB_k (i := i) bp.1 bp.2 (by omega)).1 bq (fun j hj => ?_)
  rw [tb_cl bp.1 bp.2 (by omega) hj, tb_orI hj n hn, tb_orI hj n hn]
  by_cases c : j < n
  · rw [h j c, decide_eq_true c, Bool.true_and, Bool.true_and]
  · rw [decide_eq_false c, Bool.false_and, Bool.false_and, Bool.false_and]
theorem pd_49 {G : Nat → Int} (hG : GOK ad tys GG ws) (hX : HX 4 G ws) (hB : HB G) {s : Nat} {x x0 : Int} {iv : Int32} (hs : s < 12) (hprs : rd ws 30 s = some (.int (Int32.ofInt (orI (preP G s) (G 3).toNat)))) {post : Option Value → va_W → Prop} : ∀ (m p : Nat), ((p + m : Nat) : Int) = G 3 → V l D tys A 97 3 0 0 post 0 0 129 [(0, .ref (ad 28)), (1, .ref (ad 4)), (2, .long (Int64.ofInt (x0))), (4, .long (Int64.ofInt (dxD G s x (G 3).toNat))), (6, .int (iv)), (7, .int (Int32.ofInt ((s : Int)))), (8, .int (Int32.ofInt (orI (pW G (heD G) s x) (G 3).toNat)))] [] ws → V l D tys A 97 3 0 0 post 0 0 49 [(0, .ref (ad 28)), (1, .ref (ad 4)), (2, .long (Int64.ofInt (x0))), (4, .long (Int64.ofInt (dxD G s x p))), (6, .int (iv)), (7, .int (Int32.ofInt ((s : Int)))), (8, .int (Int32.ofInt (orI (fun f => preP G s f && (decide (p ≤ f) || heD G s x f)) (G 3).toNat))), (9, .int (Int32.ofInt ((p : Int))))] [] ws
  | 0, p, hm, kk => by
    have b3 := hB.b3
    refine V_iload (v := Int32.ofInt ((p : Int))) mi_97_49 (by simp [stL, stL2, lv_args, Value.category]) ?_
    refine V_aload (v := ad 4) mi_97_51 (by simp [stL, stL2, lv_args, Value.category]) ?_
    refine V_gO mi_97_52 g4o hG (show rd _ 4 4 = some (.int (Int32.ofInt (G 3))) from hx0 hX (i := 4) (by omega)) ?_
    refine V_cge mi_97_55 ⟨by omega, by omega⟩ ⟨by omega, by omega⟩ (fun q => ?_) (fun q => ?_)
    · have e : p = (G 3).toNat := by omega
      rw [e, show orI (fun f => preP G s f && (decide ((G 3).toNat ≤ f) || heD G s x f)) (G 3).toNat = orI (pW G (heD G) s x) (G 3).toNat from orI_cg _ (fun f hf => by unfold pW; rw [decide_eq_false (by omega), Bool.false_or])]
      refine V_sub (lv' := [(0, .ref (ad 28)), (1, .ref (ad 4)), (2, .long (Int64.ofInt (x0))), (4, .long (Int64.ofInt (dxD G s x (G 3).toNat))), (6, .int (iv)), (7, .int (Int32.ofInt ((s : Int)))), (8, .int (Int32.ofInt (orI (pW G (heD G) s x) (G 3).toNat)))]) (fun q hq => ?_) ?_
      · simp only [List.mem_cons, List.not_mem_nil, or_false] at hq
        rcases hq with rfl | rfl | rfl | rfl | rfl | rfl | rfl <;> simp [stL, stL2, lv_args, Value.category]
      exact kk
    · exact absurd q (by omega)
  | m + 1, p, hm, kk => by
    have b3 := hB.b3
    refine V_iload (v := Int32.ofInt ((p : Int))) mi_97_49 (by simp [stL, stL2, lv_args, Value.category]) ?_
    refine V_aload (v := ad 4) mi_97_51 (by simp [stL, stL2, lv_args, Value.category]) ?_
    refine V_gO mi_97_52 g4o hG (show rd _ 4 4 = some (.int (Int32.ofInt (G 3))) from hx0 hX (i := 4) (by omega)) ?_
    refine V_cge mi_97_55 ⟨by omega, by omega⟩ ⟨by omega, by omega⟩ (fun q => ?_) (fun q => ?_)
    · exact absurd q (by omega)
    · have ob := orI_bd (P := preP G s) (f := (G 3).toNat) (by omega)
      have p1 := (tb_k (a := orI (preP G s) (G 3).toNat) (i := (p : Int)) ob.1 ob.2 (by omega) (by omega)).1
      rw [tb_orI (by omega) _ (by omega), decide_eq_true (show p < (G 3).toNat by omega), Bool.true_and] at p1
      have ob2 := orI_bd (P := (fun f => preP G s f && (decide (p ≤ f) || heD G s x f))) (f := (G 3).toNat) (by omega)
      have bd := hB.bd p (by omega)
      refine V_aload (v := ad 28) mi_97_58 (by simp [stL, stL2, lv_args, Value.category]) ?_
      refine V_iload (v := Int32.ofInt ((s : Int))) mi_97_59 (by simp [stL, stL2, lv_args, Value.category]) ?_
      refine V_cO (As := [.int (Int32.ofInt ((s : Int)))]) (st := []) mi_97_61 (by omega) (by decide +kernel) (by decide +kernel) (by omega) g28o hG (prs_ct (s := s) hG hs hprs) (by omega) (show 1 = mN 89 by decide +kernel) (by simp [Value.category]) ?_
      rintro r w1 ⟨e1, rfl⟩
      rw [e1]
      refine V_iload (v := Int32.ofInt ((p : Int))) mi_97_64 (by simp [stL, stL2, lv_args, Value.category]) ?_
      refine V_ibin mi_97_66 (by omega) ?_
      refine V_ipush mi_97_67 ?_
      refine V_ibin mi_97_68 (by omega) ?_
      rw [p1]
      refine V_beq mi_97_69  (fun q2 => ?_) (fun q2 => ?_)
      · rw [← dxD_n (x := x) q2]
        rw [show orI (fun f => preP G s f && (decide (p ≤ f) || heD G s x f)) (G 3).toNat = orI (fun f => preP G s f && (decide (p + 1 ≤ f) || heD G s x f)) (G 3).toNat from orI_cg _ (fun f hf => by
          by_cases c : f = p
          · rw [c]; rw [q2]; rfl
          · rw [show decide (p ≤ f) = decide (p + 1 ≤ f) from decide_eq_decide.mpr (by omega)])]
        refine V_iinc (v := Int32.ofInt ((p : Int))) mi_97_123 (by simp [stL, stL2, lv_args, Value.category]) ?_
        rw [ia2]
        refine V_goto mi_97_126 ?_
        refine V_sub (lv' := [(0, .ref (ad 28)), (1, .ref (ad 4)), (2, .long (Int64.ofInt (x0))), (4, .long (Int64.ofInt (dxD G s x (p + 1)))), (6, .int (iv)), (7, .int (Int32.ofInt ((s : Int)))), (8, .int (Int32.ofInt (orI (fun f => preP G s f && (decide (p + 1 ≤ f) || heD G s x f)) (G 3).toNat))), (9, .int (Int32.ofInt (((p + 1 : Nat) : Int))))]) (fun q hq => ?_) ?_
        · simp only [List.mem_cons, List.not_mem_nil, or_false] at hq
          rcases hq with rfl | rfl | rfl | rfl | rfl | rfl | rfl | rfl <;> simp [stL, stL2, lv_args, Value.category]
        exact pd_49 hG hX hB hs hprs m (p + 1) (by omega) kk
      · refine V_lpush mi_97_72 ?_
        refine V_lload (v := Int64.ofInt (dxD G s x p)) mi_97_75 (by simp [stL, stL2, lv_args, Value.category]) ?_
        refine V_lbin mi_97_77 (by omega) ?_
        refine V_lpush mi_97_78 ?_
        refine V_lbin mi_97_81 (by omega) ?_
        refine V_lpush mi_97_82 ?_
        refine V_lbin mi_97_85 (fun _ => by decide) ?_
        rw [nx_i, ← dxD_y (x := x) q2]
        refine V_lstore mi_97_86 ?_
        have db := dw_bd (dxD G s x (p + 1))
        refine V_lload (v := Int64.ofInt (dxD G s x (p + 1))) mi_97_88 (by simp [stL, stL2, lv_args, Value.category]) ?_
        refine V_lpush mi_97_90 ?_
        refine V_lbin mi_97_93 (fun _ => by decide) ?_
        refine V_lpush mi_97_94 ?_
        refine V_lbin mi_97_97 (fun _ => by decide) ?_
        rw [dw_i]
        refine V_aload (v := ad 4) mi_97_98 (by simp [stL, stL2, lv_args, Value.category]) ?_
        refine V_gR mi_97_99 g4r9 (by omega) hG ?_
        refine V_iload (v := Int32.ofInt ((p : Int))) mi_97_102 (by simp [stL, stL2, lv_args, Value.category]) ?_
        refine V_stat (As := [.ref (ad 8), .int (Int32.ofInt ((p : Int)))]) (st := [.long (Int64.ofInt (dwZ (dxD G s x (p + 1))))]) mi_97_104 (by omega) (atk_ct (j := p) a8 hG (by omega) (by omega) (HX_HY hX 4 (by omega) p (show p < 6 by omega))) (by omega) (show 2 = mN 147 by decide +kernel) (by simp [Value.category]) ⟨Nat.le_refl _, Nat.le_refl _⟩ ?_
        rintro r w2 ⟨e2, rfl⟩
        rw [e2, show G (hxJ 4 p) = G (54 + p) from rfl]
        refine V_i2l mi_97_107 ?_
        rw [i2lx ⟨by omega, by omega⟩]
        refine V_lcmp mi_97_108 ?_
        have cl := cdL_iff (x := 3) (a := dwZ (dxD G s x (p + 1))) (b := G (54 + p)) (by omega) (by omega) (by omega) (by omega)
        have ed : dxD G s x (p + 1) = nxV (dxD G s x p) := dxD_y q2
        refine V_if mi_97_109 (fun q3 => ?_) (fun q3 => ?_)
        · have q4 : 0 ≤ dwZ (dxD G s x (p + 1)) - G (54 + p) := cl.mp q3
          have eh : heD G s x p = true := by unfold heD; rw [← ed, decide_eq_false (by omega)]; rfl
          rw [show orI (fun f => preP G s f && (decide (p ≤ f) || heD G s x f)) (G 3).toNat = orI (fun f => preP G s f && (decide (p + 1 ≤ f) || heD G s x f)) (G 3).toNat from orI_cg _ (fun f hf => by
            by_cases c : f = p
            · rw [c]; rw [q2, eh, Bool.or_true, Bool.or_true]
            · rw [show decide (p ≤ f) = decide (p + 1 ≤ f) from decide_eq_decide.mpr (by omega)])]
          refine V_iinc (v := Int32.ofInt ((p : Int))) mi_97_123 (by simp [stL, stL2, lv_args, Value.category]) ?_
          rw [ia2]
          refine V_goto mi_97_126 ?_
          refine V_sub (lv' := [(0, .ref (ad 28)), (1, .ref (ad 4)), (2, .long (Int64.ofInt (x0))), (4, .long (Int64.ofInt (dxD G s x (p + 1)))), (6, .int (iv)), (7, .int (Int32.ofInt ((s : Int)))), (8, .int (Int32.ofInt (orI (fun f => preP G s f && (decide (p + 1 ≤ f) || heD G s x f)) (G 3).toNat))), (9, .int (Int32.ofInt (((p + 1 : Nat) : Int))))]) (fun q hq => ?_) ?_
          · simp only [List.mem_cons, List.not_mem_nil, or_false] at hq
            rcases hq with rfl | rfl | rfl | rfl | rfl | rfl | rfl | rfl <;> simp [stL, stL2, lv_args, Value.category]
          exact pd_49 hG hX hB hs hprs m (p + 1) (by omega) kk
        · have q4 : ¬ 0 ≤ dwZ (dxD G s x (p + 1)) - G (54 + p) := fun h => q3 (cl.mpr h)
          have eh : heD G s x p = false := by unfold heD; rw [← ed, decide_eq_true (by omega)]; rfl
          refine V_iload (v := Int32.ofInt (orI (fun f => preP G s f && (decide (p ≤ f) || heD G s x f)) (G 3).toNat)) mi_97_112 (by simp [stL, stL2, lv_args, Value.category]) ?_
          refine V_ipush mi_97_114 ?_
          refine V_iload (v := Int32.ofInt ((p : Int))) mi_97_115 (by simp [stL, stL2, lv_args, Value.category]) ?_
          refine V_ibin mi_97_117 (by omega) ?_
          refine V_ipush mi_97_118 ?_
          refine V_ibin mi_97_119 (by omega) ?_
          refine V_ibin mi_97_120 (by omega) ?_
          rw [clB_i, orI_cl (Q := (fun f => preP G s f && (decide (p + 1 ≤ f) || heD G s x f))) (by omega) (by omega) (fun f hf => ?hq)]
          case hq =>
            by_cases c : f = p
            · rw [c, Nat.beq_refl, eh, decide_eq_false (by omega), Bool.or_false, Bool.and_false, Bool.not_true, Bool.and_false]
            · rw [show Nat.beq f p = false from Bool.eq_false_iff.mpr (fun e => c (Nat.eq_of_beq_eq_true e)), Bool.not_false, Bool.and_true, show decide (p ≤ f) = decide (p + 1 ≤ f) from decide_eq_decide.mpr (by omega)]
          refine V_istore mi_97_121 ?_
          refine V_iinc (v := Int32.ofInt ((p : Int))) mi_97_123 (by simp [stL, stL2, lv_args, Value.category]) ?_
          rw [ia2]
          refine V_goto mi_97_126 ?_
          refine V_sub (lv' := [(0, .ref (ad 28)), (1, .ref (ad 4)), (2, .long (Int64.ofInt (x0))), (4, .long (Int64.ofInt (dxD G s x (p + 1)))), (6, .int (iv)), (7, .int (Int32.ofInt ((s : Int)))), (8, .int (Int32.ofInt (orI (fun f => preP G s f && (decide (p + 1 ≤ f) || heD G s x f)) (G 3).toNat))), (9, .int (Int32.ofInt (((p + 1 : Nat) : Int))))]) (fun q hq => ?_) ?_
          · simp only [List.mem_cons, List.not_mem_nil, or_false] at hq
            rcases hq with rfl | rfl | rfl | rfl | rfl | rfl | rfl | rfl <;> simp [stL, stL2, lv_args, Value.category]
          exact pd_49 hG hX hB hs hprs m (p + 1) (by omega) kk
theorem pdx_11 {G : Nat → Int} {w0 : va_W} (hX0 : HX 4 G w0) (hS0 : STO G w0) (hB : HB G) (wf : WF G) {x0 : Int} {h : Nat} {post : Option Value → va_W → Prop} : ∀ (m s : Nat) (S : TT × Int) (ws : va_W), s + m = (G 4).toNat → kOK S.1.K → GOK ad tys GG ws → XSC w0 ws → XKN G S.1.K ws → (∀ w : va_W, GOK ad tys GG w → XSC w0 w → XKN G (sayW G huF (heD G) (dxD G) h m s S).1.K w → kOK (sayW G huF (heD G) (dxD G) h m s S).1.K → V l D tys A 97 3 0 0 post 0 0 11 [(0, .ref (ad 28)), (1, .ref (ad 4)), (2, .long (Int64.ofInt (x0))), (4, .long (Int64.ofInt ((sayW G huF (heD G) (dxD G) h m s S).2))), (6, .int (Int32.ofInt (((cntH G (G 4).toNat (h + 1) : Nat) : Int))))] [] w) → V l D tys A 97 3 0 0 post 0 0 11 [(0, .ref (ad 28)), (1, .ref (ad 4)), (2, .long (Int64.ofInt (x0))), (4, .long (Int64.ofInt (S.2))), (6, .int (Int32.ofInt (((cntH G (G 4).toNat h + cntS G h s : Nat) : Int))))] [] ws
  | 0, s, S, ws, hm, hk, hG, hO, hK, kk => by
    have e : cntH G (G 4).toNat (h + 1) = cntH G (G 4).toNat h + cntS G h s := by rw [show s = (G 4).toNat by omega]; rfl
    rw [e] at kk
    exact kk ws hG hO hK hk
  | m + 1, s, S, ws, hm, hk, hG, hO, hK, kk => by
    by_cases e : sWhn G s = h
    · have hX : HX 4 G ws := XSC_X hO hX0
      have b4 := hB.b4
      have b3 := hB.b3
      have wn := WF_n hB wf
      have ep : pos G (G 4).toNat s = cntH G (G 4).toNat h + cntS G h s := by unfold pos; rw [e]
      have pn : pos G (G 4).toNat s < (G 4).toNat := pos_n wn (by omega)
      obtain ⟨⟨w6, o6, i6, n24⟩, g0, g1, g2, g3⟩ := say_b hB (s := s) (by omega)
      have hord : rd ws 29 (cntH G (G 4).toNat h + cntS G h s) = some (.int (Int32.ofInt (s : Int))) := by rw [← ep]; exact (hO 29 _ (by omega)).trans (hS0.1 s (by omega))
      have hprs : rd ws 30 s = some (.int (Int32.ofInt (orI (preP G s) (G 3).toNat))) := (hO 30 _ (by omega)).trans (hS0.2.1 s (by omega))
      have ec : cntS G h (s + 1) = cntS G h s + 1 := cntS_hit e
      have es : sayW G huF (heD G) (dxD G) h (m + 1) s S = sayW G huF (heD G) (dxD G) h m (s + 1) (oneW G huF (heD G) (dxD G) s S) := by
        show sayW G huF (heD G) (dxD G) h m (s + 1) (if sWhn G s = h then oneW G huF (heD G) (dxD G) s S else S) = _
        rw [if_pos e]
      rw [es] at kk
      refine V_iload (v := Int32.ofInt (((cntH G (G 4).toNat h + cntS G h s : Nat) : Int))) mi_97_11 (by simp [stL, stL2, lv_args, Value.category]) ?_
      refine V_aload (v := ad 4) mi_97_13 (by simp [stL, stL2, lv_args, Value.category]) ?_
      refine V_gO mi_97_14 g4o hG (show rd _ 4 5 = some (.int (Int32.ofInt (G 4))) from hx0 hX (i := 5) (by omega)) ?_
      refine V_cge mi_97_17 ⟨by omega, by omega⟩ ⟨by omega, by omega⟩ (fun q => ?_) (fun q => ?_)
      · exact absurd q (by omega)
      · refine V_aload (v := ad 28) mi_97_20 (by simp [stL, stL2, lv_args, Value.category]) ?_
        refine V_iload (v := Int32.ofInt (((cntH G (G 4).toNat h + cntS G h s : Nat) : Int))) mi_97_21 (by simp [stL, stL2, lv_args, Value.category]) ?_
        refine V_cO (As := [.int (Int32.ofInt (((cntH G (G 4).toNat h + cntS G h s : Nat) : Int)))]) (st := []) mi_97_23 (by omega) (by decide +kernel) (by decide +kernel) (by omega) g28o hG (ino_ct (s := cntH G (G 4).toNat h + cntS G h s) hG (by omega) hord) (by omega) (show 1 = mN 90 by decide +kernel) (by simp [Value.category]) ?_
        rintro r w1 ⟨e1, rfl⟩
        rw [e1]
        refine V_istore mi_97_26 ?_
        refine V_aload (v := ad 28) mi_97_28 (by simp [stL, stL2, lv_args, Value.category]) ?_
        refine V_aload (v := ad 4) mi_97_29 (by simp [stL, stL2, lv_args, Value.category]) ?_
        refine V_iload (v := Int32.ofInt ((s : Int))) mi_97_30 (by simp [stL, stL2, lv_args, Value.category]) ?_
        refine V_cO (As := [.ref (ad 4), .int (Int32.ofInt ((s : Int)))]) (st := []) mi_97_32 (by omega) (by decide +kernel) (by decide +kernel) (by omega) g28o hG (csy_ct hG hX hB wf hk hK (s := s) (by omega)) (by omega) (show 2 = mN 91 by decide +kernel) (by simp [Value.category]) ?_
        rintro r w2 ⟨e2, rfl⟩
        rw [e2]
        refine V_beq mi_97_35  (fun q3 => ?_) (fun q3 => ?_)
        · have e1w : oneW G huF (heD G) (dxD G) s S = S := by unfold oneW; rw [if_neg (fun k => by rw [q3] at k; exact absurd k.2 Bool.false_ne_true)]
          rw [e1w] at kk
          refine V_iinc (v := Int32.ofInt (((cntH G (G 4).toNat h + cntS G h s : Nat) : Int))) mi_97_139 (by simp [stL, stL2, lv_args, Value.category]) ?_
          rw [ia2]
          rw [show ((cntH G (G 4).toNat h + cntS G h s : Nat) : Int) + (1) = ((cntH G (G 4).toNat h + cntS G h (s + 1) : Nat) : Int) by omega]
          refine V_goto mi_97_142 ?_
          refine V_sub (lv' := [(0, .ref (ad 28)), (1, .ref (ad 4)), (2, .long (Int64.ofInt (x0))), (4, .long (Int64.ofInt (S.2))), (6, .int (Int32.ofInt (((cntH G (G 4).toNat h + cntS G h (s + 1) : Nat) : Int))))]) (fun q hq => ?_) ?_
          · simp only [List.mem_cons, List.not_mem_nil, or_false] at hq
            rcases hq with rfl | rfl | rfl | rfl | rfl <;> simp [stL, stL2, lv_args, Value.category]
          exact pdx_11 hX0 hS0 hB wf m (s + 1) S ws (by omega) hk hG hO hK kk
        · have e1w : oneW G huF (heD G) (dxD G) s S = ((spW (pW G (heD G) s S.2) G s (G 3).toNat S.1.K, ibF 6 S.1.sd (ibF 8 (Int32.ofInt 1) (Int32.ofInt (s : Int))), updI S.1.hb s (orI (pW G (heD G) s S.2) (G 3).toNat), updI S.1.lb s (orI (lrW (pW G (heD G) s S.2) G S.1.K s) (G 3).toNat)), dxD G s S.2 (G 3).toNat) := by unfold oneW; rw [if_pos ⟨rfl, q3⟩]
          rw [e1w] at kk
          refine V_aload (v := ad 28) mi_97_38 (by simp [stL, stL2, lv_args, Value.category]) ?_
          refine V_iload (v := Int32.ofInt ((s : Int))) mi_97_39 (by simp [stL, stL2, lv_args, Value.category]) ?_
          refine V_cO (As := [.int (Int32.ofInt ((s : Int)))]) (st := []) mi_97_41 (by omega) (by decide +kernel) (by decide +kernel) (by omega) g28o hG (prs_ct (s := s) hG (by omega) hprs) (by omega) (show 1 = mN 89 by decide +kernel) (by simp [Value.category]) ?_
          rintro r w3 ⟨e3, rfl⟩
          rw [e3, show orI (preP G s) (G 3).toNat = orI (fun f => preP G s f && (decide (0 ≤ f) || heD G s S.2 f)) (G 3).toNat from orI_cg _ (fun f hf => by rw [decide_eq_true (Nat.zero_le f), Bool.true_or, Bool.and_true])]
          refine V_istore mi_97_44 ?_
          refine V_ipush mi_97_46 ?_
          refine V_istore mi_97_47 ?_
          have iK : kOK (spW (pW G (heD G) s S.2) G s (G 3).toNat S.1.K) := spW_ok hk i6
          refine V_sub (lv' := [(0, .ref (ad 28)), (1, .ref (ad 4)), (2, .long (Int64.ofInt (x0))), (4, .long (Int64.ofInt (dxD G s S.2 0))), (6, .int (Int32.ofInt (((cntH G (G 4).toNat h + cntS G h s : Nat) : Int)))), (7, .int (Int32.ofInt ((s : Int)))), (8, .int (Int32.ofInt (orI (fun f => preP G s f && (decide (0 ≤ f) || heD G s S.2 f)) (G 3).toNat))), (9, .int (Int32.ofInt (((0 : Nat) : Int))))]) (fun q hq => ?_) ?_
          · simp only [List.mem_cons, List.not_mem_nil, or_false] at hq
            rcases hq with rfl | rfl | rfl | rfl | rfl | rfl | rfl | rfl <;> simp [stL, stL2, lv_args, Value.category]
          refine pd_49 hG hX hB (by omega) hprs (G 3).toNat 0 (by omega) ?_
          refine V_aload (v := ad 28) mi_97_129 (by simp [stL, stL2, lv_args, Value.category]) ?_
          refine V_aload (v := ad 4) mi_97_130 (by simp [stL, stL2, lv_args, Value.category]) ?_
          refine V_iload (v := Int32.ofInt ((s : Int))) mi_97_131 (by simp [stL, stL2, lv_args, Value.category]) ?_
          refine V_iload (v := Int32.ofInt (orI (pW G (heD G) s S.2) (G 3).toNat)) mi_97_133 (by simp [stL, stL2, lv_args, Value.category]) ?_
          refine V_cO (As := [.ref (ad 4), .int (Int32.ofInt ((s : Int))), .int (Int32.ofInt (orI (pW G (heD G) s S.2) (G 3).toNat))]) (st := []) mi_97_135 (by omega) (by decide +kernel) (by decide +kernel) (by omega) g28o hG (sprw_ct (P := pW G (heD G) s S.2) hG hX hB hk hK (s := s) (by omega)) (by omega) (show 3 = mN 92 by decide +kernel) (by simp [Value.category]) ?_
          rintro r w4 ⟨rfl, G4, k4, o4⟩
          refine V_pop mi_97_138 (by simp [Value.category]) ?_
          refine V_iinc (v := Int32.ofInt (((cntH G (G 4).toNat h + cntS G h s : Nat) : Int))) mi_97_139 (by simp [stL, stL2, lv_args, Value.category]) ?_
          rw [ia2]
          rw [show ((cntH G (G 4).toNat h + cntS G h s : Nat) : Int) + (1) = ((cntH G (G 4).toNat h + cntS G h (s + 1) : Nat) : Int) by omega]
          refine V_goto mi_97_142 ?_
          refine V_sub (lv' := [(0, .ref (ad 28)), (1, .ref (ad 4)), (2, .long (Int64.ofInt (x0))), (4, .long (Int64.ofInt (dxD G s S.2 (G 3).toNat))), (6, .int (Int32.ofInt (((cntH G (G 4).toNat h + cntS G h (s + 1) : Nat) : Int))))]) (fun q hq => ?_) ?_
          · simp only [List.mem_cons, List.not_mem_nil, or_false] at hq
            rcases hq with rfl | rfl | rfl | rfl | rfl <;> simp [stL, stL2, lv_args, Value.category]
          exact pdx_11 hX0 hS0 hB wf m (s + 1) ((spW (pW G (heD G) s S.2) G s (G 3).toNat S.1.K, _, _, _), dxD G s S.2 (G 3).toNat) w4 (by omega) iK G4 (fun c j hc => (o4 c j (by omega)).trans (hO c j hc)) k4 kk
    · have es : sayW G huF (heD G) (dxD G) h (m + 1) s S = sayW G huF (heD G) (dxD G) h m (s + 1) S := by
        show sayW G huF (heD G) (dxD G) h m (s + 1) (if sWhn G s = h then _ else S) = _
        rw [if_neg e]
      rw [es] at kk
      rw [← cntS_no e]
      exact pdx_11 hX0 hS0 hB wf m (s + 1) S ws (by omega) hk hG hO hK kk
theorem pdh_11 {G : Nat → Int} {w0 : va_W} (hX0 : HX 4 G w0) (hS0 : STO G w0) (hB : HB G) (wf : WF G) {x0 : Int} {post : Option Value → va_W → Prop} : ∀ (m h : Nat) (ws : va_W), ((h + m : Nat) : Int) = G 2 → kOK (dwS G x0 h).1.K → GOK ad tys GG ws → XSC w0 ws → XKN G (dwS G x0 h).1.K ws → (∀ w : va_W, GOK ad tys GG w → XSC w0 w → XKN G (dwS G x0 (G 2).toNat).1.K w → post none w) → V l D tys A 97 3 0 0 post 0 0 11 [(0, .ref (ad 28)), (1, .ref (ad 4)), (2, .long (Int64.ofInt (x0))), (4, .long (Int64.ofInt ((dwS G x0 h).2))), (6, .int (Int32.ofInt (((cntH G (G 4).toNat h : Nat) : Int))))] [] ws
  | 0, h, ws, hm, hk, hG, hO, hK, kk => by
    have hX : HX 4 G ws := XSC_X hO hX0
    have b4 := hB.b4
    have e0 : h = (G 2).toNat := by omega
    have ec : cntH G (G 4).toNat h = (G 4).toNat := by rw [e0]; exact cntH_all _ (WF_n hB wf)
    rw [e0] at hK
    refine V_iload (v := Int32.ofInt (((cntH G (G 4).toNat h : Nat) : Int))) mi_97_11 (by simp [stL, stL2, lv_args, Value.category]) ?_
    refine V_aload (v := ad 4) mi_97_13 (by simp [stL, stL2, lv_args, Value.category]) ?_
    refine V_gO mi_97_14 g4o hG (show rd _ 4 5 = some (.int (Int32.ofInt (G 4))) from hx0 hX (i := 5) (by omega)) ?_
    refine V_cge mi_97_17 ⟨by omega, by omega⟩ ⟨by omega, by omega⟩ (fun q => ?_) (fun q => ?_)
    · exact V_retV mi_97_145 (kk ws hG hO hK)
    · exact absurd q (by omega)
  | m + 1, h, ws, hm, hk, hG, hO, hK, kk => by
    have b4 := hB.b4
    exact pdx_11 hX0 hS0 hB wf (h := h) (G 4).toNat 0 (dwS G x0 h) ws (by omega) hk hG hO hK (fun w g o' k kk2 => pdh_11 hX0 hS0 hB wf m (h + 1) w (by omega) kk2 g o' k kk)
theorem pld_ct {G : Nat → Int} (hG : GOK ad tys GG ws) (hX : HX 4 G ws) (hS : STO G ws) (hB : HB G) (wf : WF G) {x0 : Int} : CT l D tys A 97 3 0 0 [.ref (ad 28), .ref (ad 4), .long (Int64.ofInt (x0))] ws (fun r w => r = none ∧ GOK ad tys GG w ∧ XSC ws w ∧ XKN G (dwS G x0 (G 2).toNat).1.K w) := by
  refine CT_of_V (by omega) (show (4 : Nat) ≤ mML 97 by decide +kernel) ?_
  have b2 := hB.b2
  refine V_lload (v := Int64.ofInt (x0)) mi_97_0 (by simp [stL, stL2, lv_args, Value.category]) ?_
  refine V_lstore mi_97_1 ?_
  refine V_aload (v := ad 28) mi_97_3 (by simp [stL, stL2, lv_args, Value.category]) ?_
  refine V_aload (v := ad 4) mi_97_4 (by simp [stL, stL2, lv_args, Value.category]) ?_
  refine V_cO (As := [.ref (ad 4)]) (st := []) mi_97_5 (by omega) (by decide +kernel) (by decide +kernel) (by omega) g28o hG (bgn_ct hG hX hB) (by omega) (show 1 = mN 87 by decide +kernel) (by simp [Value.category]) ?_
  rintro r w1 ⟨rfl, G1, k1, o1⟩
  refine V_ipush mi_97_8 ?_
  refine V_istore mi_97_9 ?_
  refine V_sub (lv' := [(0, .ref (ad 28)), (1, .ref (ad 4)), (2, .long (Int64.ofInt (x0))), (4, .long (Int64.ofInt (x0))), (6, .int (Int32.ofInt (0)))]) (fun q hq => ?_) ?_
  · simp only [List.mem_cons, List.not_mem_nil, or_false] at hq
    rcases hq with rfl | rfl | rfl | rfl | rfl <;> simp [stL, stL2, lv_args, Value.category]
  rw [show Int32.ofInt (0 : Int) = Int32.ofInt ((cntH G (G 4).toNat 0 : Nat) : Int) from rfl]
  exact pdh_11 hX hS hB wf (G 2).toNat 0 w1 (by omega) (ini_ok hB) G1 (fun c j hc => o1 c j (by omega)) k1 (fun w g o2 k => ⟨rfl, g, o2, k⟩)
theorem dwnX_ct {G : Nat → Int} (hG : GOK ad tys GG ws) (hX : HX 4 G ws) (hB : HB G) (hS : STO G ws) (wf : WF G) {s f o : Int} (sI : I32 s) (fI : I32 f) (oI : I32 o) : CT l D tys A 64 4 0 0 [.ref (ad 0), .int (Int32.ofInt (s)), .int (Int32.ofInt (f)), .int (Int32.ofInt (o))] ws (fun r w => (GOK ad tys GG w ∧ XSC ws w) ∧ r = some (.int (if (0 ≤ s ∧ s ≤ 2000000000) ∧ (0 ≤ f ∧ f < G 3) ∧ (0 ≤ o ∧ o < G 3) then Int32.ofInt ((dwS G s (G 2).toNat).1.K (6 * f.toNat + o.toNat)) else Int32.ofInt (-2)))) := by
  refine CT_of_V (by omega) (show (4 : Nat) ≤ mML 64 by decide +kernel) ?_
  have b3 := hB.b3
  have b2 := hB.b2
  have s1 := sI.1
  have s2 := sI.2
  refine V_iload (v := Int32.ofInt (s)) mi_64_0 (by simp [stL, stL2, lv_args, Value.category]) ?_
  refine V_zlt mi_64_1 sI (fun q => ?_) (fun q => ?_)
  · refine V_ipush mi_64_33 ?_
    exact V_retI mi_64_35 (fun h => absurd h (by decide +kernel)) ⟨⟨hG, fun _ _ _ => rfl⟩, by rw [if_neg (fun k => by have := k.1.1; omega)]⟩
  · refine V_iload (v := Int32.ofInt (s)) mi_64_4 (by simp [stL, stL2, lv_args, Value.category]) ?_
    refine V_ipush mi_64_5 ?_
    refine V_cgt mi_64_8 ⟨by omega, by omega⟩ ⟨by omega, by omega⟩ (fun q2 => ?_) (fun q2 => ?_)
    · refine V_ipush mi_64_33 ?_
      exact V_retI mi_64_35 (fun h => absurd h (by decide +kernel)) ⟨⟨hG, fun _ _ _ => rfl⟩, by rw [if_neg (fun k => by have := k.1.2; omega)]⟩
    · refine V_aload (v := ad 0) mi_64_11 (by simp [stL, stL2, lv_args, Value.category]) ?_
      refine V_gR mi_64_12 g0r2 (by omega) hG ?_
      refine V_iload (v := Int32.ofInt (f)) mi_64_15 (by simp [stL, stL2, lv_args, Value.category]) ?_
      refine V_cO (As := [.int (Int32.ofInt (f))]) (st := []) mi_64_16 (by omega) (by decide +kernel) (by decide +kernel) (by omega) g4o hG (hfk_ct hG hX hB fI) (by omega) (show 1 = mN 102 by decide +kernel) (by simp [Value.category]) ?_
      rintro r w1 ⟨rfl, rfl⟩
      refine V_beq mi_64_19  (fun c1 => ?_) (fun c1 => ?_)
      · refine V_ipush mi_64_33 ?_
        exact V_retI mi_64_35 (fun h => absurd h (by decide +kernel)) ⟨⟨hG, fun _ _ _ => rfl⟩, by rw [if_neg (fun k => of_decide_eq_false c1 k.2.1)]⟩
      · refine V_aload (v := ad 0) mi_64_22 (by simp [stL, stL2, lv_args, Value.category]) ?_
        refine V_gR mi_64_23 g0r2 (by omega) hG ?_
        refine V_iload (v := Int32.ofInt (o)) mi_64_26 (by simp [stL, stL2, lv_args, Value.category]) ?_
        refine V_cO (As := [.int (Int32.ofInt (o))]) (st := []) mi_64_27 (by omega) (by decide +kernel) (by decide +kernel) (by omega) g4o hG (hfk_ct hG hX hB oI) (by omega) (show 1 = mN 102 by decide +kernel) (by simp [Value.category]) ?_
        rintro r w2 ⟨rfl, rfl⟩
        refine V_bne mi_64_30  (fun c2 => ?_) (fun c2 => ?_)
        · have k1 := of_decide_eq_true c1
          have k2 := of_decide_eq_true c2
          obtain ⟨m, rfl⟩ := Int.eq_ofNat_of_zero_le k1.1
          obtain ⟨n, rfl⟩ := Int.eq_ofNat_of_zero_le k2.1
          refine V_aload (v := ad 0) mi_64_36 (by simp [stL, stL2, lv_args, Value.category]) ?_
          refine V_gR mi_64_37 g0r4 (by omega) hG ?_
          refine V_aload (v := ad 0) mi_64_40 (by simp [stL, stL2, lv_args, Value.category]) ?_
          refine V_gR mi_64_41 g0r2 (by omega) hG ?_
          refine V_iload (v := Int32.ofInt (s)) mi_64_44 (by simp [stL, stL2, lv_args, Value.category]) ?_
          refine V_i2l mi_64_45 ?_
          rw [i2lx ⟨by omega, by omega⟩]
          refine V_cO (As := [.ref (ad 4), .long (Int64.ofInt (s))]) (st := []) mi_64_46 (by omega) (by decide +kernel) (by decide +kernel) (by omega) g28o hG (pld_ct (x0 := s) hG hX hS hB wf) (by omega) (show 2 = mN 97 by decide +kernel) (by simp [Value.category]) ?_
          rintro r w3 ⟨rfl, G3, o3, k3⟩
          refine V_aload (v := ad 0) mi_64_49 (by simp [stL, stL2, lv_args, Value.category]) ?_
          refine V_gR mi_64_50 g0r4 (by omega) G3 ?_
          refine V_iload (v := Int32.ofInt ((m : Int))) mi_64_53 (by simp [stL, stL2, lv_args, Value.category]) ?_
          refine V_iload (v := Int32.ofInt ((n : Int))) mi_64_54 (by simp [stL, stL2, lv_args, Value.category]) ?_
          refine V_cO (As := [.int (Int32.ofInt ((m : Int))), .int (Int32.ofInt ((n : Int)))]) (st := []) mi_64_55 (by omega) (by decide +kernel) (by decide +kernel) (by omega) g28o G3 (bts_ct (f := m) (o := n) G3 (by omega) (by omega) (k3 _ (by omega) (by omega))) (by omega) (show 2 = mN 88 by decide +kernel) (by simp [Value.category]) ?_
          rintro r w4 ⟨rfl, rfl⟩
          exact V_retI mi_64_58 (fun h => absurd h (by decide +kernel)) ⟨⟨G3, o3⟩, by rw [if_pos ⟨⟨q, q2⟩, k1, k2⟩, Int.toNat_natCast, Int.toNat_natCast]⟩
        · refine V_ipush mi_64_33 ?_
          exact V_retI mi_64_35 (fun h => absurd h (by decide +kernel)) ⟨⟨hG, fun _ _ _ => rfl⟩, by rw [if_neg (fun k => of_decide_eq_false c2 k.2.2)]⟩
theorem see_ct {s : Int} (sI : I32 s) : CT l D tys A 332 1 0 0 [.int (Int32.ofInt (s))] ws (fun r w => w = ws ∧ r = some (.int (bI (decide (0 ≤ s ∧ s ≤ 2000000000))))) := by
  refine CT_of_V (by omega) (show (1 : Nat) ≤ mML 332 by decide +kernel) ?_
  have s1 := sI.1
  have s2 := sI.2
  refine V_iload (v := Int32.ofInt (s)) mi_332_0 (by simp [stL, stL2, lv_args, Value.category]) ?_
  refine V_i2l mi_332_1 ?_
  rw [i2lx ⟨by omega, by omega⟩]
  refine V_lpush mi_332_2 ?_
  refine V_lpush mi_332_3 ?_
  refine V_stat (As := [.long (Int64.ofInt (s)), .long (Int64.ofInt (0)), .long (Int64.ofInt (2000000000))]) (st := []) mi_332_6 (by omega) (inM2 (m := s) (lo := 0) (hi := 2000000000) (by omega) (by omega) (by omega) (by omega) (by omega) (by omega)) (by omega) (show 3 = mN 193 by decide +kernel) (by simp [Value.category]) ⟨Nat.le_refl _, Nat.le_refl _⟩ ?_
  rintro r w2 ⟨rfl, rfl⟩
  exact V_retI mi_332_9 (fun _ => by cases decide (0 ≤ s ∧ s ≤ 2000000000) <;> decide) ⟨rfl, rfl⟩
theorem itz_ct {G : Nat → Int} (hB : HB G) (hG : GOK ad tys GG ws) (hW : W91 G ws) {f o : Nat} {z : Int} (hf : f < 6) (ho : o < 6) (hz : rd ws 98 (36 * (G 2).toNat + (6 * f + o)) = some (.int (Int32.ofInt z))) : CT l D tys A 240 1 0 0 [.ref (ad 90), .int (Int32.ofInt ((f : Int))), .int (Int32.ofInt ((o : Int)))] ws (fun r w => w = ws ∧ r = some (.int (Int32.ofInt z))) := by
  refine CT_of_V (by omega) (show (3 : Nat) ≤ mML 240 by decide +kernel) ?_
  obtain ⟨s91, e91, -⟩ := g91s
  have b2 := hB.b2
  refine V_aload (v := ad 90) mi_240_0 (by simp [stL, stL2, lv_args, Value.category]) ?_
  refine V_iload (v := Int32.ofInt ((f : Int))) mi_240_1 (by simp [stL, stL2, lv_args, Value.category]) ?_
  refine V_iload (v := Int32.ofInt ((o : Int))) mi_240_2 (by simp [stL, stL2, lv_args, Value.category]) ?_
  refine V_aload (v := ad 90) mi_240_3 (by simp [stL, stL2, lv_args, Value.category]) ?_
  refine V_getI mi_240_4 hG (rref gr1m (by omega) hG) ?_
  refine V_ipush mi_240_7 ?_
  refine V_aldX (j := 2) mi_240_8 rfl hG e91 (by omega) (by omega) (hW _ (by omega)) ?_
  rw [show G 2 = (((G 2).toNat : Nat) : Int) by omega]
  refine V_callM (As := [.int (Int32.ofInt ((f : Int))), .int (Int32.ofInt ((o : Int))), .int (Int32.ofInt (((G 2).toNat : Int)))]) (st := []) mi_240_9 (by omega) (by decide +kernel) (by decide +kernel) hG (kah_ct (f := f) (o := o) (g := (G 2).toNat) hG hf ho (by omega) hz) (by omega) (show 3 = mN 239 by decide +kernel) (by simp [Value.category]) ?_
  rintro r w2 ⟨rfl, rfl⟩
  exact V_retI mi_240_12 (fun h => absurd h (by decide +kernel)) ⟨rfl, rfl⟩
theorem dwnM_ct {G : Nat → Int} (hG : GOK ad tys GG ws) (hW : W91 G ws) (hB : HB G) (h24 : rd ws 90 24 = some (.int (Int32.ofInt 0))) (h22 : rd ws 90 22 = some (.int (Int32.ofInt (-1)))) {s f o : Int} (sI : I32 s) (fI : I32 f) (oI : I32 o) : CT l D tys A 333 10 0 0 [.ref (ad 90), .int (Int32.ofInt (s)), .int (Int32.ofInt (f)), .int (Int32.ofInt (o))] ws (fun r w => (GOK ad tys GG w ∧ MTW ws w) ∧ r = some (.int (if (0 ≤ s ∧ s ≤ 2000000000) ∧ (0 ≤ f ∧ f < G 3) ∧ (0 ≤ o ∧ o < G 3) then Int32.ofInt ((dwS G s (G 2).toNat).1.K (6 * f.toNat + o.toNat)) else Int32.ofInt (-2)))) := by
  refine CT_of_V (by omega) (show (4 : Nat) ≤ mML 333 by decide +kernel) ?_
  have b3 := hB.b3
  have b2 := hB.b2
  have s1 := sI.1
  have s2 := sI.2
  refine V_iload (v := Int32.ofInt (s)) mi_333_0 (by simp [stL, stL2, lv_args, Value.category]) ?_
  refine V_stat (As := [.int (Int32.ofInt (s))]) (st := []) mi_333_1 (by omega) (see_ct sI) (by omega) (show 1 = mN 332 by decide +kernel) (by simp [Value.category]) ⟨Nat.le_refl _, Nat.le_refl _⟩ ?_
  rintro r w1 ⟨rfl, rfl⟩
  refine V_beq mi_333_4  (fun c0 => ?_) (fun c0 => ?_)
  · refine V_ipush mi_333_23 ?_
    exact V_retI mi_333_25 (fun h => absurd h (by decide +kernel)) ⟨⟨hG, fun _ _ _ _ => rfl⟩, by rw [if_neg (fun k => of_decide_eq_false c0 k.1)]⟩
  · refine V_aload (v := ad 90) mi_333_7 (by simp [stL, stL2, lv_args, Value.category]) ?_
    refine V_iload (v := Int32.ofInt (f)) mi_333_8 (by simp [stL, stL2, lv_args, Value.category]) ?_
    refine V_callM (As := [.int (Int32.ofInt (f))]) (st := []) mi_333_9 (by omega) (by decide +kernel) (by decide +kernel) hG (mfk_ct hG hW hB fI) (by omega) (show 1 = mN 199 by decide +kernel) (by simp [Value.category]) ?_
    rintro r w1 ⟨rfl, rfl⟩
    refine V_beq mi_333_12  (fun c1 => ?_) (fun c1 => ?_)
    · refine V_ipush mi_333_23 ?_
      exact V_retI mi_333_25 (fun h => absurd h (by decide +kernel)) ⟨⟨hG, fun _ _ _ _ => rfl⟩, by rw [if_neg (fun k => of_decide_eq_false c1 k.2.1)]⟩
    · refine V_aload (v := ad 90) mi_333_15 (by simp [stL, stL2, lv_args, Value.category]) ?_
      refine V_iload (v := Int32.ofInt (o)) mi_333_16 (by simp [stL, stL2, lv_args, Value.category]) ?_
      refine V_callM (As := [.int (Int32.ofInt (o))]) (st := []) mi_333_17 (by omega) (by decide +kernel) (by decide +kernel) hG (mfk_ct hG hW hB oI) (by omega) (show 1 = mN 199 by decide +kernel) (by simp [Value.category]) ?_
      rintro r w2 ⟨rfl, rfl⟩
      refine V_bne mi_333_20  (fun c2 => ?_) (fun c2 => ?_)
      · have k0 := of_decide_eq_true c0
        have k1 := of_decide_eq_true c1
        have k2 := of_decide_eq_true c2
        obtain ⟨m, rfl⟩ := Int.eq_ofNat_of_zero_le k1.1
        obtain ⟨n, rfl⟩ := Int.eq_ofNat_of_zero_le k2.1
        refine V_aload (v := ad 90) mi_333_26 (by simp [stL, stL2, lv_args, Value.category]) ?_
        refine V_iload (v := Int32.ofInt (s)) mi_333_27 (by simp [stL, stL2, lv_args, Value.category]) ?_
        refine V_i2l mi_333_28 ?_
        rw [i2lx ⟨by omega, by omega⟩]
        refine V_callM (As := [.long (Int64.ofInt (s))]) (st := []) mi_333_29 (by omega) (by decide +kernel) (by decide +kernel) hG (gdr_ct (x := s) hB hG hW h24) (by omega) (show 1 = mN 331 by decide +kernel) (by simp [Value.category]) ?_
        rintro r w3 ⟨rfl, G3, k3, o3⟩
        refine V_aload (v := ad 90) mi_333_32 (by simp [stL, stL2, lv_args, Value.category]) ?_
        refine V_iload (v := Int32.ofInt ((m : Int))) mi_333_33 (by simp [stL, stL2, lv_args, Value.category]) ?_
        refine V_iload (v := Int32.ofInt ((n : Int))) mi_333_34 (by simp [stL, stL2, lv_args, Value.category]) ?_
        refine V_callM (As := [.int (Int32.ofInt ((m : Int))), .int (Int32.ofInt ((n : Int)))]) (st := []) mi_333_35 (by omega) (by decide +kernel) (by decide +kernel) G3 (itz_ct (f := m) (o := n) hB G3 (MTW_W o3 hW) (by omega) (by omega) (k3 _ (by omega))) (by omega) (show 2 = mN 240 by decide +kernel) (by simp [Value.category]) ?_
        rintro r w4 ⟨rfl, rfl⟩
        exact V_retI mi_333_38 (fun h => absurd h (by decide +kernel)) ⟨⟨G3, o3⟩, by rw [if_pos ⟨k0, k1, k2⟩, Int.toNat_natCast, Int.toNat_natCast]⟩
      · refine V_ipush mi_333_23 ?_
        exact V_retI mi_333_25 (fun h => absurd h (by decide +kernel)) ⟨⟨hG, fun _ _ _ _ => rfl⟩, by rw [if_neg (fun k => of_decide_eq_false c2 k.2.2)]⟩
theorem pairT_drawn (hAD : ∀ i : Nat, ad (1000 + i) = D.2 1000 i) (hG : GOK ad tys GG ws) (hR : RELW ws) (a1 a2 a3 : Int32) : PAIRT l D tys A ad 64 333 [.ref (ad 0), .int a1, .int a2, .int a3] [.ref (ad 90), .int a1, .int a2, .int a3] ws := by
  obtain ⟨G0, o0, x0, y0⟩ := hR.1.2.1
  obtain ⟨G, o, x, y, hb, wf, hS⟩ := aux_sto hR.2 x0 y0 o0 (hb_of hG y0 o0)
  have c1 := dwnX_ct (l := l) (D := D) (A := A) hG x hb hS wf (i32b a1) (i32b a2) (i32b a3)
  have c2 := fun (w : va_W) (hw : GOK ad tys GG w) (K : XSC ws w) => dwnM_ct (l := l) (D := D) (A := A) hw (XSC_W K y) hb ((K _ _ (by omega)).trans hR.2.2.2.2.2) ((K _ _ (by omega)).trans hR.2.2.2.2.1) (i32b a1) (i32b a2) (i32b a3)
  simp only [oi] at c1 c2
  exact pairT_sw hR (by omega) (by omega) c1 c2
end XUD
