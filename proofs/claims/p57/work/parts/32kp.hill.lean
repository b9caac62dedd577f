section XSA
variable {l : Launch} {D : va_G} {tys : List (ClassId × FieldType)} {A : Nat → Prop} {ad : Nat → Nat} {ws : va_W}
theorem gr16 : ∃ g, GG[90]? = some ((0, 11, 36), g) ∧ segAt g 16 = some (2, ((98 : Nat) : Int), ((98 : Nat) : Int)) := ⟨_, rfl, by decide +kernel⟩
theorem gr17 : ∃ g, GG[90]? = some ((0, 11, 36), g) ∧ segAt g 17 = some (2, ((99 : Nat) : Int), ((99 : Nat) : Int)) := ⟨_, rfl, by decide +kernel⟩
theorem gr19 : ∃ g, GG[90]? = some ((0, 11, 36), g) ∧ segAt g 19 = some (2, ((100 : Nat) : Int), ((100 : Nat) : Int)) := ⟨_, rfl, by decide +kernel⟩
theorem gr20 : ∃ g, GG[90]? = some ((0, 11, 36), g) ∧ segAt g 20 = some (2, ((101 : Nat) : Int), ((101 : Nat) : Int)) := ⟨_, rfl, by decide +kernel⟩
theorem a98 : gA 98 900 0 63 := gA_of rfl
theorem a99 : gA 99 36 0 63 := gA_of rfl
theorem a100 : gA 100 12 0 63 := gA_of rfl
theorem a101 : gA 101 12 0 63 := gA_of rfl
/-- bit i of a -/
noncomputable def tb (a i : Int) : Bool := decide ((ibF 5 (ibF 9 (Int32.ofInt a) (Int32.ofInt i)) (Int32.ofInt 1)).toInt = 1)
theorem tb_all : (List.range 64).all (fun a => (List.range 6).all (fun i => decide (ibF 5 (ibF 9 (Int32.ofInt (a : Nat)) (Int32.ofInt (i : Nat))) (Int32.ofInt 1) = bI (tb (a : Nat) (i : Nat))) && (!(tb (a : Nat) (i : Nat)) || decide (bitO (a : Nat) (i : Nat) = (a : Nat))) && decide (ibF 5 (Int32.ofInt (a : Nat)) (ibF 8 (Int32.ofInt 1) (Int32.ofInt (i : Nat))) = 0 ↔ tb (a : Nat) (i : Nat) = false))) = true := by decide +kernel
theorem tb_k {a i : Int} (a0 : 0 ≤ a) (a1 : a ≤ 63) (i0 : 0 ≤ i) (i1 : i ≤ 5) : ibF 5 (ibF 9 (Int32.ofInt a) (Int32.ofInt i)) (Int32.ofInt 1) = bI (tb a i) ∧ (tb a i = true → bitO a i = a) ∧ (ibF 5 (Int32.ofInt a) (ibF 8 (Int32.ofInt 1) (Int32.ofInt i)) = 0 ↔ tb a i = false) := by
  have h := List.all_eq_true.mp (List.all_eq_true.mp tb_all a.toNat (List.mem_range.mpr (by omega))) i.toNat (List.mem_range.mpr (by omega))
  rw [Int.toNat_of_nonneg a0, Int.toNat_of_nonneg i0, Bool.and_eq_true, Bool.and_eq_true, decide_eq_true_eq, decide_eq_true_eq] at h
  obtain ⟨⟨h1, h2⟩, h3⟩ := h
  refine ⟨h1, fun q => ?_, h3⟩
  rw [q, Bool.not_true, Bool.false_or, decide_eq_true_eq] at h2
  exact h2
theorem bitO_i (a i : Int) : ibF 6 (Int32.ofInt a) (ibF 8 (Int32.ofInt 1) (Int32.ofInt i)) = Int32.ofInt (bitO a i) := by
  unfold bitO
  rw [Int32.ofInt_toInt]
/-- those below n that P holds of, as bits -/
noncomputable def orI (P : Nat → Bool) : Nat → Int
  | 0 => 0
  | f + 1 => if P f = true then bitO (orI P f) (f : Int) else orI P f
theorem orI_bd {P : Nat → Bool} : ∀ {f : Nat}, f ≤ 6 → 0 ≤ orI P f ∧ orI P f ≤ 63
  | 0, _ => ⟨by show (0 : Int) ≤ 0; omega, by show (0 : Int) ≤ 63; omega⟩
  | f + 1, h => by
    have q := orI_bd (P := P) (f := f) (by omega)
    unfold orI
    split
    · exact bitO_bd q.1 q.2 (by omega) (by omega)
    · exact q
noncomputable def sWho (G : Nat → Int) (s : Nat) : Nat := (G (246 + 4 * s)).toNat
noncomputable def sWhs (G : Nat → Int) (s : Nat) : Nat := (G (246 + 4 * s + 1)).toNat
noncomputable def sWhi (G : Nat → Int) (s : Nat) : Nat := (G (246 + 4 * s + 2)).toNat
noncomputable def sWhn (G : Nat → Int) (s : Nat) : Nat := (G (246 + 4 * s + 3)).toNat
/-- who is there when it is said, but for the one who says it -/
noncomputable def preP (G : Nat → Int) (s f : Nat) : Bool := !(Nat.beq f (sWho G s)) && decide (G (102 + (24 * f + sWhn G s)) = G (102 + (24 * sWho G s + sWhn G s)))
noncomputable def lrnP (G K : Nat → Int) (s f : Nat) : Bool := preP G s f && !(tb (K (6 * f + sWhs G s)) (sWhi G s : Int))
noncomputable def canB (G K : Nat → Int) (s : Nat) : Bool := tb (K (6 * sWho G s + sWhs G s)) (sWhi G s : Int)
/-- what is known once the first n folk have heard it -/
noncomputable def spQ (G : Nat → Int) (s n : Nat) (K : Nat → Int) (j : Nat) : Int := if j % 6 = sWhs G s ∧ j / 6 < n ∧ preP G s (j / 6) = true then bitO (K j) (sWhi G s : Int) else K j
noncomputable def kOK (K : Nat → Int) : Prop := ∀ j, j < 36 → 0 ≤ K j ∧ K j ≤ 63
theorem say_b {G : Nat → Int} (hB : HB G) {s : Nat} (hs : s < 12) : (sWho G s < 6 ∧ sWhs G s < 6 ∧ sWhi G s < 6 ∧ sWhn G s < 24) ∧ G (246 + 4 * s) = (sWho G s : Int) ∧ G (246 + 4 * s + 1) = (sWhs G s : Int) ∧ G (246 + 4 * s + 2) = (sWhi G s : Int) ∧ G (246 + 4 * s + 3) = (sWhn G s : Int) := by
  obtain ⟨b0, b1, b2, b3⟩ := hB.by_ s hs
  unfold sWho sWhs sWhi sWhn
  omega
theorem spK_skip {G K : Nat → Int} {s n : Nat} (h : preP G s n = false) : spQ G s (n + 1) K = spQ G s n K := by
  funext j
  unfold spQ
  by_cases e : j / 6 = n
  · rw [if_neg (fun q => by rw [e, h] at q; exact absurd q.2.2 Bool.false_ne_true), if_neg (fun q => by omega)]
  · by_cases q : j % 6 = sWhs G s ∧ j / 6 < n ∧ preP G s (j / 6) = true
    · rw [if_pos q, if_pos ⟨q.1, by omega, q.2.2⟩]
    · rw [if_neg q, if_neg (fun u => q ⟨u.1, by omega, u.2.2⟩)]
theorem spK_step {G K : Nat → Int} {s n : Nat} (h : preP G s n = true) (hw : sWhs G s < 6) : spQ G s (n + 1) K = updI (spQ G s n K) (6 * n + sWhs G s) (bitO (K (6 * n + sWhs G s)) (sWhi G s : Int)) := by
  funext j
  show (if j % 6 = sWhs G s ∧ j / 6 < n + 1 ∧ preP G s (j / 6) = true then bitO (K j) (sWhi G s : Int) else K j) = (if j = 6 * n + sWhs G s then _ else (if j % 6 = sWhs G s ∧ j / 6 < n ∧ preP G s (j / 6) = true then bitO (K j) (sWhi G s : Int) else K j))
  by_cases e : j = 6 * n + sWhs G s
  · have e2 : j / 6 = n := by omega
    have e3 : j % 6 = sWhs G s := by omega
    rw [if_pos e, if_pos ⟨e3, by omega, by rw [e2]; exact h⟩, e]
  · rw [if_neg e]
    by_cases q : j % 6 = sWhs G s ∧ j / 6 < n ∧ preP G s (j / 6) = true
    · rw [if_pos q, if_pos ⟨q.1, by omega, q.2.2⟩]
    · rw [if_neg q, if_neg (fun u => q ⟨u.1, by omega, u.2.2⟩)]
theorem spK_new {G K : Nat → Int} {s n : Nat} (hw : sWhs G s < 6) : spQ G s n K (6 * n + sWhs G s) = K (6 * n + sWhs G s) := by
  unfold spQ
  rw [if_neg (fun q => by omega)]
theorem spK_0 {G K : Nat → Int} {s : Nat} : spQ G s 0 K = K := by
  funext j
  unfold spQ
  rw [if_neg (fun q => by omega)]
theorem spK_ok {G K : Nat → Int} {s n : Nat} (h : kOK K) (hi : sWhi G s < 6) : kOK (spQ G s n K) := fun j hj => by
  have b := h j hj
  unfold spQ
  split
  · exact bitO_bd b.1 b.2 (by omega) (by omega)
  · exact b
theorem hea_ct {f s : Nat} (hf : f < 6) (hs : s < 12) (hG : GOK ad tys GG ws) (h24 : rd ws 90 24 = some (.int (Int32.ofInt 0))) (h22 : rd ws 90 22 = some (.int (Int32.ofInt (-1)))) : CT l D tys A 235 1 0 0 [.ref (ad 90), .int (Int32.ofInt ((f : Int))), .int (Int32.ofInt ((s : Int)))] ws (fun r w => w = ws ∧ r = some (.int (bI true))) := by
  refine CT_of_V (by omega) (show (3 : Nat) ≤ mML 235 by decide +kernel) ?_
  refine V_aload (v := ad 90) mi_235_0 (by simp [stL, lv_args, Value.category]) ?_
  refine V_getI mi_235_1 hG (h24) ?_
  refine V_zeq mi_235_4 ⟨by omega, by omega⟩ (fun q => ?_) (fun q => ?_)
  · refine V_iload (v := Int32.ofInt ((f : Int))) mi_235_29 (by simp [stL, lv_args, Value.category]) ?_
    refine V_aload (v := ad 90) mi_235_30 (by simp [stL, lv_args, Value.category]) ?_
    refine V_getI mi_235_31 hG (h22) ?_
    refine V_cne mi_235_34 ⟨by omega, by omega⟩ ⟨by omega, by omega⟩ (fun q2 => ?_) (fun q2 => ?_)
    · refine V_ipush mi_235_48 ?_
      refine V_goto mi_235_49 ?_
      exact V_retI mi_235_53 (fun _ => by decide) ⟨rfl, rfl⟩
    · exact absurd q2 (by omega)
  · exact absurd rfl q
theorem sy_77 {G K : Nat → Int} {s : Nat} {w0 : va_W} {post : Option Value → va_W → Prop} (hB : HB G) (hs : s < 12) (hW0 : W91 G w0) (h24 : rd w0 90 24 = some (.int (Int32.ofInt 0))) (h22 : rd w0 90 22 = some (.int (Int32.ofInt (-1)))) : ∀ (m f : Nat) (w : va_W), ((f + m : Nat) : Int) = G 3 → GOK ad tys GG w → (∀ j, j < 36 → rd w 99 j = some (.int (Int32.ofInt (spQ G s f K j)))) → rd w 100 s = some (.int (Int32.ofInt (orI (preP G s) f))) → rd w 101 s = some (.int (Int32.ofInt (orI (lrnP G K s) f))) → (∀ c j, c ≠ 99 → ¬ (c = 100 ∧ j = s) → ¬ (c = 101 ∧ j = s) → rd w c j = rd w0 c j) → kOK K → (∀ w' : va_W, GOK ad tys GG w' → (∀ j, j < 36 → rd w' 99 j = some (.int (Int32.ofInt (spQ G s (G 3).toNat K j)))) → rd w' 100 s = some (.int (Int32.ofInt (orI (preP G s) (G 3).toNat))) → rd w' 101 s = some (.int (Int32.ofInt (orI (lrnP G K s) (G 3).toNat))) → (∀ c j, c ≠ 99 → ¬ (c = 100 ∧ j = s) → ¬ (c = 101 ∧ j = s) → rd w' c j = rd w0 c j) → post none w') → V l D tys A 236 5 0 0 post 0 0 77 [(0, .ref (ad 90)), (1, .int (Int32.ofInt (s : Int))), (2, .int (Int32.ofInt (sWho G s : Int))), (3, .int (Int32.ofInt (sWhs G s : Int))), (4, .int (Int32.ofInt (sWhi G s : Int))), (5, .int (Int32.ofInt (sWhn G s : Int))), (6, .int (Int32.ofInt (f : Int)))] [] w
  | 0, f, w, hm, hG, hK, hh, hl, ho, hk, kk => by
    obtain ⟨s91, e91, -⟩ := g91s
    have b3 := hB.b3
    have hW : W91 G w := fun j hj => (ho 91 j (by omega) (by omega) (by omega)).trans (hW0 j hj)
    refine V_iload (v := Int32.ofInt ((f : Int))) mi_236_77 (by simp [stL, lv_args, Value.category]) ?_
    refine V_aload (v := ad 90) mi_236_79 (by simp [stL, lv_args, Value.category]) ?_
    refine V_getI mi_236_80 hG (rref gr1m (by omega) hG) ?_
    refine V_ipush mi_236_83 ?_
    refine V_aldX (j := 3) mi_236_84 rfl hG e91 (by omega) (by omega) (hW _ (by omega)) ?_
    refine V_cge mi_236_85 ⟨by omega, by omega⟩ ⟨by omega, by omega⟩ (fun q => ?_) (fun q => ?_)
    · have e : f = (G 3).toNat := by omega
      subst e
      exact V_retV mi_236_200 (kk w hG hK hh hl ho)
    · exact absurd q (by omega)
  | m + 1, f, w, hm, hG, hK, hh, hl, ho, hk, kk => by
    obtain ⟨s91, e91, -⟩ := g91s
    have b3 := hB.b3
    obtain ⟨⟨w6, o6, i6, n24⟩, -⟩ := say_b hB hs
    have hW : W91 G w := fun j hj => (ho 91 j (by omega) (by omega) (by omega)).trans (hW0 j hj)
    refine V_iload (v := Int32.ofInt ((f : Int))) mi_236_77 (by simp [stL, lv_args, Value.category]) ?_
    refine V_aload (v := ad 90) mi_236_79 (by simp [stL, lv_args, Value.category]) ?_
    refine V_getI mi_236_80 hG (rref gr1m (by omega) hG) ?_
    refine V_ipush mi_236_83 ?_
    refine V_aldX (j := 3) mi_236_84 rfl hG e91 (by omega) (by omega) (hW _ (by omega)) ?_
    refine V_cge mi_236_85 ⟨by omega, by omega⟩ ⟨by omega, by omega⟩ (fun q => ?_) (fun q => ?_)
    · exact absurd q (by omega)
    · refine V_iload (v := Int32.ofInt ((f : Int))) mi_236_88 (by simp [stL, lv_args, Value.category]) ?_
      refine V_iload (v := Int32.ofInt ((sWho G s : Int))) mi_236_90 (by simp [stL, lv_args, Value.category]) ?_
      refine V_ceq mi_236_91 ⟨by omega, by omega⟩ ⟨by omega, by omega⟩ (fun q2 => ?_) (fun q2 => ?_)
      · refine V_iinc (v := Int32.ofInt ((f : Int))) mi_236_194 (by simp [stL, lv_args, Value.category]) ?_
        rw [ia2]
        refine V_goto mi_236_197 ?_
        refine V_sub (lv' := [(0, .ref (ad 90)), (1, .int (Int32.ofInt (s : Int))), (2, .int (Int32.ofInt (sWho G s : Int))), (3, .int (Int32.ofInt (sWhs G s : Int))), (4, .int (Int32.ofInt (sWhi G s : Int))), (5, .int (Int32.ofInt (sWhn G s : Int))), (6, .int (Int32.ofInt ((f + 1 : Nat) : Int)))]) (fun q hq => ?_) ?_
        · simp only [List.mem_cons, List.not_mem_nil, or_false] at hq
          rcases hq with rfl | rfl | rfl | rfl | rfl | rfl | rfl <;> simp [stL, lv_args, Value.category]
        have pf : preP G s f = false := by unfold preP; rw [show f = sWho G s by omega, Nat.beq_refl]; rfl
        have lf : lrnP G K s f = false := by unfold lrnP; rw [pf, Bool.false_and]
        exact sy_77 hB hs hW0 h24 h22 m (f + 1) w (by omega) hG (by rw [spK_skip pf]; exact hK) (by unfold orI; rw [pf, if_neg Bool.false_ne_true]; exact hh) (by unfold orI; rw [lf, if_neg Bool.false_ne_true]; exact hl) ho hk kk
      · have nb : Nat.beq f (sWho G s) = false := by
          cases h : Nat.beq f (sWho G s)
          · rfl
          · exact absurd (by rw [Nat.eq_of_beq_eq_true h]) q2
        refine V_aload (v := ad 90) mi_236_94 (by simp [stL, lv_args, Value.category]) ?_
        refine V_iload (v := Int32.ofInt ((f : Int))) mi_236_95 (by simp [stL, lv_args, Value.category]) ?_
        refine V_iload (v := Int32.ofInt ((sWhn G s : Int))) mi_236_97 (by simp [stL, lv_args, Value.category]) ?_
        refine V_callM (As := [.int (Int32.ofInt ((f : Int))), .int (Int32.ofInt ((sWhn G s : Int)))]) (st := []) mi_236_99 (by omega) (by decide +kernel) (by decide +kernel) hG (mpl_ct (f := f) (h := sWhn G s) hG hW hB (by omega) n24) (by omega) (show 2 = mN 207 by decide +kernel) (by simp [Value.category]) ?_
        rintro r w1 ⟨e1, rfl⟩
        rw [e1]
        refine V_aload (v := ad 90) mi_236_102 (by simp [stL, lv_args, Value.category]) ?_
        refine V_iload (v := Int32.ofInt ((sWho G s : Int))) mi_236_103 (by simp [stL, lv_args, Value.category]) ?_
        refine V_iload (v := Int32.ofInt ((sWhn G s : Int))) mi_236_104 (by simp [stL, lv_args, Value.category]) ?_
        refine V_callM (As := [.int (Int32.ofInt ((sWho G s : Int))), .int (Int32.ofInt ((sWhn G s : Int)))]) (st := [.int (Int32.ofInt (G (102 + (24 * f + sWhn G s))))]) mi_236_106 (by omega) (by decide +kernel) (by decide +kernel) hG (mpl_ct (f := sWho G s) (h := sWhn G s) hG hW hB w6 n24) (by omega) (show 2 = mN 207 by decide +kernel) (by simp [Value.category]) ?_
        rintro r w2 ⟨e2, rfl⟩
        rw [e2]
        have p1 := hB.bp (24 * f + sWhn G s) (by omega)
        have p2 := hB.bp (24 * sWho G s + sWhn G s) (by omega)
        refine V_cne mi_236_109 ⟨by omega, by omega⟩ ⟨by omega, by omega⟩ (fun q3 => ?_) (fun q3 => ?_)
        · refine V_iinc (v := Int32.ofInt ((f : Int))) mi_236_194 (by simp [stL, lv_args, Value.category]) ?_
          rw [ia2]
          refine V_goto mi_236_197 ?_
          refine V_sub (lv' := [(0, .ref (ad 90)), (1, .int (Int32.ofInt (s : Int))), (2, .int (Int32.ofInt (sWho G s : Int))), (3, .int (Int32.ofInt (sWhs G s : Int))), (4, .int (Int32.ofInt (sWhi G s : Int))), (5, .int (Int32.ofInt (sWhn G s : Int))), (6, .int (Int32.ofInt ((f + 1 : Nat) : Int)))]) (fun q hq => ?_) ?_
          · simp only [List.mem_cons, List.not_mem_nil, or_false] at hq
            rcases hq with rfl | rfl | rfl | rfl | rfl | rfl | rfl <;> simp [stL, lv_args, Value.category]
          have pf : preP G s f = false := by unfold preP; rw [decide_eq_false q3, Bool.and_false]
          have lf : lrnP G K s f = false := by unfold lrnP; rw [pf, Bool.false_and]
          exact sy_77 hB hs hW0 h24 h22 m (f + 1) w (by omega) hG (by rw [spK_skip pf]; exact hK) (by unfold orI; rw [pf, if_neg Bool.false_ne_true]; exact hh) (by unfold orI; rw [lf, if_neg Bool.false_ne_true]; exact hl) ho hk kk
        · refine V_aload (v := ad 90) mi_236_112 (by simp [stL, lv_args, Value.category]) ?_
          refine V_iload (v := Int32.ofInt ((f : Int))) mi_236_113 (by simp [stL, lv_args, Value.category]) ?_
          refine V_iload (v := Int32.ofInt ((s : Int))) mi_236_115 (by simp [stL, lv_args, Value.category]) ?_
          refine V_callM (As := [.int (Int32.ofInt ((f : Int))), .int (Int32.ofInt ((s : Int)))]) (st := []) mi_236_116 (by omega) (by decide +kernel) (by decide +kernel) hG (hea_ct (f := f) (s := s) (by omega) hs hG ((ho _ _ (by omega) (by omega) (by omega)).trans h24) ((ho _ _ (by omega) (by omega) (by omega)).trans h22)) (by omega) (show 2 = mN 235 by decide +kernel) (by simp [Value.category]) ?_
          rintro r w3 ⟨e3, rfl⟩
          rw [e3]
          refine V_bne mi_236_119  (fun q4 => ?_) (fun q4 => ?_)
          · have pf : preP G s f = true := by unfold preP; rw [nb, decide_eq_true q3]; rfl
            obtain ⟨s99, e99, f99⟩ := a99
            obtain ⟨s100, e100, f100⟩ := a100
            obtain ⟨s101, e101, f101⟩ := a101
            have bh := orI_bd (P := preP G s) (f := f) (by omega)
            have bl := orI_bd (P := lrnP G K s) (f := f) (by omega)
            have bk := hk (6 * f + sWhs G s) (by omega)
            obtain ⟨t1, t2, t3⟩ := tb_k (a := K (6 * f + sWhs G s)) (i := (sWhi G s : Int)) bk.1 bk.2 (by omega) (by omega)
            have bb := bitO_bd bh.1 bh.2 (i := (f : Int)) (by omega) (by omega)
            have bc := bitO_bd bk.1 bk.2 (i := (sWhi G s : Int)) (by omega) (by omega)
            have hKn : rd w 99 (6 * f + sWhs G s) = some (.int (Int32.ofInt (K (6 * f + sWhs G s)))) := by rw [hK _ (by omega), spK_new o6]
            refine V_aload (v := ad 90) mi_236_125 (by simp [stL, lv_args, Value.category]) ?_
            refine V_getI mi_236_126 hG (rref gr19 (by omega) hG) ?_
            refine V_iload (v := Int32.ofInt ((s : Int))) mi_236_129 (by simp [stL, lv_args, Value.category]) ?_
            refine V_dup2 mi_236_130 (by simp [Value.category]) (by simp [Value.category]) ?_
            refine V_aldX (j := s) mi_236_131 rfl hG e100 (by omega) (by omega) (hh) ?_
            refine V_ipush mi_236_132 ?_
            refine V_iload (v := Int32.ofInt ((f : Int))) mi_236_133 (by simp [stL, lv_args, Value.category]) ?_
            refine V_ibin mi_236_135 (by omega) ?_
            refine V_ibin mi_236_136 (by omega) ?_
            rw [bitO_i]
            refine V_astX (j := s) mi_236_137 rfl hG e100 hs (by omega) (f100 s hs) (by rw [Int32.toInt_ofInt_of_le (by omega) (by omega)]; omega) (by rw [Int32.toInt_ofInt_of_le (by omega) (by omega)]; omega) (fun w4 G4 U4 => ?_)
            refine V_aload (v := ad 90) mi_236_138 (by simp [stL, lv_args, Value.category]) ?_
            refine V_getI mi_236_139 G4 (rref gr20 (by omega) G4) ?_
            refine V_iload (v := Int32.ofInt ((s : Int))) mi_236_142 (by simp [stL, lv_args, Value.category]) ?_
            refine V_dup2 mi_236_143 (by simp [Value.category]) (by simp [Value.category]) ?_
            refine V_aldX (j := s) mi_236_144 rfl G4 e101 (by omega) (by omega) ((upd_ne U4 (by omega)).trans hl) ?_
            refine V_aload (v := ad 90) mi_236_145 (by simp [stL, lv_args, Value.category]) ?_
            refine V_getI mi_236_146 G4 (rref gr17 (by omega) G4) ?_
            refine V_ipush mi_236_149 ?_
            refine V_iload (v := Int32.ofInt ((f : Int))) mi_236_151 (by simp [stL, lv_args, Value.category]) ?_
            refine V_ibin mi_236_153 (by omega) ?_
            rw [ib2]
            refine V_iload (v := Int32.ofInt ((sWhs G s : Int))) mi_236_154 (by simp [stL, lv_args, Value.category]) ?_
            refine V_ibin mi_236_155 (by omega) ?_
            rw [ib0]
            refine V_aldX (j := 6 * f + sWhs G s) mi_236_156 (by rw [show ((6) * ((f : Int))) + ((sWhs G s : Int)) = ((6 * f + sWhs G s : Nat) : Int) by omega]) G4 e99 (by omega) (by omega) ((upd_ne U4 (by omega)).trans hKn) ?_
            refine V_iload (v := Int32.ofInt ((sWhi G s : Int))) mi_236_157 (by simp [stL, lv_args, Value.category]) ?_
            refine V_stat (As := [.int (Int32.ofInt (K (6 * f + sWhs G s))), .int (Int32.ofInt ((sWhi G s : Int)))]) (st := [.int (Int32.ofInt (orI (lrnP G K s) f)), .int (Int32.ofInt ((s : Int))), .ref (ad 101)]) mi_236_159 (by omega) (bit_ct _ _ _) (by omega) (show 2 = mN 195 by decide +kernel) (by simp [Value.category]) ⟨Nat.le_refl _, Nat.le_refl _⟩ ?_
            rintro r w5 ⟨e5, rfl⟩
            rw [e5, t1]
            change V l D tys A 236 5 0 0 _ 0 0 _ _ (.int (bI (tb (K (6 * f + sWhs G s)) (sWhi G s : Int))) :: _) _
            refine V_bne mi_236_162  (fun q5 => ?_) (fun q5 => ?_)
            · have lf : lrnP G K s f = false := by unfold lrnP; rw [pf, q5]; rfl
              refine V_ipush mi_236_172 ?_
              refine V_ibin mi_236_173 (by omega) ?_
              rw [or0]
              refine V_astX (j := s) mi_236_174 rfl G4 e101 hs (by omega) (f101 s hs) (by rw [Int32.toInt_ofInt_of_le (by omega) (by omega)]; omega) (by rw [Int32.toInt_ofInt_of_le (by omega) (by omega)]; omega) (fun w6 G6 U6 => ?_)
              refine V_aload (v := ad 90) mi_236_175 (by simp [stL, lv_args, Value.category]) ?_
              refine V_getI mi_236_176 G6 (rref gr17 (by omega) G6) ?_
              refine V_ipush mi_236_179 ?_
              refine V_iload (v := Int32.ofInt ((f : Int))) mi_236_181 (by simp [stL, lv_args, Value.category]) ?_
              refine V_ibin mi_236_183 (by omega) ?_
              rw [ib2]
              refine V_iload (v := Int32.ofInt ((sWhs G s : Int))) mi_236_184 (by simp [stL, lv_args, Value.category]) ?_
              refine V_ibin mi_236_185 (by omega) ?_
              rw [ib0]
              rw [show 6 * (f : Int) + (sWhs G s : Int) = ((6 * f + sWhs G s : Nat) : Int) by omega]
              refine V_dup2 mi_236_186 (by simp [Value.category]) (by simp [Value.category]) ?_
              refine V_aldX (j := 6 * f + sWhs G s) mi_236_187 rfl G6 e99 (by omega) (by omega) ((upd_ne U6 (by omega)).trans ((upd_ne U4 (by omega)).trans hKn)) ?_
              refine V_ipush mi_236_188 ?_
              refine V_iload (v := Int32.ofInt ((sWhi G s : Int))) mi_236_189 (by simp [stL, lv_args, Value.category]) ?_
              refine V_ibin mi_236_191 (by omega) ?_
              refine V_ibin mi_236_192 (by omega) ?_
              rw [bitO_i]
              refine V_astX (j := 6 * f + sWhs G s) mi_236_193 rfl G6 e99 (by omega) (by omega) (f99 _ (by omega)) (by rw [Int32.toInt_ofInt_of_le (by omega) (by omega)]; omega) (by rw [Int32.toInt_ofInt_of_le (by omega) (by omega)]; omega) (fun w7 G7 U7 => ?_)
              refine V_iinc (v := Int32.ofInt ((f : Int))) mi_236_194 (by simp [stL, lv_args, Value.category]) ?_
              rw [ia2]
              refine V_goto mi_236_197 ?_
              refine V_sub (lv' := [(0, .ref (ad 90)), (1, .int (Int32.ofInt (s : Int))), (2, .int (Int32.ofInt (sWho G s : Int))), (3, .int (Int32.ofInt (sWhs G s : Int))), (4, .int (Int32.ofInt (sWhi G s : Int))), (5, .int (Int32.ofInt (sWhn G s : Int))), (6, .int (Int32.ofInt ((f + 1 : Nat) : Int)))]) (fun q hq => ?_) ?_
              · simp only [List.mem_cons, List.not_mem_nil, or_false] at hq
                rcases hq with rfl | rfl | rfl | rfl | rfl | rfl | rfl <;> simp [stL, lv_args, Value.category]
              have oo : ∀ c j, c ≠ 99 → ¬ (c = 100 ∧ j = s) → ¬ (c = 101 ∧ j = s) → rd w7 c j = rd w c j := fun c j h1 h2 h3 => (upd_ne U7 (by omega)).trans ((upd_ne U6 (by omega)).trans (upd_ne U4 (by omega)))
              refine sy_77 hB hs hW0 h24 h22 m (f + 1) w7 (by omega) G7 (fun j hj => ?_) ?_ ?_ (fun c j h1 h2 h3 => (oo c j h1 h2 h3).trans (ho c j h1 h2 h3)) hk kk
              · rw [spK_step pf o6]
                show _ = some (Value.int (Int32.ofInt (if j = 6 * f + sWhs G s then _ else _)))
                by_cases e : j = 6 * f + sWhs G s
                · rw [if_pos e, e]
                  exact upd_eq U7
                · rw [if_neg e]
                  exact (upd_ne U7 (by omega)).trans ((upd_ne U6 (by omega)).trans ((upd_ne U4 (by omega)).trans (hK j hj)))
              · unfold orI
                rw [pf, if_pos rfl]
                exact (upd_ne U7 (by omega)).trans ((upd_ne U6 (by omega)).trans (upd_eq U4))
              · unfold orI
                rw [lf, if_neg Bool.false_ne_true]
                exact (upd_ne U7 (by omega)).trans (upd_eq U6)
            · have lf : lrnP G K s f = true := by unfold lrnP; rw [pf, q5]; rfl
              have bd := bitO_bd bl.1 bl.2 (i := (f : Int)) (by omega) (by omega)
              refine V_ipush mi_236_165 ?_
              refine V_iload (v := Int32.ofInt ((f : Int))) mi_236_166 (by simp [stL, lv_args, Value.category]) ?_
              refine V_ibin mi_236_168 (by omega) ?_
              refine V_goto mi_236_169 ?_
              refine V_ibin mi_236_173 (by omega) ?_
              rw [bitO_i]
              refine V_astX (j := s) mi_236_174 rfl G4 e101 hs (by omega) (f101 s hs) (by rw [Int32.toInt_ofInt_of_le (by omega) (by omega)]; omega) (by rw [Int32.toInt_ofInt_of_le (by omega) (by omega)]; omega) (fun w6 G6 U6 => ?_)
              refine V_aload (v := ad 90) mi_236_175 (by simp [stL, lv_args, Value.category]) ?_
              refine V_getI mi_236_176 G6 (rref gr17 (by omega) G6) ?_
              refine V_ipush mi_236_179 ?_
              refine V_iload (v := Int32.ofInt ((f : Int))) mi_236_181 (by simp [stL, lv_args, Value.category]) ?_
              refine V_ibin mi_236_183 (by omega) ?_
              rw [ib2]
              refine V_iload (v := Int32.ofInt ((sWhs G s : Int))) mi_236_184 (by simp [stL, lv_args, Value.category]) ?_
              refine V_ibin mi_236_185 (by omega) ?_
              rw [ib0]
              rw [show 6 * (f : Int) + (sWhs G s : Int) = ((6 * f + sWhs G s : Nat) : Int) by omega]
              refine V_dup2 mi_236_186 (by simp [Value.category]) (by simp [Value.category]) ?_
              refine V_aldX (j := 6 * f + sWhs G s) mi_236_187 rfl G6 e99 (by omega) (by omega) ((upd_ne U6 (by omega)).trans ((upd_ne U4 (by omega)).trans hKn)) ?_
              refine V_ipush mi_236_188 ?_
              refine V_iload (v := Int32.ofInt ((sWhi G s : Int))) mi_236_189 (by simp [stL, lv_args, Value.category]) ?_
              refine V_ibin mi_236_191 (by omega) ?_
              refine V_ibin mi_236_192 (by omega) ?_
              rw [bitO_i]
              refine V_astX (j := 6 * f + sWhs G s) mi_236_193 rfl G6 e99 (by omega) (by omega) (f99 _ (by omega)) (by rw [Int32.toInt_ofInt_of_le (by omega) (by omega)]; omega) (by rw [Int32.toInt_ofInt_of_le (by omega) (by omega)]; omega) (fun w7 G7 U7 => ?_)
              refine V_iinc (v := Int32.ofInt ((f : Int))) mi_236_194 (by simp [stL, lv_args, Value.category]) ?_
              rw [ia2]
              refine V_goto mi_236_197 ?_
              refine V_sub (lv' := [(0, .ref (ad 90)), (1, .int (Int32.ofInt (s : Int))), (2, .int (Int32.ofInt (sWho G s : Int))), (3, .int (Int32.ofInt (sWhs G s : Int))), (4, .int (Int32.ofInt (sWhi G s : Int))), (5, .int (Int32.ofInt (sWhn G s : Int))), (6, .int (Int32.ofInt ((f + 1 : Nat) : Int)))]) (fun q hq => ?_) ?_
              · simp only [List.mem_cons, List.not_mem_nil, or_false] at hq
                rcases hq with rfl | rfl | rfl | rfl | rfl | rfl | rfl <;> simp [stL, lv_args, Value.category]
              have oo : ∀ c j, c ≠ 99 → ¬ (c = 100 ∧ j = s) → ¬ (c = 101 ∧ j = s) → rd w7 c j = rd w c j := fun c j h1 h2 h3 => (upd_ne U7 (by omega)).trans ((upd_ne U6 (by omega)).trans (upd_ne U4 (by omega)))
              refine sy_77 hB hs hW0 h24 h22 m (f + 1) w7 (by omega) G7 (fun j hj => ?_) ?_ ?_ (fun c j h1 h2 h3 => (oo c j h1 h2 h3).trans (ho c j h1 h2 h3)) hk kk
              · rw [spK_step pf o6]
                show _ = some (Value.int (Int32.ofInt (if j = 6 * f + sWhs G s then _ else _)))
                by_cases e : j = 6 * f + sWhs G s
                · rw [if_pos e, e]
                  exact upd_eq U7
                · rw [if_neg e]
                  exact (upd_ne U7 (by omega)).trans ((upd_ne U6 (by omega)).trans ((upd_ne U4 (by omega)).trans (hK j hj)))
              · unfold orI
                rw [pf, if_pos rfl]
                exact (upd_ne U7 (by omega)).trans ((upd_ne U6 (by omega)).trans (upd_eq U4))
              · unfold orI
                rw [lf, if_pos rfl]
                exact (upd_ne U7 (by omega)).trans (upd_eq U6)
          · exact absurd q4.symm Bool.false_ne_true
end XSA
section XSB
variable {l : Launch} {D : va_G} {tys : List (ClassId × FieldType)} {A : Nat → Prop} {ad : Nat → Nat} {ws : va_W}
/-- how far the telling is: what is known, what is said, who heard, who learnt -/
noncomputable abbrev TT : Type := (Nat → Int) × Int32 × (Nat → Int) × (Nat → Int)
noncomputable abbrev TT.K (T : TT) : Nat → Int := T.1
noncomputable abbrev TT.sd (T : TT) : Int32 := T.2.1
noncomputable abbrev TT.hb (T : TT) : Nat → Int := T.2.2.1
noncomputable abbrev TT.lb (T : TT) : Nat → Int := T.2.2.2
noncomputable def oneT (G : Nat → Int) (s : Nat) (T : TT) : TT := if canB G T.K s = true then ⟨spQ G s (G 3).toNat T.K, ibF 6 T.sd (ibF 8 (Int32.ofInt 1) (Int32.ofInt (s : Int))), updI T.hb s (orI (preP G s) (G 3).toNat), updI T.lb s (orI (lrnP G T.K s) (G 3).toNat)⟩ else T
noncomputable def sayT (G : Nat → Int) (h : Nat) : Nat → Nat → TT → TT
  | 0, _, T => T
  | m + 1, s, T => sayT G h m (s + 1) (if sWhn G s = h then oneT G s T else T)
noncomputable def hrsT (G : Nat → Int) (h : Nat) (T : TT) : TT := sayT G h (G 4).toNat 0 T
noncomputable def allV (n : Int) : Int := (ibF 1 (ibF 8 (Int32.ofInt 1) (Int32.ofInt n)) (Int32.ofInt 1)).toInt
noncomputable def iniK (G : Nat → Int) (j : Nat) : Int := if j / 6 = j % 6 then allV (G (6 + 7 * (j % 6))) else G (66 + j)
noncomputable def iniT (G : Nat → Int) : TT := ⟨iniK G, Int32.ofInt 0, fun _ => 0, fun _ => 0⟩
noncomputable def tellT (G : Nat → Int) : Nat → TT
  | 0 => iniT G
  | h + 1 => hrsT G h (tellT G h)
theorem allV_k {n : Int} (n0 : 0 ≤ n) (n6 : n ≤ 6) : ibF 1 (ibF 8 (Int32.ofInt 1) (Int32.ofInt n)) (Int32.ofInt 1) = Int32.ofInt (allV n) ∧ 0 ≤ allV n ∧ allV n ≤ 63 := by
  refine ⟨by unfold allV; rw [Int32.ofInt_toInt], ?_⟩
  have h : (List.range 7).all (fun n => decide (0 ≤ allV (n : Nat)) && decide (allV (n : Nat) ≤ 63)) = true := by decide +kernel
  have q := List.all_eq_true.mp h n.toNat (List.mem_range.mpr (by omega))
  rw [Bool.and_eq_true, decide_eq_true_eq, decide_eq_true_eq, Int.toNat_of_nonneg n0] at q
  exact q
/-- the reference has told so far -/
noncomputable abbrev TM (ad : Nat → Nat) (tys : List (ClassId × FieldType)) (G : Nat → Int) (T : TT) (w0 w : va_W) : Prop :=
  (GOK ad tys GG w) ∧
  (∀ j, j < 36 → rd w 99 j = some (.int (Int32.ofInt (T.K j)))) ∧
  (rd w 90 18 = some (.int T.sd)) ∧
  (∀ i, i < 12 → rd w 100 i = some (.int (Int32.ofInt (T.hb i)))) ∧
  (∀ i, i < 12 → rd w 101 i = some (.int (Int32.ofInt (T.lb i)))) ∧
  (∀ c j, ¬ (99 ≤ c ∧ c ≤ 101) → ¬ (c = 90 ∧ j = 18) → rd w c j = rd w0 c j) ∧
  (kOK T.K)
theorem TM.g {ad : Nat → Nat} {tys : List (ClassId × FieldType)} {G : Nat → Int} {T : TT} {w0 w : va_W} (h : TM ad tys G T w0 w) : GOK ad tys GG w := h.1
theorem TM.k {ad : Nat → Nat} {tys : List (ClassId × FieldType)} {G : Nat → Int} {T : TT} {w0 w : va_W} (h : TM ad tys G T w0 w) : ∀ j, j < 36 → rd w 99 j = some (.int (Int32.ofInt (T.K j))) := h.2.1
theorem TM.s {ad : Nat → Nat} {tys : List (ClassId × FieldType)} {G : Nat → Int} {T : TT} {w0 w : va_W} (h : TM ad tys G T w0 w) : rd w 90 18 = some (.int T.sd) := h.2.2.1
theorem TM.h {ad : Nat → Nat} {tys : List (ClassId × FieldType)} {G : Nat → Int} {T : TT} {w0 w : va_W} (h : TM ad tys G T w0 w) : ∀ i, i < 12 → rd w 100 i = some (.int (Int32.ofInt (T.hb i))) := h.2.2.2.1
theorem TM.lr {ad : Nat → Nat} {tys : List (ClassId × FieldType)} {G : Nat → Int} {T : TT} {w0 w : va_W} (h : TM ad tys G T w0 w) : ∀ i, i < 12 → rd w 101 i = some (.int (Int32.ofInt (T.lb i))) := h.2.2.2.2.1
theorem TM.o {ad : Nat → Nat} {tys : List (ClassId × FieldType)} {G : Nat → Int} {T : TT} {w0 w : va_W} (h : TM ad tys G T w0 w) : ∀ c j, ¬ (99 ≤ c ∧ c ≤ 101) → ¬ (c = 90 ∧ j = 18) → rd w c j = rd w0 c j := h.2.2.2.2.2.1
theorem TM.b {ad : Nat → Nat} {tys : List (ClassId × FieldType)} {G : Nat → Int} {T : TT} {w0 w : va_W} (h : TM ad tys G T w0 w) : kOK T.K := h.2.2.2.2.2.2
theorem f18m : gF 18 (-2147483648) 2147483647 := ⟨_, rfl, by decide +kernel⟩
theorem hsh0 {s : Nat} (h : s < 12) : ibF 5 (ibF 9 (Int32.ofInt 0) (Int32.ofInt (s : Int))) (Int32.ofInt 1) = Int32.ofInt 0 := by
  have q : (List.range 12).all (fun s => decide (ibF 5 (ibF 9 (Int32.ofInt 0) (Int32.ofInt (s : Nat))) (Int32.ofInt 1) = Int32.ofInt 0)) = true := by decide +kernel
  exact of_decide_eq_true (List.all_eq_true.mp q s (List.mem_range.mpr h))
theorem say_ct {G : Nat → Int} {T : TT} {w0 : va_W} {s : Nat} (hB : HB G) (hs : s < 12) (hW0 : W91 G w0) (h24 : rd w0 90 24 = some (.int (Int32.ofInt 0))) (h22 : rd w0 90 22 = some (.int (Int32.ofInt (-1)))) (h21 : rd w0 90 21 = some (.int (Int32.ofInt 0))) (hT : TM ad tys G T w0 ws) (hb0 : T.hb s = 0) (lb0 : T.lb s = 0) : CT l D tys A 236 5 0 0 [.ref (ad 90), .int (Int32.ofInt ((s : Int)))] ws (fun r w => r = none ∧ TM ad tys G (oneT G s T) w0 w) := by
  refine CT_of_V (by omega) (show (2 : Nat) ≤ mML 236 by decide +kernel) ?_
  obtain ⟨⟨w6, o6, i6, n24⟩, g0, g1, g2, g3⟩ := say_b hB hs
  obtain ⟨s99, e99, f99⟩ := a99
  have hW : W91 G ws := fun j hj => (hT.o 91 j (by omega) (by omega)).trans (hW0 j hj)
  have bk := hT.b (6 * sWho G s + sWhs G s) (by omega)
  obtain ⟨t1, t2, t3⟩ := tb_k (a := T.K (6 * sWho G s + sWhs G s)) (i := (sWhi G s : Int)) bk.1 bk.2 (by omega) (by omega)
  refine V_aload (v := ad 90) mi_236_0 (by simp [stL, lv_args, Value.category]) ?_
  refine V_iload (v := Int32.ofInt ((s : Int))) mi_236_1 (by simp [stL, lv_args, Value.category]) ?_
  refine V_ipush mi_236_2 ?_
  refine V_callM (As := [.int (Int32.ofInt ((s : Int))), .int (Int32.ofInt (0))]) (st := []) mi_236_3 (by omega) (by decide +kernel) (by decide +kernel) hT.g (mos_ct (k := s) (a := 0) hT.g hW hB hs (by omega)) (by omega) (show 2 = mN 208 by decide +kernel) (by simp [Value.category]) ?_
  rintro r w1 ⟨e1, rfl⟩
  rw [e1]
  rw [show G (246 + 4 * s + 0) = G (246 + 4 * s) from rfl, g0]
  refine V_istore mi_236_6 ?_
  refine V_aload (v := ad 90) mi_236_7 (by simp [stL, lv_args, Value.category]) ?_
  refine V_iload (v := Int32.ofInt ((s : Int))) mi_236_8 (by simp [stL, lv_args, Value.category]) ?_
  refine V_ipush mi_236_9 ?_
  refine V_callM (As := [.int (Int32.ofInt ((s : Int))), .int (Int32.ofInt (1))]) (st := []) mi_236_10 (by omega) (by decide +kernel) (by decide +kernel) hT.g (mos_ct (k := s) (a := 1) hT.g hW hB hs (by omega)) (by omega) (show 2 = mN 208 by decide +kernel) (by simp [Value.category]) ?_
  rintro r w1 ⟨e1, rfl⟩
  rw [e1]
  rw [g1]
  refine V_istore mi_236_13 ?_
  refine V_aload (v := ad 90) mi_236_14 (by simp [stL, lv_args, Value.category]) ?_
  refine V_iload (v := Int32.ofInt ((s : Int))) mi_236_15 (by simp [stL, lv_args, Value.category]) ?_
  refine V_ipush mi_236_16 ?_
  refine V_callM (As := [.int (Int32.ofInt ((s : Int))), .int (Int32.ofInt (2))]) (st := []) mi_236_17 (by omega) (by decide +kernel) (by decide +kernel) hT.g (mos_ct (k := s) (a := 2) hT.g hW hB hs (by omega)) (by omega) (show 2 = mN 208 by decide +kernel) (by simp [Value.category]) ?_
  rintro r w1 ⟨e1, rfl⟩
  rw [e1]
  rw [g2]
  refine V_istore mi_236_20 ?_
  refine V_aload (v := ad 90) mi_236_22 (by simp [stL, lv_args, Value.category]) ?_
  refine V_getI mi_236_23 hT.g ((hT.o _ _ (by omega) (by omega)).trans h21) ?_
  refine V_iload (v := Int32.ofInt ((s : Int))) mi_236_26 (by simp [stL, lv_args, Value.category]) ?_
  refine V_stat (As := [.int (Int32.ofInt (0)), .int (Int32.ofInt ((s : Int)))]) (st := []) mi_236_27 (by omega) (bit_ct _ _ _) (by omega) (show 2 = mN 195 by decide +kernel) (by simp [Value.category]) ⟨Nat.le_refl _, Nat.le_refl _⟩ ?_
  rintro r w1 ⟨e1, rfl⟩
  rw [e1, hsh0 hs]
  change V l D tys A 236 5 0 0 _ 0 0 _ _ (.int (Int32.ofInt 0) :: _) _
  refine V_ipush mi_236_30 ?_
  refine V_ceq mi_236_31 ⟨by omega, by omega⟩ ⟨by omega, by omega⟩ (fun q => ?_) (fun q => ?_)
  · exact absurd q (by omega)
  · refine V_aload (v := ad 90) mi_236_34 (by simp [stL, lv_args, Value.category]) ?_
    refine V_getI mi_236_35 hT.g (rref gr17 (by omega) hT.g) ?_
    refine V_ipush mi_236_38 ?_
    refine V_iload (v := Int32.ofInt ((sWho G s : Int))) mi_236_40 (by simp [stL, lv_args, Value.category]) ?_
    refine V_ibin mi_236_41 (by omega) ?_
    rw [ib2]
    refine V_iload (v := Int32.ofInt ((sWhs G s : Int))) mi_236_42 (by simp [stL, lv_args, Value.category]) ?_
    refine V_ibin mi_236_43 (by omega) ?_
    rw [ib0]
    refine V_aldX (j := 6 * sWho G s + sWhs G s) mi_236_44 (by rw [show ((6) * ((sWho G s : Int))) + ((sWhs G s : Int)) = ((6 * sWho G s + sWhs G s : Nat) : Int) by omega]) hT.g e99 (by omega) (by omega) (hT.k _ (by omega)) ?_
    refine V_iload (v := Int32.ofInt ((sWhi G s : Int))) mi_236_45 (by simp [stL, lv_args, Value.category]) ?_
    refine V_stat (As := [.int (Int32.ofInt (T.K (6 * sWho G s + sWhs G s))), .int (Int32.ofInt ((sWhi G s : Int)))]) (st := []) mi_236_47 (by omega) (bit_ct _ _ _) (by omega) (show 2 = mN 195 by decide +kernel) (by simp [Value.category]) ⟨Nat.le_refl _, Nat.le_refl _⟩ ?_
    rintro r w2 ⟨e2, rfl⟩
    rw [e2, t1]
    change V l D tys A 236 5 0 0 _ 0 0 _ _ (.int (bI (canB G T.K s)) :: _) _
    refine V_bne mi_236_50  (fun q2 => ?_) (fun q2 => ?_)
    · refine V_aload (v := ad 90) mi_236_54 (by simp [stL, lv_args, Value.category]) ?_
      refine V_dup mi_236_55 (by simp [Value.category]) ?_
      refine V_getI mi_236_56 hT.g (hT.s) ?_
      refine V_ipush mi_236_59 ?_
      refine V_iload (v := Int32.ofInt ((s : Int))) mi_236_60 (by simp [stL, lv_args, Value.category]) ?_
      refine V_ibin mi_236_61 (by omega) ?_
      refine V_ibin mi_236_62 (by omega) ?_
      refine V_putI mi_236_63 hT.g f18m (by omega) rfl (by decide +kernel) (i32b _).1 (i32b _).2 (fun w3 G3 U3 => ?_)
      have hW3 : W91 G w3 := fun j hj => (upd_ne U3 (by omega)).trans (hW j hj)
      refine V_aload (v := ad 90) mi_236_66 (by simp [stL, lv_args, Value.category]) ?_
      refine V_iload (v := Int32.ofInt ((s : Int))) mi_236_67 (by simp [stL, lv_args, Value.category]) ?_
      refine V_ipush mi_236_68 ?_
      refine V_callM (As := [.int (Int32.ofInt ((s : Int))), .int (Int32.ofInt (3))]) (st := []) mi_236_69 (by omega) (by decide +kernel) (by decide +kernel) G3 (mos_ct (k := s) (a := 3) G3 hW3 hB hs (by omega)) (by omega) (show 2 = mN 208 by decide +kernel) (by simp [Value.category]) ?_
      rintro r w4 ⟨e4, rfl⟩
      rw [e4, g3]
      refine V_istore mi_236_72 ?_
      refine V_ipush mi_236_74 ?_
      refine V_istore mi_236_75 ?_
      have b3 := hB.b3
      refine V_sub (lv' := [(0, .ref (ad 90)), (1, .int (Int32.ofInt (s : Int))), (2, .int (Int32.ofInt (sWho G s : Int))), (3, .int (Int32.ofInt (sWhs G s : Int))), (4, .int (Int32.ofInt (sWhi G s : Int))), (5, .int (Int32.ofInt (sWhn G s : Int))), (6, .int (Int32.ofInt ((0 : Nat) : Int)))]) (fun q hq => ?_) (sy_77 (K := T.K) hB hs hW3 ((upd_ne U3 (by omega)).trans ((hT.o _ _ (by omega) (by omega)).trans h24)) ((upd_ne U3 (by omega)).trans ((hT.o _ _ (by omega) (by omega)).trans h22)) (G 3).toNat 0 w3 (by rw [Nat.zero_add, Int.toNat_of_nonneg b3.1]) G3 (fun j hj => by rw [spK_0]; exact (upd_ne U3 (by omega)).trans (hT.k j hj)) ((upd_ne U3 (by omega)).trans (by rw [hT.h s hs, hb0]; rfl)) ((upd_ne U3 (by omega)).trans (by rw [hT.lr s hs, lb0]; rfl)) (fun _ _ _ _ _ => rfl) hT.b (fun w5 G5 k5 h5 l5 o5 => ?_))
      · simp only [List.mem_cons, List.not_mem_nil, or_false] at hq
        rcases hq with rfl | rfl | rfl | rfl | rfl | rfl | rfl <;> simp [stL, lv_args, Value.category]
      · refine ⟨rfl, ?_⟩
        unfold oneT
        rw [if_pos q2]
        refine ⟨G5, k5, (o5 _ _ (by omega) (by omega) (by omega)).trans (upd_eq U3), fun i hi => ?_, fun i hi => ?_, fun c j h1 h2 => (o5 _ _ (by omega) (by omega) (by omega)).trans ((upd_ne U3 (by omega)).trans (hT.o c j h1 h2)), spK_ok hT.b i6⟩
        · show _ = some (Value.int (Int32.ofInt (if i = s then _ else T.hb i)))
          by_cases e : i = s
          · rw [if_pos e, e]
            exact h5
          · rw [if_neg e]
            exact (o5 _ _ (by omega) (by omega) (by omega)).trans ((upd_ne U3 (by omega)).trans (hT.h i hi))
        · show _ = some (Value.int (Int32.ofInt (if i = s then _ else T.lb i)))
          by_cases e : i = s
          · rw [if_pos e, e]
            exact l5
          · rw [if_neg e]
            exact (o5 _ _ (by omega) (by omega) (by omega)).trans ((upd_ne U3 (by omega)).trans (hT.lr i hi))
    · refine V_retV mi_236_53 ⟨rfl, ?_⟩
      unfold oneT
      rw [if_neg (by rw [q2]; exact Bool.false_ne_true)]
      exact hT
end XSB
