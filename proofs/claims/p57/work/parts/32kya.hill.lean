section XUA
noncomputable def pW (G : Nat → Int) (he : Nat → Int → Nat → Bool) (s : Nat) (x : Int) (f : Nat) : Bool := preP G s f && he s x f
noncomputable def spW (P : Nat → Bool) (G : Nat → Int) (s n : Nat) (K : Nat → Int) (j : Nat) : Int := if j % 6 = sWhs G s ∧ j / 6 < n ∧ P (j / 6) = true then bitO (K j) (sWhi G s : Int) else K j
noncomputable def lrW (P : Nat → Bool) (G K : Nat → Int) (s f : Nat) : Bool := P f && !(tb (K (6 * f + sWhs G s)) (sWhi G s : Int))
theorem spW_skip {P : Nat → Bool} {G K : Nat → Int} {s n : Nat} (h : P n = false) : spW P G s (n + 1) K = spW P G s n K := by
  funext j
  unfold spW
  by_cases e : j / 6 = n
  · rw [if_neg (fun q => by rw [e, h] at q; exact absurd q.2.2 Bool.false_ne_true), if_neg (fun q => by omega)]
  · by_cases q : j % 6 = sWhs G s ∧ j / 6 < n ∧ P (j / 6) = true
    · rw [if_pos q, if_pos ⟨q.1, by omega, q.2.2⟩]
    · rw [if_neg q, if_neg (fun u => q ⟨u.1, by omega, u.2.2⟩)]
theorem spW_step {P : Nat → Bool} {G K : Nat → Int} {s n : Nat} (h : P n = true) (hw : sWhs G s < 6) : spW P G s (n + 1) K = updI (spW P G s n K) (6 * n + sWhs G s) (bitO (K (6 * n + sWhs G s)) (sWhi G s : Int)) := by
  funext j
  show (if j % 6 = sWhs G s ∧ j / 6 < n + 1 ∧ P (j / 6) = true then bitO (K j) (sWhi G s : Int) else K j) = (if j = 6 * n + sWhs G s then _ else (if j % 6 = sWhs G s ∧ j / 6 < n ∧ P (j / 6) = true then bitO (K j) (sWhi G s : Int) else K j))
  by_cases e : j = 6 * n + sWhs G s
  · have e2 : j / 6 = n := by omega
    have e3 : j % 6 = sWhs G s := by omega
    rw [if_pos e, if_pos ⟨e3, by omega, by rw [e2]; exact h⟩, e]
  · rw [if_neg e]
    by_cases q : j % 6 = sWhs G s ∧ j / 6 < n ∧ P (j / 6) = true
    · rw [if_pos q, if_pos ⟨q.1, by omega, q.2.2⟩]
    · rw [if_neg q, if_neg (fun u => q ⟨u.1, by omega, u.2.2⟩)]
theorem spW_new {P : Nat → Bool} {G K : Nat → Int} {s n : Nat} (hw : sWhs G s < 6) : spW P G s n K (6 * n + sWhs G s) = K (6 * n + sWhs G s) := by
  unfold spW
  rw [if_neg (fun q => by omega)]
theorem spW_0 {P : Nat → Bool} {G K : Nat → Int} {s : Nat} : spW P G s 0 K = K := by
  funext j
  unfold spW
  rw [if_neg (fun q => by omega)]
theorem spW_ok {P : Nat → Bool} {G K : Nat → Int} {s n : Nat} (h : kOK K) (hi : sWhi G s < 6) : kOK (spW P G s n K) := fun j hj => by
  have b := h j hj
  unfold spW
  split
  · exact bitO_bd b.1 b.2 (by omega) (by omega)
  · exact b
noncomputable def oneW (G : Nat → Int) (hu : Nat → Bool) (he : Nat → Int → Nat → Bool) (dx : Nat → Int → Nat → Int) (s : Nat) (S : TT × Int) : TT × Int := if hu s = false ∧ canB G S.1.K s = true then ((spW (pW G he s S.2) G s (G 3).toNat S.1.K, ibF 6 S.1.sd (ibF 8 (Int32.ofInt 1) (Int32.ofInt (s : Int))), updI S.1.hb s (orI (pW G he s S.2) (G 3).toNat), updI S.1.lb s (orI (lrW (pW G he s S.2) G S.1.K s) (G 3).toNat)), dx s S.2 (G 3).toNat) else S
noncomputable def sayW (G : Nat → Int) (hu : Nat → Bool) (he : Nat → Int → Nat → Bool) (dx : Nat → Int → Nat → Int) (h : Nat) : Nat → Nat → TT × Int → TT × Int
  | 0, _, S => S
  | m + 1, s, S => sayW G hu he dx h m (s + 1) (if sWhn G s = h then oneW G hu he dx s S else S)
noncomputable def tellW (G : Nat → Int) (hu : Nat → Bool) (he : Nat → Int → Nat → Bool) (dx : Nat → Int → Nat → Int) (x0 : Int) : Nat → TT × Int
  | 0 => (iniT G, x0)
  | h + 1 => sayW G hu he dx h (G 4).toNat 0 (tellW G hu he dx x0 h)
/-- the reference has told so far -/
noncomputable abbrev TMW (ad : Nat → Nat) (tys : List (ClassId × FieldType)) (Mo : Int → va_W → Prop) (S : TT × Int) (w0 w : va_W) : Prop :=
  (GOK ad tys GG w) ∧
  (∀ j, j < 36 → rd w 99 j = some (.int (Int32.ofInt (S.1.K j)))) ∧
  (rd w 90 18 = some (.int S.1.sd)) ∧
  (∀ i, i < 12 → rd w 100 i = some (.int (Int32.ofInt (S.1.hb i)))) ∧
  (∀ i, i < 12 → rd w 101 i = some (.int (Int32.ofInt (S.1.lb i)))) ∧
  (∀ c j, ¬ (99 ≤ c ∧ c ≤ 101) → ¬ (c = 90 ∧ (j = 18 ∨ j = 25)) → rd w c j = rd w0 c j) ∧
  (kOK S.1.K) ∧
  (Mo S.2 w)
theorem TMW.g {ad : Nat → Nat} {tys : List (ClassId × FieldType)} {Mo : Int → va_W → Prop} {S : TT × Int} {w0 w : va_W} (h : TMW ad tys Mo S w0 w) : GOK ad tys GG w := h.1
theorem TMW.k {ad : Nat → Nat} {tys : List (ClassId × FieldType)} {Mo : Int → va_W → Prop} {S : TT × Int} {w0 w : va_W} (h : TMW ad tys Mo S w0 w) : ∀ j, j < 36 → rd w 99 j = some (.int (Int32.ofInt (S.1.K j))) := h.2.1
theorem TMW.s {ad : Nat → Nat} {tys : List (ClassId × FieldType)} {Mo : Int → va_W → Prop} {S : TT × Int} {w0 w : va_W} (h : TMW ad tys Mo S w0 w) : rd w 90 18 = some (.int S.1.sd) := h.2.2.1
theorem TMW.h {ad : Nat → Nat} {tys : List (ClassId × FieldType)} {Mo : Int → va_W → Prop} {S : TT × Int} {w0 w : va_W} (h : TMW ad tys Mo S w0 w) : ∀ i, i < 12 → rd w 100 i = some (.int (Int32.ofInt (S.1.hb i))) := h.2.2.2.1
theorem TMW.lr {ad : Nat → Nat} {tys : List (ClassId × FieldType)} {Mo : Int → va_W → Prop} {S : TT × Int} {w0 w : va_W} (h : TMW ad tys Mo S w0 w) : ∀ i, i < 12 → rd w 101 i = some (.int (Int32.ofInt (S.1.lb i))) := h.2.2.2.2.1
theorem TMW.o {ad : Nat → Nat} {tys : List (ClassId × FieldType)} {Mo : Int → va_W → Prop} {S : TT × Int} {w0 w : va_W} (h : TMW ad tys Mo S w0 w) : ∀ c j, ¬ (99 ≤ c ∧ c ≤ 101) → ¬ (c = 90 ∧ (j = 18 ∨ j = 25)) → rd w c j = rd w0 c j := h.2.2.2.2.2.1
theorem TMW.b {ad : Nat → Nat} {tys : List (ClassId × FieldType)} {Mo : Int → va_W → Prop} {S : TT × Int} {w0 w : va_W} (h : TMW ad tys Mo S w0 w) : kOK S.1.K := h.2.2.2.2.2.2.1
theorem TMW.m {ad : Nat → Nat} {tys : List (ClassId × FieldType)} {Mo : Int → va_W → Prop} {S : TT × Int} {w0 w : va_W} (h : TMW ad tys Mo S w0 w) : Mo S.2 w := h.2.2.2.2.2.2.2
/-- a way of hearing, and what is hushed -/
noncomputable abbrev HEA (l : Launch) (D : va_G) (tys : List (ClassId × FieldType)) (A : Nat → Prop) (ad : Nat → Nat) (G : Nat → Int) (hz : Int32) (hu : Nat → Bool) (he : Nat → Int → Nat → Bool) (dx : Nat → Int → Nat → Int) (Mo : Int → va_W → Prop) : Prop :=
  (∀ (x : Int) (w w2 : va_W), Mo x w → (∀ c j, ¬ (98 ≤ c ∧ c ≤ 101) → ¬ (c = 90 ∧ j = 18) → rd w2 c j = rd w c j) → Mo x w2) ∧
  (∀ (x : Int) (w : va_W), Mo x w → rd w 90 21 = some (.int hz)) ∧
  (∀ s : Nat, s < 12 → ibF 5 (ibF 9 hz (Int32.ofInt (s : Int))) (Int32.ofInt 1) = Int32.ofInt (if hu s = true then 1 else 0)) ∧
  (∀ (s : Nat) (x : Int) (f : Nat) (w : va_W), s < 12 → (f : Int) < G 3 → GOK ad tys GG w → W91 G w → Mo (dx s x f) w → preP G s f = true → ∃ d', d' < 5 ∧ CT l D tys A 235 d' 0 0 [.ref (ad 90), .int (Int32.ofInt (f : Int)), .int (Int32.ofInt (s : Int))] w (fun r w2 => r = some (.int (bI (he s x f))) ∧ GOK ad tys GG w2 ∧ Mo (dx s x (f + 1)) w2 ∧ ∀ c j, ¬ (c = 90 ∧ j = 25) → rd w2 c j = rd w c j)) ∧
  (∀ (s : Nat) (x : Int) (f : Nat), preP G s f = false → dx s x (f + 1) = dx s x f) ∧
  (∀ (s : Nat) (x : Int), dx s x 0 = x)
theorem HEA.kp {l : Launch} {D : va_G} {tys : List (ClassId × FieldType)} {A : Nat → Prop} {ad : Nat → Nat} {G : Nat → Int} {hz : Int32} {hu : Nat → Bool} {he : Nat → Int → Nat → Bool} {dx : Nat → Int → Nat → Int} {Mo : Int → va_W → Prop} (h : HEA l D tys A ad G hz hu he dx Mo) : ∀ (x : Int) (w w2 : va_W), Mo x w → (∀ c j, ¬ (98 ≤ c ∧ c ≤ 101) → ¬ (c = 90 ∧ j = 18) → rd w2 c j = rd w c j) → Mo x w2 := h.1
theorem HEA.hz {l : Launch} {D : va_G} {tys : List (ClassId × FieldType)} {A : Nat → Prop} {ad : Nat → Nat} {G : Nat → Int} {hz : Int32} {hu : Nat → Bool} {he : Nat → Int → Nat → Bool} {dx : Nat → Int → Nat → Int} {Mo : Int → va_W → Prop} (h : HEA l D tys A ad G hz hu he dx Mo) : ∀ (x : Int) (w : va_W), Mo x w → rd w 90 21 = some (.int hz) := h.2.1
theorem HEA.hu {l : Launch} {D : va_G} {tys : List (ClassId × FieldType)} {A : Nat → Prop} {ad : Nat → Nat} {G : Nat → Int} {hz : Int32} {hu : Nat → Bool} {he : Nat → Int → Nat → Bool} {dx : Nat → Int → Nat → Int} {Mo : Int → va_W → Prop} (h : HEA l D tys A ad G hz hu he dx Mo) : ∀ s : Nat, s < 12 → ibF 5 (ibF 9 hz (Int32.ofInt (s : Int))) (Int32.ofInt 1) = Int32.ofInt (if hu s = true then 1 else 0) := h.2.2.1
theorem HEA.he {l : Launch} {D : va_G} {tys : List (ClassId × FieldType)} {A : Nat → Prop} {ad : Nat → Nat} {G : Nat → Int} {hz : Int32} {hu : Nat → Bool} {he : Nat → Int → Nat → Bool} {dx : Nat → Int → Nat → Int} {Mo : Int → va_W → Prop} (h : HEA l D tys A ad G hz hu he dx Mo) : ∀ (s : Nat) (x : Int) (f : Nat) (w : va_W), s < 12 → (f : Int) < G 3 → GOK ad tys GG w → W91 G w → Mo (dx s x f) w → preP G s f = true → ∃ d', d' < 5 ∧ CT l D tys A 235 d' 0 0 [.ref (ad 90), .int (Int32.ofInt (f : Int)), .int (Int32.ofInt (s : Int))] w (fun r w2 => r = some (.int (bI (he s x f))) ∧ GOK ad tys GG w2 ∧ Mo (dx s x (f + 1)) w2 ∧ ∀ c j, ¬ (c = 90 ∧ j = 25) → rd w2 c j = rd w c j) := h.2.2.2.1
theorem HEA.dn {l : Launch} {D : va_G} {tys : List (ClassId × FieldType)} {A : Nat → Prop} {ad : Nat → Nat} {G : Nat → Int} {hz : Int32} {hu : Nat → Bool} {he : Nat → Int → Nat → Bool} {dx : Nat → Int → Nat → Int} {Mo : Int → va_W → Prop} (h : HEA l D tys A ad G hz hu he dx Mo) : ∀ (s : Nat) (x : Int) (f : Nat), preP G s f = false → dx s x (f + 1) = dx s x f := h.2.2.2.2.1
theorem HEA.d0 {l : Launch} {D : va_G} {tys : List (ClassId × FieldType)} {A : Nat → Prop} {ad : Nat → Nat} {G : Nat → Int} {hz : Int32} {hu : Nat → Bool} {he : Nat → Int → Nat → Bool} {dx : Nat → Int → Nat → Int} {Mo : Int → va_W → Prop} (h : HEA l D tys A ad G hz hu he dx Mo) : ∀ (s : Nat) (x : Int), dx s x 0 = x := h.2.2.2.2.2
variable {l : Launch} {D : va_G} {tys : List (ClassId × FieldType)} {A : Nat → Prop} {ad : Nat → Nat} {ws : va_W}
variable {G : Nat → Int} {hz : Int32} {hu : Nat → Bool} {he : Nat → Int → Nat → Bool} {dx : Nat → Int → Nat → Int} {Mo : Int → va_W → Prop}
theorem syw_77 (E : HEA l D tys A ad G hz hu he dx Mo) {K : Nat → Int} {s : Nat} {x : Int} {w0 : va_W} {post : Option Value → va_W → Prop} (hB : HB G) (hs : s < 12) (hW0 : W91 G w0) : ∀ (m f : Nat) (w : va_W), ((f + m : Nat) : Int) = G 3 → GOK ad tys GG w → Mo (dx s x f) w → (∀ j, j < 36 → rd w 99 j = some (.int (Int32.ofInt (spW (pW G he s x) G s f K j)))) → rd w 100 s = some (.int (Int32.ofInt (orI (pW G he s x) f))) → rd w 101 s = some (.int (Int32.ofInt (orI (lrW (pW G he s x) G K s) f))) → (∀ c j, c ≠ 99 → ¬ (c = 100 ∧ j = s) → ¬ (c = 101 ∧ j = s) → ¬ (c = 90 ∧ j = 25) → rd w c j = rd w0 c j) → kOK K → (∀ w' : va_W, GOK ad tys GG w' → Mo (dx s x (G 3).toNat) w' → (∀ j, j < 36 → rd w' 99 j = some (.int (Int32.ofInt (spW (pW G he s x) G s (G 3).toNat K j)))) → rd w' 100 s = some (.int (Int32.ofInt (orI (pW G he s x) (G 3).toNat))) → rd w' 101 s = some (.int (Int32.ofInt (orI (lrW (pW G he s x) G K s) (G 3).toNat))) → (∀ c j, c ≠ 99 → ¬ (c = 100 ∧ j = s) → ¬ (c = 101 ∧ j = s) → ¬ (c = 90 ∧ j = 25) → rd w' c j = rd w0 c j) → post none w') → V l D tys A 236 5 0 0 post 0 0 77 [(0, .ref (ad 90)), (1, .int (Int32.ofInt ((s : Int)))), (2, .int (Int32.ofInt ((sWho G s : Int)))), (3, .int (Int32.ofInt ((sWhs G s : Int)))), (4, .int (Int32.ofInt ((sWhi G s : Int)))), (5, .int (Int32.ofInt ((sWhn G s : Int)))), (6, .int (Int32.ofInt ((f : Int))))] [] w
  | 0, f, w, hm, hG, hM, hK, hh, hl, ho, hk, kk => by
    obtain ⟨s91, e91, -⟩ := g91s
    have b3 := hB.b3
    obtain ⟨⟨w6, o6, i6, n24⟩, -⟩ := say_b hB hs
    have hW : W91 G w := fun j hj => (ho 91 j (by omega) (by omega) (by omega) (by omega)).trans (hW0 j hj)
    refine V_iload (v := Int32.ofInt ((f : Int))) mi_236_77 (by simp [stL, lv_args, Value.category]) ?_
    refine V_aload (v := ad 90) mi_236_79 (by simp [stL, lv_args, Value.category]) ?_
    refine V_getI mi_236_80 hG (rref gr1m (by omega) hG) ?_
    refine V_ipush mi_236_83 ?_
    refine V_aldX (j := 3) mi_236_84 rfl hG e91 (by omega) (by omega) (hW _ (by omega)) ?_
    refine V_cge mi_236_85 ⟨by omega, by omega⟩ ⟨by omega, by omega⟩ (fun q => ?_) (fun q => ?_)
    · have e : f = (G 3).toNat := by omega
      subst e
      exact V_retV mi_236_200 (kk w hG hM hK hh hl ho)
    · exact absurd q (by omega)
  | m + 1, f, w, hm, hG, hM, hK, hh, hl, ho, hk, kk => by
    obtain ⟨s91, e91, -⟩ := g91s
    have b3 := hB.b3
    obtain ⟨⟨w6, o6, i6, n24⟩, -⟩ := say_b hB hs
    have hW : W91 G w := fun j hj => (ho 91 j (by omega) (by omega) (by omega) (by omega)).trans (hW0 j hj)
    refine V_iload (v := Int32.ofInt ((f : Int))) mi_236_77 (by simp [stL, lv_args, Value.category]) ?_
    refine V_aload (v := ad 90) mi_236_79 (by simp [stL, lv_args, Value.category]) ?_
    refine V_getI mi_236_80 hG (rref gr1m (by omega) hG) ?_
    refine V_ipush mi_236_83 ?_
    refine V_aldX (j := 3) mi_236_84 rfl hG e91 (by omega) (by omega) (hW _ (by omega)) ?_
    refine V_cge mi_236_85 ⟨by omega, by omega⟩ ⟨by omega, by omega⟩ (fun q => ?_) (fun q => ?_)
    · exact absurd q (by omega)
    · refine V_iload (v := Int32.ofInt ((f : Int))) mi_236_88 (by simp [stL, lv_args, Value.category]) ?_
      refine V_iload (v := Int32.ofInt ((sWho G s : Int))) mi_236_90 (by simp [stL, lv_args, Value.category]) ?_
      refine V_ceq mi_236_91 ⟨by omega, by omega⟩ ⟨by omega, by omega⟩ (fun q2 => ?_) (fun q2 => ?_)
      · have pp : preP G s f = false := by unfold preP; rw [show f = sWho G s by omega, Nat.beq_refl]; rfl
        refine V_iinc (v := Int32.ofInt ((f : Int))) mi_236_194 (by simp [stL, lv_args, Value.category]) ?_
        rw [ia2]
        refine V_goto mi_236_197 ?_
        refine V_sub (lv' := [(0, .ref (ad 90)), (1, .int (Int32.ofInt ((s : Int)))), (2, .int (Int32.ofInt ((sWho G s : Int)))), (3, .int (Int32.ofInt ((sWhs G s : Int)))), (4, .int (Int32.ofInt ((sWhi G s : Int)))), (5, .int (Int32.ofInt ((sWhn G s : Int)))), (6, .int (Int32.ofInt (((f + 1 : Nat) : Int))))]) (fun q hq => ?_) ?_
        · simp only [List.mem_cons, List.not_mem_nil, or_false] at hq
          rcases hq with rfl | rfl | rfl | rfl | rfl | rfl | rfl <;> simp [stL, lv_args, Value.category]
        have pf : (pW G he s x) f = false := by unfold pW; rw [pp]; rfl
        have lf : lrW (pW G he s x) G K s f = false := by unfold lrW; rw [pf, Bool.false_and]
        exact syw_77 E hB hs hW0 m (f + 1) w (by omega) hG (by rw [E.dn s x f pp]; exact hM) (by rw [spW_skip pf]; exact hK) (by unfold orI; rw [pf, if_neg Bool.false_ne_true]; exact hh) (by unfold orI; rw [lf, if_neg Bool.false_ne_true]; exact hl) ho hk kk
      · have nb : Nat.beq f (sWho G s) = false := by
          cases h : Nat.beq f (sWho G s)
          · rfl
          · exact absurd (by rw [Nat.eq_of_beq_eq_true h]) q2
        refine V_aload (v := ad 90) mi_236_94 (by simp [stL, lv_args, Value.category]) ?_
        refine V_iload (v := Int32.ofInt ((f : Int))) mi_236_95 (by simp [stL, lv_args, Value.category]) ?_
        refine V_iload (v := Int32.ofInt ((sWhn G s : Int))) mi_236_97 (by simp [stL, lv_args, Value.category]) ?_
        refine V_callM (As := [.int (Int32.ofInt ((f : Int))), .int (Int32.ofInt ((sWhn G s : Int)))]) (st := []) mi_236_99 (by omega) (by decide +kernel) (by decide +kernel) hG (mpl_ct (f := f) (h := sWhn G s) hG hW hB (by omega) n24) (by omega) (show 2 = mN 207 by decide +kernel) (by simp [Value.category]) ?_
        rintro r w1 ⟨e1, rfl⟩
        rw [e1]
        refine V_aload (v := ad 90) mi_236_102 (by simp [stL, lv_args, Value.category]) ?_
        refine V_iload (v := Int32.ofInt ((sWho G s : Int))) mi_236_103 (by simp [stL, lv_args, Value.category]) ?_
        refine V_iload (v := Int32.ofInt ((sWhn G s : Int))) mi_236_104 (by simp [stL, lv_args, Value.category]) ?_
        refine V_callM (As := [.int (Int32.ofInt ((sWho G s : Int))), .int (Int32.ofInt ((sWhn G s : Int)))]) (st := [.int (Int32.ofInt (G (102 + (24 * f + sWhn G s))))]) mi_236_106 (by omega) (by decide +kernel) (by decide +kernel) hG (mpl_ct (f := sWho G s) (h := sWhn G s) hG hW hB w6 n24) (by omega) (show 2 = mN 207 by decide +kernel) (by simp [Value.category]) ?_
        rintro r w2 ⟨e2, rfl⟩
        rw [e2]
        have p1 := hB.bp (24 * f + sWhn G s) (by omega)
        have p2 := hB.bp (24 * sWho G s + sWhn G s) (by omega)
        refine V_cne mi_236_109 ⟨by omega, by omega⟩ ⟨by omega, by omega⟩ (fun q3 => ?_) (fun q3 => ?_)
        · have pp : preP G s f = false := by unfold preP; rw [decide_eq_false q3, Bool.and_false]
          refine V_iinc (v := Int32.ofInt ((f : Int))) mi_236_194 (by simp [stL, lv_args, Value.category]) ?_
          rw [ia2]
          refine V_goto mi_236_197 ?_
          refine V_sub (lv' := [(0, .ref (ad 90)), (1, .int (Int32.ofInt ((s : Int)))), (2, .int (Int32.ofInt ((sWho G s : Int)))), (3, .int (Int32.ofInt ((sWhs G s : Int)))), (4, .int (Int32.ofInt ((sWhi G s : Int)))), (5, .int (Int32.ofInt ((sWhn G s : Int)))), (6, .int (Int32.ofInt (((f + 1 : Nat) : Int))))]) (fun q hq => ?_) ?_
          · simp only [List.mem_cons, List.not_mem_nil, or_false] at hq
            rcases hq with rfl | rfl | rfl | rfl | rfl | rfl | rfl <;> simp [stL, lv_args, Value.category]
          have pf : (pW G he s x) f = false := by unfold pW; rw [pp]; rfl
          have lf : lrW (pW G he s x) G K s f = false := by unfold lrW; rw [pf, Bool.false_and]
          exact syw_77 E hB hs hW0 m (f + 1) w (by omega) hG (by rw [E.dn s x f pp]; exact hM) (by rw [spW_skip pf]; exact hK) (by unfold orI; rw [pf, if_neg Bool.false_ne_true]; exact hh) (by unfold orI; rw [lf, if_neg Bool.false_ne_true]; exact hl) ho hk kk
        · have pp : preP G s f = true := by unfold preP; rw [nb, decide_eq_true q3]; rfl
          obtain ⟨d5, hd5, c5⟩ := E.he s x f w hs (by omega) hG hW hM pp
          refine V_aload (v := ad 90) mi_236_112 (by simp [stL, lv_args, Value.category]) ?_
          refine V_iload (v := Int32.ofInt ((f : Int))) mi_236_113 (by simp [stL, lv_args, Value.category]) ?_
          refine V_iload (v := Int32.ofInt ((s : Int))) mi_236_115 (by simp [stL, lv_args, Value.category]) ?_
          refine V_callM (As := [.int (Int32.ofInt ((f : Int))), .int (Int32.ofInt ((s : Int)))]) (st := []) mi_236_116 (by omega) (by decide +kernel) (by decide +kernel) hG (c5) (by omega) (show 2 = mN 235 by decide +kernel) (by simp [Value.category]) ?_
          rintro r w3 ⟨e3, G3, M3, o3⟩
          rw [e3]
          have hK3 : ∀ j, j < 36 → rd w3 99 j = some (.int (Int32.ofInt (spW (pW G he s x) G s f K j))) := fun j hj => (o3 _ _ (by omega)).trans (hK j hj)
          have hh3 := (o3 100 s (by omega)).trans hh
          have hl3 := (o3 101 s (by omega)).trans hl
          have ho3 : ∀ c j, c ≠ 99 → ¬ (c = 100 ∧ j = s) → ¬ (c = 101 ∧ j = s) → ¬ (c = 90 ∧ j = 25) → rd w3 c j = rd w0 c j := fun c j h1 h2 h3 h4 => (o3 c j h4).trans (ho c j h1 h2 h3 h4)
          refine V_bne mi_236_119  (fun q4 => ?_) (fun q4 => ?_)
          · have pf : (pW G he s x) f = true := by unfold pW; rw [pp, q4]; rfl
            obtain ⟨s99, e99, f99⟩ := a99
            obtain ⟨s100, e100, f100⟩ := a100
            obtain ⟨s101, e101, f101⟩ := a101
            have bh := orI_bd (P := (pW G he s x)) (f := f) (by omega)
            have bl := orI_bd (P := lrW (pW G he s x) G K s) (f := f) (by omega)
            have bk := hk (6 * f + sWhs G s) (by omega)
            obtain ⟨t1, t2, t3⟩ := tb_k (a := K (6 * f + sWhs G s)) (i := (sWhi G s : Int)) bk.1 bk.2 (by omega) (by omega)
            have bb := bitO_bd bh.1 bh.2 (i := (f : Int)) (by omega) (by omega)
            have bc := bitO_bd bk.1 bk.2 (i := (sWhi G s : Int)) (by omega) (by omega)
            have hKn : rd w3 99 (6 * f + sWhs G s) = some (.int (Int32.ofInt (K (6 * f + sWhs G s)))) := by rw [hK3 _ (by omega), spW_new o6]
            refine V_aload (v := ad 90) mi_236_125 (by simp [stL, lv_args, Value.category]) ?_
            refine V_getI mi_236_126 G3 (rref gr19 (by omega) G3) ?_
            refine V_iload (v := Int32.ofInt ((s : Int))) mi_236_129 (by simp [stL, lv_args, Value.category]) ?_
            refine V_dup2 mi_236_130 (by simp [Value.category]) (by simp [Value.category]) ?_
            refine V_aldX (j := s) mi_236_131 rfl G3 e100 (by omega) (by omega) (hh3) ?_
            refine V_ipush mi_236_132 ?_
            refine V_iload (v := Int32.ofInt ((f : Int))) mi_236_133 (by simp [stL, lv_args, Value.category]) ?_
            refine V_ibin mi_236_135 (by omega) ?_
            refine V_ibin mi_236_136 (by omega) ?_
            rw [bitO_i]
            refine V_astX (j := s) mi_236_137 rfl G3 e100 hs (by omega) (f100 s hs) (by rw [Int32.toInt_ofInt_of_le (by omega) (by omega)]; omega) (by rw [Int32.toInt_ofInt_of_le (by omega) (by omega)]; omega) (fun w4 G4 U4 => ?_)
            refine V_aload (v := ad 90) mi_236_138 (by simp [stL, lv_args, Value.category]) ?_
            refine V_getI mi_236_139 G4 (rref gr20 (by omega) G4) ?_
            refine V_iload (v := Int32.ofInt ((s : Int))) mi_236_142 (by simp [stL, lv_args, Value.category]) ?_
            refine V_dup2 mi_236_143 (by simp [Value.category]) (by simp [Value.category]) ?_
            refine V_aldX (j := s) mi_236_144 rfl G4 e101 (by omega) (by omega) ((upd_ne U4 (by omega)).trans hl3) ?_
            refine V_aload (v := ad 90) mi_236_145 (by simp [stL, lv_args, Value.category]) ?_
            refine V_getI mi_236_146 G4 (rref gr17 (by omega) G4) ?_
            refine V_ipush mi_236_149 ?_
            refine V_iload (v := Int32.ofInt ((f : Int))) mi_236_151 (by simp [stL, lv_args, Value.category]) ?_
            refine V_ibin mi_236_153 (by omega) ?_
            rw [ib2]
            refine V_iload (v := Int32.ofInt ((sWhs G s : Int))) mi_236_154 (by simp [stL, lv_args, Value.category]) ?_
            refine V_ibin mi_236_155 (by omega) ?_
            rw [ib0]
            refine V_aldX (j := 6 * f + sWhs G s) mi_236_156 (by rw [show ((6) * ((f : Int))) + ((sWhs G s : Int)) = ((6 * f + sWhs G s : Nat) : Int) by omega]) G4 e99 (by omega) (by omega) ((upd_ne U4 (by omega)).trans hKn) ?_
            refine V_iload (v := Int32.ofInt ((sWhi G s : Int))) mi_236_157 (by simp [stL, lv_args, Value.category]) ?_
            refine V_stat (As := [.int (Int32.ofInt (K (6 * f + sWhs G s))), .int (Int32.ofInt ((sWhi G s : Int)))]) (st := [.int (Int32.ofInt (orI (lrW (pW G he s x) G K s) f)), .int (Int32.ofInt ((s : Int))), .ref (ad 101)]) mi_236_159 (by omega) (bit_ct _ _ _) (by omega) (show 2 = mN 195 by decide +kernel) (by simp [Value.category]) ⟨Nat.le_refl _, Nat.le_refl _⟩ ?_
            rintro r w5 ⟨e5, rfl⟩
            rw [e5, t1]
            change V l D tys A 236 5 0 0 _ 0 0 _ _ (.int (bI (tb (K (6 * f + sWhs G s)) (sWhi G s : Int))) :: _) _
            refine V_bne mi_236_162  (fun q5 => ?_) (fun q5 => ?_)
            · have lf : lrW (pW G he s x) G K s f = false := by unfold lrW; rw [pf, q5]; rfl
              refine V_ipush mi_236_172 ?_
              refine V_ibin mi_236_173 (by omega) ?_
              rw [or0]
              refine V_astX (j := s) mi_236_174 rfl G4 e101 hs (by omega) (f101 s hs) (by rw [Int32.toInt_ofInt_of_le (by omega) (by omega)]; omega) (by rw [Int32.toInt_ofInt_of_le (by omega) (by omega)]; omega) (fun w6 G6 U6 => ?_)
              refine V_aload (v := ad 90) mi_236_175 (by simp [stL, lv_args, Value.category]) ?_
              refine V_getI mi_236_176 G6 (rref gr17 (by omega) G6) ?_
              refine V_ipush mi_236_179 ?_
              refine V_iload (v := Int32.ofInt ((f : Int))) mi_236_181 (by simp [stL, lv_args, Value.category]) ?_
              refine V_ibin mi_236_183 (by omega) ?_
              rw [ib2]
              refine V_iload (v := Int32.ofInt ((sWhs G s : Int))) mi_236_184 (by simp [stL, lv_args, Value.category]) ?_
              refine V_ibin mi_236_185 (by omega) ?_
              rw [ib0]
              rw [show 6 * (f : Int) + (sWhs G s : Int) = ((6 * f + sWhs G s : Nat) : Int) by omega]
              refine V_dup2 mi_236_186 (by simp [Value.category]) (by simp [Value.category]) ?_
              refine V_aldX (j := 6 * f + sWhs G s) mi_236_187 rfl G6 e99 (by omega) (by omega) ((upd_ne U6 (by omega)).trans ((upd_ne U4 (by omega)).trans hKn)) ?_
              refine V_ipush mi_236_188 ?_
              refine V_iload (v := Int32.ofInt ((sWhi G s : Int))) mi_236_189 (by simp [stL, lv_args, Value.category]) ?_
              refine V_ibin mi_236_191 (by omega) ?_
              refine V_ibin mi_236_192 (by omega) ?_
              rw [bitO_i]
              refine V_astX (j := 6 * f + sWhs G s) mi_236_193 rfl G6 e99 (by omega) (by omega) (f99 _ (by omega)) (by rw [Int32.toInt_ofInt_of_le (by omega) (by omega)]; omega) (by rw [Int32.toInt_ofInt_of_le (by omega) (by omega)]; omega) (fun w7 G7 U7 => ?_)
              refine V_iinc (v := Int32.ofInt ((f : Int))) mi_236_194 (by simp [stL, lv_args, Value.category]) ?_
              rw [ia2]
              refine V_goto mi_236_197 ?_
              refine V_sub (lv' := [(0, .ref (ad 90)), (1, .int (Int32.ofInt ((s : Int)))), (2, .int (Int32.ofInt ((sWho G s : Int)))), (3, .int (Int32.ofInt ((sWhs G s : Int)))), (4, .int (Int32.ofInt ((sWhi G s : Int)))), (5, .int (Int32.ofInt ((sWhn G s : Int)))), (6, .int (Int32.ofInt (((f + 1 : Nat) : Int))))]) (fun q hq => ?_) ?_
              · simp only [List.mem_cons, List.not_mem_nil, or_false] at hq
                rcases hq with rfl | rfl | rfl | rfl | rfl | rfl | rfl <;> simp [stL, lv_args, Value.category]
              have oo : ∀ c j, c ≠ 99 → ¬ (c = 100 ∧ j = s) → ¬ (c = 101 ∧ j = s) → rd w7 c j = rd w3 c j := fun c j h1 h2 h3 => (upd_ne U7 (by omega)).trans ((upd_ne U6 (by omega)).trans (upd_ne U4 (by omega)))
              refine syw_77 E hB hs hW0 m (f + 1) w7 (by omega) G7 (E.kp _ w3 w7 M3 (fun c j h1 h2 => oo c j (by omega) (by omega) (by omega))) (fun j hj => ?_) ?_ ?_ (fun c j h1 h2 h3 h4 => (oo c j h1 h2 h3).trans (ho3 c j h1 h2 h3 h4)) hk kk
              · rw [spW_step pf o6]
                show _ = some (Value.int (Int32.ofInt (if j = 6 * f + sWhs G s then _ else _)))
                by_cases e : j = 6 * f + sWhs G s
                · rw [if_pos e, e]
                  exact upd_eq U7
                · rw [if_neg e]
                  exact (upd_ne U7 (by omega)).trans ((upd_ne U6 (by omega)).trans ((upd_ne U4 (by omega)).trans (hK3 j hj)))
              · unfold orI
                rw [pf, if_pos rfl]
                exact (upd_ne U7 (by omega)).trans ((upd_ne U6 (by omega)).trans (upd_eq U4))
              · unfold orI
                rw [lf, if_neg Bool.false_ne_true]
                exact (upd_ne U7 (by omega)).trans (upd_eq U6)
            · have lf : lrW (pW G he s x) G K s f = true := by unfold lrW; rw [pf, q5]; rfl
              have bd := bitO_bd bl.1 bl.2 (i := (f : Int)) (by omega) (by omega)
              refine V_ipush mi_236_165 ?_
              refine V_iload (v := Int32.ofInt ((f : Int))) mi_236_166 (by simp [stL, lv_args, Value.category]) ?_
              refine V_ibin mi_236_168 (by omega) ?_
              refine V_goto mi_236_169 ?_
              refine V_ibin mi_236_173 (by omega) ?_
              rw [bitO_i]
              refine V_astX (j := s) mi_236_174 rfl G4 e101 hs (by omega) (f101 s hs) (by rw [Int32.toInt_ofInt_of_le (by omega) (by omega)]; omega) (by rw [Int32.toInt_ofInt_of_le (by omega) (by omega)]; omega) (fun w6 G6 U6 => ?_)
              refine V_aload (v := ad 90) mi_236_175 (by simp [stL, lv_args, Value.category]) ?_
              refine V_getI mi_236_176 G6 (rref gr17 (by omega) G6) ?_
              refine V_ipush mi_236_179 ?_
              refine V_iload (v := Int32.ofInt ((f : Int))) mi_236_181 (by simp [stL, lv_args, Value.category]) ?_
              refine V_ibin mi_236_183 (by omega) ?_
              rw [ib2]
              refine V_iload (v := Int32.ofInt ((sWhs G s : Int))) mi_236_184 (by simp [stL, lv_args, Value.category]) ?_
              refine V_ibin mi_236_185 (by omega) ?_
              rw [ib0]
              rw [show 6 * (f : Int) + (sWhs G s : Int) = ((6 * f + sWhs G s : Nat) : Int) by omega]
              refine V_dup2 mi_236_186 (by simp [Value.category]) (by simp [Value.category]) ?_
              refine V_aldX (j := 6 * f + sWhs G s) mi_236_187 rfl G6 e99 (by omega) (by omega) ((upd_ne U6 (by omega)).trans ((upd_ne U4 (by omega)).trans hKn)) ?_
              refine V_ipush mi_236_188 ?_
              refine V_iload (v := Int32.ofInt ((sWhi G s : Int))) mi_236_189 (by simp [stL, lv_args, Value.category]) ?_
              refine V_ibin mi_236_191 (by omega) ?_
              refine V_ibin mi_236_192 (by omega) ?_
              rw [bitO_i]
              refine V_astX (j := 6 * f + sWhs G s) mi_236_193 rfl G6 e99 (by omega) (by omega) (f99 _ (by omega)) (by rw [Int32.toInt_ofInt_of_le (by omega) (by omega)]; omega) (by rw [Int32.toInt_ofInt_of_le (by omega) (by omega)]; omega) (fun w7 G7 U7 => ?_)
              refine V_iinc (v := Int32.ofInt ((f : Int))) mi_236_194 (by simp [stL, lv_args, Value.category]) ?_
              rw [ia2]
              refine V_goto mi_236_197 ?_
              refine V_sub (lv' := [(0, .ref (ad 90)), (1, .int (Int32.ofInt ((s : Int)))), (2, .int (Int32.ofInt ((sWho G s : Int)))), (3, .int (Int32.ofInt ((sWhs G s : Int)))), (4, .int (Int32.ofInt ((sWhi G s : Int)))), (5, .int (Int32.ofInt ((sWhn G s : Int)))), (6, .int (Int32.ofInt (((f + 1 : Nat) : Int))))]) (fun q hq => ?_) ?_
              · simp only [List.mem_cons, List.not_mem_nil, or_false] at hq
                rcases hq with rfl | rfl | rfl | rfl | rfl | rfl | rfl <;> simp [stL, lv_args, Value.category]
              have oo : ∀ c j, c ≠ 99 → ¬ (c = 100 ∧ j = s) → ¬ (c = 101 ∧ j = s) → rd w7 c j = rd w3 c j := fun c j h1 h2 h3 => (upd_ne U7 (by omega)).trans ((upd_ne U6 (by omega)).trans (upd_ne U4 (by omega)))
              refine syw_77 E hB hs hW0 m (f + 1) w7 (by omega) G7 (E.kp _ w3 w7 M3 (fun c j h1 h2 => oo c j (by omega) (by omega) (by omega))) (fun j hj => ?_) ?_ ?_ (fun c j h1 h2 h3 h4 => (oo c j h1 h2 h3).trans (ho3 c j h1 h2 h3 h4)) hk kk
              · rw [spW_step pf o6]
                show _ = some (Value.int (Int32.ofInt (if j = 6 * f + sWhs G s then _ else _)))
                by_cases e : j = 6 * f + sWhs G s
                · rw [if_pos e, e]
                  exact upd_eq U7
                · rw [if_neg e]
                  exact (upd_ne U7 (by omega)).trans ((upd_ne U6 (by omega)).trans ((upd_ne U4 (by omega)).trans (hK3 j hj)))
              · unfold orI
                rw [pf, if_pos rfl]
                exact (upd_ne U7 (by omega)).trans ((upd_ne U6 (by omega)).trans (upd_eq U4))
              · unfold orI
                rw [lf, if_pos rfl]
                exact (upd_ne U7 (by omega)).trans (upd_eq U6)
          · refine V_goto mi_236_122 ?_
            refine V_iinc (v := Int32.ofInt ((f : Int))) mi_236_194 (by simp [stL, lv_args, Value.category]) ?_
            rw [ia2]
            refine V_goto mi_236_197 ?_
            refine V_sub (lv' := [(0, .ref (ad 90)), (1, .int (Int32.ofInt ((s : Int)))), (2, .int (Int32.ofInt ((sWho G s : Int)))), (3, .int (Int32.ofInt ((sWhs G s : Int)))), (4, .int (Int32.ofInt ((sWhi G s : Int)))), (5, .int (Int32.ofInt ((sWhn G s : Int)))), (6, .int (Int32.ofInt (((f + 1 : Nat) : Int))))]) (fun q hq => ?_) ?_
            · simp only [List.mem_cons, List.not_mem_nil, or_false] at hq
              rcases hq with rfl | rfl | rfl | rfl | rfl | rfl | rfl <;> simp [stL, lv_args, Value.category]
            have pf : (pW G he s x) f = false := by unfold pW; rw [pp, q4]; rfl
            have lf : lrW (pW G he s x) G K s f = false := by unfold lrW; rw [pf, Bool.false_and]
            exact syw_77 E hB hs hW0 m (f + 1) w3 (by omega) G3 M3 (by rw [spW_skip pf]; exact hK3) (by unfold orI; rw [pf, if_neg Bool.false_ne_true]; exact hh3) (by unfold orI; rw [lf, if_neg Bool.false_ne_true]; exact hl3) ho3 hk kk
theorem sayw_ct (E : HEA l D tys A ad G hz hu he dx Mo) {S : TT × Int} {w0 : va_W} {s : Nat} (hB : HB G) (hs : s < 12) (hW0 : W91 G w0) (hT : TMW ad tys Mo S w0 ws) (hb0 : S.1.hb s = 0) (lb0 : S.1.lb s = 0) : CT l D tys A 236 5 0 0 [.ref (ad 90), .int (Int32.ofInt ((s : Int)))] ws (fun r w => r = none ∧ TMW ad tys Mo (oneW G hu he dx s S) w0 w) := by
  refine CT_of_V (by omega) (show (2 : Nat) ≤ mML 236 by decide +kernel) ?_
  obtain ⟨⟨w6, o6, i6, n24⟩, g0, g1, g2, g3⟩ := say_b hB hs
  obtain ⟨s99, e99, f99⟩ := a99
  have b3 := hB.b3
  have hW : W91 G ws := fun j hj => (hT.o 91 j (by omega) (by omega)).trans (hW0 j hj)
  have bk := hT.b (6 * sWho G s + sWhs G s) (by omega)
  obtain ⟨t1, t2, t3⟩ := tb_k (a := S.1.K (6 * sWho G s + sWhs G s)) (i := (sWhi G s : Int)) bk.1 bk.2 (by omega) (by omega)
  refine V_aload (v := ad 90) mi_236_0 (by simp [stL, lv_args, Value.category]) ?_
  refine V_iload (v := Int32.ofInt ((s : Int))) mi_236_1 (by simp [stL, lv_args, Value.category]) ?_
  refine V_ipush mi_236_2 ?_
  refine V_callM (As := [.int (Int32.ofInt ((s : Int))), .int (Int32.ofInt (0))]) (st := []) mi_236_3 (by omega) (by decide +kernel) (by decide +kernel) hT.g (mos_ct (k := s) (a := 0) hT.g hW hB hs (by omega)) (by omega) (show 2 = mN 208 by decide +kernel) (by simp [Value.category]) ?_
  rintro r w1 ⟨e1, rfl⟩
  rw [e1]
  rw [show G (246 + 4 * s + 0) = G (246 + 4 * s) from rfl, g0]
  refine V_istore mi_236_6 ?_
  refine V_aload (v := ad 90) mi_236_7 (by simp [stL, lv_args, Value.category]) ?_
  refine V_iload (v := Int32.ofInt ((s : Int))) mi_236_8 (by simp [stL, lv_args, Value.category]) ?_
  refine V_ipush mi_236_9 ?_
  refine V_callM (As := [.int (Int32.ofInt ((s : Int))), .int (Int32.ofInt (1))]) (st := []) mi_236_10 (by omega) (by decide +kernel) (by decide +kernel) hT.g (mos_ct (k := s) (a := 1) hT.g hW hB hs (by omega)) (by omega) (show 2 = mN 208 by decide +kernel) (by simp [Value.category]) ?_
  rintro r w1 ⟨e1, rfl⟩
  rw [e1]
  rw [g1]
  refine V_istore mi_236_13 ?_
  refine V_aload (v := ad 90) mi_236_14 (by simp [stL, lv_args, Value.category]) ?_
  refine V_iload (v := Int32.ofInt ((s : Int))) mi_236_15 (by simp [stL, lv_args, Value.category]) ?_
  refine V_ipush mi_236_16 ?_
  refine V_callM (As := [.int (Int32.ofInt ((s : Int))), .int (Int32.ofInt (2))]) (st := []) mi_236_17 (by omega) (by decide +kernel) (by decide +kernel) hT.g (mos_ct (k := s) (a := 2) hT.g hW hB hs (by omega)) (by omega) (show 2 = mN 208 by decide +kernel) (by simp [Value.category]) ?_
  rintro r w1 ⟨e1, rfl⟩
  rw [e1]
  rw [g2]
  refine V_istore mi_236_20 ?_
  refine V_aload (v := ad 90) mi_236_22 (by simp [stL, lv_args, Value.category]) ?_
  refine V_getI mi_236_23 hT.g (E.hz _ _ hT.m) ?_
  refine V_iload (v := Int32.ofInt ((s : Int))) mi_236_26 (by simp [stL, lv_args, Value.category]) ?_
  refine V_stat (As := [.int (hz), .int (Int32.ofInt ((s : Int)))]) (st := []) mi_236_27 (by omega) (bit_ct _ _ _) (by omega) (show 2 = mN 195 by decide +kernel) (by simp [Value.category]) ⟨Nat.le_refl _, Nat.le_refl _⟩ ?_
  rintro r w1 ⟨e1, rfl⟩
  rw [e1, E.hu s hs]
  change V l D tys A 236 5 0 0 _ 0 0 _ _ (.int (Int32.ofInt (if hu s = true then 1 else 0)) :: _) _
  refine V_ipush mi_236_30 ?_
  refine V_ceq mi_236_31 ⟨by split <;> omega, by split <;> omega⟩ ⟨by omega, by omega⟩ (fun q => ?_) (fun q => ?_)
  · have hz1 : ¬ (hu s = false ∧ canB G S.1.K s = true) := fun k => by
      rw [k.1, if_neg Bool.false_ne_true] at q
      omega
    refine V_retV mi_236_53 ⟨rfl, ?_⟩
    unfold oneW
    rw [if_neg hz1]
    exact hT
  · have hn : hu s = false := by
      cases c : hu s with
      | false => rfl
      | true => exact absurd (by rw [if_pos c]) q
    refine V_aload (v := ad 90) mi_236_34 (by simp [stL, lv_args, Value.category]) ?_
    refine V_getI mi_236_35 hT.g (rref gr17 (by omega) hT.g) ?_
    refine V_ipush mi_236_38 ?_
    refine V_iload (v := Int32.ofInt ((sWho G s : Int))) mi_236_40 (by simp [stL, lv_args, Value.category]) ?_
    refine V_ibin mi_236_41 (by omega) ?_
    rw [ib2]
    refine V_iload (v := Int32.ofInt ((sWhs G s : Int))) mi_236_42 (by simp [stL, lv_args, Value.category]) ?_
    refine V_ibin mi_236_43 (by omega) ?_
    rw [ib0]
    refine V_aldX (j := 6 * sWho G s + sWhs G s) mi_236_44 (by rw [show ((6) * ((sWho G s : Int))) + ((sWhs G s : Int)) = ((6 * sWho G s + sWhs G s : Nat) : Int) by omega]) hT.g e99 (by omega) (by omega) (hT.k _ (by omega)) ?_
    refine V_iload (v := Int32.ofInt ((sWhi G s : Int))) mi_236_45 (by simp [stL, lv_args, Value.category]) ?_
    refine V_stat (As := [.int (Int32.ofInt (S.1.K (6 * sWho G s + sWhs G s))), .int (Int32.ofInt ((sWhi G s : Int)))]) (st := []) mi_236_47 (by omega) (bit_ct _ _ _) (by omega) (show 2 = mN 195 by decide +kernel) (by simp [Value.category]) ⟨Nat.le_refl _, Nat.le_refl _⟩ ?_
    rintro r w2 ⟨e2, rfl⟩
    rw [e2, t1]
    change V l D tys A 236 5 0 0 _ 0 0 _ _ (.int (bI (canB G S.1.K s)) :: _) _
    refine V_bne mi_236_50  (fun q2 => ?_) (fun q2 => ?_)
    · refine V_aload (v := ad 90) mi_236_54 (by simp [stL, lv_args, Value.category]) ?_
      refine V_dup mi_236_55 (by simp [Value.category]) ?_
      refine V_getI mi_236_56 hT.g (hT.s) ?_
      refine V_ipush mi_236_59 ?_
      refine V_iload (v := Int32.ofInt ((s : Int))) mi_236_60 (by simp [stL, lv_args, Value.category]) ?_
      refine V_ibin mi_236_61 (by omega) ?_
      refine V_ibin mi_236_62 (by omega) ?_
      refine V_putI mi_236_63 hT.g f18m (by omega) rfl (by decide +kernel) (i32b _).1 (i32b _).2 (fun w3 G3 U3 => ?_)
      have hW3 : W91 G w3 := fun j hj => (upd_ne U3 (by omega)).trans (hW j hj)
      refine V_aload (v := ad 90) mi_236_66 (by simp [stL, lv_args, Value.category]) ?_
      refine V_iload (v := Int32.ofInt ((s : Int))) mi_236_67 (by simp [stL, lv_args, Value.category]) ?_
      refine V_ipush mi_236_68 ?_
      refine V_callM (As := [.int (Int32.ofInt ((s : Int))), .int (Int32.ofInt (3))]) (st := []) mi_236_69 (by omega) (by decide +kernel) (by decide +kernel) G3 (mos_ct (k := s) (a := 3) G3 hW3 hB hs (by omega)) (by omega) (show 2 = mN 208 by decide +kernel) (by simp [Value.category]) ?_
      rintro r w4 ⟨e4, rfl⟩
      rw [e4, g3]
      refine V_istore mi_236_72 ?_
      refine V_ipush mi_236_74 ?_
      refine V_istore mi_236_75 ?_
      refine V_sub (lv' := [(0, .ref (ad 90)), (1, .int (Int32.ofInt ((s : Int)))), (2, .int (Int32.ofInt ((sWho G s : Int)))), (3, .int (Int32.ofInt ((sWhs G s : Int)))), (4, .int (Int32.ofInt ((sWhi G s : Int)))), (5, .int (Int32.ofInt ((sWhn G s : Int)))), (6, .int (Int32.ofInt (((0 : Nat) : Int))))]) (fun q hq => ?_) ?_
      · simp only [List.mem_cons, List.not_mem_nil, or_false] at hq
        rcases hq with rfl | rfl | rfl | rfl | rfl | rfl | rfl <;> simp [stL, lv_args, Value.category]
      refine syw_77 E (K := S.1.K) (x := S.2) hB hs hW3 (G 3).toNat 0 w3 (by omega) G3 (by rw [E.d0]; exact E.kp _ ws w3 hT.m (fun c j h1 h2 => upd_ne U3 (by omega))) (by rw [spW_0]; exact fun j hj => (upd_ne U3 (by omega)).trans (hT.k j hj)) ((upd_ne U3 (by omega)).trans ((hT.h s hs).trans (by rw [hb0]; rfl))) ((upd_ne U3 (by omega)).trans ((hT.lr s hs).trans (by rw [lb0]; rfl))) (fun _ _ _ _ _ _ => rfl) hT.b (fun w5 G5 M5 k5 h5 l5 o5 => ?_)
      refine ⟨rfl, ?_⟩
      unfold oneW
      rw [if_pos ⟨hn, q2⟩]
      refine ⟨G5, k5, (o5 _ _ (by omega) (by omega) (by omega) (by omega)).trans (upd_eq U3), fun i hi => ?_, fun i hi => ?_, fun c j h1 h2 => (o5 _ _ (by omega) (by omega) (by omega) (by omega)).trans ((upd_ne U3 (by omega)).trans (hT.o c j h1 h2)), spW_ok hT.b i6, M5⟩
      · show _ = some (Value.int (Int32.ofInt (if i = s then _ else S.1.hb i)))
        by_cases e : i = s
        · rw [if_pos e, e]
          exact h5
        · rw [if_neg e]
          exact (o5 _ _ (by omega) (by omega) (by omega) (by omega)).trans ((upd_ne U3 (by omega)).trans (hT.h i hi))
      · show _ = some (Value.int (Int32.ofInt (if i = s then _ else S.1.lb i)))
        by_cases e : i = s
        · rw [if_pos e, e]
          exact l5
        · rw [if_neg e]
          exact (o5 _ _ (by omega) (by omega) (by omega) (by omega)).trans ((upd_ne U3 (by omega)).trans (hT.lr i hi))
    · refine V_retV mi_236_53 ⟨rfl, ?_⟩
      unfold oneW
      rw [if_neg (fun k => by rw [q2] at k; exact absurd k.2 Bool.false_ne_true)]
      exact hT
noncomputable def unW (G : Nat → Int) (S : TT × Int) (h s0 : Nat) : Prop := ∀ s, s < 12 → (h < sWhn G s ∨ (sWhn G s = h ∧ s0 ≤ s)) → S.1.hb s = 0 ∧ S.1.lb s = 0
theorem unW_one {G : Nat → Int} {S : TT × Int} {h s : Nat} (u : unW G S h s) (e : sWhn G s = h) : unW G (oneW G hu he dx s S) h (s + 1) := fun i hi hq => by
  have q := u i hi (by omega)
  have ne : i ≠ s := fun q => by rw [q] at hq; omega
  unfold oneW
  split
  · exact ⟨(updI_ne ne).trans q.1, (updI_ne ne).trans q.2⟩
  · exact q
theorem unW_skip {G : Nat → Int} {S : TT × Int} {h s : Nat} (u : unW G S h s) : unW G S h (s + 1) := fun i hi hq => u i hi (by omega)
theorem unW_next {G : Nat → Int} {S : TT × Int} {h s : Nat} (u : unW G S h s) : unW G S (h + 1) 0 := fun i hi hq => u i hi (by omega)
theorem TMW_re {S : TT × Int} {w0 w : va_W} (h : TMW ad tys Mo S w0 w) : TMW ad tys Mo S w w := ⟨h.g, h.k, h.s, h.h, h.lr, fun _ _ _ _ => rfl, h.b, h.m⟩
noncomputable def KNW (G : Nat → Int) (hu : Nat → Bool) (he : Nat → Int → Nat → Bool) (dx : Nat → Int → Nat → Int) (x0 : Int) (n : Nat) (w : va_W) : Prop := ∀ h, h < n → ∀ j, j < 36 → rd w 98 (36 * h + j) = some (.int (Int32.ofInt ((tellW G hu he dx x0 h).1.K j)))
theorem gow_113 (E : HEA l D tys A ad G hz hu he dx Mo) {S : TT × Int} {w0 : va_W} {post : Option Value → va_W → Prop} {h : Nat} (h24 : h ≤ 24) : ∀ (m k : Nat) (w : va_W), k + m = 36 → TMW ad tys Mo S w w → (∀ c j, c ≠ 98 → rd w c j = rd w0 c j) → (∀ j, j < 36 * h → rd w 98 j = rd w0 98 j) → (∀ j, j < k → rd w 98 (36 * h + j) = some (.int (Int32.ofInt (S.1.K j)))) → (∀ w' : va_W, TMW ad tys Mo S w' w' → (∀ c j, c ≠ 98 → rd w' c j = rd w0 c j) → (∀ j, j < 36 * h → rd w' 98 j = rd w0 98 j) → (∀ j, j < 36 → rd w' 98 (36 * h + j) = some (.int (Int32.ofInt (S.1.K j)))) → V l D tys A 237 7 0 0 post 0 0 145 [(0, .ref (ad 90)), (1, .int (Int32.ofInt ((h : Int))))] [] w') → V l D tys A 237 7 0 0 post 0 0 113 [(0, .ref (ad 90)), (1, .int (Int32.ofInt ((h : Int)))), (2, .int (Int32.ofInt ((k : Int))))] [] w
  | 0, k, w, hm, hT, ho, hp, hd, kk => by
    obtain ⟨s99, e99, f99⟩ := a99
    obtain ⟨s98, e98, f98⟩ := a98
    refine V_iload (v := Int32.ofInt ((k : Int))) mi_237_113 (by simp [stL, lv_args, Value.category]) ?_
    refine V_aload (v := ad 90) mi_237_114 (by simp [stL, lv_args, Value.category]) ?_
    refine V_getI mi_237_115 hT.g (rref gr17 (by omega) hT.g) ?_
    refine V_lenA mi_237_118 hT.g e99 ?_
    refine V_cge mi_237_119 ⟨by omega, by omega⟩ ⟨by omega, by omega⟩ (fun q => ?_) (fun q => ?_)
    · have e : k = 36 := by omega
      subst e
      refine V_sub (lv' := [(0, .ref (ad 90)), (1, .int (Int32.ofInt ((h : Int))))]) (fun q hq => ?_) ?_
      · simp only [List.mem_cons, List.not_mem_nil, or_false] at hq
        rcases hq with rfl | rfl <;> simp [stL, lv_args, Value.category]
      exact kk w hT ho hp hd
    · exact absurd q (by omega)
  | m + 1, k, w, hm, hT, ho, hp, hd, kk => by
    obtain ⟨s99, e99, f99⟩ := a99
    obtain ⟨s98, e98, f98⟩ := a98
    refine V_iload (v := Int32.ofInt ((k : Int))) mi_237_113 (by simp [stL, lv_args, Value.category]) ?_
    refine V_aload (v := ad 90) mi_237_114 (by simp [stL, lv_args, Value.category]) ?_
    refine V_getI mi_237_115 hT.g (rref gr17 (by omega) hT.g) ?_
    refine V_lenA mi_237_118 hT.g e99 ?_
    refine V_cge mi_237_119 ⟨by omega, by omega⟩ ⟨by omega, by omega⟩ (fun q => ?_) (fun q => ?_)
    · exact absurd q (by omega)
    · have bk := hT.b k (by omega)
      refine V_aload (v := ad 90) mi_237_122 (by simp [stL, lv_args, Value.category]) ?_
      refine V_getI mi_237_123 hT.g (rref gr16 (by omega) hT.g) ?_
      refine V_ipush mi_237_126 ?_
      refine V_iload (v := Int32.ofInt ((h : Int))) mi_237_128 (by simp [stL, lv_args, Value.category]) ?_
      refine V_ibin mi_237_129 (by omega) ?_
      rw [ib2]
      refine V_iload (v := Int32.ofInt ((k : Int))) mi_237_130 (by simp [stL, lv_args, Value.category]) ?_
      refine V_ibin mi_237_131 (by omega) ?_
      rw [ib0]
      refine V_aload (v := ad 90) mi_237_132 (by simp [stL, lv_args, Value.category]) ?_
      refine V_getI mi_237_133 hT.g (rref gr17 (by omega) hT.g) ?_
      refine V_iload (v := Int32.ofInt ((k : Int))) mi_237_136 (by simp [stL, lv_args, Value.category]) ?_
      refine V_aldX (j := k) mi_237_137 rfl hT.g e99 (by omega) (by omega) (hT.k _ (by omega)) ?_
      refine V_astX (j := 36 * h + k) mi_237_138 (by rw [show 36 * (h : Int) + (k : Int) = ((36 * h + k : Nat) : Int) by omega]) hT.g e98 (by omega) (by omega) (f98 _ (by omega)) (by rw [Int32.toInt_ofInt_of_le (by omega) (by omega)]; omega) (by rw [Int32.toInt_ofInt_of_le (by omega) (by omega)]; omega) (fun w2 Gw2 Uw2 => ?_)
      refine V_iinc (v := Int32.ofInt ((k : Int))) mi_237_139 (by simp [stL, lv_args, Value.category]) ?_
      rw [ia2]
      refine V_goto mi_237_142 ?_
      refine V_sub (lv' := [(0, .ref (ad 90)), (1, .int (Int32.ofInt ((h : Int)))), (2, .int (Int32.ofInt (((k + 1 : Nat) : Int))))]) (fun q hq => ?_) ?_
      · simp only [List.mem_cons, List.not_mem_nil, or_false] at hq
        rcases hq with rfl | rfl | rfl <;> simp [stL, lv_args, Value.category]
      refine gow_113 E h24 m (k + 1) w2 (by omega) ⟨Gw2, fun j hj => (upd_ne Uw2 (by omega)).trans (hT.k j hj), (upd_ne Uw2 (by omega)).trans hT.s, fun j hj => (upd_ne Uw2 (by omega)).trans (hT.h j hj), fun j hj => (upd_ne Uw2 (by omega)).trans (hT.lr j hj), fun _ _ _ _ => rfl, hT.b, E.kp _ w w2 hT.m (fun c j h1 h2 => upd_ne Uw2 (by omega))⟩ (fun c j hc => (upd_ne Uw2 (by omega)).trans (ho c j hc)) (fun j hj => (upd_ne Uw2 (by omega)).trans (hp j hj)) (fun j hj => ?_) kk
      by_cases e : j = k
      · subst e
        exact upd_eq Uw2
      · exact (upd_ne Uw2 (by omega)).trans (hd j (by omega))
theorem gow_147 (E : HEA l D tys A ad G hz hu he dx Mo) {w0 : va_W} {post : Option Value → va_W → Prop} {h : Nat} (hh : h ≤ 24) (hB : HB G) (hW0 : W91 G w0) : ∀ (m s : Nat) (S : TT × Int) (w : va_W), ((s + m : Nat) : Int) = G 4 → TMW ad tys Mo S w0 w → unW G S h s → (∀ w' : va_W, TMW ad tys Mo (sayW G hu he dx h m s S) w0 w' → unW G (sayW G hu he dx h m s S) h (s + m) → V l D tys A 237 7 0 0 post 0 0 178 [(0, .ref (ad 90)), (1, .int (Int32.ofInt ((h : Int))))] [] w') → V l D tys A 237 7 0 0 post 0 0 147 [(0, .ref (ad 90)), (1, .int (Int32.ofInt ((h : Int)))), (2, .int (Int32.ofInt ((s : Int))))] [] w
  | 0, s, S, w, hm, hT, u, kk => by
    obtain ⟨s91, e91, -⟩ := g91s
    have b4 := hB.b4
    have hW : W91 G w := fun j hj => (hT.o 91 j (by omega) (by omega)).trans (hW0 j hj)
    refine V_iload (v := Int32.ofInt ((s : Int))) mi_237_147 (by simp [stL, lv_args, Value.category]) ?_
    refine V_aload (v := ad 90) mi_237_148 (by simp [stL, lv_args, Value.category]) ?_
    refine V_getI mi_237_149 hT.g (rref gr1m (by omega) hT.g) ?_
    refine V_ipush mi_237_152 ?_
    refine V_aldX (j := 4) mi_237_153 rfl hT.g e91 (by omega) (by omega) (hW _ (by omega)) ?_
    refine V_cge mi_237_154 ⟨by omega, by omega⟩ ⟨by omega, by omega⟩ (fun q => ?_) (fun q => ?_)
    · refine V_sub (lv' := [(0, .ref (ad 90)), (1, .int (Int32.ofInt ((h : Int))))]) (fun q hq => ?_) ?_
      · simp only [List.mem_cons, List.not_mem_nil, or_false] at hq
        rcases hq with rfl | rfl <;> simp [stL, lv_args, Value.category]
      exact kk w hT u
    · exact absurd q (by omega)
  | m + 1, s, S, w, hm, hT, u, kk => by
    rw [show s + (m + 1) = s + 1 + m by omega] at kk
    obtain ⟨s91, e91, -⟩ := g91s
    have b4 := hB.b4
    have hW : W91 G w := fun j hj => (hT.o 91 j (by omega) (by omega)).trans (hW0 j hj)
    refine V_iload (v := Int32.ofInt ((s : Int))) mi_237_147 (by simp [stL, lv_args, Value.category]) ?_
    refine V_aload (v := ad 90) mi_237_148 (by simp [stL, lv_args, Value.category]) ?_
    refine V_getI mi_237_149 hT.g (rref gr1m (by omega) hT.g) ?_
    refine V_ipush mi_237_152 ?_
    refine V_aldX (j := 4) mi_237_153 rfl hT.g e91 (by omega) (by omega) (hW _ (by omega)) ?_
    refine V_cge mi_237_154 ⟨by omega, by omega⟩ ⟨by omega, by omega⟩ (fun q => ?_) (fun q => ?_)
    · exact absurd q (by omega)
    · obtain ⟨⟨w6, o6, i6, n24⟩, g0, g1, g2, g3⟩ := say_b hB (s := s) (by omega)
      refine V_aload (v := ad 90) mi_237_157 (by simp [stL, lv_args, Value.category]) ?_
      refine V_iload (v := Int32.ofInt ((s : Int))) mi_237_158 (by simp [stL, lv_args, Value.category]) ?_
      refine V_ipush mi_237_159 ?_
      refine V_callM (As := [.int (Int32.ofInt ((s : Int))), .int (Int32.ofInt (3))]) (st := []) mi_237_160 (by omega) (by decide +kernel) (by decide +kernel) hT.g (mos_ct (k := s) (a := 3) hT.g hW hB (by omega) (by omega)) (by omega) (show 2 = mN 208 by decide +kernel) (by simp [Value.category]) ?_
      rintro r w1 ⟨e1, rfl⟩
      rw [e1, g3]
      refine V_iload (v := Int32.ofInt ((h : Int))) mi_237_163 (by simp [stL, lv_args, Value.category]) ?_
      refine V_cne mi_237_164 ⟨by omega, by omega⟩ ⟨by omega, by omega⟩ (fun q2 => ?_) (fun q2 => ?_)
      · refine V_iinc (v := Int32.ofInt ((s : Int))) mi_237_172 (by simp [stL, lv_args, Value.category]) ?_
        rw [ia2]
        refine V_goto mi_237_175 ?_
        refine V_sub (lv' := [(0, .ref (ad 90)), (1, .int (Int32.ofInt ((h : Int)))), (2, .int (Int32.ofInt (((s + 1 : Nat) : Int))))]) (fun q hq => ?_) ?_
        · simp only [List.mem_cons, List.not_mem_nil, or_false] at hq
          rcases hq with rfl | rfl | rfl <;> simp [stL, lv_args, Value.category]
        have es : sayW G hu he dx h (m + 1) s S = sayW G hu he dx h m (s + 1) (S) := by
          show sayW G hu he dx h m (s + 1) (if sWhn G s = h then oneW G hu he dx s S else S) = _
          rw [if_neg (by omega)]
        rw [es] at kk
        exact gow_147 E hh hB hW0 m (s + 1) (S) w (by omega) hT (unW_skip u) kk
      · have z := u s (by omega) (by omega)
        refine V_aload (v := ad 90) mi_237_167 (by simp [stL, lv_args, Value.category]) ?_
        refine V_iload (v := Int32.ofInt ((s : Int))) mi_237_168 (by simp [stL, lv_args, Value.category]) ?_
        refine V_callM (As := [.int (Int32.ofInt ((s : Int)))]) (st := []) mi_237_169 (by omega) (by decide +kernel) (by decide +kernel) hT.g (sayw_ct E hB (by omega) hW0 hT z.1 z.2) (by omega) (show 1 = mN 236 by decide +kernel) (by simp [Value.category]) ?_
        rintro r w2 ⟨rfl, h2⟩
        refine V_iinc (v := Int32.ofInt ((s : Int))) mi_237_172 (by simp [stL, lv_args, Value.category]) ?_
        rw [ia2]
        refine V_goto mi_237_175 ?_
        refine V_sub (lv' := [(0, .ref (ad 90)), (1, .int (Int32.ofInt ((h : Int)))), (2, .int (Int32.ofInt (((s + 1 : Nat) : Int))))]) (fun q hq => ?_) ?_
        · simp only [List.mem_cons, List.not_mem_nil, or_false] at hq
          rcases hq with rfl | rfl | rfl <;> simp [stL, lv_args, Value.category]
        have es : sayW G hu he dx h (m + 1) s S = sayW G hu he dx h m (s + 1) (oneW G hu he dx s S) := by
          show sayW G hu he dx h m (s + 1) (if sWhn G s = h then oneW G hu he dx s S else S) = _
          rw [if_pos (by omega)]
        rw [es] at kk
        exact gow_147 E hh hB hW0 m (s + 1) (oneW G hu he dx s S) w2 (by omega) h2 (unW_one u (by omega)) kk
theorem gow_101 (E : HEA l D tys A ad G hz hu he dx Mo) {x0 : Int} {w0 : va_W} {post : Option Value → va_W → Prop} (hB : HB G) (hW0 : W91 G w0) : ∀ (m h : Nat) (w : va_W), ((h + m : Nat) : Int) = G 2 + 1 → TMW ad tys Mo (tellW G hu he dx x0 h) w w → unW G (tellW G hu he dx x0 h) h 0 → KNW G hu he dx x0 h w → (∀ c j, ¬ (98 ≤ c ∧ c ≤ 101) → ¬ (c = 90 ∧ (j = 18 ∨ j = 25)) → rd w c j = rd w0 c j) → (∀ w' : va_W, TMW ad tys Mo (tellW G hu he dx x0 ((G 2).toNat + 1)) w' w' → KNW G hu he dx x0 ((G 2).toNat + 1) w' → (∀ c j, ¬ (98 ≤ c ∧ c ≤ 101) → ¬ (c = 90 ∧ (j = 18 ∨ j = 25)) → rd w' c j = rd w0 c j) → post none w') → V l D tys A 237 7 0 0 post 0 0 101 [(0, .ref (ad 90)), (1, .int (Int32.ofInt ((h : Int))))] [] w
  | 0, h, w, hm, hT, u, hk, ho, kk => by
    obtain ⟨s91, e91, -⟩ := g91s
    have b2 := hB.b2
    have b4 := hB.b4
    have hW : W91 G w := fun j hj => (ho 91 j (by omega) (by omega)).trans (hW0 j hj)
    refine V_iload (v := Int32.ofInt ((h : Int))) mi_237_101 (by simp [stL, lv_args, Value.category]) ?_
    refine V_aload (v := ad 90) mi_237_102 (by simp [stL, lv_args, Value.category]) ?_
    refine V_getI mi_237_103 hT.g (rref gr1m (by omega) hT.g) ?_
    refine V_ipush mi_237_106 ?_
    refine V_aldX (j := 2) mi_237_107 rfl hT.g e91 (by omega) (by omega) (hW _ (by omega)) ?_
    refine V_cgt mi_237_108 ⟨by omega, by omega⟩ ⟨by omega, by omega⟩ (fun q => ?_) (fun q => ?_)
    · have e : h = (G 2).toNat + 1 := by omega
      rw [e] at hT hk
      exact V_retV mi_237_184 (kk w hT hk ho)
    · exact absurd q (by omega)
  | m + 1, h, w, hm, hT, u, hk, ho, kk => by
    obtain ⟨s91, e91, -⟩ := g91s
    have b2 := hB.b2
    have b4 := hB.b4
    have hW : W91 G w := fun j hj => (ho 91 j (by omega) (by omega)).trans (hW0 j hj)
    refine V_iload (v := Int32.ofInt ((h : Int))) mi_237_101 (by simp [stL, lv_args, Value.category]) ?_
    refine V_aload (v := ad 90) mi_237_102 (by simp [stL, lv_args, Value.category]) ?_
    refine V_getI mi_237_103 hT.g (rref gr1m (by omega) hT.g) ?_
    refine V_ipush mi_237_106 ?_
    refine V_aldX (j := 2) mi_237_107 rfl hT.g e91 (by omega) (by omega) (hW _ (by omega)) ?_
    refine V_cgt mi_237_108 ⟨by omega, by omega⟩ ⟨by omega, by omega⟩ (fun q => ?_) (fun q => ?_)
    · exact absurd q (by omega)
    · refine V_ipush mi_237_111 ?_
      refine V_istore mi_237_112 ?_
      refine V_sub (lv' := [(0, .ref (ad 90)), (1, .int (Int32.ofInt ((h : Int)))), (2, .int (Int32.ofInt (((0 : Nat) : Int))))]) (fun q hq => ?_) ?_
      · simp only [List.mem_cons, List.not_mem_nil, or_false] at hq
        rcases hq with rfl | rfl | rfl <;> simp [stL, lv_args, Value.category]
      refine gow_113 E (w0 := w) (by omega) 36 0 w (by omega) (TMW_re hT) (fun _ _ _ => rfl) (fun _ _ => rfl) (fun j hj => absurd hj (by omega)) (fun w2 T2 o2 p2 d2 => ?_)
      refine V_ipush mi_237_145 ?_
      refine V_istore mi_237_146 ?_
      refine V_sub (lv' := [(0, .ref (ad 90)), (1, .int (Int32.ofInt ((h : Int)))), (2, .int (Int32.ofInt (((0 : Nat) : Int))))]) (fun q hq => ?_) ?_
      · simp only [List.mem_cons, List.not_mem_nil, or_false] at hq
        rcases hq with rfl | rfl | rfl <;> simp [stL, lv_args, Value.category]
      have oo : ∀ c j, ¬ (98 ≤ c ∧ c ≤ 101) → ¬ (c = 90 ∧ (j = 18 ∨ j = 25)) → rd w2 c j = rd w0 c j := fun c j h1 h2 => (o2 c j (by omega)).trans (ho c j h1 h2)
      refine gow_147 E (w0 := w2) (by omega) hB (fun j hj => (oo 91 j (by omega) (by omega)).trans (hW0 j hj)) (G 4).toNat 0 (tellW G hu he dx x0 h) w2 (by rw [Nat.zero_add, Int.toNat_of_nonneg b4.1]) T2 u (fun w3 T3 u3 => ?_)
      refine V_iinc (v := Int32.ofInt ((h : Int))) mi_237_178 (by simp [stL, lv_args, Value.category]) ?_
      rw [ia2]
      refine V_goto mi_237_181 ?_
      refine V_sub (lv' := [(0, .ref (ad 90)), (1, .int (Int32.ofInt (((h + 1 : Nat) : Int))))]) (fun q hq => ?_) ?_
      · simp only [List.mem_cons, List.not_mem_nil, or_false] at hq
        rcases hq with rfl | rfl <;> simp [stL, lv_args, Value.category]
      refine gow_101 E hB hW0 m (h + 1) w3 (by omega) (show TMW ad tys Mo (tellW G hu he dx x0 (h + 1)) w3 w3 from TMW_re T3) (unW_next u3) (fun g hg j hj => ?_) (fun c j h1 h2 => (T3.o c j (by omega) h2).trans (oo c j h1 h2)) kk
      rw [T3.o _ _ (by omega) (by omega)]
      by_cases e : g = h
      · subst e
        exact d2 j hj
      · rw [p2 _ (by omega)]
        exact hk g (by omega) j hj
theorem gonw_ct (E : HEA l D tys A ad G hz hu he dx Mo) {x0 : Int} (hB : HB G) (hG : GOK ad tys GG ws) (hW : W91 G ws) (hM : Mo x0 ws) : CT l D tys A 237 7 0 0 [.ref (ad 90)] ws (fun r w => r = none ∧ TMW ad tys Mo (tellW G hu he dx x0 ((G 2).toNat + 1)) w w ∧ KNW G hu he dx x0 ((G 2).toNat + 1) w ∧ ∀ c j, ¬ (98 ≤ c ∧ c ≤ 101) → ¬ (c = 90 ∧ (j = 18 ∨ j = 25)) → rd w c j = rd ws c j) := by
  refine CT_of_V (by omega) (show (1 : Nat) ≤ mML 237 by decide +kernel) ?_
  refine V_aload (v := ad 90) mi_237_0 (by simp [stL, lv_args, Value.category]) ?_
  refine V_ipush mi_237_1 ?_
  refine V_putI mi_237_2 hG f18m (by omega) rfl (by decide +kernel) (i32b _).1 (i32b _).2 (fun w1 G1 U1 => ?_)
  refine V_ipush mi_237_5 ?_
  refine V_istore mi_237_6 ?_
  refine V_sub (lv' := [(0, .ref (ad 90)), (1, .int (Int32.ofInt (((0 : Nat) : Int))))]) (fun q hq => ?_) ?_
  · simp only [List.mem_cons, List.not_mem_nil, or_false] at hq
    rcases hq with rfl | rfl <;> simp [stL, lv_args, Value.category]
  refine go_7 (w0 := w1) 12 0 w1 (by omega) G1 (fun j hj => absurd hj (by omega)) (fun j hj => absurd hj (by omega)) (fun _ _ _ _ => rfl) (fun w2 G2 h2 l2 o2 => ?_)
  refine V_ipush mi_237_33 ?_
  refine V_istore mi_237_34 ?_
  refine V_sub (lv' := [(0, .ref (ad 90)), (1, .int (Int32.ofInt (((0 : Nat) : Int))))]) (fun q hq => ?_) ?_
  · simp only [List.mem_cons, List.not_mem_nil, or_false] at hq
    rcases hq with rfl | rfl <;> simp [stL, lv_args, Value.category]
  have hW2 : W91 G w2 := fun j hj => (o2 _ _ (by omega) (by omega)).trans ((upd_ne U1 (by omega)).trans (hW j hj))
  refine go_35 (w0 := w2) hB hW2 6 0 w2 (by omega) G2 (fun j hj => absurd hj (by omega)) (fun _ _ _ => rfl) (fun w3 G3 k3 o3 => ?_)
  refine V_ipush mi_237_99 ?_
  refine V_istore mi_237_100 ?_
  refine V_sub (lv' := [(0, .ref (ad 90)), (1, .int (Int32.ofInt (((0 : Nat) : Int))))]) (fun q hq => ?_) ?_
  · simp only [List.mem_cons, List.not_mem_nil, or_false] at hq
    rcases hq with rfl | rfl <;> simp [stL, lv_args, Value.category]
  have b2 := hB.b2
  have oo : ∀ c j, ¬ (98 ≤ c ∧ c ≤ 101) → ¬ (c = 90 ∧ j = 18) → rd w3 c j = rd ws c j := fun c j h1 h3 => (o3 c j (by omega)).trans ((o2 c j (by omega) (by omega)).trans (upd_ne U1 (by omega)))
  exact gow_101 E (w0 := ws) hB hW ((G 2).toNat + 1) 0 w3 (by omega) ⟨G3, k3, (o3 _ _ (by omega)).trans ((o2 _ _ (by omega) (by omega)).trans (upd_eq U1)), fun j hj => (o3 _ _ (by omega)).trans (h2 j hj), fun j hj => (o3 _ _ (by omega)).trans (l2 j hj), fun _ _ _ _ => rfl, ini_ok hB, E.kp _ ws w3 hM (fun c j h1 h2 => oo c j h1 h2)⟩ (fun i hi hq => ⟨rfl, rfl⟩) (fun h hh => absurd hh (by omega)) (fun c j h1 h2 => oo c j h1 (by omega)) (fun w T k o => ⟨rfl, T, k, o⟩)
theorem whz_ct (hB : HB G) (hG : GOK ad tys GG ws) (hW : W91 G ws) {f o g : Nat} {z : Int} (zI : I32 z) (hf : f < 6) (ho : o < 6) (hg : g ≤ 24) (hz : rd ws 98 (36 * g + (6 * f + o)) = some (.int (Int32.ofInt z))) : CT l D tys A 241 2 0 0 [.ref (ad 90), .int (Int32.ofInt ((f : Int))), .int (Int32.ofInt ((o : Int))), .int (Int32.ofInt ((g : Int)))] ws (fun r w => w = ws ∧ r = some (.int (bI (decide (z = allV (G (6 + 7 * o))))))) := by
  refine CT_of_V (by omega) (show (4 : Nat) ≤ mML 241 by decide +kernel) ?_
  refine V_aload (v := ad 90) mi_241_0 (by simp [stL, lv_args, Value.category]) ?_
  refine V_iload (v := Int32.ofInt ((f : Int))) mi_241_1 (by simp [stL, lv_args, Value.category]) ?_
  refine V_iload (v := Int32.ofInt ((o : Int))) mi_241_2 (by simp [stL, lv_args, Value.category]) ?_
  refine V_iload (v := Int32.ofInt ((g : Int))) mi_241_3 (by simp [stL, lv_args, Value.category]) ?_
  refine V_callM (As := [.int (Int32.ofInt ((f : Int))), .int (Int32.ofInt ((o : Int))), .int (Int32.ofInt ((g : Int)))]) (st := []) mi_241_4 (by omega) (by decide +kernel) (by decide +kernel) hG (kah_ct (f := f) (o := o) (g := g) hG hf ho hg hz) (by omega) (show 3 = mN 239 by decide +kernel) (by simp [Value.category]) ?_
  rintro r w1 ⟨e1, rfl⟩
  rw [e1]
  refine V_aload (v := ad 90) mi_241_7 (by simp [stL, lv_args, Value.category]) ?_
  refine V_iload (v := Int32.ofInt ((o : Int))) mi_241_8 (by simp [stL, lv_args, Value.category]) ?_
  refine V_callM (As := [.int (Int32.ofInt ((o : Int)))]) (st := [.int (Int32.ofInt (z))]) mi_241_9 (by omega) (by decide +kernel) (by decide +kernel) hG (who_ct (o := o) ho hG hW hB) (by omega) (show 1 = mN 206 by decide +kernel) (by simp [Value.category]) ?_
  rintro r w2 ⟨e2, rfl⟩
  rw [e2]
  have ib : I32 (allV (G (6 + 7 * o))) := i32b _
  refine V_cne mi_241_12 zI ib (fun q => ?_) (fun q => ?_)
  · refine V_ipush mi_241_19 ?_
    exact V_retI mi_241_20 (fun _ => by decide) ⟨rfl, by rw [decide_eq_false q]; rfl⟩
  · refine V_ipush mi_241_15 ?_
    refine V_goto mi_241_16 ?_
    exact V_retI mi_241_20 (fun _ => by decide) ⟨rfl, by rw [decide_eq_true q]; rfl⟩
theorem wez_ct (hB : HB G) (hG : GOK ad tys GG ws) (hW : W91 G ws) {f o : Nat} {z : Int} (zI : I32 z) (hf : f < 6) (ho : o < 6) (hz : rd ws 98 (36 * (G 2).toNat + (6 * f + o)) = some (.int (Int32.ofInt z))) : CT l D tys A 242 3 0 0 [.ref (ad 90), .int (Int32.ofInt ((f : Int))), .int (Int32.ofInt ((o : Int)))] ws (fun r w => w = ws ∧ r = some (.int (bI (decide (z = allV (G (6 + 7 * o))))))) := by
  refine CT_of_V (by omega) (show (3 : Nat) ≤ mML 242 by decide +kernel) ?_
  obtain ⟨s91, e91, -⟩ := g91s
  have b2 := hB.b2
  refine V_aload (v := ad 90) mi_242_0 (by simp [stL, lv_args, Value.category]) ?_
  refine V_iload (v := Int32.ofInt ((f : Int))) mi_242_1 (by simp [stL, lv_args, Value.category]) ?_
  refine V_iload (v := Int32.ofInt ((o : Int))) mi_242_2 (by simp [stL, lv_args, Value.category]) ?_
  refine V_aload (v := ad 90) mi_242_3 (by simp [stL, lv_args, Value.category]) ?_
  refine V_getI mi_242_4 hG (rref gr1m (by omega) hG) ?_
  refine V_ipush mi_242_7 ?_
  refine V_aldX (j := 2) mi_242_8 rfl hG e91 (by omega) (by omega) (hW _ (by omega)) ?_
  rw [show G 2 = (((G 2).toNat : Nat) : Int) by omega]
  refine V_callM (As := [.int (Int32.ofInt ((f : Int))), .int (Int32.ofInt ((o : Int))), .int (Int32.ofInt (((G 2).toNat : Int)))]) (st := []) mi_242_9 (by omega) (by decide +kernel) (by decide +kernel) hG (whz_ct (f := f) (o := o) (g := (G 2).toNat) hB hG hW zI hf ho (by omega) hz) (by omega) (show 3 = mN 241 by decide +kernel) (by simp [Value.category]) ?_
  rintro r w2 ⟨rfl, rfl⟩
  exact V_retI mi_242_12 (fun _ => by cases decide (z = allV (G (6 + 7 * o))) <;> decide) ⟨rfl, rfl⟩
end XUA
