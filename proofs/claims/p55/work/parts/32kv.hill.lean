section XSK
variable {l : Launch} {D : va_G} {tys : List (ClassId × FieldType)} {A : Nat → Prop} {ad : Nat → Nat} {ws : va_W}
noncomputable def HXPS (ad : Nat → Nat) (tys : List (ClassId × FieldType)) (x : TS × (Nat → Int) × (Nat → Int)) (w0 : va_W) (r : Option Value) (w : va_W) : Prop := HXP ad tys x w0 r w ∧ (STX w0 → STX w)
theorem hixxS_ct {n : Nat} {B : Nat → Int} {v0 : Int} (hAD : ∀ i : Nat, ad (1000 + i) = D.2 1000 i) (hG : GOK ad tys GG ws) (T : TXX ws n B) (v0I : I32 v0) : CT l D tys A 3 10 0 0 [.ref (ad 0)] ws (HXPS ad tys (hillX B n v0) ws) := by
  refine CT_of_V (by omega) (show (1 : Nat) ≤ mML 3 by decide +kernel) ?_
  refine V_aload (v := ad 0) mi_3_0 (by simp [stL, lv_args, Value.category]) ?_
  refine V_gR mi_3_1 g0r0 (by omega) hG ?_
  refine V_aload (v := ad 0) mi_3_4 (by simp [stL, lv_args, Value.category]) ?_
  refine V_gR mi_3_5 g0r3 (by omega) hG ?_
  refine V_cO (As := [.ref (ad 16)]) (st := []) mi_3_8 (by omega) (by decide +kernel) (by decide +kernel) (by omega) g1o hG (read_ct hG T v0I) (by omega) (show 1 = mN 133 by decide +kernel) (by simp [Value.category]) ?_
  rintro r w1 ⟨rfl, hA, hR⟩
  obtain ⟨-, -, -, F0, -⟩ := id hA
  have F3 := F0.2.2
  refine V_aload (v := ad 0) mi_3_11 (by simp [stL, lv_args, Value.category]) ?_
  refine V_gR mi_3_12 g0r1 (by omega) hA.1 ?_
  refine V_ipush mi_3_15 ?_
  refine V_pO mi_3_16 g2f1 (by omega) (by decide +kernel) (by decide +kernel) hA.1 (by rw [Int32.toInt_ofInt_of_le (by omega) (by omega)]; omega) (by rw [Int32.toInt_ofInt_of_le (by omega) (by omega)]; omega) (fun w2 G2 U2 => ?_)
  refine V_aload (v := ad 0) mi_3_19 (by simp [stL, lv_args, Value.category]) ?_
  refine V_gR mi_3_20 g0r0 (by omega) G2 ?_
  refine V_gO mi_3_23 g1o G2 ((upd_ne U2 (by omega)).trans F0.1) ?_
  refine V_zeq mi_3_26 ⟨by omega, by omega⟩ (fun q => ?_) (fun q => ?_)
  · obtain ⟨hX, -, -⟩ := hR.1 q
    refine V_aload (v := ad 0) mi_3_32 (by simp [stL, lv_args, Value.category]) ?_
    refine V_gR mi_3_33 g0r2 (by omega) G2 ?_
    refine V_aload (v := ad 0) mi_3_36 (by simp [stL, lv_args, Value.category]) ?_
    refine V_gR mi_3_37 g0r3 (by omega) G2 ?_
    refine V_cO (As := [.ref (ad 16)]) (st := []) mi_3_40 (by omega) (by decide +kernel) (by decide +kernel) (by omega) g4o G2 (cpf_ct G2 (HX_keep hX (fun c i h1 h2 => upd_ne U2 (by omega)))) (by omega) (show 1 = mN 100 by decide +kernel) (by simp [Value.category]) ?_
    rintro r w3 ⟨rfl, G3, hX3, o3⟩
    refine V_aload (v := ad 0) mi_3_43 (by simp [stL, lv_args, Value.category]) ?_
    obtain ⟨d5, k1, k2⟩ := set3_ct (l := l) (A := A) hAD G3
    refine V_cO (As := []) (st := []) mi_3_44 (by omega) (by decide +kernel) (by decide +kernel) (by omega) g0o G3 (k2) (by omega) (show 0 = mN 73 by decide +kernel) (by simp [Value.category]) ?_
    rintro r w4 ⟨r0, G4, S4, o4⟩
    subst r0
    have hX4 := HX_keep hX3 (fun c i h1 h2 => o4 c i (by omega))
    refine V_aload (v := ad 0) mi_3_47 (by simp [stL, lv_args, Value.category]) ?_
    refine V_gR mi_3_48 g0r2 (by omega) G4 ?_
    refine V_gO mi_3_51 g4o G4 (hx0 hX4 (i := 0) (by omega)) ?_
    refine V_retI mi_3_54 (fun q => absurd q (by decide +kernel)) ⟨⟨G4, fun c j hn => ?_, ?_, ?_, ?_, fun _ => ⟨rfl, hX4⟩, fun h => absurd q h⟩, fun _ => S4⟩
    · rw [o4 _ _ (by omega), o3 _ _ (by omega), upd_ne U2 (by omega)]
      exact hR.2 c j (by omega)
    · rw [o4 _ _ (by omega), o3 _ _ (by omega)]
      exact upd_eq U2
    · rw [o4 _ _ (by omega), o3 _ _ (by omega), upd_ne U2 (by omega)]
      exact F0.1
    · rw [o4 _ _ (by omega), o3 _ _ (by omega), upd_ne U2 (by omega)]
      exact F0.2.1
  · refine V_ipush mi_3_29 ?_
    refine V_retI mi_3_31 (fun q => absurd q (by decide +kernel)) ⟨⟨G2, fun c j hn => ?_, upd_eq U2, ?_, ?_, fun h => absurd h q, fun _ => ⟨rfl, fun c j hc => ?_⟩⟩, fun hS => STX_keep hS (fun c j hc => ?_)⟩
    · rw [upd_ne U2 (by omega)]
      exact hR.2 c j (by omega)
    · rw [upd_ne U2 (by omega)]
      exact F0.1
    · rw [upd_ne U2 (by omega)]
      exact F0.2.1
    · rw [upd_ne U2 (by omega)]
      exact hR.2 c j (by omega)
    · rw [upd_ne U2 (by omega)]
      exact hR.2 c j (by omega)
/-- an image, as a function of the world -/
noncomputable def imO (q : Nat) (w : va_W) (j : Nat) : Int := match rd w (54 + 12 * q + hxC j) (hxI j) with
  | some (.int z) => z.toInt
  | _ => 0
theorem imO_keep {q : Nat} {w w' : va_W} (o : ∀ c j, 54 + 12 * q ≤ c → c < 66 + 12 * q → rd w' c j = rd w c j) : imO q w' = imO q w := by
  funext j
  have := hxC_le j
  unfold imO
  rw [o _ _ (by omega) (by omega)]
theorem imO_eq {G : Nat → Int} {q : Nat} {w : va_W} (hX : HX (54 + 12 * q) G w) {j : Nat} (hj : j < 294) (h : I32 (G j)) : imO q w j = G j := by
  unfold imO
  rw [hX j hj]
  exact Int32.toInt_ofInt_of_le h.1 (by have := h.2; omega)
theorem WF_eq {G g : Nat → Int} (h : ∀ j, j < 294 → g j = G j) (h4 : G 4 ≤ 12) (w : WF G) : WF g := fun s hs => by
  rw [h 4 (by omega)] at hs
  rw [h (246 + 4 * s) (by omega), h (246 + 4 * s + 3) (by omega), h 3 (by omega), h 2 (by omega)]
  exact w s hs
theorem WF_up {G : Nat → Int} {j : Nat} {z : Int} (h : WF G) (h4 : G 4 ≤ 12) (hj : 6 ≤ j ∧ j < 246) : WF (updI G j z) := fun s hs => by
  rw [updI_ne (by omega)] at hs
  rw [updI_ne (by omega), updI_ne (by omega), updI_ne (by omega), updI_ne (by omega)]
  exact h s hs
theorem WF_uns {G : Nat → Int} (h : WF G) : WF (updI G 4 (G 4 - 1)) := fun s hs => by
  have e : updI G 4 (G 4 - 1) 4 = G 4 - 1 := if_pos rfl
  rw [e] at hs
  rw [updI_ne (by omega), updI_ne (by omega), updI_ne (by omega), updI_ne (by omega)]
  exact h s (by omega)
theorem WF_say {G : Nat → Int} {f o i h : Int} (w : WF G) (h0 : 0 ≤ G 4) (h4 : G 4 < 12) (ok : okSy G f o i h) : WF (sayG G f o i h) := fun s hs => by
  have e4 : sayG G f o i h 4 = G 4 + 1 := by unfold sayG; exact if_pos rfl
  have eo : ∀ j, j ≠ 4 → ¬ (246 + 4 * (G 4).toNat ≤ j ∧ j ≤ 246 + 4 * (G 4).toNat + 3) → sayG G f o i h j = G j := fun j h1 h2 => by
    unfold sayG
    rw [updI_ne h1, updI_ne (by omega), updI_ne (by omega), updI_ne (by omega), updI_ne (by omega)]
  rw [e4] at hs
  rw [eo 3 (by omega) (by omega), eo 2 (by omega) (by omega)]
  by_cases e : s = (G 4).toNat
  · have e0 : sayG G f o i h (246 + 4 * s) = f := by
      unfold sayG
      rw [e, updI_ne (by omega), updI_ne (by omega), updI_ne (by omega), updI_ne (by omega)]
      exact if_pos rfl
    have e3 : sayG G f o i h (246 + 4 * s + 3) = h := by
      unfold sayG
      rw [e, updI_ne (by omega)]
      exact if_pos rfl
    rw [e0, e3]
    exact ⟨ok.1.2, ok.2.2.2⟩
  · rw [eo _ (by omega) (by omega), eo _ (by omega) (by omega)]
    exact w s (by omega)
theorem back_XS {q z : Nat} {G0 : Nat → Int} {r : Option Value} {w : va_W} (h : GOK ad tys GG w ∧ XOT ws w ∧ (z.testBit q = true → r = some (.int (Int32.ofInt 0)) ∧ HX 4 G0 w) ∧ (z.testBit q = false → r = some (.int (Int32.ofInt (-6))) ∧ w = ws)) (h0 : z.testBit q = true → HX (54 + 12 * q) G0 ws) : GOK ad tys GG w ∧ XOT ws w ∧ (z.testBit q = true → r = some (.int (Int32.ofInt 0)) ∧ ∀ G, HX (54 + 12 * q) G ws → HX 4 G w) ∧ (z.testBit q = false → r = some (.int (Int32.ofInt (-6))) ∧ w = ws) := by
  refine ⟨h.1, h.2.1, fun k => ⟨(h.2.2.1 k).1, fun G hX j hj => ?_⟩, h.2.2.2⟩
  have e1 := h0 k j hj
  have e2 := hX j hj
  rw [(h.2.2.1 k).2 j hj, ← e1, e2]
end XSK
