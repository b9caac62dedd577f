section XSL
variable {l : Launch} {D : va_G} {tys : List (ClassId × FieldType)} {A : Nat → Prop} {ad : Nat → Nat} {ws : va_W}
theorem sayT_no {G : Nat → Int} {h S : Nat} (w : ∀ s, s < S → sWhn G s ≠ h) : ∀ (m s : Nat) (T : TT), s + m = S → sayT G h m s T = T
  | 0, s, T, _ => rfl
  | m + 1, s, T, hm => by
    unfold sayT
    rw [if_neg (w s (by omega))]
    exact sayT_no w m (s + 1) T (by omega)
theorem tell_end {G : Nat → Int} (hB : HB G) (wf : WF G) : tellT G ((G 2).toNat + 1) = tellT G (G 2).toNat := by
  show sayT G (G 2).toNat (G 4).toNat 0 (tellT G (G 2).toNat) = _
  exact sayT_no (S := (G 4).toNat) (fun s hs => by have := WF_n hB wf s hs; omega) _ _ _ (by omega)
/-- the reference has told -/
noncomputable def MTO (w0 w : va_W) : Prop := ∀ c j, ¬ (98 ≤ c ∧ c ≤ 101) → ¬ (c = 90 ∧ (j = 18 ∨ j = 21)) → rd w c j = rd w0 c j
noncomputable def MT (ad : Nat → Nat) (tys : List (ClassId × FieldType)) (G : Nat → Int) (w0 w : va_W) : Prop := GOK ad tys GG w ∧ KNM G ((G 2).toNat + 1) w ∧ (rd w 90 18 = some (.int (tellT G (G 2).toNat).sd) ∧ (∀ i, i < 12 → rd w 100 i = some (.int (Int32.ofInt ((tellT G (G 2).toNat).hb i)))) ∧ ∀ i, i < 12 → rd w 101 i = some (.int (Int32.ofInt ((tellT G (G 2).toNat).lb i)))) ∧ MTO w0 w
theorem gt_ct {G : Nat → Int} (hB : HB G) (wf : WF G) (hG : GOK ad tys GG ws) (hW : W91 G ws) (h24 : rd ws 90 24 = some (.int (Int32.ofInt 0))) (h22 : rd ws 90 22 = some (.int (Int32.ofInt (-1)))) : CT l D tys A 238 8 0 0 [.ref (ad 90)] ws (fun r w => r = none ∧ MT ad tys G ws w) :=
  CT_post (gat_ct hB hG hW h24 h22) (fun r w h => by
    obtain ⟨e, T, k, o⟩ := h
    rw [tell_end hB wf] at T
    exact ⟨e, T.g, k, ⟨T.s, T.h, T.lr⟩, fun c j h1 h2 => o c j (by omega) (by omega) (by omega)⟩)
theorem stb_ct {f o g : Nat} {v : Int32} (hG : GOK ad tys GG ws) (hf : f < 6) (ho : o < 6) (hg : g ≤ 24) (h : rd ws 33 (36 * g + (6 * f + o)) = some (.int v)) : CT l D tys A 176 1 0 0 [.ref (ad 32), .int (Int32.ofInt ((f : Int))), .int (Int32.ofInt ((o : Int))), .int (Int32.ofInt ((g : Int)))] ws (fun r w => w = ws ∧ r = some (.int v)) := by
  refine CT_of_V (by omega) (show (4 : Nat) ≤ mML 176 by decide +kernel) ?_
  refine V_aload (v := ad 32) mi_176_0 (by simp [stL, lv_args, Value.category]) ?_
  refine V_gR mi_176_1 g32r0 (by omega) hG ?_
  refine V_iload (v := Int32.ofInt ((g : Int))) mi_176_4 (by simp [stL, lv_args, Value.category]) ?_
  refine V_ipush mi_176_5 ?_
  refine V_ibin mi_176_7 (by omega) ?_
  rw [ib2]
  refine V_iload (v := Int32.ofInt ((f : Int))) mi_176_8 (by simp [stL, lv_args, Value.category]) ?_
  refine V_ipush mi_176_9 ?_
  refine V_ibin mi_176_11 (by omega) ?_
  rw [ib2]
  refine V_ibin mi_176_12 (by omega) ?_
  rw [ib0]
  refine V_iload (v := Int32.ofInt ((o : Int))) mi_176_13 (by simp [stL, lv_args, Value.category]) ?_
  refine V_ibin mi_176_14 (by omega) ?_
  rw [ib0]
  rw [show (g : Int) * (36) + (f : Int) * (6) + (o : Int) = ((36 * g + (6 * f + o) : Nat) : Int) by omega]
  refine V_stat (As := [.ref (ad 33), .int (Int32.ofInt (((36 * g + (6 * f + o) : Nat) : Int)))]) (st := []) mi_176_15 (by omega) (atk_ct (j := 36 * g + (6 * f + o)) a33 hG (by omega) (by omega) h) (by omega) (show 2 = mN 147 by decide +kernel) (by simp [Value.category]) ⟨Nat.le_refl _, Nat.le_refl _⟩ ?_
  rintro r w1 ⟨rfl, rfl⟩
  exact V_retI mi_176_18 (fun h => absurd h (by decide +kernel)) ⟨rfl, rfl⟩
theorem sto_k {G : Nat → Int} {w : va_W} (hB : HB G) (hS : STO G w) {f o g : Nat} (hf : (f : Int) < G 3) (ho : o < 6) (hg : (g : Int) ≤ G 2) : rd w 33 (36 * g + (6 * f + o)) = some (.int (Int32.ofInt ((tellT G g).K (6 * f + o)))) :=
  hS.2.2.1 g (by omega) (6 * f + o) (by have := hB.b3; omega) (by omega)
theorem ini_at {G : Nat → Int} {m n : Nat} (hn : n < 6) : iniK G (6 * m + n) = if m = n then allV (G (6 + 7 * n)) else G (66 + (6 * m + n)) := by
  unfold iniK
  rw [show (6 * m + n) / 6 = m by omega, show (6 * m + n) % 6 = n by omega]
theorem kah_ct {f o g : Nat} {z : Int} (hG : GOK ad tys GG ws) (hf : f < 6) (ho : o < 6) (hg : g ≤ 24) (h : rd ws 98 (36 * g + (6 * f + o)) = some (.int (Int32.ofInt z))) : CT l D tys A 239 0 0 0 [.ref (ad 90), .int (Int32.ofInt ((f : Int))), .int (Int32.ofInt ((o : Int))), .int (Int32.ofInt ((g : Int)))] ws (fun r w => w = ws ∧ r = some (.int (Int32.ofInt z))) := by
  refine CT_of_V (by omega) (show (4 : Nat) ≤ mML 239 by decide +kernel) ?_
  obtain ⟨s98, e98, f98⟩ := a98
  refine V_aload (v := ad 90) mi_239_0 (by simp [stL, lv_args, Value.category]) ?_
  refine V_getI mi_239_1 hG (rref gr16 (by omega) hG) ?_
  refine V_ipush mi_239_4 ?_
  refine V_iload (v := Int32.ofInt ((g : Int))) mi_239_6 (by simp [stL, lv_args, Value.category]) ?_
  refine V_ibin mi_239_7 (by omega) ?_
  rw [ib2]
  refine V_ipush mi_239_8 ?_
  refine V_iload (v := Int32.ofInt ((f : Int))) mi_239_10 (by simp [stL, lv_args, Value.category]) ?_
  refine V_ibin mi_239_11 (by omega) ?_
  rw [ib2]
  refine V_ibin mi_239_12 (by omega) ?_
  rw [ib0]
  refine V_iload (v := Int32.ofInt ((o : Int))) mi_239_13 (by simp [stL, lv_args, Value.category]) ?_
  refine V_ibin mi_239_14 (by omega) ?_
  rw [ib0]
  refine V_aldX (j := 36 * g + (6 * f + o)) mi_239_15 (by rw [show (((36) * ((g : Int))) + ((6) * ((f : Int)))) + ((o : Int)) = ((36 * g + (6 * f + o) : Nat) : Int) by omega]) hG e98 (by omega) (by omega) (h) ?_
  exact V_retI mi_239_16 (fun h => absurd h (by decide +kernel)) ⟨rfl, rfl⟩
end XSL
