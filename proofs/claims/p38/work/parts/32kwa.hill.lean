section XSL
variable {l : Launch} {D : va_G} {tys : List (ClassId × FieldType)} {A : Nat → Prop} {ad : Nat → Nat} {ws : va_W}
theorem kah_ct {f o g : Nat} {z : Int} (hG : GOK ad tys GG ws) (hf : f < 6) (ho : o < 6) (hg : g ≤ 24) (h : rd ws 98 (36 * g + (6 * f + o)) = some (.int (Int32.ofInt z))) : CT l D tys A 239 0 0 0 [.ref (ad 90), .int (Int32.ofInt ((f : Int))), .int (Int32.ofInt ((o : Int))), .int (Int32.ofInt ((g : Int)))] ws (fun r w => w = ws ∧ r = some (.int (Int32.ofInt z))) := by
  refine CT_of_V (by omega) (show (4 : Nat) ≤ mML 239 by decide +kernel) ?_
  obtain ⟨s98, e98, f98⟩ := a98
  refine V_aload (v := ad 90) mi_239_0 (by simp [stL, lv_args, Value.category]) ?_
  refine V_getI mi_239_1 hG (rref gr16 (by omega) hG) ?_
  refine V_ipush mi_239_4 ?_
  refine V_iload (v := Int32.ofInt ((g : Int))) mi_239_6 (by simp [stL, lv_args, Value.category]) ?_
  refine V_ibin mi_239_7 (by omega) ?_
  rw [ib2]
  refine V_ipush mi_239_8 ?_
  refine V_iload (v := Int32.ofInt ((f : Int))) mi_239_10 (by simp [stL, lv_args, Value.category]) ?_
  refine V_ibin mi_239_11 (by omega) ?_
  rw [ib2]
  refine V_ibin mi_239_12 (by omega) ?_
  rw [ib0]
  refine V_iload (v := Int32.ofInt ((o : Int))) mi_239_13 (by simp [stL, lv_args, Value.category]) ?_
  refine V_ibin mi_239_14 (by omega) ?_
  rw [ib0]
  refine V_aldX (j := 36 * g + (6 * f + o)) mi_239_15 (by rw [show (((36) * ((g : Int))) + ((6) * ((f : Int)))) + ((o : Int)) = ((36 * g + (6 * f + o) : Nat) : Int) by omega]) hG e98 (by omega) (by omega) (h) ?_
  exact V_retI mi_239_16 (fun h => absurd h (by decide +kernel)) ⟨rfl, rfl⟩
end XSL
