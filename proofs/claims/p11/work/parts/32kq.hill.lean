section XSC
variable {l : Launch} {D : va_G} {tys : List (ClassId × FieldType)} {A : Nat → Prop} {ad : Nat → Nat} {ws : va_W}
theorem who_ct {G : Nat → Int} {o : Nat} (ho : o < 6) (hG : GOK ad tys GG ws) (hW : W91 G ws) (hB : HB G) : CT l D tys A 206 1 0 0 [.ref (ad 90), .int (Int32.ofInt ((o : Int)))] ws (fun r w => w = ws ∧ r = some (.int (Int32.ofInt (allV (G (6 + 7 * o)))))) := by
  refine CT_of_V (by omega) (show (2 : Nat) ≤ mML 206 by decide +kernel) ?_
  have bl := hB.bl o ho
  obtain ⟨v1, v2, v3⟩ := allV_k bl.1 bl.2
  refine V_ipush mi_206_0 ?_
  refine V_aload (v := ad 90) mi_206_1 (by simp [stL, lv_args, Value.category]) ?_
  refine V_iload (v := Int32.ofInt ((o : Int))) mi_206_2 (by simp [stL, lv_args, Value.category]) ?_
  refine V_callM (As := [.int (Int32.ofInt ((o : Int)))]) (st := [.int (Int32.ofInt (1))]) mi_206_3 (by omega) (by decide +kernel) (by decide +kernel) hG (mle_ct (f := o) hG hW hB ho) (by omega) (show 1 = mN 204 by decide +kernel) (by simp [Value.category]) ?_
  rintro r w1 ⟨rfl, rfl⟩
  refine V_ibin mi_206_6 (by omega) ?_
  refine V_ipush mi_206_7 ?_
  refine V_ibin mi_206_8 (by omega) ?_
  rw [v1]
  exact V_retI mi_206_9 (fun h => absurd h (by decide +kernel)) ⟨rfl, rfl⟩
end XSC
section XSD
variable {l : Launch} {D : va_G} {tys : List (ClassId × FieldType)} {A : Nat → Prop} {ad : Nat → Nat} {ws : va_W}
theorem ini_ok {G : Nat → Int} (hB : HB G) : kOK (iniK G) := fun j hj => by
  unfold iniK
  split
  · have bl := hB.bl (j % 6) (by omega)
    exact (allV_k bl.1 bl.2).2
  · exact hB.bt j hj
end XSD
