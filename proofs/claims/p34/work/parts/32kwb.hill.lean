section XSM
variable {l : Launch} {D : va_G} {tys : List (ClassId × FieldType)} {A : Nat → Prop} {ad : Nat → Nat} {ws : va_W}
/-- whole, ahead of hour g -/
def whB (G : Nat → Int) (g f o : Nat) : Bool := decide ((tellT G g).K (6 * f + o) = allV (G (6 + 7 * o)))
theorem swh_ct {G : Nat → Int} (hG : GOK ad tys GG ws) (hX : HX 4 G ws) (hB : HB G) (hS : STO G ws) {f o g : Nat} (hf : (f : Int) < G 3) (ho : o < 6) (hg : (g : Int) ≤ G 2) : CT l D tys A 177 2 0 0 [.ref (ad 32), .ref (ad 4), .int (Int32.ofInt ((f : Int))), .int (Int32.ofInt ((o : Int))), .int (Int32.ofInt ((g : Int)))] ws (fun r w => w = ws ∧ r = some (.int (bI (whB G g f o)))) := by
  refine CT_of_V (by omega) (show (5 : Nat) ≤ mML 177 by decide +kernel) ?_
  have b3 := hB.b3
  have b2 := hB.b2
  have bl := hB.bl o ho
  have ba := (allV_k bl.1 bl.2).2
  have bk := tell_ok hB g (6 * f + o) (by omega)
  refine V_aload (v := ad 32) mi_177_0 (by simp [stL, lv_args, Value.category]) ?_
  refine V_iload (v := Int32.ofInt ((f : Int))) mi_177_1 (by simp [stL, lv_args, Value.category]) ?_
  refine V_iload (v := Int32.ofInt ((o : Int))) mi_177_2 (by simp [stL, lv_args, Value.category]) ?_
  refine V_iload (v := Int32.ofInt ((g : Int))) mi_177_3 (by simp [stL, lv_args, Value.category]) ?_
  refine V_cO (As := [.int (Int32.ofInt ((f : Int))), .int (Int32.ofInt ((o : Int))), .int (Int32.ofInt ((g : Int)))]) (st := []) mi_177_5 (by omega) (by decide +kernel) (by decide +kernel) (by omega) g32o hG (stb_ct (f := f) (o := o) (g := g) hG (by omega) ho (by omega) (sto_k hB hS hf ho hg)) (by omega) (show 3 = mN 176 by decide +kernel) (by simp [Value.category]) ?_
  rintro r w1 ⟨rfl, rfl⟩
  refine V_aload (v := ad 4) mi_177_8 (by simp [stL, lv_args, Value.category]) ?_
  refine V_iload (v := Int32.ofInt ((o : Int))) mi_177_9 (by simp [stL, lv_args, Value.category]) ?_
  refine V_cO (As := [.int (Int32.ofInt ((o : Int)))]) (st := [.int (Int32.ofInt ((tellT G g).K (6 * f + o)))]) mi_177_10 (by omega) (by decide +kernel) (by decide +kernel) (by omega) g4o hG (alf_ct (f := o) hG hX hB ho) (by omega) (show 1 = mN 108 by decide +kernel) (by simp [Value.category]) ?_
  rintro r w2 ⟨rfl, rfl⟩
  refine V_cne mi_177_13 ⟨by omega, by omega⟩ ⟨by omega, by omega⟩ (fun q => ?_) (fun q => ?_)
  · refine V_ipush mi_177_20 ?_
    exact V_retI mi_177_21 (fun _ => by decide) ⟨rfl, by rw [show whB G g f o = false from decide_eq_false q]; rfl⟩
  · refine V_ipush mi_177_16 ?_
    refine V_goto mi_177_17 ?_
    exact V_retI mi_177_21 (fun _ => by decide) ⟨rfl, by rw [show whB G g f o = true from decide_eq_true q]; rfl⟩
theorem mwh_ct {G : Nat → Int} {w0 : va_W} (hT : MT ad tys G w0 ws) (hW : W91 G ws) (hB : HB G) {f o g : Nat} (hf : f < 6) (ho : o < 6) (hg : (g : Int) ≤ G 2) : CT l D tys A 241 2 0 0 [.ref (ad 90), .int (Int32.ofInt ((f : Int))), .int (Int32.ofInt ((o : Int))), .int (Int32.ofInt ((g : Int)))] ws (fun r w => w = ws ∧ r = some (.int (bI (whB G g f o)))) := by
  refine CT_of_V (by omega) (show (4 : Nat) ≤ mML 241 by decide +kernel) ?_
  have b3 := hB.b3
  have b2 := hB.b2
  have bl := hB.bl o ho
  have ba := (allV_k bl.1 bl.2).2
  have bk := tell_ok hB g (6 * f + o) (by omega)
  refine V_aload (v := ad 90) mi_241_0 (by simp [stL, lv_args, Value.category]) ?_
  refine V_iload (v := Int32.ofInt ((f : Int))) mi_241_1 (by simp [stL, lv_args, Value.category]) ?_
  refine V_iload (v := Int32.ofInt ((o : Int))) mi_241_2 (by simp [stL, lv_args, Value.category]) ?_
  refine V_iload (v := Int32.ofInt ((g : Int))) mi_241_3 (by simp [stL, lv_args, Value.category]) ?_
  refine V_callM (As := [.int (Int32.ofInt ((f : Int))), .int (Int32.ofInt ((o : Int))), .int (Int32.ofInt ((g : Int)))]) (st := []) mi_241_4 (by omega) (by decide +kernel) (by decide +kernel) hT.1 (kah_ct (f := f) (o := o) (g := g) hT.1 hf ho (by omega) (mt_k hT hf ho hg)) (by omega) (show 3 = mN 239 by decide +kernel) (by simp [Value.category]) ?_
  rintro r w1 ⟨rfl, rfl⟩
  refine V_aload (v := ad 90) mi_241_7 (by simp [stL, lv_args, Value.category]) ?_
  refine V_iload (v := Int32.ofInt ((o : Int))) mi_241_8 (by simp [stL, lv_args, Value.category]) ?_
  refine V_callM (As := [.int (Int32.ofInt ((o : Int)))]) (st := [.int (Int32.ofInt ((tellT G g).K (6 * f + o)))]) mi_241_9 (by omega) (by decide +kernel) (by decide +kernel) hT.1 (who_ct (o := o) ho hT.1 hW hB) (by omega) (show 1 = mN 206 by decide +kernel) (by simp [Value.category]) ?_
  rintro r w2 ⟨rfl, rfl⟩
  refine V_cne mi_241_12 ⟨by omega, by omega⟩ ⟨by omega, by omega⟩ (fun q => ?_) (fun q => ?_)
  · refine V_ipush mi_241_19 ?_
    exact V_retI mi_241_20 (fun _ => by decide) ⟨rfl, by rw [show whB G g f o = false from decide_eq_false q]; rfl⟩
  · refine V_ipush mi_241_15 ?_
    refine V_goto mi_241_16 ?_
    exact V_retI mi_241_20 (fun _ => by decide) ⟨rfl, by rw [show whB G g f o = true from decide_eq_true q]; rfl⟩
theorem mt_w {G : Nat → Int} {w0 w : va_W} (h : MT ad tys G w0 w) (hW : W91 G w0) : W91 G w := fun j hj => (h.2.2.2 91 j (by omega) (by omega)).trans (hW j hj)
end XSM
