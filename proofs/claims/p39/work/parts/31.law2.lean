section LAW2
variable {p : Program} {l : Launch} {e : Env} {R : Room} {s : State} {m : MethodId} {args : Array Value} {below : List Frame} {meth : Method} {c : Code} {Q : State → Prop} {D : va_G} {tys : List (ClassId × FieldType)} {A : Nat → Prop}
variable {cells slots pc : Nat} {lv : List (Nat × Value)} {st : List Value} {ws : va_W}
theorem L_dup {v : Value} (F : LFix D tys A p R s m args c) (hd : decode code pc = .ok (.dup, 1)) (hv : v.category = 1) (kk : LV p l e R s m args below meth c Q D A cells slots (pc + 1) lv (v :: v :: st) ws) : LV p l e R s m args below meth c Q D A cells slots pc lv (v :: st) ws := by
  intro H locs ls hl hH
  exact lv_dup F.1 F.2.1 hd hv (kk H locs ls hl hH)
theorem L_ast {v i : Nat} (F : LFix D tys A p R s m args c) {f : Fin 4} (hd : decode code pc = .ok (.astore_n f, 1)) (hf : (f : Nat) = i) (kk : LV p l e R s m args below meth c Q D A cells slots (pc + 1) (stL i (.ref v) lv) st ws) : LV p l e R s m args below meth c Q D A cells slots pc lv (.ref v :: st) ws := by
  intro H locs ls hl hH
  exact lv_astore_n F.1 F.2.1 hd hf hl (by omega) rfl (fun ls' hl' => kk H locs ls' hl' hH)
theorem L_ist {v : Int32} {i : Nat} (F : LFix D tys A p R s m args c) {f : Fin 4} (hd : decode code pc = .ok (.istore_n f, 1)) (hf : (f : Nat) = i) (kk : LV p l e R s m args below meth c Q D A cells slots (pc + 1) (stL i (.int v) lv) st ws) : LV p l e R s m args below meth c Q D A cells slots pc lv (.int v :: st) ws := by
  intro H locs ls hl hH
  exact lv_istore_n F.1 F.2.1 hd hf hl (by omega) rfl (fun ls' hl' => kk H locs ls' hl' hH)
theorem L_al {v i : Nat} (F : LFix D tys A p R s m args c) {f : Fin 4} (hd : decode code pc = .ok (.aload_n f, 1)) (hf : (f : Nat) = i) (hv : (i, Value.ref v) ∈ lv) (kk : LV p l e R s m args below meth c Q D A cells slots (pc + 1) lv (.ref v :: st) ws) : LV p l e R s m args below meth c Q D A cells slots pc lv st ws := by
  intro H locs ls hl hH
  exact lv_aload_n F.1 F.2.1 hd hf (hl.2.2 _ hv) (kk H locs ls hl hH)
theorem L_il {v : Int32} {i : Nat} (F : LFix D tys A p R s m args c) {f : Fin 4} (hd : decode code pc = .ok (.iload_n f, 1)) (hf : (f : Nat) = i) (hv : (i, Value.int v) ∈ lv) (kk : LV p l e R s m args below meth c Q D A cells slots (pc + 1) lv (.int v :: st) ws) : LV p l e R s m args below meth c Q D A cells slots pc lv st ws := by
  intro H locs ls hl hH
  exact lv_iload_n F.1 F.2.1 hd hf (hl.2.2 _ hv) (kk H locs ls hl hH)
theorem L_arg {b L : Nat} {xs : Nat → Int32} {i : Int32} {k : Int} (F : LFix D tys A p R s m args c) (hX : va_X b L xs s s.heap) (hbl : b < s.heap.size) (hbA : ¬ A b) (h0 : (0, Value.ref b) ∈ lv) (h3 : (3, Value.int i) ∈ lv) (d0 : decode code pc = .ok (.aload_n 0, 1)) (d1 : decode code (pc + 1) = .ok (.iload_n 3, 1)) (d2 : decode code (pc + 2) = .ok (.iconst k, 1)) (d3 : decode code (pc + 3) = .ok (.iadd, 1)) (d4 : decode code (pc + 4) = .ok (.iaload, 1)) (hin : vp_in (i + Int32.ofInt k) L)
    (kk : LV p l e R s m args below meth c Q D A cells slots (pc + 5) lv (.int (xs (i + Int32.ofInt k).toNatClampNeg) :: st) ws) : LV p l e R s m args below meth c Q D A cells slots pc lv st ws := by
  intro H locs ls hl hH
  refine lv_aload_n F.1 F.2.1 d0 rfl (hl.2.2 _ h0) ?_
  refine lv_iload_n F.1 F.2.1 d1 rfl (hl.2.2 _ h3) ?_
  refine lv_iconst F.1 F.2.1 d2 rfl ?_
  refine lv_iadd F.1 F.2.1 d3 ?_
  exact va_sld F.1 F.2.1 hX hbl hbA hH.2.2 hin d4 (kk H locs ls hl hH)
theorem dfl_map {ad ad' : Nat → Nat} {y N : Nat} (h : (List.range N).all (fun j => okT (clTy y j)) = true) : (dflN y N).map (cnC ad) = (dflN y N).map (cnC ad') := by
  refine List.map_congr_left (fun v hv => ?_)
  unfold dflN at hv
  obtain ⟨j, hj, rfl⟩ := List.mem_map.mp hv
  have hk := List.all_eq_true.mp h j hj
  rw [← dv_ok hk, dv_ok (ad := ad') hk]
theorem dfl_vp {ad : Nat → Nat} {y N : Nat} (h : (List.range N).all (fun j => okT (clTy y j)) = true) : ∀ j, j < N → defaultValue (clTy y j) = vp_V ((dflN y N).map (cnC ad)) j := by
  intro j hj
  have hk := List.all_eq_true.mp h j (List.mem_range.mpr hj)
  show _ = ((dflN y N).map (cnC ad)).getD j .null
  unfold dflN
  rw [List.getD_eq_getElem?_getD, List.getElem?_map, List.getElem?_map, List.getElem?_range hj]
  exact dv_ok hk
theorem okX : (List.range 13).all (fun j => okT (clTy 10 j)) = true := by decide +kernel
theorem okM : (List.range 36).all (fun j => okT (clTy 11 j)) = true := by decide +kernel
theorem hX_eq : cx limT 4000 3 0 (0, [(0, (2, 0))], [], [(0, 10, 13, dflN 10 13)], 0, 0) = some hX := by
  have hl := lX
  unfold hX at hl ⊢
  generalize cx limT 4000 3 0 (0, [(0, (2, 0))], [], [(0, 10, 13, dflN 10 13)], 0, 0) = o at hl ⊢
  cases o with
  | none => cases hl
  | some w => rfl
theorem hM_eq : cx limT 4000 3 192 (0, [(0, (2, 90))], [], hX ++ [(0, 11, 36, dflN 11 36)], 0, 0) = some hM := by
  have hl := lM
  unfold hM at hl ⊢
  generalize cx limT 4000 3 192 (0, [(0, (2, 90))], [], hX ++ [(0, 11, 36, dflN 11 36)], 0, 0) = o at hl ⊢
  cases o with
  | none => cases hl
  | some w => rfl
theorem wf_X : wfW 90 [] [] hX = true := by decide +kernel
noncomputable def PX (w : List CE) (tys : List (ClassId × FieldType)) (q : Nat) : Option Value → va_W → Prop := fun r ws' => r = none ∧ ∃ ad' : Nat → Nat, ad' 0 = q ∧ ws' = cwF tys ad' 0 w
theorem ctX (HT : ∀ t, t < 5 → tys[t]? = some (cid tys t, ftyp t)) (q : Nat) : CT l D tys A 0 3 (limT 0).1 (limT 0).2 [.ref q] [(q, .inr (10, (dflN 10 13).map (cnC (fun _ => 0))))] (PX hX tys q) := by
  refine CT_of_V (by decide) (show (1 : Nat) ≤ mML 0 by decide +kernel) ?_
  have K := cx_ok (l := l) (D := D) (A := A) HT _ _ _ _ _ _ _ _ _ _ hX_eq (fun _ => q) (PX hX tys q) (fun ad' ha _ => ⟨rfl, ad', ha 0 (Nat.lt_succ_self 0), rfl⟩)
  have K : V l D tys A 0 3 (limT 0).1 (limT 0).2 (PX hX tys q) 0 0 0 (lv_args 0 [.ref q]) [] [(q, .inr (10, (dflN 10 13).map (cnC (fun _ => q))))] := K
  rw [dfl_map (ad' := fun _ => 0) okX] at K
  exact K
noncomputable def PM (w : List CE) (tys : List (ClassId × FieldType)) (q0 q : Nat) : Option Value → va_W → Prop := fun r ws' => r = none ∧ ∃ ad' : Nat → Nat, ad' 0 = q0 ∧ ad' 90 = q ∧ ws' = cwF tys ad' 0 w
theorem ctM (HT : ∀ t, t < 5 → tys[t]? = some (cid tys t, ftyp t)) (ad : Nat → Nat) (q : Nat) : CT l D tys A 192 3 (limT 192).1 (limT 192).2 [.ref q] (cwF tys ad 0 hX ++ [(q, .inr (11, (dflN 11 36).map (cnC (fun _ => 0))))]) (PM hM tys (ad 0) q) := by
  refine CT_of_V (by decide) (show (1 : Nat) ≤ mML 192 by decide +kernel) ?_
  have hlen : (hX ++ [((0 : Nat), (11 : Nat), (36 : Nat), dflN 11 36)]).length = 91 := by rw [List.length_append, lX]; rfl
  have K := cx_ok (l := l) (D := D) (A := A) HT _ _ _ _ _ _ _ _ _ _ hM_eq (upA ad 90 q) (PM hM tys (ad 0) q) (fun ad' ha _ => ⟨rfl, ad', by rw [ha 0 (by rw [hlen]; omega)]; rfl, by rw [ha 90 (by rw [hlen]; omega)]; exact if_pos rfl, rfl⟩)
  have hw := wf_X
  rw [← lX] at hw
  have e3 := (wfW_eq (tys := tys) (ad := ad) (ad' := upA ad 90 q) hw (fun i hi => if_neg (by rw [lX] at hi; omega))).2.2
  rw [cwF_app, e3, lX] at K
  have K : V l D tys A 192 3 (limT 192).1 (limT 192).2 (PM hM tys (ad 0) q) 0 0 0 [(0, Value.ref (upA ad 90 q 90))] [] (cwF tys ad 0 hX ++ [(upA ad 90 q 90, .inr (11, (dflN 11 36).map (cnC (upA ad 90 q))))]) := K
  rw [show upA ad 90 q 90 = q from if_pos rfl, dfl_map (ad' := fun _ => 0) okM] at K
  exact K
theorem wl_X : wAt 20 (Cond.classLink "HalvedNamesLaw" 7 "HalvedNames") = true := by decide +kernel
theorem wl_M : wAt 1201 (Cond.classLink "HalvedNamesLaw" 10 "HalvedNamesModel") = true := by decide +kernel
theorem wl_Xi : wAt 22 (Cond.methodLink "HalvedNamesLaw" 9 (mY 0)) = true := by decide +kernel
theorem wl_Mi : wAt 1203 (Cond.methodLink "HalvedNamesLaw" 12 (mY 192)) = true := by decide +kernel
theorem wi_X : wAt (cW 10).1 (Cond.instantiable "HalvedNames" 13) = true := by decide +kernel
theorem wi_M : wAt (cW 11).1 (Cond.instantiable "HalvedNamesModel" 36) = true := by decide +kernel
theorem wn_X : wAt (cW 10).2 (Cond.initialized "HalvedNames") = true := by decide +kernel
theorem wn_M : wAt (cW 11).2 (Cond.initialized "HalvedNamesModel") = true := by decide +kernel
theorem dl_0 : decode code 0 = .ok (.new 7, 3) := by decide +kernel
theorem dl_3 : decode code 3 = .ok (.dup, 1) := by decide +kernel
theorem dl_4 : decode code 4 = .ok (.invokespecial 9, 3) := by decide +kernel
theorem dl_7 : decode code 7 = .ok (.astore_n 1, 1) := by decide +kernel
theorem dl_8 : decode code 8 = .ok (.new 10, 3) := by decide +kernel
theorem dl_11 : decode code 11 = .ok (.dup, 1) := by decide +kernel
theorem dl_12 : decode code 12 = .ok (.invokespecial 12, 3) := by decide +kernel
theorem dl_15 : decode code 15 = .ok (.astore_n 2, 1) := by decide +kernel
theorem L_start {b : Nat} {wX wM : List CE} (F : LFix D tys A p R s m args c) (cX : ∀ q : Nat, CT l D tys A 0 3 (limT 0).1 (limT 0).2 [.ref q] [(q, .inr (10, (dflN 10 13).map (cnC (fun _ => 0))))] (PX wX tys q)) (cM : ∀ (ad : Nat → Nat) (q : Nat), CT l D tys A 192 3 (limT 192).1 (limT 192).2 [.ref q] (cwF tys ad 0 wX ++ [(q, .inr (11, (dflN 11 36).map (cnC (fun _ => 0))))]) (PM wM tys (ad 0) q)) (hR : 600000 ≤ R.cells ∧ 7302250 ≤ R.slots) (kk : ∀ ad : Nat → Nat, LV p l e R s m args below meth c Q D A 111 12403 16 [(2, .ref (ad 90)), (1, .ref (ad 0)), (0, .ref b)] [] (cwF tys ad 0 wM)) : LV p l e R s m args below meth c Q D A 0 0 0 [(0, .ref b)] [] [] := by
  refine L_new (fs := (dflN 10 13).map (cnC (fun _ => 0))) F (show vwCl[10]? = some ("HalvedNames", _, 13) from rfl) wl_X wi_X wn_X dl_0 (dfl_vp okX) (by omega) (fun q => ?_)
  refine L_dup F dl_3 rfl ?_
  refine L_spec (As := []) (y := 0) F (by omega) (by decide +kernel) wl_Xi dl_4 (by decide +kernel) (cX q) (by omega) (by decide +kernel) (by show (1 + 0 : Nat) ≤ 8; omega) ⟨by show 0 + 1 + 89 ≤ _; omega, by show 0 + 13 + 6089 ≤ _; omega⟩ (fun r ws' hr => ?_)
  have hr : r = none ∧ ∃ ad' : Nat → Nat, ad' 0 = q ∧ ws' = cwF tys ad' 0 wX := hr
  obtain ⟨hr1, ad, ha, hr2⟩ := hr
  rw [hr1, hr2, ← ha]
  refine L_ast (i := 1) F dl_7 rfl ?_
  refine L_new (fs := (dflN 11 36).map (cnC (fun _ => 0))) F (show vwCl[11]? = some ("HalvedNamesModel", _, 36) from rfl) wl_M wi_M wn_M dl_8 (dfl_vp okM) ⟨by show 0 + 1 + 89 + 1 ≤ _; omega, by show 0 + 13 + 6089 + 36 ≤ _; omega⟩ (fun q2 => ?_)
  refine L_dup F dl_11 rfl ?_
  refine L_spec (As := []) (y := 192) F (by omega) (by decide +kernel) wl_Mi dl_12 (by decide +kernel) (cM ad q2) (by omega) (by decide +kernel) (by show (1 + 0 : Nat) ≤ 8; omega) ⟨by show 0 + 1 + 89 + 1 + 20 ≤ _; omega, by show 0 + 13 + 6089 + 36 + 6265 ≤ _; omega⟩ (fun r ws' hr => ?_)
  have hr : r = none ∧ ∃ ad' : Nat → Nat, ad' 0 = ad 0 ∧ ad' 90 = q2 ∧ ws' = cwF tys ad' 0 wM := hr
  obtain ⟨hr1, ad2, h0, h90, hr2⟩ := hr
  rw [hr1, hr2, ← h0, ← h90]
  refine L_ast (i := 2) F dl_15 rfl ?_
  exact kk ad2
end LAW2
