theorem prim_known {s : State} {args : Array Value} {ty : FieldType} (h : (Cond.arrayClass ty).before args s = true) (hr : ∀ c, s.vm.findClass ("[" ++ ty.toString) = some c → va_RA s c ty) : ∃ cA, ArrOfT s cA ty ∧ va_RA s cA ty := by
  obtain ⟨cA, kA, comp, h1, h2, h3⟩ := Cond.arrayClass_spec h
  exact ⟨cA, fun n z => ⟨fun k h => (by cases h), kA, h2, comp, h3⟩, hr _ h1⟩
theorem hill_known {s : State} {C : String} (h : va_AO C s) : ∃ cA, ArrOfT s cA (.object C) ∧ va_RA s cA (.object C) := by
  obtain ⟨comp, c, k, h1, h2, h3, h4, h5⟩ := Cond.arrayOver_spec h
  exact ⟨c, fun n z => ⟨fun k h => (by cases h), k, h3, comp, h4⟩, k, comp, h3, h4, h1, h5⟩
noncomputable def inB (y : Nat) : Bool := match vwCl[y]? with
  | some (C, _, N) => wAt (cW y).1 (Cond.instantiable C N)
  | none => true
theorem in_all : (List.range 12).all inB = true := by decide +kernel
theorem wa_over : (Cond.arrayOver (.object "HalvedNames$Hill")) ∈ lw_tbl := tbl_in (List.mem_of_getElem? (i := 296) (by decide +kernel))
theorem kk_start {s : State} {args : Array Value} {A : Nat → Prop} (hA : ∀ a : Nat, a < s.heap.size → ¬ A a) (hgv : (Jvm.Cond.and given_1 narrow_1).before args s = true) (hts0 : ∀ w ∈ lw_tbl, w.before args s = true) (hts : ∀ w ∈ gtb, w.before args s = true) : ∃ (D : va_G) (tys : List (ClassId × FieldType)), KK D tys A s ∧ ∀ t, t < 5 → tys[t]? = some (cid tys t, ftyp t) := by
  have ho : va_AO "HalvedNames$Hill" s := va_AO.of (hts0 _ wa_over)
  obtain ⟨c0, a0, b0⟩ := prim_known (hts _ (wAt_in wa_int)) (fun c h => h)
  obtain ⟨c1, a1, b1⟩ := prim_known (hts _ (wAt_in wa_byte)) (fun c h => h)
  obtain ⟨c2, a2, b2⟩ := prim_known (hts _ (wAt_in wa_bool)) (fun c h => h)
  obtain ⟨c3, a3, b3⟩ := prim_known (hts _ (wAt_in wa_long)) (fun c h => h)
  obtain ⟨c4, a4, b4⟩ := hill_known ho
  have hD : ∀ c : Nat, ∃ d : ClassId × (Nat → Nat), ∀ q, vwCl[c]? = some q → u_Kn s q.1 q.2.1 q.2.2 d.1 d.2 := by
    intro c
    cases hc : vwCl[c]? with
    | none => exact ⟨(0, fun _ => 0), fun q h => by cases h⟩
    | some q =>
      obtain ⟨C, T, N⟩ := q
      have hl : c < 12 := (List.getElem?_eq_some_iff.mp hc).1
      have hi := List.all_eq_true.mp in_all c (List.mem_range.mpr hl)
      unfold inB at hi
      rw [hc] at hi
      obtain ⟨cC, iS, hk⟩ := u_known hts (cls_ok c C T N hc).1 (hts _ (wAt_in hi))
      exact ⟨(cC, iS), fun q h => by cases h; exact hk⟩
  obtain ⟨F, hF⟩ := Classical.axiomOfChoice hD
  obtain ⟨x, hx⟩ := xk_start hA hts0 hgv
  refine ⟨(fun c => (F c).1, fun c => if c = 1000 then x else (F c).2), [(c0, .int), (c1, .byte), (c2, .boolean), (c3, .long), (c4, .object "HalvedNames$Hill")], ⟨⟨fun c q h => ?_, fun k q h => ?_⟩, ho, by show XK A (if (1000 : Nat) = 1000 then x else (F 1000).2) s s.heap; rw [if_pos rfl]; exact hx⟩, fun t ht => ?_⟩
  · have hc : c < 12 := (List.getElem?_eq_some_iff.mp h).1
    show u_Kn s q.1 q.2.1 q.2.2 (F c).1 (if c = 1000 then x else (F c).2)
    rw [if_neg (by omega)]
    exact hF c q h
  · match k, h with
    | 0, h => cases h; exact ⟨a0, b0⟩
    | 1, h => cases h; exact ⟨a1, b1⟩
    | 2, h => cases h; exact ⟨a2, b2⟩
    | 3, h => cases h; exact ⟨a3, b3⟩
    | 4, h => cases h; exact ⟨a4, b4⟩
    | k + 5, h => simp at h
  · match t, ht with
    | 0, _ => rfl
    | 1, _ => rfl
    | 2, _ => rfl
    | 3, _ => rfl
    | 4, _ => rfl
    | t + 5, ht => omega
/-! the law's own steps -/
noncomputable def LFix (D : va_G) (tys : List (ClassId × FieldType)) (A : Nat → Prop) (p : Program) (R : Room) (s : State) (m : MethodId) (args : Array Value) (c : Code) : Prop :=
  p.tables.exec = Jvm.exec ∧ c.code = code ∧ c.maxLocals = 4 ∧ s.vm.findClass "HalvedNamesLaw" = some m.cls ∧ (∀ w ∈ gtb, w.before args s = true) ∧ KK D tys A s ∧ 14 ≤ R.frames ∧ 528 ≤ R.locals ∧ (∀ q, s.heap.size ≤ q → A q)
section LAW
variable {p : Program} {l : Launch} {e : Env} {R : Room} {s : State} {m : MethodId} {args : Array Value} {below : List Frame} {meth : Method} {c : Code} {Q : State → Prop} {D : va_G} {tys : List (ClassId × FieldType)} {A : Nat → Prop}
noncomputable def LV (p : Program) (l : Launch) (e : Env) (R : Room) (s : State) (m : MethodId) (args : Array Value) (below : List Frame) (meth : Method) (c : Code) (Q : State → Prop) (D : va_G) (A : Nat → Prop) (cells slots pc : Nat) (lv : List (Nat × Value)) (st : List Value) (ws : va_W) : Prop :=
  ∀ (H : Heap) (locs : List Loc) (ls : Array Slot), lv_has ls 4 lv → Hp D A s ws H locs → W p l e R s m args below meth c H locs cells slots Q (F0 m pc ls st)
variable {cells slots pc : Nat} {lv : List (Nat × Value)} {st : List Value} {ws : va_W}
theorem L_virt {d' mc' ms' b q0 ci N x y : Nat} {T : u_T} {fs As : List Value} {post' : Option Value → va_W → Prop} (F : LFix D tys A p R s m args c) (hy : y < 352) (hk : mKind y = 0) {w : Int} (hw : wAt w (Cond.methodLink "HalvedNamesLaw" x (mY y)) = true) (hdc : decode code pc = .ok (.invokevirtual x, 3)) (hc : CT l D tys A y d' mc' ms' (.ref b :: As) ws post') (hd : d' < 11) (hn : As.length = mN y) (he : ws[q0]? = some (b, .inr (ci, fs))) (hcl : vwCl[ci]? = some ((mY y).cls, T, N)) (hst : (st.map fun v => v.category).sum ≤ 8) (hm : cells + mc' ≤ R.cells ∧ slots + ms' ≤ R.slots)
    (kk : ∀ (r : Option Value) (ws' : va_W), post' r ws' → LV p l e R s m args below meth c Q D A (cells + mc') (slots + ms') (pc + 3) lv (r.toList ++ st) ws') : LV p l e R s m args below meth c Q D A cells slots pc lv (As.reverse ++ .ref b :: st) ws := by
  intro H locs ls hl hH
  have K := fun r ws' H1 locs1 hp h => kk r ws' hp H1 locs1 ls hl h
  obtain ⟨hx, hb, hml, hown, hts, hK, hR1, hR2, hA⟩ := F
  obtain ⟨y1, y2, y3, y4, y5, y6, y7, y8⟩ := y_facts hy
  obtain ⟨v1, v2⟩ := y_virt hy hk
  have hG : GoodIn gtb (wsV "HalvedNamesLaw" x (mY y).cls (mY y) (mWs y)) := by
    intro w hw2
    have hw2 : w ∈ ([.methodLink "HalvedNamesLaw" x (mY y), .instanceMethod (mY y), .selects (mY y).cls (mY y) (mY y), .initialized (mY y).cls] : List Cond) ++ mWs y := hw2
    rcases List.mem_append.mp hw2 with hw2 | hw2
    · simp only [List.mem_cons, List.not_mem_nil, or_false] at hw2
      rcases hw2 with rfl | rfl | rfl | rfl
      · exact lw_good_all _ (wAt_in hw)
      · exact lw_good_all _ v1
      · exact lw_good_all _ v2
      · exact lw_good_all _ y2
    · exact ws_good hy w hw2
  refine va_callQ (va_runV (n := mN y) (As := As) (rest := st) ⟨hx, hb, hml, hown, hts⟩ (hc _ (fun _ _ h => h)) (cwV (mN y) hts hG rfl rfl rfl ⟨rfl, y3, y4, y5⟩ ⟨?_, ?_⟩) ⟨PV_blind, va_recv hK.1 hH.1 hcl he, fun U hU hW => ⟨rfl, by rw [hU]; exact hH.1, KK.moved hW (by rw [hU]; exact hH.2.2.2.1) hK, hH.2.1, fun q hq => hA q (Nat.le_trans hH.2.2.1 (by rw [← hU]; exact hq))⟩⟩ rfl hn hl.1 rfl ?_ hdc hm) hH.2.2 (fun r ws' H1 locs1 h1 h2 h3 h4 => K r ws' H1 locs1 h1 ⟨h2, h3, h4⟩)
  · show d' + 1 + 1 ≤ R.frames
    omega
  · show 8 + (mML y + 11) + 40 * (d' + 1) ≤ R.locals
    omega
  · show 2 * 0 + _ ≤ 8
    omega
theorem L_spec {d' mc' ms' b x y : Nat} {As : List Value} {post' : Option Value → va_W → Prop} (F : LFix D tys A p R s m args c) (hy : y < 352) (hk : mKind y = 2) {w : Int} (hw : wAt w (Cond.methodLink "HalvedNamesLaw" x (mY y)) = true) (hdc : decode code pc = .ok (.invokespecial x, 3)) (hrt : mRet y = none) (hc : CT l D tys A y d' mc' ms' (.ref b :: As) ws post') (hd : d' < 11) (hn : As.length = mN y) (hst : (st.map fun v => v.category).sum ≤ 8) (hm : cells + mc' ≤ R.cells ∧ slots + ms' ≤ R.slots)
    (kk : ∀ (r : Option Value) (ws' : va_W), post' r ws' → LV p l e R s m args below meth c Q D A (cells + mc') (slots + ms') (pc + 3) lv (r.toList ++ st) ws') : LV p l e R s m args below meth c Q D A cells slots pc lv (As.reverse ++ .ref b :: st) ws := by
  intro H locs ls hl hH
  have K := fun r ws' H1 locs1 hp h => kk r ws' hp H1 locs1 ls hl h
  obtain ⟨hx, hb, hml, hown, hts, hK, hR1, hR2, hA⟩ := F
  obtain ⟨y1, y2, y3, y4, y5, y6, y7, y8⟩ := y_facts hy
  obtain ⟨v1, v2⟩ := y_spec hy hk
  have hww : mWs y = Cond.code (mY y) (mCode y) (mML y) none :: gtb := by unfold mWs; rw [hrt]
  refine va_callQ (va_runI (n := mN y) (As := As) (rest := st) ⟨hx, hb, hml, hown, hts⟩ (hc _ (fun _ _ h => h)) (cwI (mN y) hts (ws_good hy) hww rfl rfl (hts _ y2) (hts _ (wAt_in hw)) (hts _ v1) v2 ⟨y3, y4, y5⟩ ⟨?_, ?_⟩) ⟨PV_blind, fun U hU hW => ⟨rfl, by rw [hU]; exact hH.1, KK.moved hW (by rw [hU]; exact hH.2.2.2.1) hK, hH.2.1, fun q hq => hA q (Nat.le_trans hH.2.2.1 (by rw [← hU]; exact hq))⟩⟩ rfl hn hl.1 rfl ?_ hdc hm) hH.2.2 (fun r ws' H1 locs1 h1 h2 h3 h4 => K r ws' H1 locs1 h1 ⟨h2, h3, h4⟩)
  · show d' + 1 + 1 ≤ R.frames
    omega
  · show 8 + (mML y + 11) + 40 * (d' + 1) ≤ R.locals
    omega
  · show 2 * 0 + _ ≤ 8
    omega
theorem L_new {C : String} {T : u_T} {N ci index : Nat} {fs : List Value} {w w1 w2 : Int} (F : LFix D tys A p R s m args c) (hcl : vwCl[ci]? = some (C, T, N)) (hw : wAt w (Cond.classLink "HalvedNamesLaw" index C) = true) (hw1 : wAt w1 (Cond.instantiable C N) = true) (hw2 : wAt w2 (Cond.initialized C) = true) (hdc : decode code pc = .ok (.new index, 3)) (hfs : ∀ j, j < N → defaultValue (clTy ci j) = vp_V fs j) (hc : cells + 1 ≤ R.cells ∧ slots + N ≤ R.slots)
    (kk : ∀ q : Nat, LV p l e R s m args below meth c Q D A (cells + 1) (slots + N) (pc + 3) lv (.ref q :: st) (ws ++ [(q, .inr (ci, fs))])) : LV p l e R s m args below meth c Q D A cells slots pc lv st ws := by
  intro H locs ls hl hH
  have K := fun q H1 h => kk q H1 locs ls hl h
  obtain ⟨hx, hb, hml, hown, hts, hK, hR1, hR2, hA⟩ := F
  exact va_new hx hb hts (cls_ok ci C T N hcl).1 (clTy ci) (cl_ty ci C T N hcl) hown (hts _ (wAt_in hw)) (hts _ (wAt_in hw1)) (hts _ (wAt_in hw2)) hK.1 hH.1 hH.2.1 hH.2.2 hA hcl hfs hc.1 hc.2 hdc (fun q H1 k2 k3 k4 => K q H1 ⟨k2, k3, k4⟩)
end LAW
