noncomputable def QV (D : va_G) (tys : List (ClassId × FieldType)) (A : Nat → Prop) (post : Option Value → va_W → Prop) : Array Value → State → Outcome → State → Prop := fun _ st oc t => (∃ (r : Option Value) (ws' : va_W), oc = .returned r ∧ post r ws' ∧ va_P D vwCl ws' t.heap ∧ KK D tys A t ∧ va_D A ws') ∧ va_F A st t
noncomputable def PV (D : va_G) (tys : List (ClassId × FieldType)) (A : Nat → Prop) (vs : List Value) (ws : va_W) : Array Value → State → Prop := va_Pc vs (fun U => va_P D vwCl ws U.heap ∧ KK D tys A U ∧ va_D A ws ∧ ∀ q, U.heap.size ≤ q → A q)
/-- a contract: from the world ws and these values the method ends, with post -/
noncomputable def CT0 (l : Launch) (D : va_G) (tys : List (ClassId × FieldType)) (A : Nat → Prop) (k d mc ms : Nat) (vs : List Value) (ws : va_W) (post : Option Value → va_W → Prop) : Prop :=
  Met l (mY k) (mWs k) (rmD d mc ms) (PV D tys A vs ws) (QV D tys A post) mc ms A
noncomputable def CT (l : Launch) (D : va_G) (tys : List (ClassId × FieldType)) (A : Nat → Prop) (k d mc ms : Nat) (vs : List Value) (ws : va_W) (post : Option Value → va_W → Prop) : Prop := ∀ post' : Option Value → va_W → Prop, (∀ r w, post r w → post' r w) → CT0 l D tys A k d mc ms vs ws post'
theorem CT_post {l : Launch} {D : va_G} {tys : List (ClassId × FieldType)} {A : Nat → Prop} {k d mc ms : Nat} {vs : List Value} {ws : va_W} {post post' : Option Value → va_W → Prop} (h : CT l D tys A k d mc ms vs ws post) (hp : ∀ r w, post r w → post' r w) : CT l D tys A k d mc ms vs ws post' := fun q hq => h q (fun r w z => hq r w (hp r w z))
theorem okY_at (k : Nat) (h : k < 352) : okY k = true := cy_all k h
theorem y_facts {k : Nat} (h : k < 352) : Cond.code (mY k) (mCode k) (mML k) (mRet k) ∈ gtb ∧ Cond.initialized (mY k).cls ∈ gtb ∧ (mY k).cls ≠ "java/lang/invoke/MethodHandle" ∧ (mY k).cls ≠ "java/lang/invoke/VarHandle" ∧ (parseMethodDescriptor (mY k).desc).map (fun d => d.parameters.length) = some (mN k) ∧ plainFor (mY k) = true ∧ mML k ≤ 21 ∧ (mY k).cls = mOwn k := by
  have t := okY_at k h
  unfold okY at t
  simp only [Bool.and_eq_true, decide_eq_true_eq] at t
  obtain ⟨⟨⟨⟨⟨⟨⟨⟨t1, t2⟩, t3⟩, t4⟩, t5⟩, t6⟩, t7⟩, t8⟩, t9⟩ := t
  exact ⟨List.mem_filter.mpr ⟨tbl_in (tch_in (List.mem_of_getElem? (wc_all k h))), t1⟩, wAt_in t2, t3, t4, t5, t6, Nat.le_of_ble_eq_true t7, t8⟩
theorem y_virt {k : Nat} (h : k < 352) (hk : mKind k = 0) : Cond.instanceMethod (mY k) ∈ gtb ∧ Cond.selects (mY k).cls (mY k) (mY k) ∈ gtb := by
  have t := okY_at k h
  unfold okY at t
  rw [Bool.and_eq_true] at t
  have t := t.2
  rw [hk] at t
  have t : (wAt (mW k).2.2.1 (Cond.instanceMethod (mY k)) && decide (lw_tbl[(mW k).2.2.2]? = some (Cond.selects (mY k).cls (mY k) (mY k)))) = true := t
  rw [Bool.and_eq_true] at t
  exact ⟨wAt_in t.1, List.mem_filter.mpr ⟨List.mem_of_getElem? (of_decide_eq_true t.2), rfl⟩⟩
theorem y_stat {k : Nat} (h : k < 352) (hk : mKind k = 1) : Cond.static (mY k) ∈ gtb := by
  have t := okY_at k h
  unfold okY at t
  rw [Bool.and_eq_true] at t
  have t := t.2
  rw [hk] at t
  exact wAt_in t
theorem y_spec {k : Nat} (h : k < 352) (hk : mKind k = 2) : Cond.instanceMethod (mY k) ∈ gtb ∧ (mY k).name = "<init>" := by
  have t := okY_at k h
  unfold okY at t
  rw [Bool.and_eq_true] at t
  have t := t.2
  rw [hk] at t
  have t : (wAt (mW k).2.2.1 (Cond.instanceMethod (mY k)) && decide ((mY k).name = "<init>")) = true := t
  rw [Bool.and_eq_true] at t
  exact ⟨wAt_in t.1, of_decide_eq_true t.2⟩
theorem ws_good {k : Nat} (h : k < 352) : GoodIn gtb (mWs k) := by
  intro w hw
  rcases List.mem_cons.mp hw with rfl | hw
  · exact lw_good_all _ (y_facts h).1
  · exact lw_good_all _ hw
/-- a walk from a method's entry is the body that the entry law wants -/
theorem ofW_ {p : Program} {l : Launch} {y : MethodName} {S : Spec} {cc : ByteArray} {maxL mc ms : Nat} {ret : Option FieldType} {e : Env} {s s₁ : State} {m : MethodId} {args : Array Value} {below : List Frame} {meth : Method} {c : Code} {Qc : Array Value → State → Outcome → State → Prop} {free : Addr → Prop} (B : BodyLoose p l y S cc maxL ret e s m args below meth c s₁) (h : W p l e S.room s m args below meth c s.heap [] 0 0 (MQ below Qc args s mc ms free) (entryFrame m args maxL)) : ∃ s₂ o, Steps p.tables e below (s₁.setTop (entryFrame m args maxL)) s₂ ∧ s₂.status = .running ∧ Ended s₂ below o ∧ (Qc args s o s₂ ∧ ∃ L, FrameEnd s o s₂ L mc ms ∧ ∀ q ∈ L, free q.base) := by
  obtain ⟨t, a1, o, b1, b2, b3⟩ := h s₁ (by rw [B.state]; rfl) (Stand.of_body B)
  exact ⟨t, o, a1, b1, b2, b3⟩
theorem CT_of_V {l : Launch} {D : va_G} {tys : List (ClassId × FieldType)} {A : Nat → Prop} {k d mc ms : Nat} {vs : List Value} {ws : va_W} {post : Option Value → va_W → Prop} (hk : k < 352) (hn : (lg_sl vs).length ≤ mML k) (h : V l D tys A k d mc ms post 0 0 0 (lv_args 0 vs) [] ws) : CT l D tys A k d mc ms vs ws post := by
  intro post' hpp
  replace h := V_post hpp h
  clear hpp
  revert h
  generalize post' = post
  intro h
  obtain ⟨y1, y2, y3, y4, y5, y6, y7, y8⟩ := y_facts hk
  unfold CT0
  refine MetFree.of_bodySF (code := mCode k) (maxLocals := mML k) (ret := mRet k) y6 (fun args s m hb hn => ?_) ?_
  · obtain ⟨meth, c, q1, q2, q3, q4, q5, q6, -, -⟩ := Cond.code_spec hn (atoms_spec (ws := mWs k) hb _ List.mem_cons_self)
    exact ⟨meth, c, q1, q2, q3, q4, q5, q6⟩
  intro p e s m args below meth c s₁ B hml hv _
  obtain ⟨rfl, hP, hK, hD, hA⟩ := hv
  refine ofW_ B ?_
  have hts := atoms_spec (ws := mWs k) B.pre
  have hown : s.vm.findClass (mOwn k) = some m.cls := by rw [← y8]; exact findClass_of_methodNamed B.named
  have hlocks := B.notSynchronized
  rw [lg_entry_eq]
  refine h p e _ s m _ below meth c s.heap [] _ _ ⟨B.exec, B.bytes, hml, hown, fun w hw => hts w (List.mem_cons_of_mem _ hw), B.returns, hlocks, (name_of_methodNamed B.named B.method).1, hK, Nat.le_refl _, Nat.le_refl _, Nat.le_refl _, Nat.le_refl _, hA⟩ (lv_entry vs hn) ⟨hP, hD, va_S.rf⟩ ?_
  intro pc' ls' r ws' H' locs' hr hpost hH
  have hq : ∀ t : State, t.heap = H' → s.WarmedH t.vm → QV D tys A post vs.toArray s (.returned r) t := fun t ht hw => ⟨⟨r, ws', rfl, hpost, by rw [ht]; exact hH.1, KK.moved hw (by rw [ht]; exact hH.2.2.2.1) hK, hH.2.1⟩, hH.2.2.F ht⟩
  rcases hr with ⟨v, ty, rfl, hd, h1, h2⟩ | ⟨v, rfl, hd, h1⟩ | ⟨rfl, hd, h1⟩ | ⟨v, n, rfl, hv, hd, h1⟩
  · exact W.zret B.exec B.bytes (B.returns.trans h1) h2 hq hH.2.2.2.2 hd hlocks
  · exact W.lret B.exec B.bytes (B.returns.trans h1) hq hH.2.2.2.2 hd hlocks
  · exact W.vret B.exec B.bytes (B.returns.trans h1) hq hH.2.2.2.2 hd hlocks
  · exact W.aret B.exec B.bytes (B.returns.trans h1) (Or.inl ⟨n, rfl⟩) hv hq hH.2.2.2.2 hd hlocks
section VEH
variable {l : Launch} {D : va_G} {tys : List (ClassId × FieldType)} {A : Nat → Prop}
theorem va_callQ {p : Program} {e : Env} {R : Room} {s : State} {m : MethodId} {args : Array Value} {below : List Frame} {meth : Method} {c : Code} {H : Heap} {locs : List Loc} {cells slots mc ms pc : Nat} {Q : State → Prop} {ls : Array Slot} {rest st0 : List Value} {a : Array Value} {post : Option Value → va_W → Prop}
    (hr : va_Run p l e R s m args below meth c H locs cells slots mc ms (F0 m pc ls st0) rest (QV D tys A post a) A) (hS : va_S A s.heap H locs)
    (kk : ∀ (r : Option Value) (ws' : va_W) (H1 : Heap) (locs1 : List Loc), post r ws' → va_P D vwCl ws' H1 → va_D A ws' → va_S A s.heap H1 locs1 → W p l e R s m args below meth c H1 locs1 (cells + mc) (slots + ms) Q (F0 m (pc + 3) ls (r.toList ++ rest))) : W p l e R s m args below meth c H locs cells slots Q (F0 m pc ls st0) := by
  intro T hT X
  obtain ⟨v, st₀, t, T', L, h0, X', hL, e1, e2, ⟨⟨r, ws', hv, hp, hP', hK', hD'⟩, hz, hk⟩, st⟩ := hr T hT X
  cases hv
  rw [h0] at hz hk
  obtain ⟨t2, a1, b1⟩ := kk _ ws' T'.heap (locs ++ L) hp (by rw [e1]; exact hP') hD'
    ⟨Nat.le_trans hS.1 (by rw [e1]; exact hz), fun q h1 h2 => by rw [e1, hk q (Nat.lt_of_lt_of_le h1 hS.1) h2]; exact hS.2.1 q h1 h2, fun q hq => by
      rcases List.mem_append.mp hq with h | h
      · exact hS.2.2 q h
      · exact hL q h⟩ T' rfl X'
  exact ⟨t2, st t2 a1, b1⟩
theorem PV_blind {vs : List Value} {ws : va_W} : FrameBlind (PV D tys A vs ws) := fun a U g mk q => by
  obtain ⟨q1, q2, q3, q4, q5⟩ := q
  exact ⟨q1, q2, KK.same (u := U) (U := U.calling g mk a) rfl rfl q3, q4, q5⟩
variable {k d mc ms : Nat} {post : Option Value → va_W → Prop} {cells slots pc : Nat} {lv : List (Nat × Value)} {st : List Value} {ws : va_W} {a : Int} {x y z : Nat}
/-- a call of a virtual method: the receiver's class is the method's -/
theorem V_virt {d' mc' ms' b q0 ci N : Nat} {T : u_T} {fs As : List Value} {post' : Option Value → va_W → Prop} (hi : mI k pc = (26, a, x, y, 0)) (hy : y < 352) (hc : CT l D tys A y d' mc' ms' (.ref b :: As) ws post') (hd : d' < d) (hn : As.length = mN y) (he : ws[q0]? = some (b, .inr (ci, fs))) (hcl : vwCl[ci]? = some ((mY y).cls, T, N)) (hst : (st.map fun v => v.category).sum ≤ 8) (hm : cells + mc' ≤ mc ∧ slots + ms' ≤ ms)
    (kk : ∀ (r : Option Value) (ws' : va_W), post' r ws' → V l D tys A k d mc ms post (cells + mc') (slots + ms') (pc + 3) lv (r.toList ++ st) ws') : V l D tys A k d mc ms post cells slots pc lv (As.reverse ++ .ref b :: st) ws := by
  have t : ok26 k pc a x y 0 = true := by have t := tabOK k pc; rw [hi] at t; exact t
  intro p e R s m args below meth c H locs ls Q F hl hH hQ
  have K := fun r ws' H1 locs1 hp h => kk r ws' hp p e R s m args below meth c H1 locs1 ls Q F hl h hQ
  obtain ⟨hx, hb, hml, hown, hts, hr, hlk, hnm, hK, hR1, hR2, hR3, hR4, hA⟩ := F
  have t : (Nat.beq (mKind y) 0 && wAt a (Cond.methodLink (mOwn k) x (mY y)) && dec k pc (.invokevirtual x) 3) = true := t
  rw [Bool.and_eq_true, Bool.and_eq_true] at t
  obtain ⟨⟨t1, t2⟩, t3⟩ := t
  have t1 : mKind y = 0 := Nat.eq_of_beq_eq_true t1
  obtain ⟨y1, y2, y3, y4, y5, y6, y7, y8⟩ := y_facts hy
  obtain ⟨v1, v2⟩ := y_virt hy t1
  have hG : GoodIn gtb (wsV (mOwn k) x (mY y).cls (mY y) (mWs y)) := by
    intro w hw
    have hw : w ∈ ([.methodLink (mOwn k) x (mY y), .instanceMethod (mY y), .selects (mY y).cls (mY y) (mY y), .initialized (mY y).cls] : List Cond) ++ mWs y := hw
    rcases List.mem_append.mp hw with hw | hw
    · simp only [List.mem_cons, List.not_mem_nil, or_false] at hw
      rcases hw with rfl | rfl | rfl | rfl
      · exact lw_good_all _ (wAt_in t2)
      · exact lw_good_all _ v1
      · exact lw_good_all _ v2
      · exact lw_good_all _ y2
    · exact ws_good hy w hw
  refine va_callQ (va_runV (n := mN y) (As := As) (rest := st) ⟨hx, hb, hml, hown, hts⟩ (hc _ (fun _ _ h => h)) (cwV (mN y) hts hG rfl rfl rfl ⟨rfl, y3, y4, y5⟩ ⟨?_, ?_⟩) ⟨PV_blind, va_recv hK.1 hH.1 hcl he, fun U hU hW => ⟨rfl, by rw [hU]; exact hH.1, KK.moved hW (by rw [hU]; exact hH.2.2.2.1) hK, hH.2.1, fun q hq => hA q (Nat.le_trans hH.2.2.1 (by rw [← hU]; exact hq))⟩⟩ rfl hn hl.1 rfl ?_ (dec_of t3) ⟨Nat.le_trans hm.1 hR3, Nat.le_trans hm.2 hR4⟩) hH.2.2 (fun r ws' H1 locs1 h1 h2 h3 h4 => K r ws' H1 locs1 h1 ⟨h2, h3, h4⟩)
  · show d' + 1 + 1 ≤ R.frames
    omega
  · show 8 + (mML y + 11) + 40 * (d' + 1) ≤ R.locals
    omega
  · show 2 * 0 + _ ≤ 8
    omega
theorem V_stat {d' mc' ms' : Nat} {As : List Value} {post' : Option Value → va_W → Prop} (hi : mI k pc = (26, a, x, y, 1)) (hy : y < 352) (hc : CT l D tys A y d' mc' ms' As ws post') (hd : d' < d) (hn : As.length = mN y) (hst : (st.map fun v => v.category).sum ≤ 8) (hm : cells + mc' ≤ mc ∧ slots + ms' ≤ ms)
    (kk : ∀ (r : Option Value) (ws' : va_W), post' r ws' → V l D tys A k d mc ms post (cells + mc') (slots + ms') (pc + 3) lv (r.toList ++ st) ws') : V l D tys A k d mc ms post cells slots pc lv (As.reverse ++ st) ws := by
  have t : ok26 k pc a x y 1 = true := by have t := tabOK k pc; rw [hi] at t; exact t
  intro p e R s m args below meth c H locs ls Q F hl hH hQ
  have K := fun r ws' H1 locs1 hp h => kk r ws' hp p e R s m args below meth c H1 locs1 ls Q F hl h hQ
  obtain ⟨hx, hb, hml, hown, hts, hr, hlk, hnm, hK, hR1, hR2, hR3, hR4, hA⟩ := F
  have t : (Nat.beq (mKind y) 1 && wAt a (Cond.methodLink (mOwn k) x (mY y)) && dec k pc (.invokestatic x) 3) = true := t
  rw [Bool.and_eq_true, Bool.and_eq_true] at t
  obtain ⟨⟨t1, t2⟩, t3⟩ := t
  have t1 : mKind y = 1 := Nat.eq_of_beq_eq_true t1
  obtain ⟨y1, y2, y3, y4, y5, y6, y7, y8⟩ := y_facts hy
  have v1 := y_stat hy t1
  have hG : GoodIn gtb (va_wsS (mOwn k) x (mY y) (mWs y)) := by
    intro w hw
    have hw : w ∈ ([.methodLink (mOwn k) x (mY y), .static (mY y), .initialized (mY y).cls] : List Cond) ++ mWs y := hw
    rcases List.mem_append.mp hw with hw | hw
    · simp only [List.mem_cons, List.not_mem_nil, or_false] at hw
      rcases hw with rfl | rfl | rfl
      · exact lw_good_all _ (wAt_in t2)
      · exact lw_good_all _ v1
      · exact lw_good_all _ y2
    · exact ws_good hy w hw
  refine va_callQ (va_runS (n := mN y) (As := As) (rest := st) ⟨hx, hb, hml, hown, hts⟩ (hc _ (fun _ _ h => h)) (va_cwS (mN y) hts hG rfl rfl rfl ⟨y3, y4, y5⟩ ⟨?_, ?_⟩) ⟨PV_blind, fun U hU hW => ⟨rfl, by rw [hU]; exact hH.1, KK.moved hW (by rw [hU]; exact hH.2.2.2.1) hK, hH.2.1, fun q hq => hA q (Nat.le_trans hH.2.2.1 (by rw [← hU]; exact hq))⟩⟩ rfl hn hl.1 rfl ?_ (dec_of t3) ⟨Nat.le_trans hm.1 hR3, Nat.le_trans hm.2 hR4⟩) hH.2.2 (fun r ws' H1 locs1 h1 h2 h3 h4 => K r ws' H1 locs1 h1 ⟨h2, h3, h4⟩)
  · show d' + 1 + 1 ≤ R.frames
    omega
  · show 8 + (mML y + 11) + 40 * (d' + 1) ≤ R.locals
    omega
  · show 2 * 0 + _ ≤ 8
    omega
theorem V_spec {d' mc' ms' b : Nat} {As : List Value} {post' : Option Value → va_W → Prop} (hi : mI k pc = (26, a, x, y, 2)) (hy : y < 352) (hrt : mRet y = none) (hc : CT l D tys A y d' mc' ms' (.ref b :: As) ws post') (hd : d' < d) (hn : As.length = mN y) (hst : (st.map fun v => v.category).sum ≤ 8) (hm : cells + mc' ≤ mc ∧ slots + ms' ≤ ms)
    (kk : ∀ (r : Option Value) (ws' : va_W), post' r ws' → V l D tys A k d mc ms post (cells + mc') (slots + ms') (pc + 3) lv (r.toList ++ st) ws') : V l D tys A k d mc ms post cells slots pc lv (As.reverse ++ .ref b :: st) ws := by
  have t : ok26 k pc a x y 2 = true := by have t := tabOK k pc; rw [hi] at t; exact t
  intro p e R s m args below meth c H locs ls Q F hl hH hQ
  have K := fun r ws' H1 locs1 hp h => kk r ws' hp p e R s m args below meth c H1 locs1 ls Q F hl h hQ
  obtain ⟨hx, hb, hml, hown, hts, hr, hlk, hnm, hK, hR1, hR2, hR3, hR4, hA⟩ := F
  have t : (Nat.beq (mKind y) 2 && wAt a (Cond.methodLink (mOwn k) x (mY y)) && dec k pc (.invokespecial x) 3) = true := t
  rw [Bool.and_eq_true, Bool.and_eq_true] at t
  obtain ⟨⟨t1, t2⟩, t3⟩ := t
  have t1 : mKind y = 2 := Nat.eq_of_beq_eq_true t1
  obtain ⟨y1, y2, y3, y4, y5, y6, y7, y8⟩ := y_facts hy
  obtain ⟨v1, v2⟩ := y_spec hy t1
  have hw : mWs y = Cond.code (mY y) (mCode y) (mML y) none :: gtb := by unfold mWs; rw [hrt]
  refine va_callQ (va_runI (n := mN y) (As := As) (rest := st) ⟨hx, hb, hml, hown, hts⟩ (hc _ (fun _ _ h => h)) (cwI (mN y) hts (ws_good hy) hw rfl rfl (hts _ y2) (hts _ (wAt_in t2)) (hts _ v1) v2 ⟨y3, y4, y5⟩ ⟨?_, ?_⟩) ⟨PV_blind, fun U hU hW => ⟨rfl, by rw [hU]; exact hH.1, KK.moved hW (by rw [hU]; exact hH.2.2.2.1) hK, hH.2.1, fun q hq => hA q (Nat.le_trans hH.2.2.1 (by rw [← hU]; exact hq))⟩⟩ rfl hn hl.1 rfl ?_ (dec_of t3) ⟨Nat.le_trans hm.1 hR3, Nat.le_trans hm.2 hR4⟩) hH.2.2 (fun r ws' H1 locs1 h1 h2 h3 h4 => K r ws' H1 locs1 h1 ⟨h2, h3, h4⟩)
  · show d' + 1 + 1 ≤ R.frames
    omega
  · show 8 + (mML y + 11) + 40 * (d' + 1) ≤ R.locals
    omega
  · show 2 * 0 + _ ≤ 8
    omega
end VEH
