section VEX
variable {l : Launch} {D : va_G} {tys : List (ClassId × FieldType)} {A : Nat → Prop} {k d mc ms : Nat} {post : Option Value → va_W → Prop} {cells slots pc : Nat} {lv : List (Nat × Value)} {st : List Value} {ws : va_W} {a : Int} {x y z : Nat}
theorem V_gets (hi : mI k pc = (23, a, x, y, z)) (k0 : y = 0 → V l D tys A k d mc ms post cells slots (pc + 3) lv (.int 1 :: st) ws) (k1 : y ≠ 0 → V l D tys A k d mc ms post cells slots (pc + 3) lv (.ref (D.2 1000 200) :: st) ws) (k2 : y ≠ 0 → V l D tys A k d mc ms post cells slots (pc + 3) lv (.null :: st) ws) : V l D tys A k d mc ms post cells slots pc lv st ws := by
  have t : ok23 k pc a x y z = true := by have t := tabOK k pc; rw [hi] at t; exact t
  intro p e R s m args below meth c H locs ls Q F hl hH hQ
  unfold ok23 at t
  rw [Bool.and_eq_true] at t
  obtain ⟨t1, t2⟩ := t
  rcases y with _ | y
  · have K := k0 rfl p e R s m args below meth c H locs ls Q F hl hH hQ
    obtain ⟨hx, hb, -, hown, hts, -, -, -, hK, -⟩ := F
    exact va_gets hx hb hK.2.2.2.1 hH.2.2 hown (hts _ (wAt_in t2)) (fun _ h => h) (dec_of t1) K
  · have K := k1 (by omega) p e R s m args below meth c H locs ls Q F hl hH hQ
    have K2 := k2 (by omega) p e R s m args below meth c H locs ls Q F hl hH hQ
    obtain ⟨hx, hb, -, hown, hts, -, -, -, hK, -⟩ := F
    rcases hK.2.2.2.2 with hz | hz
    · exact va_gets hx hb hz hH.2.2 hown (hts _ (wAt_in t2)) (fun _ h => h) (dec_of t1) K2
    · exact va_gets hx hb hz hH.2.2 hown (hts _ (wAt_in t2)) (fun _ h => h) (dec_of t1) K
theorem V_ldcS (hi : mI k pc = (35, a, x, y, z)) (kk : V l D tys A k d mc ms post cells slots (pc + 2) lv (.ref (D.2 1000 y) :: st) ws) : V l D tys A k d mc ms post cells slots pc lv st ws := by
  have t : ok35 k pc a x y z = true := by have t := tabOK k pc; rw [hi] at t; exact t
  intro p e R s m args below meth c H locs ls Q F hl hH hQ
  have K := kk p e R s m args below meth c H locs ls Q F hl hH hQ
  obtain ⟨hx, hb, -, hown, hts, -, -, -, hK, -⟩ := F
  unfold ok35 at t
  rw [Bool.and_eq_true] at t
  obtain ⟨t1, t2⟩ := t
  cases hq : xsT[y]? with
  | none => rw [hq] at t2; cases t2
  | some q =>
    rw [hq] at t2
    dsimp only at t2
    rw [Bool.and_eq_true] at t2
    have e1 := of_decide_eq_true t2.1
    have e2 := Nat.eq_of_beq_eq_true t2.2
    have hZ := (hK.2.2.1 y q hq).1
    rw [e1, e2] at hZ
    exact va_ldcS hx hb hown hZ (dec_of t1) K
theorem V_getX {i : Nat} {q : String × Nat × String × List Int32} (hi : mI k pc = (39, a, x, y, z)) (hq : xsT[i]? = some q) (k0 : y = 0 → V l D tys A k d mc ms post cells slots (pc + 3) lv (.ref (D.2 1000 (100 + i)) :: st) ws) (k1 : y ≠ 0 → V l D tys A k d mc ms post cells slots (pc + 3) lv (.int 0 :: st) ws) : V l D tys A k d mc ms post cells slots pc lv (.ref (D.2 1000 i) :: st) ws := by
  have t : ok39 k pc a x y z = true := by have t := tabOK k pc; rw [hi] at t; exact t
  intro p e R s m args below meth c H locs ls Q F hl hH hQ
  unfold ok39 at t
  rw [Bool.and_eq_true] at t
  obtain ⟨t1, t2⟩ := t
  rcases y with _ | y
  · have K := k0 rfl p e R s m args below meth c H locs ls Q F hl hH hQ
    obtain ⟨hx, hb, -, hown, hts, -, -, -, hK, -⟩ := F
    exact vk_getf hx hb (hK.2.2.1 i q hq).2.2.2.1 hH.2.2 hown (hts _ (wAt_in t2)) (fun _ h => h) (dec_of t1) K
  · have K := k1 (by omega) p e R s m args below meth c H locs ls Q F hl hH hQ
    obtain ⟨hx, hb, -, hown, hts, -, -, -, hK, -⟩ := F
    exact vk_getf hx hb (hK.2.2.1 i q hq).2.2.1 hH.2.2 hown (hts _ (wAt_in t2)) (fun _ h => h) (dec_of t1) K
theorem V_lenX {i : Nat} {q : String × Nat × String × List Int32} (hi : mI k pc = (21, a, x, y, z)) (hq : xsT[i]? = some q) (kk : V l D tys A k d mc ms post cells slots (pc + 1) lv (.int (Int32.ofNat q.2.2.2.length) :: st) ws) : V l D tys A k d mc ms post cells slots pc lv (.ref (D.2 1000 (100 + i)) :: st) ws := by
  have t : ok21 k pc a x y z = true := by have t := tabOK k pc; rw [hi] at t; exact t
  intro p e R s m args below meth c H locs ls Q F hl hH hQ
  have K := kk p e R s m args below meth c H locs ls Q F hl hH hQ
  obtain ⟨hx, hb, -, hown, hts, -, -, -, hK, -⟩ := F
  exact va_tlen hx hb (hK.2.2.1 i q hq).2.2.2.2 hH.2.2 rfl (dec_of t) K
theorem V_bldX {i : Nat} {q : String × Nat × String × List Int32} {j : Int32} (hi : mI k pc = (19, a, 1, y, z)) (hq : xsT[i]? = some q) (hin : vp_in j q.2.2.2.length) (kk : V l D tys A k d mc ms post cells slots (pc + 1) lv (.int (q.2.2.2.getD j.toNatClampNeg 0) :: st) ws) : V l D tys A k d mc ms post cells slots pc lv (.int j :: .ref (D.2 1000 (100 + i)) :: st) ws := by
  have t : ok19 k pc a 1 y z = true := by have t := tabOK k pc; rw [hi] at t; exact t
  intro p e R s m args below meth c H locs ls Q F hl hH hQ
  have K := kk p e R s m args below meth c H locs ls Q F hl hH hQ
  obtain ⟨hx, hb, -, hown, hts, -, -, -, hK, -⟩ := F
  exact va_tb hx hb (hK.2.2.1 i q hq).2.2.2.2 hH.2.2 hin rfl (dec_of t) K
theorem V_retX {v : Int32} (hi : mI k pc = (38, a, x, y, z)) (h1 : v.toUInt32.toUInt16.toUInt32.toInt32 = v) (h2 : v.toInt8.toInt32 = v) (hp : post (some (.int v)) ws) : V l D tys A k d mc ms post mc ms pc lv [.int v] ws := by
  have t : ok38 k pc a x y z = true := by have t := tabOK k pc; rw [hi] at t; exact t
  unfold ok38 at t
  rw [Bool.and_eq_true, Bool.or_eq_true] at t
  rcases t.2 with h | h
  · have h := of_decide_eq_true h
    exact V_ret (r := some (.int v)) (Or.inl ⟨v, .char, rfl, dec_of t.1, h, by show Value.int _ = Value.int v; rw [h1]⟩) hp
  · have h := of_decide_eq_true h
    exact V_ret (r := some (.int v)) (Or.inl ⟨v, .byte, rfl, dec_of t.1, h, by show Value.int _ = Value.int v; rw [h2]⟩) hp
theorem V_i2c {u : Int32} (hi : mI k pc = (12, a, 5, y, z)) (kk : V l D tys A k d mc ms post cells slots (pc + 1) lv (.int (u.toUInt32 % 65536).toInt32 :: st) ws) : V l D tys A k d mc ms post cells slots pc lv (.int u :: st) ws := by
  have t : ok12 k pc a 5 y z = true := by have t := tabOK k pc; rw [hi] at t; exact t
  intro p e R s m args below meth c H locs ls Q F hl hH hQ
  have K := kk p e R s m args below meth c H locs ls Q F hl hH hQ
  obtain ⟨hx, hb, -, hown, hts, -⟩ := F
  exact lv_i2c hx hb (dec_of t) rfl K
theorem V_dupx1 {u v : Value} (hi : mI k pc = (22, a, 3, y, z)) (hv : v.category = 1) (hu : u.category = 1) (kk : V l D tys A k d mc ms post cells slots (pc + 1) lv (v :: u :: v :: st) ws) : V l D tys A k d mc ms post cells slots pc lv (v :: u :: st) ws := by
  have t : ok22 k pc a 3 y z = true := by have t := tabOK k pc; rw [hi] at t; exact t
  intro p e R s m args below meth c H locs ls Q F hl hH hQ
  have K := kk p e R s m args below meth c H locs ls Q F hl hH hQ
  obtain ⟨hx, hb, -, hown, hts, -⟩ := F
  exact lv_dup_x1 hx hb (dec_of t) hv hu K
theorem V_dupx2 {u v w : Value} (hi : mI k pc = (22, a, 4, y, z)) (hv : v.category = 1) (hu : u.category = 1) (hw : w.category = 1) (kk : V l D tys A k d mc ms post cells slots (pc + 1) lv (v :: u :: w :: v :: st) ws) : V l D tys A k d mc ms post cells slots pc lv (v :: u :: w :: st) ws := by
  have t : ok22 k pc a 4 y z = true := by have t := tabOK k pc; rw [hi] at t; exact t
  intro p e R s m args below meth c H locs ls Q F hl hH hQ
  have K := kk p e R s m args below meth c H locs ls Q F hl hH hQ
  obtain ⟨hx, hb, -, hown, hts, -⟩ := F
  exact lv_dup_x2 hx hb (dec_of t) hv hu hw K
/-- a call of a virtual method of a String constant -/
theorem V_virtX {d' mc' ms' i : Nat} {q : String × Nat × String × List Int32} {As : List Value} {post' : Option Value → va_W → Prop} (hi : mI k pc = (26, a, x, y, 0)) (hy : y < 352) (hc : CT l D tys A y d' mc' ms' (.ref (D.2 1000 i) :: As) ws post') (hd : d' < d) (hn : As.length = mN y) (hq : xsT[i]? = some q) (hcl : (mY y).cls = "java/lang/String") (hst : (st.map fun v => v.category).sum ≤ 8) (hm : cells + mc' ≤ mc ∧ slots + ms' ≤ ms)
    (kk : ∀ (r : Option Value) (ws' : va_W), post' r ws' → V l D tys A k d mc ms post (cells + mc') (slots + ms') (pc + 3) lv (r.toList ++ st) ws') : V l D tys A k d mc ms post cells slots pc lv (As.reverse ++ .ref (D.2 1000 i) :: st) ws := by
  have t : ok26 k pc a x y 0 = true := by have t := tabOK k pc; rw [hi] at t; exact t
  intro p e R s m args below meth c H locs ls Q F hl hH hQ
  have K := fun r ws' H1 locs1 hp h => kk r ws' hp p e R s m args below meth c H1 locs1 ls Q F hl h hQ
  obtain ⟨hx, hb, hml, hown, hts, hr, hlk, hnm, hK, hR1, hR2, hR3, hR4, hA⟩ := F
  have t : (Nat.beq (mKind y) 0 && wAt a (Cond.methodLink (mOwn k) x (mY y)) && dec k pc (.invokevirtual x) 3) = true := t
  rw [Bool.and_eq_true, Bool.and_eq_true] at t
  obtain ⟨⟨t1, t2⟩, t3⟩ := t
  have t1 : mKind y = 0 := Nat.eq_of_beq_eq_true t1
  obtain ⟨y1, y2, y3, y4, y5, y6, y7, y8⟩ := y_facts hy
  obtain ⟨v1, v2⟩ := y_virt hy t1
  have hG : GoodIn gtb (wsV (mOwn k) x (mY y).cls (mY y) (mWs y)) := by
    intro w hw
    have hw : w ∈ ([.methodLink (mOwn k) x (mY y), .instanceMethod (mY y), .selects (mY y).cls (mY y) (mY y), .initialized (mY y).cls] : List Cond) ++ mWs y := hw
    rcases List.mem_append.mp hw with hw | hw
    · simp only [List.mem_cons, List.not_mem_nil, or_false] at hw
      rcases hw with rfl | rfl | rfl | rfl
      · exact lw_good_all _ (wAt_in t2)
      · exact lw_good_all _ v1
      · exact lw_good_all _ v2
      · exact lw_good_all _ y2
    · exact ws_good hy w hw
  have hrc : ∃ cell : Cell, H[D.2 1000 i]? = some cell ∧ cell.vm.isStatics = false ∧ s.vm.findClass (mY y).cls = some cell.cls := by
    obtain ⟨cell, h1, h2, h3, -⟩ := ((hK.2.2.1 i q hq).2.1).kept hH.2.2.2.1
    exact ⟨cell, h1, h2, by rw [hcl]; exact h3⟩
  refine va_callQ (va_runV (n := mN y) (As := As) (rest := st) ⟨hx, hb, hml, hown, hts⟩ (hc _ (fun _ _ h => h)) (cwV (mN y) hts hG rfl rfl rfl ⟨rfl, y3, y4, y5⟩ ⟨?_, ?_⟩) ⟨PV_blind, hrc, fun U hU hW => ⟨rfl, by rw [hU]; exact hH.1, KK.moved hW (by rw [hU]; exact hH.2.2.2.1) hK, hH.2.1, fun q hq => hA q (Nat.le_trans hH.2.2.1 (by rw [← hU]; exact hq))⟩⟩ rfl hn hl.1 rfl ?_ (dec_of t3) ⟨Nat.le_trans hm.1 hR3, Nat.le_trans hm.2 hR4⟩) hH.2.2 (fun r ws' H1 locs1 h1 h2 h3 h4 => K r ws' H1 locs1 h1 ⟨h2, h3, h4⟩)
  · show d' + 1 + 1 ≤ R.frames
    omega
  · show 8 + (mML y + 11) + 40 * (d' + 1) ≤ R.locals
    omega
  · show 2 * 0 + _ ≤ 8
    omega
end VEX
