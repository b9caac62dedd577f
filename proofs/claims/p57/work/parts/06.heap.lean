noncomputable def ftyp (t : Nat) : FieldType := match t with
  | 0 => .int
  | 1 => .byte
  | 2 => .boolean
  | 3 => .long
  | _ => .object "HalvedNames$Hill"
noncomputable def clTy (ci : Nat) : Nat → FieldType := match ci with
  | 0 => tyX0
  | 1 => tyX1
  | 2 => tyX2
  | 3 => tyX3
  | 4 => tyX4
  | 5 => tyX5
  | 6 => tyX7
  | 7 => tyX8
  | 8 => tyX9
  | 9 => tyX10
  | 10 => tyX11
  | _ => tyX12
theorem cl_ty : ∀ (ci : Nat) (C : String) (T : u_T) (N : Nat), vwCl[ci]? = some (C, T, N) → ∀ j, j < N → parseFieldDescriptor (T j).2.2.1 = some (clTy ci j) := by
  intro ci C T N h
  match ci, h with
  | 0, h => cases h; exact tyX0_ok
  | 1, h => cases h; exact tyX1_ok
  | 2, h => cases h; exact tyX2_ok
  | 3, h => cases h; exact tyX3_ok
  | 4, h => cases h; exact tyX4_ok
  | 5, h => cases h; exact tyX5_ok
  | 6, h => cases h; exact tyX7_ok
  | 7, h => cases h; exact tyX8_ok
  | 8, h => cases h; exact tyX9_ok
  | 9, h => cases h; exact tyX10_ok
  | 10, h => cases h; exact tyX11_ok
  | 11, h => cases h; exact tyX12_ok
  | n + 12, h => simp [vwCl] at h
section VEG
variable {l : Launch} {D : va_G} {tys : List (ClassId × FieldType)} {A : Nat → Prop} {k d mc ms : Nat} {post : Option Value → va_W → Prop} {cells slots pc : Nat} {lv : List (Nat × Value)} {st : List Value} {ws : va_W} {a : Int} {x y z : Nat}
theorem V_get {b q0 : Nat} {fs : List Value} {v : Value} (hi : mI k pc = (17, a, x, y, z)) (he : ws[q0]? = some (b, .inr (y, fs))) (hv : fs[z]? = some v) (kk : V l D tys A k d mc ms post cells slots (pc + 3) lv (v :: st) ws) : V l D tys A k d mc ms post cells slots pc lv (.ref b :: st) ws := by
  have t : ok17 k pc a x y z = true := by have t := tabOK k pc; rw [hi] at t; exact t
  intro p e R s m args below meth c H locs ls Q F hl hH hQ
  have K := kk p e R s m args below meth c H locs ls Q F hl hH hQ
  obtain ⟨hx, hb, -, hown, hts, -, -, -, hK, -⟩ := F
  unfold ok17 at t
  cases hc : vwCl[y]? with
  | none => rw [hc] at t; exact absurd t (by simp)
  | some q =>
    obtain ⟨C, T, N⟩ := q
    rw [hc] at t
    simp only [Bool.and_eq_true, decide_eq_true_eq] at t
    obtain ⟨⟨⟨t1, t2⟩, t3⟩, t4⟩ := t
    exact va_get hx hb hts (cls_ok y C T N hc).1 hown hK.1 hH.1 q0 he hc z (Nat.blt_eq.mp t1) (hts _ (wAt_in t4)) (fun w h => by rw [t2] at h; exact h) hv (dec_of t3) K
theorem V_put {b q0 : Nat} {fs : List Value} {v : Value} (hi : mI k pc = (18, a, x, y, z)) (he : ws[q0]? = some (b, .inr (y, fs))) (hl0 : z < fs.length) (hfin : ∀ C T N, vwCl[y]? = some (C, T, N) → (T z).2.2.2 = false) (hn : narrow (clTy y z) v = v) (hf : fits (clTy y z) v = true) (kk : V l D tys A k d mc ms post cells slots (pc + 3) lv st (ws.set q0 (b, .inr (y, fs.set z v)))) : V l D tys A k d mc ms post cells slots pc lv (v :: .ref b :: st) ws := by
  have t : ok18 k pc a x y z = true := by have t := tabOK k pc; rw [hi] at t; exact t
  intro p e R s m args below meth c H locs ls Q F hl hH hQ
  have K := fun H1 locs1 h => kk p e R s m args below meth c H1 locs1 ls Q F hl h hQ
  obtain ⟨hx, hb, -, hown, hts, -, -, -, hK, -⟩ := F
  unfold ok18 at t
  cases hc : vwCl[y]? with
  | none => rw [hc] at t; exact absurd t (by simp)
  | some q =>
    obtain ⟨C, T, N⟩ := q
    rw [hc] at t
    simp only [Bool.and_eq_true, decide_eq_true_eq] at t
    obtain ⟨⟨⟨t1, t2⟩, t3⟩, t4⟩ := t
    have hz := Nat.blt_eq.mp t1
    obtain ⟨c1, c2, c3⟩ := cls_ok y C T N hc
    exact va_put hx hb hts c1 (clTy y) (fun j hj => cl_ty y C T N hc j hj) c3 hown hK.1 hH.1 hH.2.1 hH.2.2 q0 he hc z hz (hts _ (wAt_in t4)) (fun w h => by rw [t2] at h; exact h) (hfin C T N hc) (cl_ty y C T N hc z hz) hn hf hl0 (dec_of t3) (fun H1 locs1 h1 h2 h3 => K H1 locs1 ⟨h1, h2, h3⟩)
theorem V_putF {b q0 : Nat} {fs : List Value} {v : Value} (hi : mI k pc = (18, a, x, y, z)) (he : ws[q0]? = some (b, .inr (y, fs))) (hl0 : z < fs.length) (hfin : ∀ C T N, vwCl[y]? = some (C, T, N) → (T z).2.2.2 = true ∧ (T z).1 = mOwn k) (hin : (mY k).name = "<init>") (hn : narrow (clTy y z) v = v) (hf : fits (clTy y z) v = true) (kk : V l D tys A k d mc ms post cells slots (pc + 3) lv st (ws.set q0 (b, .inr (y, fs.set z v)))) : V l D tys A k d mc ms post cells slots pc lv (v :: .ref b :: st) ws := by
  have t : ok18 k pc a x y z = true := by have t := tabOK k pc; rw [hi] at t; exact t
  intro p e R s m args below meth c H locs ls Q F hl hH hQ
  have K := fun H1 locs1 h => kk p e R s m args below meth c H1 locs1 ls Q F hl h hQ
  obtain ⟨hx, hb, -, hown, hts, -, -, hnm, hK, -⟩ := F
  unfold ok18 at t
  cases hc : vwCl[y]? with
  | none => rw [hc] at t; exact absurd t (by simp)
  | some q =>
    obtain ⟨C, T, N⟩ := q
    rw [hc] at t
    simp only [Bool.and_eq_true, decide_eq_true_eq] at t
    obtain ⟨⟨⟨t1, t2⟩, t3⟩, t4⟩ := t
    have hz := Nat.blt_eq.mp t1
    obtain ⟨c1, c2, c3⟩ := cls_ok y C T N hc
    exact va_putF hx hb hts c1 (clTy y) (fun j hj => cl_ty y C T N hc j hj) c3 hown hK.1 hH.1 hH.2.1 hH.2.2 q0 he hc z hz (hts _ (wAt_in t4)) (fun w h => by rw [t2] at h; exact h) (hfin C T N hc).1 (hnm.trans hin) (hfin C T N hc).2 (cl_ty y C T N hc z hz) hn hf hl0 (dec_of t3) (fun H1 locs1 h1 h2 h3 => K H1 locs1 ⟨h1, h2, h3⟩)
theorem V_iald {b q0 n : Nat} {cA : ClassId} {f : Nat → Int32} {i : Int32} (hi : mI k pc = (19, a, 0, y, z)) (he : ws[q0]? = some (b, .inl (cA, n, .inl f))) (ht : tys[0]? = some (cA, .int)) (hin : vp_in i n) (kk : V l D tys A k d mc ms post cells slots (pc + 1) lv (.int (f i.toNatClampNeg) :: st) ws) : V l D tys A k d mc ms post cells slots pc lv (.int i :: .ref b :: st) ws := by
  have t : ok19 k pc a 0 y z = true := by have t := tabOK k pc; rw [hi] at t; exact t
  intro p e R s m args below meth c H locs ls Q F hl hH hQ
  have K := kk p e R s m args below meth c H locs ls Q F hl hH hQ
  obtain ⟨hx, hb, -, hown, hts, -, -, -, hK, -⟩ := F
  exact va_iald hx hb hK.1 hH.1 q0 0 he ht hin (dec_of t) K
theorem V_bald {b q0 n : Nat} {cA : ClassId} {f : Nat → Int32} {i : Int32} (hi : mI k pc = (19, a, 1, y, z)) (he : ws[q0]? = some (b, .inl (cA, n, .inl f))) (ht : tys[1]? = some (cA, .byte)) (hin : vp_in i n) (kk : V l D tys A k d mc ms post cells slots (pc + 1) lv (.int (f i.toNatClampNeg) :: st) ws) : V l D tys A k d mc ms post cells slots pc lv (.int i :: .ref b :: st) ws := by
  have t : ok19 k pc a 1 y z = true := by have t := tabOK k pc; rw [hi] at t; exact t
  intro p e R s m args below meth c H locs ls Q F hl hH hQ
  have K := kk p e R s m args below meth c H locs ls Q F hl hH hQ
  obtain ⟨hx, hb, -, hown, hts, -, -, -, hK, -⟩ := F
  exact va_bald hx hb hK.1 hH.1 q0 1 he ht hin (dec_of t) K
theorem V_zald {b q0 n : Nat} {cA : ClassId} {f : Nat → Int32} {i : Int32} (hi : mI k pc = (19, a, 1, y, z)) (he : ws[q0]? = some (b, .inl (cA, n, .inl f))) (ht : tys[2]? = some (cA, .boolean)) (hin : vp_in i n) (kk : V l D tys A k d mc ms post cells slots (pc + 1) lv (.int (f i.toNatClampNeg) :: st) ws) : V l D tys A k d mc ms post cells slots pc lv (.int i :: .ref b :: st) ws := by
  have t : ok19 k pc a 1 y z = true := by have t := tabOK k pc; rw [hi] at t; exact t
  intro p e R s m args below meth c H locs ls Q F hl hH hQ
  have K := kk p e R s m args below meth c H locs ls Q F hl hH hQ
  obtain ⟨hx, hb, -, hown, hts, -, -, -, hK, -⟩ := F
  exact va_zald hx hb hK.1 hH.1 q0 2 he ht hin (dec_of t) K
theorem V_lald {b q0 n : Nat} {cA : ClassId} {f : Nat → Int64} {i : Int32} (hi : mI k pc = (19, a, 2, y, z)) (he : ws[q0]? = some (b, .inl (cA, n, .inr (.inl f)))) (ht : tys[3]? = some (cA, .long)) (hin : vp_in i n) (kk : V l D tys A k d mc ms post cells slots (pc + 1) lv (.long (f i.toNatClampNeg) :: st) ws) : V l D tys A k d mc ms post cells slots pc lv (.int i :: .ref b :: st) ws := by
  have t : ok19 k pc a 2 y z = true := by have t := tabOK k pc; rw [hi] at t; exact t
  intro p e R s m args below meth c H locs ls Q F hl hH hQ
  have K := kk p e R s m args below meth c H locs ls Q F hl hH hQ
  obtain ⟨hx, hb, -, hown, hts, -, -, -, hK, -⟩ := F
  exact va_lald hx hb hK.1 hH.1 q0 3 he ht hin (dec_of t) K
theorem V_aald {b q0 n : Nat} {cA : ClassId} {f : Nat → Option Nat} {i : Int32} (hi : mI k pc = (19, a, 3, y, z)) (he : ws[q0]? = some (b, .inl (cA, n, .inr (.inr (.inr (.inr f)))))) (ht : tys[4]? = some (cA, .object "HalvedNames$Hill")) (hin : vp_in i n) (kk : V l D tys A k d mc ms post cells slots (pc + 1) lv (va_rf (f i.toNatClampNeg) :: st) ws) : V l D tys A k d mc ms post cells slots pc lv (.int i :: .ref b :: st) ws := by
  have t : ok19 k pc a 3 y z = true := by have t := tabOK k pc; rw [hi] at t; exact t
  intro p e R s m args below meth c H locs ls Q F hl hH hQ
  have K := kk p e R s m args below meth c H locs ls Q F hl hH hQ
  obtain ⟨hx, hb, -, hown, hts, -, -, -, hK, -⟩ := F
  exact va_aldq hx hb hK.1 hH.1 q0 4 he ht hin (dec_of t) K
theorem V_iast {b q0 n : Nat} {cA : ClassId} {f : Nat → Int32} {i v : Int32} (hi : mI k pc = (20, a, 0, y, z)) (he : ws[q0]? = some (b, .inl (cA, n, .inl f))) (ht : tys[0]? = some (cA, .int)) (hin : vp_in i n) (kk : V l D tys A k d mc ms post cells slots (pc + 1) lv st (ws.set q0 (b, .inl (cA, n, .inl (upd f i.toNatClampNeg v))))) : V l D tys A k d mc ms post cells slots pc lv (.int v :: .int i :: .ref b :: st) ws := by
  have t : ok20 k pc a 0 y z = true := by have t := tabOK k pc; rw [hi] at t; exact t
  intro p e R s m args below meth c H locs ls Q F hl hH hQ
  have K := fun H1 locs1 h => kk p e R s m args below meth c H1 locs1 ls Q F hl h hQ
  obtain ⟨hx, hb, -, hown, hts, -, -, -, hK, -⟩ := F
  exact va_iast hx hb hK.1 hH.1 hH.2.1 hH.2.2 q0 0 he ht hin (dec_of t) (fun H1 locs1 h1 h2 h3 => K H1 locs1 ⟨h1, h2, h3⟩)
theorem V_bast {b q0 n : Nat} {cA : ClassId} {f : Nat → Int32} {i v : Int32} (hi : mI k pc = (20, a, 1, y, z)) (he : ws[q0]? = some (b, .inl (cA, n, .inl f))) (ht : tys[1]? = some (cA, .byte)) (hin : vp_in i n) (kk : V l D tys A k d mc ms post cells slots (pc + 1) lv st (ws.set q0 (b, .inl (cA, n, .inl (upd f i.toNatClampNeg (vp_nar .byte v)))))) : V l D tys A k d mc ms post cells slots pc lv (.int v :: .int i :: .ref b :: st) ws := by
  have t : ok20 k pc a 1 y z = true := by have t := tabOK k pc; rw [hi] at t; exact t
  intro p e R s m args below meth c H locs ls Q F hl hH hQ
  have K := fun H1 locs1 h => kk p e R s m args below meth c H1 locs1 ls Q F hl h hQ
  obtain ⟨hx, hb, -, hown, hts, -, -, -, hK, -⟩ := F
  exact va_bast hx hb hK.1 hH.1 hH.2.1 hH.2.2 q0 1 he ht hin (dec_of t) (fun H1 locs1 h1 h2 h3 => K H1 locs1 ⟨h1, h2, h3⟩)
theorem V_zast {b q0 n : Nat} {cA : ClassId} {f : Nat → Int32} {i v : Int32} (hi : mI k pc = (20, a, 1, y, z)) (he : ws[q0]? = some (b, .inl (cA, n, .inl f))) (ht : tys[2]? = some (cA, .boolean)) (hin : vp_in i n) (kk : V l D tys A k d mc ms post cells slots (pc + 1) lv st (ws.set q0 (b, .inl (cA, n, .inl (upd f i.toNatClampNeg (vp_nar .boolean v)))))) : V l D tys A k d mc ms post cells slots pc lv (.int v :: .int i :: .ref b :: st) ws := by
  have t : ok20 k pc a 1 y z = true := by have t := tabOK k pc; rw [hi] at t; exact t
  intro p e R s m args below meth c H locs ls Q F hl hH hQ
  have K := fun H1 locs1 h => kk p e R s m args below meth c H1 locs1 ls Q F hl h hQ
  obtain ⟨hx, hb, -, hown, hts, -, -, -, hK, -⟩ := F
  exact va_zast hx hb hK.1 hH.1 hH.2.1 hH.2.2 q0 2 he ht hin (dec_of t) (fun H1 locs1 h1 h2 h3 => K H1 locs1 ⟨h1, h2, h3⟩)
theorem V_last {b q0 n : Nat} {cA : ClassId} {f : Nat → Int64} {i : Int32} {v : Int64} (hi : mI k pc = (20, a, 2, y, z)) (he : ws[q0]? = some (b, .inl (cA, n, .inr (.inl f)))) (ht : tys[3]? = some (cA, .long)) (hin : vp_in i n) (kk : V l D tys A k d mc ms post cells slots (pc + 1) lv st (ws.set q0 (b, .inl (cA, n, .inr (.inl (vp_updL f i.toNatClampNeg v)))))) : V l D tys A k d mc ms post cells slots pc lv (.long v :: .int i :: .ref b :: st) ws := by
  have t : ok20 k pc a 2 y z = true := by have t := tabOK k pc; rw [hi] at t; exact t
  intro p e R s m args below meth c H locs ls Q F hl hH hQ
  have K := fun H1 locs1 h => kk p e R s m args below meth c H1 locs1 ls Q F hl h hQ
  obtain ⟨hx, hb, -, hown, hts, -, -, -, hK, -⟩ := F
  exact va_last hx hb hK.1 hH.1 hH.2.1 hH.2.2 q0 3 he ht hin (dec_of t) (fun H1 locs1 h1 h2 h3 => K H1 locs1 ⟨h1, h2, h3⟩)
theorem V_alen {b q0 t0 : Nat} {cA : ClassId} {v : vp_A} {ty : FieldType} (hi : mI k pc = (21, a, x, y, z)) (he : ws[q0]? = some (b, .inl (cA, v))) (ht : tys[t0]? = some (cA, ty)) (kk : V l D tys A k d mc ms post cells slots (pc + 1) lv (.int (Int32.ofNat v.1) :: st) ws) : V l D tys A k d mc ms post cells slots pc lv (.ref b :: st) ws := by
  have t : ok21 k pc a x y z = true := by have t := tabOK k pc; rw [hi] at t; exact t
  intro p e R s m args below meth c H locs ls Q F hl hH hQ
  have K := kk p e R s m args below meth c H locs ls Q F hl hH hQ
  obtain ⟨hx, hb, -, hown, hts, -, -, -, hK, -⟩ := F
  exact va_alen hx hb hK.1 hH.1 q0 t0 he ht rfl (dec_of t) K
end VEG
