section VEN
variable {l : Launch} {D : va_G} {tys : List (ClassId × FieldType)} {A : Nat → Prop} {k d mc ms : Nat} {post : Option Value → va_W → Prop} {cells slots pc : Nat} {lv : List (Nat × Value)} {st : List Value} {ws : va_W} {a : Int} {x y z : Nat}
theorem wa_int : wAt 183 (Cond.arrayClass .int) = true := by decide +kernel
theorem wa_byte : wAt 63 (Cond.arrayClass .byte) = true := by decide +kernel
theorem wa_bool : wAt 1315 (Cond.arrayClass .boolean) = true := by decide +kernel
theorem wa_long : wAt 251 (Cond.arrayClass .long) = true := by decide +kernel
theorem wa_hill : wAt 77 (Cond.classLink "HalvedNames" 21 "HalvedNames$Hill") = true := by decide +kernel
theorem cA_same {s : State} {cA : ClassId} {ty : FieldType} {q : Nat} {c0 : ClassId} (hK : va_K D vwCl tys s) (hK' : va_K D vwCl (tys ++ [(cA, ty)]) s) (h : tys[q]? = some (c0, ty)) : cA = c0 := by
  have h1 := (hK'.2 tys.length (cA, ty) (by rw [List.getElem?_append_right (Nat.le_refl _), Nat.sub_self]; rfl)).2
  have h2 := (hK.2 q _ h).2
  have f : ∀ c : ClassId, va_RA s c ty → s.vm.findClass ("[" ++ ty.toString) = some c := by
    intro c hc
    cases ty with
    | object C => obtain ⟨_, _, _, _, _, r⟩ := hc; exact r
    | _ => exact hc
  have := (f _ h1).symm.trans (f _ h2)
  exact Option.some.inj this
theorem nn_ofInt {N : Nat} (h : N ≤ 60000) : ¬ (Int32.ofInt (N : Int)) < 0 ∧ (Int32.ofInt (N : Int)).toNatClampNeg = N := by
  have e : (Int32.ofInt (N : Int)).toInt = N := Int32.toInt_ofInt_of_le (by omega) (by omega)
  refine ⟨?_, ?_⟩
  · rw [Int32.lt_iff_toInt_lt, e]
    show ¬ ((N : Int) < 0)
    omega
  · show (Int32.ofInt (N : Int)).toInt.toNat = N
    rw [e]
    exact Int.toNat_natCast N
/-- a new array of numbers -/
theorem V_newaI {N t : Nat} {c0 : ClassId} {w : Int} {at0 : ArrayType} (hd0 : decode (mCode k) pc = .ok (.newarray at0, 2)) (hty : newarray.typeOf at0 = ftyp t) (ht : tys[t]? = some (c0, ftyp t)) (ht3 : t < 3) (hw : wAt w (Cond.arrayClass (newarray.typeOf at0)) = true) (hN : N ≤ 60000) (hc : cells + 1 ≤ mc ∧ slots + N ≤ ms) (hdf : ∀ cA : ClassId, vp_cell cA (N, .inl (fun _ => (0 : Int32))) = arrV cA N (fun _ => defaultValue (ftyp t))) (hby : componentBytes (ftyp t) ≤ 8)
    (kk : ∀ q : Nat, V l D tys A k d mc ms post (cells + 1) (slots + N) (pc + 2) lv (.ref q :: st) (ws ++ [(q, .inl (c0, N, .inl (fun _ => 0)))])) : V l D tys A k d mc ms post cells slots pc lv (.int (Int32.ofInt (N : Int)) :: st) ws := by
  intro p e R s m args below meth c H locs ls Q F hl hH hQ
  have K := fun q H1 h => kk q p e R s m args below meth c H1 locs ls Q F hl h hQ
  obtain ⟨hx, hb, hml, hown, hts, hr, hlk, hnm, hK, hR1, hR2, hR3, hR4, hA⟩ := F
  have hn := nn_ofInt hN
  refine va_newa hx hb (hts _ (wAt_in hw)) hty hK.1 hH.1 hH.2.1 hH.2.2 hA hdf hn.1 hn.2 ?_ (Nat.le_trans hc.1 hR3) (Nat.le_trans hc.2 hR4) hd0 (fun q cA H1 k1 k2 k3 k4 => ?_)
  · have := Nat.mul_le_mul hN hby
    omega
  · have e := cA_same hK.1 k1 ht
    subst e
    exact K q H1 ⟨k2, k3, k4⟩
theorem V_newaL {N : Nat} {c0 : ClassId} (hd0 : decode (mCode k) pc = .ok (.newarray .long, 2)) (ht : tys[3]? = some (c0, .long)) (hN : N ≤ 60000) (hc : cells + 1 ≤ mc ∧ slots + N ≤ ms)
    (kk : ∀ q : Nat, V l D tys A k d mc ms post (cells + 1) (slots + N) (pc + 2) lv (.ref q :: st) (ws ++ [(q, .inl (c0, N, .inr (.inl (fun _ => 0))))])) : V l D tys A k d mc ms post cells slots pc lv (.int (Int32.ofInt (N : Int)) :: st) ws := by
  intro p e R s m args below meth c H locs ls Q F hl hH hQ
  have K := fun q H1 h => kk q p e R s m args below meth c H1 locs ls Q F hl h hQ
  obtain ⟨hx, hb, hml, hown, hts, hr, hlk, hnm, hK, hR1, hR2, hR3, hR4, hA⟩ := F
  have hn := nn_ofInt hN
  refine va_newa (ty := .long) (a0 := (N, .inr (.inl (fun _ => 0)))) hx hb (hts _ (wAt_in wa_long)) rfl hK.1 hH.1 hH.2.1 hH.2.2 hA (fun cA => rfl) hn.1 hn.2 ?_ (Nat.le_trans hc.1 hR3) (Nat.le_trans hc.2 hR4) hd0 (fun q cA H1 k1 k2 k3 k4 => ?_)
  · have : componentBytes .long = 8 := rfl
    rw [this]
    omega
  · have e := cA_same hK.1 k1 ht
    subst e
    exact K q H1 ⟨k2, k3, k4⟩
theorem V_newq {N : Nat} {c0 : ClassId} (hd0 : decode (mCode k) pc = .ok (.anewarray 21, 3)) (ho : mOwn k = "HalvedNames") (ht : tys[4]? = some (c0, .object "HalvedNames$Hill")) (hN : N ≤ 60000) (hc : cells + 1 ≤ mc ∧ slots + N ≤ ms)
    (kk : ∀ q : Nat, V l D tys A k d mc ms post (cells + 1) (slots + N) (pc + 3) lv (.ref q :: st) (ws ++ [(q, .inl (c0, N, .inr (.inr (.inr (.inr (fun _ => none))))))])) : V l D tys A k d mc ms post cells slots pc lv (.int (Int32.ofInt (N : Int)) :: st) ws := by
  intro p e R s m args below meth c H locs ls Q F hl hH hQ
  have K := fun q H1 h => kk q p e R s m args below meth c H1 locs ls Q F hl h hQ
  obtain ⟨hx, hb, hml, hown, hts, hr, hlk, hnm, hK, hR1, hR2, hR3, hR4, hA⟩ := F
  have hn := nn_ofInt hN
  rw [ho] at hown
  refine va_newq hx hb hown (hts _ (wAt_in wa_hill)) hK.2.1 hK.1 hH.1 hH.2.1 hH.2.2 hA hn.1 hn.2 (by omega) (Nat.le_trans hc.1 hR3) (Nat.le_trans hc.2 hR4) hd0 (fun q cA H1 k1 k2 k3 k4 => ?_)
  have e := cA_same hK.1 k1 ht
  subst e
  exact K q H1 ⟨k2, k3, k4⟩
theorem V_new {C : String} {T : u_T} {N : Nat} {fs : List Value} (hi : mI k pc = (32, a, x, y, z)) (hcl : vwCl[y]? = some (C, T, N)) (hfs : ∀ j, j < N → defaultValue (clTy y j) = vp_V fs j) (hc : cells + 1 ≤ mc ∧ slots + N ≤ ms)
    (kk : ∀ q : Nat, V l D tys A k d mc ms post (cells + 1) (slots + N) (pc + 3) lv (.ref q :: st) (ws ++ [(q, .inr (y, fs))])) : V l D tys A k d mc ms post cells slots pc lv st ws := by
  have t : ok32 k pc a x y z = true := by have t := tabOK k pc; rw [hi] at t; exact t
  intro p e R s m args below meth c H locs ls Q F hl hH hQ
  have K := fun q H1 h => kk q p e R s m args below meth c H1 locs ls Q F hl h hQ
  obtain ⟨hx, hb, hml, hown, hts, hr, hlk, hnm, hK, hR1, hR2, hR3, hR4, hA⟩ := F
  unfold ok32 at t
  rw [hcl] at t
  simp only [Bool.and_eq_true] at t
  obtain ⟨⟨⟨t1, t2⟩, t3⟩, t4⟩ := t
  exact va_new hx hb hts (cls_ok y C T N hcl).1 (clTy y) (cl_ty y C T N hcl) hown (hts _ (wAt_in t2)) (hts _ (wAt_in t3)) (hts _ (wAt_in t4)) hK.1 hH.1 hH.2.1 hH.2.2 hA hcl hfs (Nat.le_trans hc.1 hR3) (Nat.le_trans hc.2 hR4) (dec_of t1) (fun q H1 k2 k3 k4 => K q H1 ⟨k2, k3, k4⟩)
theorem V_aast {b q0 n q1 v : Nat} {fs : List Value} {cA : ClassId} {f : Nat → Option Nat} {r : vw_C} {i : Int32} (hi : mI k pc = (20, a, 3, y, z)) (he : ws[q0]? = some (b, .inl (cA, n, .inr (.inr (.inr (.inr f)))))) (ht : tys[4]? = some (cA, .object r.1)) (hv : ws[q1]? = some (v, .inr (2, fs))) (hc : vwCl[2]? = some r) (hin : vp_in i n) (kk : V l D tys A k d mc ms post cells slots (pc + 1) lv st (ws.set q0 (b, .inl (cA, n, .inr (.inr (.inr (.inr (va_up f i.toNatClampNeg (some v))))))))) : V l D tys A k d mc ms post cells slots pc lv (.ref v :: .int i :: .ref b :: st) ws := by
  have t : ok20 k pc a 3 y z = true := by have t := tabOK k pc; rw [hi] at t; exact t
  intro p e R s m args below meth c H locs ls Q F hl hH hQ
  have K := fun H1 locs1 h => kk p e R s m args below meth c H1 locs1 ls Q F hl h hQ
  obtain ⟨hx, hb, -, hown, hts, -, -, -, hK, -⟩ := F
  exact va_astq hx hb hK.1 hH.1 hH.2.1 hH.2.2 q0 4 q1 2 he ht hv hc hin (dec_of t) (fun H1 locs1 k2 k3 k4 => K H1 locs1 ⟨k2, k3, k4⟩)
theorem wo_i : wAt 26 (Cond.instanceMethod Lib.objectInit) = true := by decide +kernel
theorem wo_c : wAt 27 (Cond.code Lib.objectInit object_method_1_code 1 none) = true := by decide +kernel
theorem V_objI {b : Nat} (hi : mI k pc = (29, a, x, y, z)) (hst : st.length ≤ 4) (kk : V l D tys A k d mc ms post cells slots (pc + 3) lv st ws) : V l D tys A k d mc ms post cells slots pc lv (.ref b :: st) ws := by
  have t : ok29 k pc a x y z = true := by have t := tabOK k pc; rw [hi] at t; exact t
  intro p e R s m args below meth c H locs ls Q F hl hH hQ
  have K := kk p e R s m args below meth c H locs ls Q F hl hH hQ
  obtain ⟨hx, hb, hml, hown, hts, hr, hlk, hnm, hK, hR1, hR2, hR3, hR4, hA⟩ := F
  unfold ok29 at t
  rw [Bool.and_eq_true] at t
  have hc := cat_sum st
  refine W.objInit hx hb hown (hts _ (wAt_in t.2)) (hts _ (wAt_in wo_i)) (hts _ (wAt_in wo_c)) rfl (by rw [hml]; exact hl.1) rfl (dec_of t.1) (by omega) (by show 2 * 0 + _ + 12 ≤ _; omega) ?_
  exact K
end VEN
