section VEF
variable {l : Launch} {D : va_G} {tys : List (ClassId × FieldType)} {A : Nat → Prop} {k d mc ms : Nat} {post : Option Value → va_W → Prop} {cells slots pc : Nat} {lv : List (Nat × Value)} {st : List Value} {ws : va_W} {a : Int} {x y z : Nat}
noncomputable def ibF (x : Nat) (u v : Int32) : Int32 := match x with
  | 0 => u + v
  | 1 => u - v
  | 2 => u * v
  | 3 => u / v
  | 4 => u - u / v * v
  | 5 => u &&& v
  | 6 => u ||| v
  | 7 => u ^^^ v
  | 8 => u <<< (v &&& 31)
  | 9 => u >>> (v &&& 31)
  | _ => (u.toUInt32 >>> (v.toUInt32 &&& Int32.toUInt32 31)).toInt32
theorem V_ibin {u v : Int32} (hi : mI k pc = (10, a, x, y, z)) (hz : x = 3 ∨ x = 4 → ¬ v = 0) (kk : V l D tys A k d mc ms post cells slots (pc + 1) lv (.int (ibF x u v) :: st) ws) : V l D tys A k d mc ms post cells slots pc lv (.int v :: .int u :: st) ws := by
  have t : ok10 k pc a x y z = true := by have t := tabOK k pc; rw [hi] at t; exact t
  intro p e R s m args below meth c H locs ls Q F hl hH hQ
  have K := kk p e R s m args below meth c H locs ls Q F hl hH hQ
  obtain ⟨hx, hb, -, hown, hts, -⟩ := F
  unfold ok10 at t
  rcases x with _ | _ | _ | _ | _ | _ | _ | _ | _ | _ | _ | x
  · exact lv_iadd hx hb (dec_of t) K
  · exact lv_isub hx hb (dec_of t) K
  · exact lv_imul hx hb (dec_of t) K
  · exact lv_idiv hx hb (dec_of t) (hz (Or.inl rfl)) K
  · exact lv_irem hx hb (dec_of t) (hz (Or.inr rfl)) K
  · exact lv_iand hx hb (dec_of t) K
  · exact lv_ior hx hb (dec_of t) K
  · exact lv_ixor hx hb (dec_of t) K
  · exact lv_ishl hx hb (dec_of t) K
  · exact lv_ishr hx hb (dec_of t) K
  · exact lv_iushr hx hb (dec_of t) rfl K
  · exact absurd (show false = true from t) Bool.false_ne_true
noncomputable def lbF (x : Nat) (u v : Int64) : Int64 := match x with
  | 0 => u + v
  | 1 => u - v
  | 2 => u * v
  | 3 => u / v
  | 4 => u - u / v * v
  | 5 => u &&& v
  | 6 => u ||| v
  | _ => u ^^^ v
theorem V_lbin {u v : Int64} (hi : mI k pc = (11, a, x, y, z)) (hz : x = 3 ∨ x = 4 → ¬ v = 0) (kk : V l D tys A k d mc ms post cells slots (pc + 1) lv (.long (lbF x u v) :: st) ws) : V l D tys A k d mc ms post cells slots pc lv (.long v :: .long u :: st) ws := by
  have t : ok11 k pc a x y z = true := by have t := tabOK k pc; rw [hi] at t; exact t
  intro p e R s m args below meth c H locs ls Q F hl hH hQ
  have K := kk p e R s m args below meth c H locs ls Q F hl hH hQ
  obtain ⟨hx, hb, -, hown, hts, -⟩ := F
  unfold ok11 at t
  rcases x with _ | _ | _ | _ | _ | _ | _ | _ | x
  · exact lv_ladd hx hb (dec_of t) K
  · exact lv_lsub hx hb (dec_of t) K
  · exact lv_lmul hx hb (dec_of t) K
  · exact lv_ldiv hx hb (dec_of t) (hz (Or.inl rfl)) K
  · exact lv_lrem hx hb (dec_of t) (hz (Or.inr rfl)) K
  · exact lv_land hx hb (dec_of t) K
  · exact lv_lor hx hb (dec_of t) K
  · exact lv_lxor hx hb (dec_of t) K
  · exact absurd (show false = true from t) Bool.false_ne_true
noncomputable def lsF (x : Nat) (u : Int64) (v : Int32) : Int64 := match x with
  | 0 => u <<< (v.toInt64 &&& 63)
  | _ => u >>> (v.toInt64 &&& 63)
theorem V_lsh {u : Int64} {v : Int32} (hi : mI k pc = (25, a, x, y, z)) (kk : V l D tys A k d mc ms post cells slots (pc + 1) lv (.long (lsF x u v) :: st) ws) : V l D tys A k d mc ms post cells slots pc lv (.int v :: .long u :: st) ws := by
  have t : ok25 k pc a x y z = true := by have t := tabOK k pc; rw [hi] at t; exact t
  intro p e R s m args below meth c H locs ls Q F hl hH hQ
  have K := kk p e R s m args below meth c H locs ls Q F hl hH hQ
  obtain ⟨hx, hb, -, hown, hts, -⟩ := F
  unfold ok25 at t
  rcases x with _ | _ | x
  · exact lv_lshl hx hb (dec_of t) rfl K
  · exact lv_lshr hx hb (dec_of t) rfl K
  · exact absurd (show false = true from t) Bool.false_ne_true
theorem V_ineg {u : Int32} (hi : mI k pc = (12, a, 0, y, z)) (kk : V l D tys A k d mc ms post cells slots (pc + 1) lv (.int (-u) :: st) ws) : V l D tys A k d mc ms post cells slots pc lv (.int u :: st) ws := by
  have t : ok12 k pc a 0 y z = true := by have t := tabOK k pc; rw [hi] at t; exact t
  intro p e R s m args below meth c H locs ls Q F hl hH hQ
  have K := kk p e R s m args below meth c H locs ls Q F hl hH hQ
  obtain ⟨hx, hb, -, hown, hts, -⟩ := F
  exact lv_ineg hx hb (dec_of t) K
theorem V_i2l {u : Int32} (hi : mI k pc = (12, a, 1, y, z)) (kk : V l D tys A k d mc ms post cells slots (pc + 1) lv (.long u.toInt64 :: st) ws) : V l D tys A k d mc ms post cells slots pc lv (.int u :: st) ws := by
  have t : ok12 k pc a 1 y z = true := by have t := tabOK k pc; rw [hi] at t; exact t
  intro p e R s m args below meth c H locs ls Q F hl hH hQ
  have K := kk p e R s m args below meth c H locs ls Q F hl hH hQ
  obtain ⟨hx, hb, -, hown, hts, -⟩ := F
  exact lv_i2l hx hb (dec_of t) rfl K
theorem V_l2i {u : Int64} (hi : mI k pc = (12, a, 2, y, z)) (kk : V l D tys A k d mc ms post cells slots (pc + 1) lv (.int u.toInt32 :: st) ws) : V l D tys A k d mc ms post cells slots pc lv (.long u :: st) ws := by
  have t : ok12 k pc a 2 y z = true := by have t := tabOK k pc; rw [hi] at t; exact t
  intro p e R s m args below meth c H locs ls Q F hl hH hQ
  have K := kk p e R s m args below meth c H locs ls Q F hl hH hQ
  obtain ⟨hx, hb, -, hown, hts, -⟩ := F
  exact lv_l2i hx hb (dec_of t) rfl K
theorem V_i2b {u : Int32} (hi : mI k pc = (12, a, 3, y, z)) (kk : V l D tys A k d mc ms post cells slots (pc + 1) lv (.int u.toInt8.toInt32 :: st) ws) : V l D tys A k d mc ms post cells slots pc lv (.int u :: st) ws := by
  have t : ok12 k pc a 3 y z = true := by have t := tabOK k pc; rw [hi] at t; exact t
  intro p e R s m args below meth c H locs ls Q F hl hH hQ
  have K := kk p e R s m args below meth c H locs ls Q F hl hH hQ
  obtain ⟨hx, hb, -, hown, hts, -⟩ := F
  exact lv_i2b hx hb (dec_of t) rfl K
theorem V_i2s {u : Int32} (hi : mI k pc = (12, a, 4, y, z)) (kk : V l D tys A k d mc ms post cells slots (pc + 1) lv (.int u.toInt16.toInt32 :: st) ws) : V l D tys A k d mc ms post cells slots pc lv (.int u :: st) ws := by
  have t : ok12 k pc a 4 y z = true := by have t := tabOK k pc; rw [hi] at t; exact t
  intro p e R s m args below meth c H locs ls Q F hl hH hQ
  have K := kk p e R s m args below meth c H locs ls Q F hl hH hQ
  obtain ⟨hx, hb, -, hown, hts, -⟩ := F
  exact lv_i2s hx hb (dec_of t) rfl K
theorem V_lcmp {u v : Int64} (hi : mI k pc = (13, a, x, y, z)) (kk : V l D tys A k d mc ms post cells slots (pc + 1) lv (.int (lg_cmp u v) :: st) ws) : V l D tys A k d mc ms post cells slots pc lv (.long v :: .long u :: st) ws := by
  have t : ok13 k pc a x y z = true := by have t := tabOK k pc; rw [hi] at t; exact t
  intro p e R s m args below meth c H locs ls Q F hl hH hQ
  have K := kk p e R s m args below meth c H locs ls Q F hl hH hQ
  obtain ⟨hx, hb, -, hown, hts, -⟩ := F
  exact W.lcmp hx hb (dec_of t) K
noncomputable def cdP (x : Nat) (u v : Int32) : Prop := match x with
  | 0 => u = v
  | 1 => ¬ u = v
  | 2 => u < v
  | 3 => v ≤ u
  | 4 => v < u
  | _ => u ≤ v
theorem V_if {u : Int32} (hi : mI k pc = (14, a, x, y, z)) (kt : cdP x u 0 → V l D tys A k d mc ms post cells slots y lv st ws) (kf : ¬ cdP x u 0 → V l D tys A k d mc ms post cells slots (pc + 3) lv st ws) : V l D tys A k d mc ms post cells slots pc lv (.int u :: st) ws := by
  have t : ok14 k pc a x y z = true := by have t := tabOK k pc; rw [hi] at t; exact t
  intro p e R s m args below meth c H locs ls Q F hl hH hQ
  have Kt := fun h => kt h p e R s m args below meth c H locs ls Q F hl hH hQ
  have Kf := fun h => kf h p e R s m args below meth c H locs ls Q F hl hH hQ
  obtain ⟨hx, hb, -, hown, hts, -⟩ := F
  unfold ok14 at t
  rw [Bool.and_eq_true, Bool.and_eq_true] at t
  obtain ⟨⟨t1, t2⟩, t3⟩ := t
  have t2 := of_decide_eq_true t2
  have t3 := Nat.blt_eq.mp t3
  rcases x with _ | _ | _ | _ | _ | _ | x
  · exact lv_if_eq hx hb (dec_of t1) t2 Kt Kf
  · exact lv_if_ne hx hb (dec_of t1) t2 (fun h => Kt h) (fun h => Kf (fun g => g h))
  · exact lv_if_lt hx hb (dec_of t1) t2 Kt Kf
  · exact lv_if_ge hx hb (dec_of t1) t2 (fun h => Kt h) (fun h => Kf h)
  · exact lv_if_gt hx hb (dec_of t1) t2 (fun h => Kt h) (fun h => Kf h)
  · exact lv_if_le hx hb (dec_of t1) t2 (fun h => Kt h) (fun h => Kf h)
  · omega
theorem V_icmp {u v : Int32} (hi : mI k pc = (15, a, x, y, z)) (kt : cdP x u v → V l D tys A k d mc ms post cells slots y lv st ws) (kf : ¬ cdP x u v → V l D tys A k d mc ms post cells slots (pc + 3) lv st ws) : V l D tys A k d mc ms post cells slots pc lv (.int v :: .int u :: st) ws := by
  have t : ok15 k pc a x y z = true := by have t := tabOK k pc; rw [hi] at t; exact t
  intro p e R s m args below meth c H locs ls Q F hl hH hQ
  have Kt := fun h => kt h p e R s m args below meth c H locs ls Q F hl hH hQ
  have Kf := fun h => kf h p e R s m args below meth c H locs ls Q F hl hH hQ
  obtain ⟨hx, hb, -, hown, hts, -⟩ := F
  unfold ok15 at t
  rw [Bool.and_eq_true, Bool.and_eq_true] at t
  obtain ⟨⟨t1, t2⟩, t3⟩ := t
  have t2 := of_decide_eq_true t2
  have t3 := Nat.blt_eq.mp t3
  rcases x with _ | _ | _ | _ | _ | _ | x
  · exact lv_icmp_eq hx hb (dec_of t1) t2 Kt Kf
  · exact lv_icmp_ne hx hb (dec_of t1) t2 (fun h => Kt h) (fun h => Kf (fun g => g h))
  · exact lv_icmp_lt hx hb (dec_of t1) t2 Kt Kf
  · exact lv_icmp_ge hx hb (dec_of t1) t2 (fun h => Kt h) (fun h => Kf h)
  · exact lv_icmp_gt hx hb (dec_of t1) t2 (fun h => Kt h) (fun h => Kf h)
  · exact lv_icmp_le hx hb (dec_of t1) t2 (fun h => Kt h) (fun h => Kf h)
  · omega
theorem V_ret {r : Option Value} (h : RetAt k pc r) (hp : post r ws) : V l D tys A k d mc ms post mc ms pc lv r.toList ws := by
  intro p e R s m args below meth c H locs ls Q F hl hH hQ
  exact hQ pc ls r ws H locs h hp hH
theorem V_retI {v : Int32} (hi : mI k pc = (27, a, 0, y, z)) (hn : mRet k = some .boolean → v &&& 1 = v) (hp : post (some (.int v)) ws) : V l D tys A k d mc ms post mc ms pc lv [.int v] ws := by
  have t : ok27 k pc a 0 y z = true := by have t := tabOK k pc; rw [hi] at t; exact t
  have t : (dec k pc .ireturn 1 && (decide (mRet k = some .int) || decide (mRet k = some .boolean))) = true := t
  rw [Bool.and_eq_true, Bool.or_eq_true] at t
  rcases t.2 with h | h
  · have h := of_decide_eq_true h
    exact V_ret (r := some (.int v)) (Or.inl ⟨v, .int, rfl, dec_of t.1, h, rfl⟩) hp
  · have h := of_decide_eq_true h
    exact V_ret (r := some (.int v)) (Or.inl ⟨v, .boolean, rfl, dec_of t.1, h, by show Value.int (v &&& 1) = Value.int v; rw [hn h]⟩) hp
theorem V_retL {v : Int64} (hi : mI k pc = (27, a, 1, y, z)) (hp : post (some (.long v)) ws) : V l D tys A k d mc ms post mc ms pc lv [.long v] ws := by
  have t : ok27 k pc a 1 y z = true := by have t := tabOK k pc; rw [hi] at t; exact t
  have t : (dec k pc .lreturn 1 && decide (mRet k = some .long)) = true := t
  rw [Bool.and_eq_true] at t
  exact V_ret (r := some (.long v)) (Or.inr (Or.inl ⟨v, rfl, dec_of t.1, of_decide_eq_true t.2⟩)) hp
theorem V_retV (hi : mI k pc = (27, a, 2, y, z)) (hp : post none ws) : V l D tys A k d mc ms post mc ms pc lv [] ws := by
  have t : ok27 k pc a 2 y z = true := by have t := tabOK k pc; rw [hi] at t; exact t
  have t : (dec k pc .return_ 1 && decide (mRet k = none)) = true := t
  rw [Bool.and_eq_true] at t
  exact V_ret (r := none) (Or.inr (Or.inr (Or.inl ⟨rfl, dec_of t.1, of_decide_eq_true t.2⟩))) hp
theorem V_retA {v : Value} (hi : mI k pc = (27, a, 3, y, z)) (hv : v = .null ∨ ∃ q, v = .ref q) (hp : post (some v) ws) : V l D tys A k d mc ms post mc ms pc lv [v] ws := by
  have t : ok27 k pc a 3 y z = true := by have t := tabOK k pc; rw [hi] at t; exact t
  have t : (dec k pc .areturn 1 && decide (mRet k = some (.object "HalvedNames$Hill"))) = true := t
  rw [Bool.and_eq_true] at t
  exact V_ret (r := some v) (Or.inr (Or.inr (Or.inr ⟨v, _, rfl, hv, dec_of t.1, of_decide_eq_true t.2⟩))) hp
theorem V_dup {v : Value} (hi : mI k pc = (22, a, 0, y, z)) (hv : v.category = 1) (kk : V l D tys A k d mc ms post cells slots (pc + 1) lv (v :: v :: st) ws) : V l D tys A k d mc ms post cells slots pc lv (v :: st) ws := by
  have t : ok22 k pc a 0 y z = true := by have t := tabOK k pc; rw [hi] at t; exact t
  intro p e R s m args below meth c H locs ls Q F hl hH hQ
  have K := kk p e R s m args below meth c H locs ls Q F hl hH hQ
  obtain ⟨hx, hb, -, hown, hts, -⟩ := F
  exact lv_dup hx hb (dec_of t) hv K
theorem V_dup2 {v w : Value} (hi : mI k pc = (22, a, 1, y, z)) (hv : v.category = 1) (hw : w.category = 1) (kk : V l D tys A k d mc ms post cells slots (pc + 1) lv (v :: w :: v :: w :: st) ws) : V l D tys A k d mc ms post cells slots pc lv (v :: w :: st) ws := by
  have t : ok22 k pc a 1 y z = true := by have t := tabOK k pc; rw [hi] at t; exact t
  intro p e R s m args below meth c H locs ls Q F hl hH hQ
  have K := kk p e R s m args below meth c H locs ls Q F hl hH hQ
  obtain ⟨hx, hb, -, hown, hts, -⟩ := F
  exact lv_dup2_11 hx hb (dec_of t) hv hw K
theorem V_pop {v : Value} (hi : mI k pc = (22, a, 2, y, z)) (hv : v.category = 1) (kk : V l D tys A k d mc ms post cells slots (pc + 1) lv st ws) : V l D tys A k d mc ms post cells slots pc lv (v :: st) ws := by
  have t : ok22 k pc a 2 y z = true := by have t := tabOK k pc; rw [hi] at t; exact t
  intro p e R s m args below meth c H locs ls Q F hl hH hQ
  have K := kk p e R s m args below meth c H locs ls Q F hl hH hQ
  obtain ⟨hx, hb, -, hown, hts, -⟩ := F
  exact lv_pop hx hb (dec_of t) hv K
theorem V_null (hi : mI k pc = (31, a, x, y, z)) (kk : V l D tys A k d mc ms post cells slots (pc + 1) lv (.null :: st) ws) : V l D tys A k d mc ms post cells slots pc lv st ws := by
  have t : ok31 k pc a x y z = true := by have t := tabOK k pc; rw [hi] at t; exact t
  intro p e R s m args below meth c H locs ls Q F hl hH hQ
  have K := kk p e R s m args below meth c H locs ls Q F hl hH hQ
  obtain ⟨hx, hb, -, hown, hts, -⟩ := F
  exact lv_null hx hb (dec_of t) K
theorem V_nnR {q : Nat} (hi : mI k pc = (30, a, 1, y, z)) (kk : V l D tys A k d mc ms post cells slots y lv st ws) : V l D tys A k d mc ms post cells slots pc lv (.ref q :: st) ws := by
  have t : ok30 k pc a 1 y z = true := by have t := tabOK k pc; rw [hi] at t; exact t
  intro p e R s m args below meth c H locs ls Q F hl hH hQ
  have K := kk p e R s m args below meth c H locs ls Q F hl hH hQ
  obtain ⟨hx, hb, -, hown, hts, -⟩ := F
  have t : (dec k pc (.ifnonnull a) 3 && decide ((pc : Int) + a = (y : Int))) = true := t
  rw [Bool.and_eq_true] at t
  exact lv_ifnonnull hx hb (dec_of t.1) (of_decide_eq_true t.2) K
theorem V_nnN (hi : mI k pc = (30, a, 1, y, z)) (kk : V l D tys A k d mc ms post cells slots (pc + 3) lv st ws) : V l D tys A k d mc ms post cells slots pc lv (.null :: st) ws := by
  have t : ok30 k pc a 1 y z = true := by have t := tabOK k pc; rw [hi] at t; exact t
  intro p e R s m args below meth c H locs ls Q F hl hH hQ
  have K := kk p e R s m args below meth c H locs ls Q F hl hH hQ
  obtain ⟨hx, hb, -, hown, hts, -⟩ := F
  have t : (dec k pc (.ifnonnull a) 3 && decide ((pc : Int) + a = (y : Int))) = true := t
  rw [Bool.and_eq_true] at t
  exact lv_ifnonnullN hx hb (dec_of t.1) K
/-- a switch, by the place of the number among the targets -/
noncomputable def swT (k pc : Nat) (n : Int) : Nat := match mSw k pc with
  | (d, lo, ts) => if n < lo ∨ lo + ts.length ≤ n then d else ts.getD (n - lo).toNat d
theorem V_sw {u : Int32} (hi : mI k pc = (28, a, x, y, z)) (kk : V l D tys A k d mc ms post cells slots (swT k pc u.toInt) lv st ws) : V l D tys A k d mc ms post cells slots pc lv (.int u :: st) ws := by
  have t : ok28 k pc a x y z = true := by have t := tabOK k pc; rw [hi] at t; exact t
  intro p e R s m args below meth c H locs ls Q F hl hH hQ
  have K := kk p e R s m args below meth c H locs ls Q F hl hH hQ
  obtain ⟨hx, hb, -, hown, hts, -⟩ := F
  unfold swT at K
  unfold ok28 at t
  generalize mSw k pc = q1 at t K
  generalize mSwI k pc = q2 at t
  obtain ⟨d0, lo, ts⟩ := q1
  obtain ⟨doff, hi2, offs, n⟩ := q2
  simp only [Bool.and_eq_true, decide_eq_true_eq] at t
  obtain ⟨⟨⟨t1, t2⟩, t3⟩, t4⟩ := t
  dsimp only at K
  by_cases hc : u.toInt < lo ∨ lo + ts.length ≤ u.toInt
  · rw [if_pos hc] at K
    exact lv_tableOut hx hb (dec_of t1) (by omega) t2 K
  · rw [if_neg hc] at K
    have hlt : (u.toInt - lo).toNat < ts.length := by omega
    have e1 : (offs.toList.map (fun q => (pc : Int) + q))[(u.toInt - lo).toNat]? = some ((ts.getD (u.toInt - lo).toNat d0 : Nat) : Int) := by
      rw [t3, List.getElem?_map, List.getElem?_eq_getElem hlt]
      simp [List.getD, List.getElem?_eq_getElem hlt]
    rw [List.getElem?_map] at e1
    cases e2 : offs.toList[(u.toInt - lo).toNat]? with
    | none => rw [e2] at e1; cases e1
    | some off =>
      rw [e2] at e1
      have e1 : (pc : Int) + off = ((ts.getD (u.toInt - lo).toNat d0 : Nat) : Int) := Option.some.inj e1
      exact lv_tableIn hx hb (dec_of t1) (by omega) (by omega) (by rw [← Array.getElem?_toList]; exact e2) e1 K
theorem V_swl {u : Int32} (hi : mI k pc = (36, a, x, y, z)) (kk : V l D tys A k d mc ms post cells slots (swT k pc u.toInt) lv st ws) : V l D tys A k d mc ms post cells slots pc lv (.int u :: st) ws := by
  have t : ok36 k pc a x y z = true := by have t := tabOK k pc; rw [hi] at t; exact t
  intro p e R s m args below meth c H locs ls Q F hl hH hQ
  have K := kk p e R s m args below meth c H locs ls Q F hl hH hQ
  obtain ⟨hx, hb, -, hown, hts, -⟩ := F
  unfold swT at K
  unfold ok36 at t
  generalize mSw k pc = q1 at t K
  obtain ⟨d0, lo, ts⟩ := q1
  simp only [Bool.and_eq_true, decide_eq_true_eq] at t
  obtain ⟨t1, ⟨t2, t3⟩, t4⟩ := t
  subst t3; subst t4
  dsimp only [List.length_cons, List.length_nil] at K
  by_cases h0 : u.toInt = 0
  · rw [if_neg (by omega), h0] at K
    exact lv_lookup hx hb (off := (x : Int)) (tgt := pc + x) (dec_of t1) rfl (by rw [h0]; simp [Op.lookupswitch.offset]) (by omega) K
  · by_cases h1 : u.toInt = 1
    · rw [if_neg (by omega), h1] at K
      exact lv_lookup hx hb (off := (y : Int)) (tgt := pc + y) (dec_of t1) rfl (by rw [h1]; simp [Op.lookupswitch.offset]) (by omega) K
    · rw [if_pos (by omega)] at K
      exact lv_lookup hx hb (off := a) (tgt := d0) (dec_of t1) rfl (by simp [Op.lookupswitch.offset, h0, h1]; omega) t2 K
end VEF
