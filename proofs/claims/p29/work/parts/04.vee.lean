section
/-! what lies outside: the String constants (by their numbers in xsT: the object at x i, its row of bytes at x (100 + i)), two statics of the JDK -/
noncomputable def XK (A : Nat → Prop) (x : Nat → Nat) (U : State) (H : Heap) : Prop := (∀ (i : Nat) (q : String × Nat × String × List Int32), xsT[i]? = some q → vk_R q.1 q.2.1 q.2.2.1 (x i) U ∧ va_O "java/lang/String" (x i) A U H ∧ va_OF "java/lang/String" "coder" "B" (.int 0) (x i) A U H ∧ va_OF "java/lang/String" "value" "[B" (.ref (x (100 + i))) (x i) A U H ∧ va_T .byte (x (100 + i)) q.2.2.2.length (fun j => .int (q.2.2.2.getD j 0)) A U H) ∧ va_Z "java/lang/String" "COMPACT_STRINGS" "Z" (.int 1) A U H ∧ (va_Z "jdk/internal/util/Preconditions" "SIOOBE_FORMATTER" "Ljava/util/function/BiFunction;" .null A U H ∨ va_Z "jdk/internal/util/Preconditions" "SIOOBE_FORMATTER" "Ljava/util/function/BiFunction;" (.ref (x 200)) A U H)
theorem XK.moved {A : Nat → Prop} {x : Nat → Nat} {s U : State} (hW : s.WarmedH U.vm) (hq : ∀ a : Nat, a < s.heap.size → ¬ A a → U.heap[a]? = s.heap[a]?) (h : XK A x s s.heap) : XK A x U U.heap :=
  ⟨fun i q hi => ⟨vk_R.warm hW (h.1 i q hi).1, (va_O.moved hW.alike (h.1 i q hi).2.1).kept hq, (va_OF.moved hW.alike (h.1 i q hi).2.2.1).kept hq, (va_OF.moved hW.alike (h.1 i q hi).2.2.2.1).kept hq, (va_T.moved hW.alike (h.1 i q hi).2.2.2.2).kept hq⟩, (va_Z.moved hW.alike h.2.1).kept hq, h.2.2.imp (fun h => (va_Z.moved hW.alike h).kept hq) (fun h => (va_Z.moved hW.alike h).kept hq)⟩
theorem XK.same {A : Nat → Prop} {x : Nat → Nat} {s U : State} (hv : U.vm = s.vm) (hh : U.heap = s.heap) (h : XK A x s s.heap) : XK A x U U.heap := by
  have ha : s.vm.Alike U.vm := by rw [hv]; exact Vm.Alike.refl _
  rw [hh]
  exact ⟨fun i q hi => ⟨vk_R.same hv (h.1 i q hi).1, va_O.moved ha (h.1 i q hi).2.1, va_OF.moved ha (h.1 i q hi).2.2.1, va_OF.moved ha (h.1 i q hi).2.2.2.1, va_T.moved ha (h.1 i q hi).2.2.2.2⟩, va_Z.moved ha h.2.1, h.2.2.imp (va_Z.moved ha) (va_Z.moved ha)⟩
noncomputable def KK (D : va_G) (tys : List (ClassId × FieldType)) (A : Nat → Prop) (U : State) : Prop := va_K D vwCl tys U ∧ va_AO "HalvedNames$Hill" U ∧ XK A (D.2 1000) U U.heap
theorem KK.moved {D : va_G} {tys : List (ClassId × FieldType)} {A : Nat → Prop} {u U : State} (hW : u.WarmedH U.vm) (hq : ∀ a : Nat, a < u.heap.size → ¬ A a → U.heap[a]? = u.heap[a]?) (h : KK D tys A u) : KK D tys A U := ⟨va_K.moved hW.alike h.1, va_AO.moved hW.alike h.2.1, XK.moved hW hq h.2.2⟩
theorem KK.same {D : va_G} {tys : List (ClassId × FieldType)} {A : Nat → Prop} {u U : State} (hv : U.vm = u.vm) (hh : U.heap = u.heap) (h : KK D tys A u) : KK D tys A U := by
  have ha : u.vm.Alike U.vm := by rw [hv]; exact Vm.Alike.refl _
  exact ⟨va_K.moved ha h.1, va_AO.moved ha h.2.1, XK.same hv hh h.2.2⟩
noncomputable def mWs (k : Nat) : List Cond := Cond.code (mY k) (mCode k) (mML k) (mRet k) :: gtb
noncomputable def rmD (d mc ms : Nat) : Room := { frames := d + 1, cells := mc, slots := ms, locals := 40 * (d + 1) }
theorem lw_good_all : ∀ w ∈ gtb, w ∈ gtb ∧ ((w.onTables && w.keeps) = true ∨ ∃ ty, w = .arrayClass ty) := fun w hw => ⟨hw, good_of_word (List.mem_filter.mp hw).2⟩
theorem wAt_in {i : Int} {w : Cond} (h : wAt i w = true) : w ∈ gtb := by
  unfold wAt at h
  rw [Bool.and_eq_true] at h
  exact List.mem_filter.mpr ⟨tbl_in (tch_in (List.mem_of_getElem? (of_decide_eq_true h.1))), h.2⟩
theorem bif_t {α : Type} {b : Bool} {x y : α} (h : b = true) : (bif b then x else y) = x := by rw [h]; rfl
theorem bif_f {α : Type} {b : Bool} {x y : α} (h : b = false) : (bif b then x else y) = y := by rw [h]; rfl
theorem f4_val {x : Nat} (h : Nat.blt x 4 = true) : ((f4 x : Fin 4) : Nat) = x := by
  have h : x < 4 := Nat.blt_eq.mp h
  match x, h with
  | 0, _ => rfl
  | 1, _ => rfl
  | 2, _ => rfl
  | 3, _ => rfl
theorem dec_of {k pc n : Nat} {i : Instr} (h : dec k pc i n = true) : decode (mCode k) pc = .ok (i, n) := decF_ok h
noncomputable def Fix (D : va_G) (tys : List (ClassId × FieldType)) (A : Nat → Prop) (k d mc ms : Nat) (p : Program) (R : Room) (s : State) (m : MethodId) (args : Array Value) (meth : Method) (c : Code) : Prop :=
  p.tables.exec = Jvm.exec ∧ c.code = mCode k ∧ c.maxLocals = mML k ∧ s.vm.findClass (mOwn k) = some m.cls ∧ (∀ w ∈ gtb, w.before args s = true) ∧ meth.sig.returnType = mRet k ∧ meth.locks = false ∧ meth.name = (mY k).name ∧ KK D tys A s ∧ d + 1 ≤ R.frames ∧ 40 * (d + 1) ≤ R.locals ∧ mc ≤ R.cells ∧ ms ≤ R.slots ∧ (∀ q, s.heap.size ≤ q → A q)
noncomputable def RetAt (k pc : Nat) (r : Option Value) : Prop :=
  (∃ (x : Int32) (ty : FieldType), r = some (.int x) ∧ decode (mCode k) pc = .ok (.ireturn, 1) ∧ mRet k = some ty ∧ narrow ty (.int x) = .int x)
  ∨ (∃ x : Int64, r = some (.long x) ∧ decode (mCode k) pc = .ok (.lreturn, 1) ∧ mRet k = some .long)
  ∨ (r = none ∧ decode (mCode k) pc = .ok (.return_, 1) ∧ mRet k = none)
  ∨ (∃ (v : Value) (n : String), r = some v ∧ (v = .null ∨ ∃ a, v = .ref a) ∧ decode (mCode k) pc = .ok (.areturn, 1) ∧ mRet k = some (.object n))
noncomputable abbrev Hp (D : va_G) (A : Nat → Prop) (s : State) (ws : va_W) (H : Heap) (locs : List Loc) : Prop := va_P D vwCl ws H ∧ va_D A ws ∧ va_S A s.heap H locs
noncomputable def V (l : Launch) (D : va_G) (tys : List (ClassId × FieldType)) (A : Nat → Prop) (k d mc ms : Nat) (post : Option Value → va_W → Prop) (cells slots pc : Nat) (lv : List (Nat × Value)) (st : List Value) (ws : va_W) : Prop :=
  ∀ (p : Program) (e : Env) (R : Room) (s : State) (m : MethodId) (args : Array Value) (below : List Frame) (meth : Method) (c : Code) (H : Heap) (locs : List Loc) (ls : Array Slot) (Q : State → Prop),
    Fix D tys A k d mc ms p R s m args meth c → lv_has ls (mML k) lv → Hp D A s ws H locs →
    (∀ (pc' : Nat) (ls' : Array Slot) (r : Option Value) (ws' : va_W) (H' : Heap) (locs' : List Loc), RetAt k pc' r → post r ws' → Hp D A s ws' H' locs' → W p l e R s m args below meth c H' locs' mc ms Q (F0 m pc' ls' r.toList)) →
    W p l e R s m args below meth c H locs cells slots Q (F0 m pc ls st)
section VEE
variable {l : Launch} {D : va_G} {tys : List (ClassId × FieldType)} {A : Nat → Prop} {k d mc ms : Nat} {post : Option Value → va_W → Prop} {cells slots pc : Nat} {lv : List (Nat × Value)} {st : List Value} {ws : va_W} {a : Int} {x y z : Nat}
theorem V_sub {lv' : List (Nat × Value)} (h : ∀ q ∈ lv', q ∈ lv) (kk : V l D tys A k d mc ms post cells slots pc lv' st ws) : V l D tys A k d mc ms post cells slots pc lv st ws := by
  intro p e R s m args below meth c H locs ls Q F hl hH hQ
  exact kk p e R s m args below meth c H locs ls Q F ⟨hl.1, hl.2.1, fun q hq => hl.2.2 q (h q hq)⟩ hH hQ
theorem V_post {post' : Option Value → va_W → Prop} (h : ∀ r ws', post' r ws' → post r ws') (kk : V l D tys A k d mc ms post' cells slots pc lv st ws) : V l D tys A k d mc ms post cells slots pc lv st ws := by
  intro p e R s m args below meth c H locs ls Q F hl hH hQ
  exact kk p e R s m args below meth c H locs ls Q F hl hH (fun pc' ls' r ws' H' locs' h1 h2 h3 => hQ pc' ls' r ws' H' locs' h1 (h r ws' h2) h3)
theorem V_wide {cells' slots' : Nat} (h1 : cells ≤ cells') (h2 : slots ≤ slots') (kk : V l D tys A k d mc ms post cells' slots' pc lv st ws) : V l D tys A k d mc ms post cells slots pc lv st ws := by
  intro p e R s m args below meth c H locs ls Q F hl hH hQ
  exact W.widen h1 h2 (kk p e R s m args below meth c H locs ls Q F hl hH hQ)
noncomputable def ln1 (x : Nat) : Nat := bif Nat.beq x 0 then 1 else bif Nat.beq x 1 then 2 else bif Nat.beq x 2 then 3 else bif Nat.beq x 3 then 2 else 3
theorem V_ipush (hi : mI k pc = (1, a, x, y, z)) (kk : V l D tys A k d mc ms post cells slots (pc + ln1 x) lv (.int (Int32.ofInt a) :: st) ws) : V l D tys A k d mc ms post cells slots pc lv st ws := by
  have t : ok1 k pc a x y z = true := by have t := tabOK k pc; rw [hi] at t; exact t
  intro p e R s m args below meth c H locs ls Q F hl hH hQ
  have K := kk p e R s m args below meth c H locs ls Q F hl hH hQ
  obtain ⟨hx, hb, -, hown, hts, -⟩ := F
  unfold ok1 at t
  rw [Bool.and_eq_true] at t
  obtain ⟨-, t⟩ := t
  rcases x with _ | _ | _ | _ | _ | x
  · exact lv_iconst hx hb (dec_of t) rfl K
  · have t := (Bool.and_eq_true _ _).mp t
    exact lv_bipush hx hb (dec_of t.1) (of_decide_eq_true t.2) K
  · have t := (Bool.and_eq_true _ _).mp t
    exact lv_sipush hx hb (dec_of t.1) (of_decide_eq_true t.2) K
  · have t := (Bool.and_eq_true _ _).mp t
    exact lv_ldc hx hb hown (hts _ (wAt_in t.2)) (dec_of t.1) K
  · have t := (Bool.and_eq_true _ _).mp t
    exact lv_ldcw hx hb hown (hts _ (wAt_in t.2)) (dec_of t.1) K
  · exact absurd t (by simp)
noncomputable def ln2 (x : Nat) : Nat := bif Nat.beq x 0 then 1 else 3
theorem V_lpush (hi : mI k pc = (2, a, x, y, z)) (kk : V l D tys A k d mc ms post cells slots (pc + ln2 x) lv (.long (Int64.ofInt a) :: st) ws) : V l D tys A k d mc ms post cells slots pc lv st ws := by
  have t : ok2 k pc a x y z = true := by have t := tabOK k pc; rw [hi] at t; exact t
  intro p e R s m args below meth c H locs ls Q F hl hH hQ
  have K := kk p e R s m args below meth c H locs ls Q F hl hH hQ
  obtain ⟨hx, hb, -, hown, hts, -⟩ := F
  unfold ok2 at t
  rw [Bool.and_eq_true] at t
  obtain ⟨-, t⟩ := t
  rcases x with _ | x
  · by_cases h0 : a = 0
    · subst h0
      exact lv_lconst hx hb (dec_of t) rfl K
    · have e0 : decide (a = 0) = false := decide_eq_false h0
      have t : (bif decide (a = 0) then dec k pc (.lconst 0) 1 else decide (a = 1) && dec k pc (.lconst 1) 1) = true := t
      rw [bif_f e0] at t
      have t := (Bool.and_eq_true _ _).mp t
      have h1 : a = 1 := of_decide_eq_true t.1
      subst h1
      exact lv_lconst hx hb (dec_of t.2) rfl K
  · have t := (Bool.and_eq_true _ _).mp t
    exact lv_ldc2 hx hb hown (hts _ (wAt_in t.2)) (dec_of t.1) K
noncomputable def ln3 (y : Nat) : Nat := bif Nat.beq y 0 then 1 else 2
theorem V_iload {v : Int32} (hi : mI k pc = (3, a, x, y, z)) (hv : (x, Value.int v) ∈ lv) (kk : V l D tys A k d mc ms post cells slots (pc + ln3 y) lv (.int v :: st) ws) : V l D tys A k d mc ms post cells slots pc lv st ws := by
  have t : ok3 k pc a x y z = true := by have t := tabOK k pc; rw [hi] at t; exact t
  intro p e R s m args below meth c H locs ls Q F hl hH hQ
  have K := kk p e R s m args below meth c H locs ls Q F hl hH hQ
  obtain ⟨hx, hb, -, hown, hts, -⟩ := F
  have hg := hl.2.2 _ hv
  unfold ok3 at t
  rcases y with _ | y
  · have t := (Bool.and_eq_true _ _).mp t
    exact lv_iload_n hx hb (dec_of t.2) (f4_val t.1) hg K
  · exact lv_iload hx hb (dec_of t) hg K
theorem V_lload {v : Int64} (hi : mI k pc = (4, a, x, y, z)) (hv : (x, Value.long v) ∈ lv) (kk : V l D tys A k d mc ms post cells slots (pc + ln3 y) lv (.long v :: st) ws) : V l D tys A k d mc ms post cells slots pc lv st ws := by
  have t : ok4 k pc a x y z = true := by have t := tabOK k pc; rw [hi] at t; exact t
  intro p e R s m args below meth c H locs ls Q F hl hH hQ
  have K := kk p e R s m args below meth c H locs ls Q F hl hH hQ
  obtain ⟨hx, hb, -, hown, hts, -⟩ := F
  have hg := hl.2.2 _ hv
  unfold ok4 at t
  rcases y with _ | y
  · have t := (Bool.and_eq_true _ _).mp t
    exact lv_lload_n hx hb (dec_of t.2) (f4_val t.1) hg K
  · exact lv_lload hx hb (dec_of t) hg K
theorem V_aload {v : Nat} (hi : mI k pc = (5, a, x, y, z)) (hv : (x, Value.ref v) ∈ lv) (kk : V l D tys A k d mc ms post cells slots (pc + ln3 y) lv (.ref v :: st) ws) : V l D tys A k d mc ms post cells slots pc lv st ws := by
  have t : ok5 k pc a x y z = true := by have t := tabOK k pc; rw [hi] at t; exact t
  intro p e R s m args below meth c H locs ls Q F hl hH hQ
  have K := kk p e R s m args below meth c H locs ls Q F hl hH hQ
  obtain ⟨hx, hb, -, hown, hts, -⟩ := F
  have hg := hl.2.2 _ hv
  unfold ok5 at t
  rcases y with _ | y
  · have t := (Bool.and_eq_true _ _).mp t
    exact lv_aload_n hx hb (dec_of t.2) (f4_val t.1) hg K
  · exact lv_aload hx hb (dec_of t) hg K
theorem V_aloadN (hi : mI k pc = (5, a, x, y, z)) (hv : (x, Value.null) ∈ lv) (kk : V l D tys A k d mc ms post cells slots (pc + ln3 y) lv (.null :: st) ws) : V l D tys A k d mc ms post cells slots pc lv st ws := by
  have t : ok5 k pc a x y z = true := by have t := tabOK k pc; rw [hi] at t; exact t
  intro p e R s m args below meth c H locs ls Q F hl hH hQ
  have K := kk p e R s m args below meth c H locs ls Q F hl hH hQ
  obtain ⟨hx, hb, -, hown, hts, -⟩ := F
  have hg := hl.2.2 _ hv
  unfold ok5 at t
  rcases y with _ | y
  · have t := (Bool.and_eq_true _ _).mp t
    exact lv_aload_nN hx hb (dec_of t.2) (f4_val t.1) hg K
  · exact lv_aloadN hx hb (dec_of t) hg K
noncomputable def stL (i : Nat) (v : Value) (lv : List (Nat × Value)) : List (Nat × Value) := (i, v) :: lv.filter (fun q => !(q.1 == i) && !(q.1 + 1 == i && q.2.category == 2))
noncomputable def stL2 (i : Nat) (v : Value) (lv : List (Nat × Value)) : List (Nat × Value) := (i, v) :: lv.filter (fun q => !(q.1 == i) && (!(q.1 == i + 1) && !(q.1 + 1 == i && q.2.category == 2)))
theorem V_istore {v : Int32} (hi : mI k pc = (6, a, x, y, z)) (kk : V l D tys A k d mc ms post cells slots (pc + ln3 y) (stL x (.int v) lv) st ws) : V l D tys A k d mc ms post cells slots pc lv (.int v :: st) ws := by
  have t : ok6 k pc a x y z = true := by have t := tabOK k pc; rw [hi] at t; exact t
  intro p e R s m args below meth c H locs ls Q F hl hH hQ
  have K := fun ls' hl' => kk p e R s m args below meth c H locs ls' Q F hl' hH hQ
  obtain ⟨hx, hb, -, hown, hts, -⟩ := F
  unfold ok6 at t
  rw [Bool.and_eq_true] at t
  obtain ⟨t0, t⟩ := t
  have hn : x < mML k := Nat.blt_eq.mp t0
  rcases y with _ | y
  · have t := (Bool.and_eq_true _ _).mp t
    exact lv_istore_n hx hb (dec_of t.2) (f4_val t.1) hl hn rfl K
  · exact lv_istore hx hb (dec_of t) hl hn rfl K
theorem V_lstore {v : Int64} (hi : mI k pc = (7, a, x, y, z)) (kk : V l D tys A k d mc ms post cells slots (pc + ln3 y) (stL2 x (.long v) lv) st ws) : V l D tys A k d mc ms post cells slots pc lv (.long v :: st) ws := by
  have t : ok7 k pc a x y z = true := by have t := tabOK k pc; rw [hi] at t; exact t
  intro p e R s m args below meth c H locs ls Q F hl hH hQ
  have K := fun ls' hl' => kk p e R s m args below meth c H locs ls' Q F hl' hH hQ
  obtain ⟨hx, hb, -, hown, hts, -⟩ := F
  unfold ok7 at t
  rw [Bool.and_eq_true] at t
  obtain ⟨t0, t⟩ := t
  have hn : x + 1 < mML k := Nat.blt_eq.mp t0
  rcases y with _ | y
  · have t := (Bool.and_eq_true _ _).mp t
    exact lv_lstore_n hx hb (dec_of t.2) (f4_val t.1) hl hn rfl K
  · exact lv_lstore hx hb (dec_of t) hl hn rfl K
theorem V_astore {v : Nat} (hi : mI k pc = (8, a, x, y, z)) (kk : V l D tys A k d mc ms post cells slots (pc + ln3 y) (stL x (.ref v) lv) st ws) : V l D tys A k d mc ms post cells slots pc lv (.ref v :: st) ws := by
  have t : ok8 k pc a x y z = true := by have t := tabOK k pc; rw [hi] at t; exact t
  intro p e R s m args below meth c H locs ls Q F hl hH hQ
  have K := fun ls' hl' => kk p e R s m args below meth c H locs ls' Q F hl' hH hQ
  obtain ⟨hx, hb, -, hown, hts, -⟩ := F
  unfold ok8 at t
  rw [Bool.and_eq_true] at t
  obtain ⟨t0, t⟩ := t
  have hn : x < mML k := Nat.blt_eq.mp t0
  rcases y with _ | y
  · have t := (Bool.and_eq_true _ _).mp t
    exact lv_astore_n hx hb (dec_of t.2) (f4_val t.1) hl hn rfl K
  · exact lv_astore hx hb (dec_of t) hl hn rfl K
theorem V_astoreN (hi : mI k pc = (8, a, x, y, z)) (kk : V l D tys A k d mc ms post cells slots (pc + ln3 y) (stL x .null lv) st ws) : V l D tys A k d mc ms post cells slots pc lv (.null :: st) ws := by
  have t : ok8 k pc a x y z = true := by have t := tabOK k pc; rw [hi] at t; exact t
  intro p e R s m args below meth c H locs ls Q F hl hH hQ
  have K := fun ls' hl' => kk p e R s m args below meth c H locs ls' Q F hl' hH hQ
  obtain ⟨hx, hb, -, hown, hts, -⟩ := F
  unfold ok8 at t
  rw [Bool.and_eq_true] at t
  obtain ⟨t0, t⟩ := t
  have hn : x < mML k := Nat.blt_eq.mp t0
  rcases y with _ | y
  · have t := (Bool.and_eq_true _ _).mp t
    exact lv_astore_nN hx hb (dec_of t.2) (f4_val t.1) hl hn rfl K
  · exact lv_astoreN hx hb (dec_of t) hl hn rfl K
theorem V_iinc {v : Int32} (hi : mI k pc = (9, a, x, y, z)) (hv : (x, Value.int v) ∈ lv) (kk : V l D tys A k d mc ms post cells slots (pc + 3) (stL x (.int (v + Int32.ofInt a)) lv) st ws) : V l D tys A k d mc ms post cells slots pc lv st ws := by
  have t : ok9 k pc a x y z = true := by have t := tabOK k pc; rw [hi] at t; exact t
  intro p e R s m args below meth c H locs ls Q F hl hH hQ
  have K := fun ls' hl' => kk p e R s m args below meth c H locs ls' Q F hl' hH hQ
  obtain ⟨hx, hb, -, hown, hts, -⟩ := F
  unfold ok9 at t
  rw [Bool.and_eq_true, Bool.and_eq_true] at t
  have hn : x < mML k := Nat.blt_eq.mp t.1.1
  obtain ⟨j, hj⟩ := List.getElem?_of_mem hv
  exact lv_iinc hx hb (dec_of t.2) hl hj rfl hn rfl K
theorem V_goto (hi : mI k pc = (16, a, x, y, z)) (kk : V l D tys A k d mc ms post cells slots y lv st ws) : V l D tys A k d mc ms post cells slots pc lv st ws := by
  have t : ok16 k pc a x y z = true := by have t := tabOK k pc; rw [hi] at t; exact t
  intro p e R s m args below meth c H locs ls Q F hl hH hQ
  have K := kk p e R s m args below meth c H locs ls Q F hl hH hQ
  obtain ⟨hx, hb, -, hown, hts, -⟩ := F
  unfold ok16 at t
  have t := (Bool.and_eq_true _ _).mp t
  exact lv_goto hx hb (dec_of t.1) (of_decide_eq_true t.2) K
end VEE
end
section
section VEF
variable {l : Launch} {D : va_G} {tys : List (ClassId × FieldType)} {A : Nat → Prop} {k d mc ms : Nat} {post : Option Value → va_W → Prop} {cells slots pc : Nat} {lv : List (Nat × Value)} {st : List Value} {ws : va_W} {a : Int} {x y z : Nat}
noncomputable def ibF (x : Nat) (u v : Int32) : Int32 := match x with
  | 0 => u + v
  | 1 => u - v
  | 2 => u * v
  | 3 => u / v
  | 4 => u - u / v * v
  | 5 => u &&& v
  | 6 => u ||| v
  | 7 => u ^^^ v
  | 8 => u <<< (v &&& 31)
  | 9 => u >>> (v &&& 31)
  | _ => (u.toUInt32 >>> (v.toUInt32 &&& Int32.toUInt32 31)).toInt32
theorem V_ibin {u v : Int32} (hi : mI k pc = (10, a, x, y, z)) (hz : x = 3 ∨ x = 4 → ¬ v = 0) (kk : V l D tys A k d mc ms post cells slots (pc + 1) lv (.int (ibF x u v) :: st) ws) : V l D tys A k d mc ms post cells slots pc lv (.int v :: .int u :: st) ws := by
  have t : ok10 k pc a x y z = true := by have t := tabOK k pc; rw [hi] at t; exact t
  intro p e R s m args below meth c H locs ls Q F hl hH hQ
  have K := kk p e R s m args below meth c H locs ls Q F hl hH hQ
  obtain ⟨hx, hb, -, hown, hts, -⟩ := F
  unfold ok10 at t
  rcases x with _ | _ | _ | _ | _ | _ | _ | _ | _ | _ | _ | x
  · exact lv_iadd hx hb (dec_of t) K
  · exact lv_isub hx hb (dec_of t) K
  · exact lv_imul hx hb (dec_of t) K
  · exact lv_idiv hx hb (dec_of t) (hz (Or.inl rfl)) K
  · exact lv_irem hx hb (dec_of t) (hz (Or.inr rfl)) K
  · exact lv_iand hx hb (dec_of t) K
  · exact lv_ior hx hb (dec_of t) K
  · exact lv_ixor hx hb (dec_of t) K
  · exact lv_ishl hx hb (dec_of t) K
  · exact lv_ishr hx hb (dec_of t) K
  · exact lv_iushr hx hb (dec_of t) rfl K
  · exact absurd (show false = true from t) Bool.false_ne_true
noncomputable def lbF (x : Nat) (u v : Int64) : Int64 := match x with
  | 0 => u + v
  | 1 => u - v
  | 2 => u * v
  | 3 => u / v
  | 4 => u - u / v * v
  | 5 => u &&& v
  | 6 => u ||| v
  | _ => u ^^^ v
theorem V_lbin {u v : Int64} (hi : mI k pc = (11, a, x, y, z)) (hz : x = 3 ∨ x = 4 → ¬ v = 0) (kk : V l D tys A k d mc ms post cells slots (pc + 1) lv (.long (lbF x u v) :: st) ws) : V l D tys A k d mc ms post cells slots pc lv (.long v :: .long u :: st) ws := by
  have t : ok11 k pc a x y z = true := by have t := tabOK k pc; rw [hi] at t; exact t
  intro p e R s m args below meth c H locs ls Q F hl hH hQ
  have K := kk p e R s m args below meth c H locs ls Q F hl hH hQ
  obtain ⟨hx, hb, -, hown, hts, -⟩ := F
  unfold ok11 at t
  rcases x with _ | _ | _ | _ | _ | _ | _ | _ | x
  · exact lv_ladd hx hb (dec_of t) K
  · exact lv_lsub hx hb (dec_of t) K
  · exact lv_lmul hx hb (dec_of t) K
  · exact lv_ldiv hx hb (dec_of t) (hz (Or.inl rfl)) K
  · exact lv_lrem hx hb (dec_of t) (hz (Or.inr rfl)) K
  · exact lv_land hx hb (dec_of t) K
  · exact lv_lor hx hb (dec_of t) K
  · exact lv_lxor hx hb (dec_of t) K
  · exact absurd (show false = true from t) Bool.false_ne_true
noncomputable def lsF (x : Nat) (u : Int64) (v : Int32) : Int64 := match x with
  | 0 => u <<< (v.toInt64 &&& 63)
  | _ => u >>> (v.toInt64 &&& 63)
theorem V_lsh {u : Int64} {v : Int32} (hi : mI k pc = (25, a, x, y, z)) (kk : V l D tys A k d mc ms post cells slots (pc + 1) lv (.long (lsF x u v) :: st) ws) : V l D tys A k d mc ms post cells slots pc lv (.int v :: .long u :: st) ws := by
  have t : ok25 k pc a x y z = true := by have t := tabOK k pc; rw [hi] at t; exact t
  intro p e R s m args below meth c H locs ls Q F hl hH hQ
  have K := kk p e R s m args below meth c H locs ls Q F hl hH hQ
  obtain ⟨hx, hb, -, hown, hts, -⟩ := F
  unfold ok25 at t
  rcases x with _ | _ | x
  · exact lv_lshl hx hb (dec_of t) rfl K
  · exact lv_lshr hx hb (dec_of t) rfl K
  · exact absurd (show false = true from t) Bool.false_ne_true
theorem V_ineg {u : Int32} (hi : mI k pc = (12, a, 0, y, z)) (kk : V l D tys A k d mc ms post cells slots (pc + 1) lv (.int (-u) :: st) ws) : V l D tys A k d mc ms post cells slots pc lv (.int u :: st) ws := by
  have t : ok12 k pc a 0 y z = true := by have t := tabOK k pc; rw [hi] at t; exact t
  intro p e R s m args below meth c H locs ls Q F hl hH hQ
  have K := kk p e R s m args below meth c H locs ls Q F hl hH hQ
  obtain ⟨hx, hb, -, hown, hts, -⟩ := F
  exact lv_ineg hx hb (dec_of t) K
theorem V_i2l {u : Int32} (hi : mI k pc = (12, a, 1, y, z)) (kk : V l D tys A k d mc ms post cells slots (pc + 1) lv (.long u.toInt64 :: st) ws) : V l D tys A k d mc ms post cells slots pc lv (.int u :: st) ws := by
  have t : ok12 k pc a 1 y z = true := by have t := tabOK k pc; rw [hi] at t; exact t
  intro p e R s m args below meth c H locs ls Q F hl hH hQ
  have K := kk p e R s m args below meth c H locs ls Q F hl hH hQ
  obtain ⟨hx, hb, -, hown, hts, -⟩ := F
  exact lv_i2l hx hb (dec_of t) rfl K
theorem V_l2i {u : Int64} (hi : mI k pc = (12, a, 2, y, z)) (kk : V l D tys A k d mc ms post cells slots (pc + 1) lv (.int u.toInt32 :: st) ws) : V l D tys A k d mc ms post cells slots pc lv (.long u :: st) ws := by
  have t : ok12 k pc a 2 y z = true := by have t := tabOK k pc; rw [hi] at t; exact t
  intro p e R s m args below meth c H locs ls Q F hl hH hQ
  have K := kk p e R s m args below meth c H locs ls Q F hl hH hQ
  obtain ⟨hx, hb, -, hown, hts, -⟩ := F
  exact lv_l2i hx hb (dec_of t) rfl K
theorem V_i2b {u : Int32} (hi : mI k pc = (12, a, 3, y, z)) (kk : V l D tys A k d mc ms post cells slots (pc + 1) lv (.int u.toInt8.toInt32 :: st) ws) : V l D tys A k d mc ms post cells slots pc lv (.int u :: st) ws := by
  have t : ok12 k pc a 3 y z = true := by have t := tabOK k pc; rw [hi] at t; exact t
  intro p e R s m args below meth c H locs ls Q F hl hH hQ
  have K := kk p e R s m args below meth c H locs ls Q F hl hH hQ
  obtain ⟨hx, hb, -, hown, hts, -⟩ := F
  exact lv_i2b hx hb (dec_of t) rfl K
theorem V_i2s {u : Int32} (hi : mI k pc = (12, a, 4, y, z)) (kk : V l D tys A k d mc ms post cells slots (pc + 1) lv (.int u.toInt16.toInt32 :: st) ws) : V l D tys A k d mc ms post cells slots pc lv (.int u :: st) ws := by
  have t : ok12 k pc a 4 y z = true := by have t := tabOK k pc; rw [hi] at t; exact t
  intro p e R s m args below meth c H locs ls Q F hl hH hQ
  have K := kk p e R s m args below meth c H locs ls Q F hl hH hQ
  obtain ⟨hx, hb, -, hown, hts, -⟩ := F
  exact lv_i2s hx hb (dec_of t) rfl K
theorem V_lcmp {u v : Int64} (hi : mI k pc = (13, a, x, y, z)) (kk : V l D tys A k d mc ms post cells slots (pc + 1) lv (.int (lg_cmp u v) :: st) ws) : V l D tys A k d mc ms post cells slots pc lv (.long v :: .long u :: st) ws := by
  have t : ok13 k pc a x y z = true := by have t := tabOK k pc; rw [hi] at t; exact t
  intro p e R s m args below meth c H locs ls Q F hl hH hQ
  have K := kk p e R s m args below meth c H locs ls Q F hl hH hQ
  obtain ⟨hx, hb, -, hown, hts, -⟩ := F
  exact W.lcmp hx hb (dec_of t) K
noncomputable def cdP (x : Nat) (u v : Int32) : Prop := match x with
  | 0 => u = v
  | 1 => ¬ u = v
  | 2 => u < v
  | 3 => v ≤ u
  | 4 => v < u
  | _ => u ≤ v
theorem V_if {u : Int32} (hi : mI k pc = (14, a, x, y, z)) (kt : cdP x u 0 → V l D tys A k d mc ms post cells slots y lv st ws) (kf : ¬ cdP x u 0 → V l D tys A k d mc ms post cells slots (pc + 3) lv st ws) : V l D tys A k d mc ms post cells slots pc lv (.int u :: st) ws := by
  have t : ok14 k pc a x y z = true := by have t := tabOK k pc; rw [hi] at t; exact t
  intro p e R s m args below meth c H locs ls Q F hl hH hQ
  have Kt := fun h => kt h p e R s m args below meth c H locs ls Q F hl hH hQ
  have Kf := fun h => kf h p e R s m args below meth c H locs ls Q F hl hH hQ
  obtain ⟨hx, hb, -, hown, hts, -⟩ := F
  unfold ok14 at t
  rw [Bool.and_eq_true, Bool.and_eq_true] at t
  obtain ⟨⟨t1, t2⟩, t3⟩ := t
  have t2 := of_decide_eq_true t2
  have t3 := Nat.blt_eq.mp t3
  rcases x with _ | _ | _ | _ | _ | _ | x
  · exact lv_if_eq hx hb (dec_of t1) t2 Kt Kf
  · exact lv_if_ne hx hb (dec_of t1) t2 (fun h => Kt h) (fun h => Kf (fun g => g h))
  · exact lv_if_lt hx hb (dec_of t1) t2 Kt Kf
  · exact lv_if_ge hx hb (dec_of t1) t2 (fun h => Kt h) (fun h => Kf h)
  · exact lv_if_gt hx hb (dec_of t1) t2 (fun h => Kt h) (fun h => Kf h)
  · exact lv_if_le hx hb (dec_of t1) t2 (fun h => Kt h) (fun h => Kf h)
  · omega
theorem V_icmp {u v : Int32} (hi : mI k pc = (15, a, x, y, z)) (kt : cdP x u v → V l D tys A k d mc ms post cells slots y lv st ws) (kf : ¬ cdP x u v → V l D tys A k d mc ms post cells slots (pc + 3) lv st ws) : V l D tys A k d mc ms post cells slots pc lv (.int v :: .int u :: st) ws := by
  have t : ok15 k pc a x y z = true := by have t := tabOK k pc; rw [hi] at t; exact t
  intro p e R s m args below meth c H locs ls Q F hl hH hQ
  have Kt := fun h => kt h p e R s m args below meth c H locs ls Q F hl hH hQ
  have Kf := fun h => kf h p e R s m args below meth c H locs ls Q F hl hH hQ
  obtain ⟨hx, hb, -, hown, hts, -⟩ := F
  unfold ok15 at t
  rw [Bool.and_eq_true, Bool.and_eq_true] at t
  obtain ⟨⟨t1, t2⟩, t3⟩ := t
  have t2 := of_decide_eq_true t2
  have t3 := Nat.blt_eq.mp t3
  rcases x with _ | _ | _ | _ | _ | _ | x
  · exact lv_icmp_eq hx hb (dec_of t1) t2 Kt Kf
  · exact lv_icmp_ne hx hb (dec_of t1) t2 (fun h => Kt h) (fun h => Kf (fun g => g h))
  · exact lv_icmp_lt hx hb (dec_of t1) t2 Kt Kf
  · exact lv_icmp_ge hx hb (dec_of t1) t2 (fun h => Kt h) (fun h => Kf h)
  · exact lv_icmp_gt hx hb (dec_of t1) t2 (fun h => Kt h) (fun h => Kf h)
  · exact lv_icmp_le hx hb (dec_of t1) t2 (fun h => Kt h) (fun h => Kf h)
  · omega
theorem V_ret {r : Option Value} (h : RetAt k pc r) (hp : post r ws) : V l D tys A k d mc ms post mc ms pc lv r.toList ws := by
  intro p e R s m args below meth c H locs ls Q F hl hH hQ
  exact hQ pc ls r ws H locs h hp hH
theorem V_retI {v : Int32} (hi : mI k pc = (27, a, 0, y, z)) (hn : mRet k = some .boolean → v &&& 1 = v) (hp : post (some (.int v)) ws) : V l D tys A k d mc ms post mc ms pc lv [.int v] ws := by
  have t : ok27 k pc a 0 y z = true := by have t := tabOK k pc; rw [hi] at t; exact t
  have t : (dec k pc .ireturn 1 && (decide (mRet k = some .int) || decide (mRet k = some .boolean))) = true := t
  rw [Bool.and_eq_true, Bool.or_eq_true] at t
  rcases t.2 with h | h
  · have h := of_decide_eq_true h
    exact V_ret (r := some (.int v)) (Or.inl ⟨v, .int, rfl, dec_of t.1, h, rfl⟩) hp
  · have h := of_decide_eq_true h
    exact V_ret (r := some (.int v)) (Or.inl ⟨v, .boolean, rfl, dec_of t.1, h, by show Value.int (v &&& 1) = Value.int v; rw [hn h]⟩) hp
theorem V_retL {v : Int64} (hi : mI k pc = (27, a, 1, y, z)) (hp : post (some (.long v)) ws) : V l D tys A k d mc ms post mc ms pc lv [.long v] ws := by
  have t : ok27 k pc a 1 y z = true := by have t := tabOK k pc; rw [hi] at t; exact t
  have t : (dec k pc .lreturn 1 && decide (mRet k = some .long)) = true := t
  rw [Bool.and_eq_true] at t
  exact V_ret (r := some (.long v)) (Or.inr (Or.inl ⟨v, rfl, dec_of t.1, of_decide_eq_true t.2⟩)) hp
theorem V_retV (hi : mI k pc = (27, a, 2, y, z)) (hp : post none ws) : V l D tys A k d mc ms post mc ms pc lv [] ws := by
  have t : ok27 k pc a 2 y z = true := by have t := tabOK k pc; rw [hi] at t; exact t
  have t : (dec k pc .return_ 1 && decide (mRet k = none)) = true := t
  rw [Bool.and_eq_true] at t
  exact V_ret (r := none) (Or.inr (Or.inr (Or.inl ⟨rfl, dec_of t.1, of_decide_eq_true t.2⟩))) hp
theorem V_retA {v : Value} (hi : mI k pc = (27, a, 3, y, z)) (hv : v = .null ∨ ∃ q, v = .ref q) (hp : post (some v) ws) : V l D tys A k d mc ms post mc ms pc lv [v] ws := by
  have t : ok27 k pc a 3 y z = true := by have t := tabOK k pc; rw [hi] at t; exact t
  have t : (dec k pc .areturn 1 && decide (mRet k = some (.object "HalvedNames$Hill"))) = true := t
  rw [Bool.and_eq_true] at t
  exact V_ret (r := some v) (Or.inr (Or.inr (Or.inr ⟨v, _, rfl, hv, dec_of t.1, of_decide_eq_true t.2⟩))) hp
theorem V_dup {v : Value} (hi : mI k pc = (22, a, 0, y, z)) (hv : v.category = 1) (kk : V l D tys A k d mc ms post cells slots (pc + 1) lv (v :: v :: st) ws) : V l D tys A k d mc ms post cells slots pc lv (v :: st) ws := by
  have t : ok22 k pc a 0 y z = true := by have t := tabOK k pc; rw [hi] at t; exact t
  intro p e R s m args below meth c H locs ls Q F hl hH hQ
  have K := kk p e R s m args below meth c H locs ls Q F hl hH hQ
  obtain ⟨hx, hb, -, hown, hts, -⟩ := F
  exact lv_dup hx hb (dec_of t) hv K
theorem V_dup2 {v w : Value} (hi : mI k pc = (22, a, 1, y, z)) (hv : v.category = 1) (hw : w.category = 1) (kk : V l D tys A k d mc ms post cells slots (pc + 1) lv (v :: w :: v :: w :: st) ws) : V l D tys A k d mc ms post cells slots pc lv (v :: w :: st) ws := by
  have t : ok22 k pc a 1 y z = true := by have t := tabOK k pc; rw [hi] at t; exact t
  intro p e R s m args below meth c H locs ls Q F hl hH hQ
  have K := kk p e R s m args below meth c H locs ls Q F hl hH hQ
  obtain ⟨hx, hb, -, hown, hts, -⟩ := F
  exact lv_dup2_11 hx hb (dec_of t) hv hw K
theorem V_pop {v : Value} (hi : mI k pc = (22, a, 2, y, z)) (hv : v.category = 1) (kk : V l D tys A k d mc ms post cells slots (pc + 1) lv st ws) : V l D tys A k d mc ms post cells slots pc lv (v :: st) ws := by
  have t : ok22 k pc a 2 y z = true := by have t := tabOK k pc; rw [hi] at t; exact t
  intro p e R s m args below meth c H locs ls Q F hl hH hQ
  have K := kk p e R s m args below meth c H locs ls Q F hl hH hQ
  obtain ⟨hx, hb, -, hown, hts, -⟩ := F
  exact lv_pop hx hb (dec_of t) hv K
theorem V_null (hi : mI k pc = (31, a, x, y, z)) (kk : V l D tys A k d mc ms post cells slots (pc + 1) lv (.null :: st) ws) : V l D tys A k d mc ms post cells slots pc lv st ws := by
  have t : ok31 k pc a x y z = true := by have t := tabOK k pc; rw [hi] at t; exact t
  intro p e R s m args below meth c H locs ls Q F hl hH hQ
  have K := kk p e R s m args below meth c H locs ls Q F hl hH hQ
  obtain ⟨hx, hb, -, hown, hts, -⟩ := F
  exact lv_null hx hb (dec_of t) K
theorem V_nnR {q : Nat} (hi : mI k pc = (30, a, 1, y, z)) (kk : V l D tys A k d mc ms post cells slots y lv st ws) : V l D tys A k d mc ms post cells slots pc lv (.ref q :: st) ws := by
  have t : ok30 k pc a 1 y z = true := by have t := tabOK k pc; rw [hi] at t; exact t
  intro p e R s m args below meth c H locs ls Q F hl hH hQ
  have K := kk p e R s m args below meth c H locs ls Q F hl hH hQ
  obtain ⟨hx, hb, -, hown, hts, -⟩ := F
  have t : (dec k pc (.ifnonnull a) 3 && decide ((pc : Int) + a = (y : Int))) = true := t
  rw [Bool.and_eq_true] at t
  exact lv_ifnonnull hx hb (dec_of t.1) (of_decide_eq_true t.2) K
theorem V_nnN (hi : mI k pc = (30, a, 1, y, z)) (kk : V l D tys A k d mc ms post cells slots (pc + 3) lv st ws) : V l D tys A k d mc ms post cells slots pc lv (.null :: st) ws := by
  have t : ok30 k pc a 1 y z = true := by have t := tabOK k pc; rw [hi] at t; exact t
  intro p e R s m args below meth c H locs ls Q F hl hH hQ
  have K := kk p e R s m args below meth c H locs ls Q F hl hH hQ
  obtain ⟨hx, hb, -, hown, hts, -⟩ := F
  have t : (dec k pc (.ifnonnull a) 3 && decide ((pc : Int) + a = (y : Int))) = true := t
  rw [Bool.and_eq_true] at t
  exact lv_ifnonnullN hx hb (dec_of t.1) K
/-- a switch, by the place of the number among the targets -/
noncomputable def swT (k pc : Nat) (n : Int) : Nat := match mSw k pc with
  | (d, lo, ts) => if n < lo ∨ lo + ts.length ≤ n then d else ts.getD (n - lo).toNat d
theorem V_sw {u : Int32} (hi : mI k pc = (28, a, x, y, z)) (kk : V l D tys A k d mc ms post cells slots (swT k pc u.toInt) lv st ws) : V l D tys A k d mc ms post cells slots pc lv (.int u :: st) ws := by
  have t : ok28 k pc a x y z = true := by have t := tabOK k pc; rw [hi] at t; exact t
  intro p e R s m args below meth c H locs ls Q F hl hH hQ
  have K := kk p e R s m args below meth c H locs ls Q F hl hH hQ
  obtain ⟨hx, hb, -, hown, hts, -⟩ := F
  unfold swT at K
  unfold ok28 at t
  generalize mSw k pc = q1 at t K
  generalize mSwI k pc = q2 at t
  obtain ⟨d0, lo, ts⟩ := q1
  obtain ⟨doff, hi2, offs, n⟩ := q2
  simp only [Bool.and_eq_true, decide_eq_true_eq] at t
  obtain ⟨⟨⟨t1, t2⟩, t3⟩, t4⟩ := t
  dsimp only at K
  by_cases hc : u.toInt < lo ∨ lo + ts.length ≤ u.toInt
  · rw [if_pos hc] at K
    exact lv_tableOut hx hb (dec_of t1) (by omega) t2 K
  · rw [if_neg hc] at K
    have hlt : (u.toInt - lo).toNat < ts.length := by omega
    have e1 : (offs.toList.map (fun q => (pc : Int) + q))[(u.toInt - lo).toNat]? = some ((ts.getD (u.toInt - lo).toNat d0 : Nat) : Int) := by
      rw [t3, List.getElem?_map, List.getElem?_eq_getElem hlt]
      simp [List.getD, List.getElem?_eq_getElem hlt]
    rw [List.getElem?_map] at e1
    cases e2 : offs.toList[(u.toInt - lo).toNat]? with
    | none => rw [e2] at e1; cases e1
    | some off =>
      rw [e2] at e1
      have e1 : (pc : Int) + off = ((ts.getD (u.toInt - lo).toNat d0 : Nat) : Int) := Option.some.inj e1
      exact lv_tableIn hx hb (dec_of t1) (by omega) (by omega) (by rw [← Array.getElem?_toList]; exact e2) e1 K
theorem V_swl {u : Int32} (hi : mI k pc = (36, a, x, y, z)) (kk : V l D tys A k d mc ms post cells slots (swT k pc u.toInt) lv st ws) : V l D tys A k d mc ms post cells slots pc lv (.int u :: st) ws := by
  have t : ok36 k pc a x y z = true := by have t := tabOK k pc; rw [hi] at t; exact t
  intro p e R s m args below meth c H locs ls Q F hl hH hQ
  have K := kk p e R s m args below meth c H locs ls Q F hl hH hQ
  obtain ⟨hx, hb, -, hown, hts, -⟩ := F
  unfold swT at K
  unfold ok36 at t
  generalize mSw k pc = q1 at t K
  obtain ⟨d0, lo, ts⟩ := q1
  simp only [Bool.and_eq_true, decide_eq_true_eq] at t
  obtain ⟨t1, ⟨t2, t3⟩, t4⟩ := t
  subst t3; subst t4
  dsimp only [List.length_cons, List.length_nil] at K
  by_cases h0 : u.toInt = 0
  · rw [if_neg (by omega), h0] at K
    exact lv_lookup hx hb (off := (x : Int)) (tgt := pc + x) (dec_of t1) rfl (by rw [h0]; simp [Op.lookupswitch.offset]) (by omega) K
  · by_cases h1 : u.toInt = 1
    · rw [if_neg (by omega), h1] at K
      exact lv_lookup hx hb (off := (y : Int)) (tgt := pc + y) (dec_of t1) rfl (by rw [h1]; simp [Op.lookupswitch.offset]) (by omega) K
    · rw [if_pos (by omega)] at K
      exact lv_lookup hx hb (off := a) (tgt := d0) (dec_of t1) rfl (by simp [Op.lookupswitch.offset, h0, h1]; omega) t2 K
end VEF
end
section
noncomputable def ftyp (t : Nat) : FieldType := match t with
  | 0 => .int
  | 1 => .byte
  | 2 => .boolean
  | 3 => .long
  | _ => .object "HalvedNames$Hill"
noncomputable def clTy (ci : Nat) : Nat → FieldType := match ci with
  | 0 => tyX0
  | 1 => tyX1
  | 2 => tyX2
  | 3 => tyX3
  | 4 => tyX4
  | 5 => tyX5
  | 6 => tyX7
  | 7 => tyX8
  | 8 => tyX9
  | 9 => tyX10
  | 10 => tyX11
  | _ => tyX12
theorem cl_ty : ∀ (ci : Nat) (C : String) (T : u_T) (N : Nat), vwCl[ci]? = some (C, T, N) → ∀ j, j < N → parseFieldDescriptor (T j).2.2.1 = some (clTy ci j) := by
  intro ci C T N h
  match ci, h with
  | 0, h => cases h; exact tyX0_ok
  | 1, h => cases h; exact tyX1_ok
  | 2, h => cases h; exact tyX2_ok
  | 3, h => cases h; exact tyX3_ok
  | 4, h => cases h; exact tyX4_ok
  | 5, h => cases h; exact tyX5_ok
  | 6, h => cases h; exact tyX7_ok
  | 7, h => cases h; exact tyX8_ok
  | 8, h => cases h; exact tyX9_ok
  | 9, h => cases h; exact tyX10_ok
  | 10, h => cases h; exact tyX11_ok
  | 11, h => cases h; exact tyX12_ok
  | n + 12, h => simp [vwCl] at h
section VEG
variable {l : Launch} {D : va_G} {tys : List (ClassId × FieldType)} {A : Nat → Prop} {k d mc ms : Nat} {post : Option Value → va_W → Prop} {cells slots pc : Nat} {lv : List (Nat × Value)} {st : List Value} {ws : va_W} {a : Int} {x y z : Nat}
theorem V_get {b q0 : Nat} {fs : List Value} {v : Value} (hi : mI k pc = (17, a, x, y, z)) (he : ws[q0]? = some (b, .inr (y, fs))) (hv : fs[z]? = some v) (kk : V l D tys A k d mc ms post cells slots (pc + 3) lv (v :: st) ws) : V l D tys A k d mc ms post cells slots pc lv (.ref b :: st) ws := by
  have t : ok17 k pc a x y z = true := by have t := tabOK k pc; rw [hi] at t; exact t
  intro p e R s m args below meth c H locs ls Q F hl hH hQ
  have K := kk p e R s m args below meth c H locs ls Q F hl hH hQ
  obtain ⟨hx, hb, -, hown, hts, -, -, -, hK, -⟩ := F
  unfold ok17 at t
  cases hc : vwCl[y]? with
  | none => rw [hc] at t; exact absurd t (by simp)
  | some q =>
    obtain ⟨C, T, N⟩ := q
    rw [hc] at t
    simp only [Bool.and_eq_true, decide_eq_true_eq] at t
    obtain ⟨⟨⟨t1, t2⟩, t3⟩, t4⟩ := t
    exact va_get hx hb hts (cls_ok y C T N hc).1 hown hK.1 hH.1 q0 he hc z (Nat.blt_eq.mp t1) (hts _ (wAt_in t4)) (fun w h => by rw [t2] at h; exact h) hv (dec_of t3) K
theorem V_put {b q0 : Nat} {fs : List Value} {v : Value} (hi : mI k pc = (18, a, x, y, z)) (he : ws[q0]? = some (b, .inr (y, fs))) (hl0 : z < fs.length) (hfin : ∀ C T N, vwCl[y]? = some (C, T, N) → (T z).2.2.2 = false) (hn : narrow (clTy y z) v = v) (hf : fits (clTy y z) v = true) (kk : V l D tys A k d mc ms post cells slots (pc + 3) lv st (ws.set q0 (b, .inr (y, fs.set z v)))) : V l D tys A k d mc ms post cells slots pc lv (v :: .ref b :: st) ws := by
  have t : ok18 k pc a x y z = true := by have t := tabOK k pc; rw [hi] at t; exact t
  intro p e R s m args below meth c H locs ls Q F hl hH hQ
  have K := fun H1 locs1 h => kk p e R s m args below meth c H1 locs1 ls Q F hl h hQ
  obtain ⟨hx, hb, -, hown, hts, -, -, -, hK, -⟩ := F
  unfold ok18 at t
  cases hc : vwCl[y]? with
  | none => rw [hc] at t; exact absurd t (by simp)
  | some q =>
    obtain ⟨C, T, N⟩ := q
    rw [hc] at t
    simp only [Bool.and_eq_true, decide_eq_true_eq] at t
    obtain ⟨⟨⟨t1, t2⟩, t3⟩, t4⟩ := t
    have hz := Nat.blt_eq.mp t1
    obtain ⟨c1, c2, c3⟩ := cls_ok y C T N hc
    exact va_put hx hb hts c1 (clTy y) (fun j hj => cl_ty y C T N hc j hj) c3 hown hK.1 hH.1 hH.2.1 hH.2.2 q0 he hc z hz (hts _ (wAt_in t4)) (fun w h => by rw [t2] at h; exact h) (hfin C T N hc) (cl_ty y C T N hc z hz) hn hf hl0 (dec_of t3) (fun H1 locs1 h1 h2 h3 => K H1 locs1 ⟨h1, h2, h3⟩)
theorem V_putF {b q0 : Nat} {fs : List Value} {v : Value} (hi : mI k pc = (18, a, x, y, z)) (he : ws[q0]? = some (b, .inr (y, fs))) (hl0 : z < fs.length) (hfin : ∀ C T N, vwCl[y]? = some (C, T, N) → (T z).2.2.2 = true ∧ (T z).1 = mOwn k) (hin : (mY k).name = "<init>") (hn : narrow (clTy y z) v = v) (hf : fits (clTy y z) v = true) (kk : V l D tys A k d mc ms post cells slots (pc + 3) lv st (ws.set q0 (b, .inr (y, fs.set z v)))) : V l D tys A k d mc ms post cells slots pc lv (v :: .ref b :: st) ws := by
  have t : ok18 k pc a x y z = true := by have t := tabOK k pc; rw [hi] at t; exact t
  intro p e R s m args below meth c H locs ls Q F hl hH hQ
  have K := fun H1 locs1 h => kk p e R s m args below meth c H1 locs1 ls Q F hl h hQ
  obtain ⟨hx, hb, -, hown, hts, -, -, hnm, hK, -⟩ := F
  unfold ok18 at t
  cases hc : vwCl[y]? with
  | none => rw [hc] at t; exact absurd t (by simp)
  | some q =>
    obtain ⟨C, T, N⟩ := q
    rw [hc] at t
    simp only [Bool.and_eq_true, decide_eq_true_eq] at t
    obtain ⟨⟨⟨t1, t2⟩, t3⟩, t4⟩ := t
    have hz := Nat.blt_eq.mp t1
    obtain ⟨c1, c2, c3⟩ := cls_ok y C T N hc
    exact va_putF hx hb hts c1 (clTy y) (fun j hj => cl_ty y C T N hc j hj) c3 hown hK.1 hH.1 hH.2.1 hH.2.2 q0 he hc z hz (hts _ (wAt_in t4)) (fun w h => by rw [t2] at h; exact h) (hfin C T N hc).1 (hnm.trans hin) (hfin C T N hc).2 (cl_ty y C T N hc z hz) hn hf hl0 (dec_of t3) (fun H1 locs1 h1 h2 h3 => K H1 locs1 ⟨h1, h2, h3⟩)
theorem V_iald {b q0 n : Nat} {cA : ClassId} {f : Nat → Int32} {i : Int32} (hi : mI k pc = (19, a, 0, y, z)) (he : ws[q0]? = some (b, .inl (cA, n, .inl f))) (ht : tys[0]? = some (cA, .int)) (hin : vp_in i n) (kk : V l D tys A k d mc ms post cells slots (pc + 1) lv (.int (f i.toNatClampNeg) :: st) ws) : V l D tys A k d mc ms post cells slots pc lv (.int i :: .ref b :: st) ws := by
  have t : ok19 k pc a 0 y z = true := by have t := tabOK k pc; rw [hi] at t; exact t
  intro p e R s m args below meth c H locs ls Q F hl hH hQ
  have K := kk p e R s m args below meth c H locs ls Q F hl hH hQ
  obtain ⟨hx, hb, -, hown, hts, -, -, -, hK, -⟩ := F
  exact va_iald hx hb hK.1 hH.1 q0 0 he ht hin (dec_of t) K
theorem V_bald {b q0 n : Nat} {cA : ClassId} {f : Nat → Int32} {i : Int32} (hi : mI k pc = (19, a, 1, y, z)) (he : ws[q0]? = some (b, .inl (cA, n, .inl f))) (ht : tys[1]? = some (cA, .byte)) (hin : vp_in i n) (kk : V l D tys A k d mc ms post cells slots (pc + 1) lv (.int (f i.toNatClampNeg) :: st) ws) : V l D tys A k d mc ms post cells slots pc lv (.int i :: .ref b :: st) ws := by
  have t : ok19 k pc a 1 y z = true := by have t := tabOK k pc; rw [hi] at t; exact t
  intro p e R s m args below meth c H locs ls Q F hl hH hQ
  have K := kk p e R s m args below meth c H locs ls Q F hl hH hQ
  obtain ⟨hx, hb, -, hown, hts, -, -, -, hK, -⟩ := F
  exact va_bald hx hb hK.1 hH.1 q0 1 he ht hin (dec_of t) K
theorem V_zald {b q0 n : Nat} {cA : ClassId} {f : Nat → Int32} {i : Int32} (hi : mI k pc = (19, a, 1, y, z)) (he : ws[q0]? = some (b, .inl (cA, n, .inl f))) (ht : tys[2]? = some (cA, .boolean)) (hin : vp_in i n) (kk : V l D tys A k d mc ms post cells slots (pc + 1) lv (.int (f i.toNatClampNeg) :: st) ws) : V l D tys A k d mc ms post cells slots pc lv (.int i :: .ref b :: st) ws := by
  have t : ok19 k pc a 1 y z = true := by have t := tabOK k pc; rw [hi] at t; exact t
  intro p e R s m args below meth c H locs ls Q F hl hH hQ
  have K := kk p e R s m args below meth c H locs ls Q F hl hH hQ
  obtain ⟨hx, hb, -, hown, hts, -, -, -, hK, -⟩ := F
  exact va_zald hx hb hK.1 hH.1 q0 2 he ht hin (dec_of t) K
theorem V_lald {b q0 n : Nat} {cA : ClassId} {f : Nat → Int64} {i : Int32} (hi : mI k pc = (19, a, 2, y, z)) (he : ws[q0]? = some (b, .inl (cA, n, .inr (.inl f)))) (ht : tys[3]? = some (cA, .long)) (hin : vp_in i n) (kk : V l D tys A k d mc ms post cells slots (pc + 1) lv (.long (f i.toNatClampNeg) :: st) ws) : V l D tys A k d mc ms post cells slots pc lv (.int i :: .ref b :: st) ws := by
  have t : ok19 k pc a 2 y z = true := by have t := tabOK k pc; rw [hi] at t; exact t
  intro p e R s m args below meth c H locs ls Q F hl hH hQ
  have K := kk p e R s m args below meth c H locs ls Q F hl hH hQ
  obtain ⟨hx, hb, -, hown, hts, -, -, -, hK, -⟩ := F
  exact va_lald hx hb hK.1 hH.1 q0 3 he ht hin (dec_of t) K
theorem V_aald {b q0 n : Nat} {cA : ClassId} {f : Nat → Option Nat} {i : Int32} (hi : mI k pc = (19, a, 3, y, z)) (he : ws[q0]? = some (b, .inl (cA, n, .inr (.inr (.inr (.inr f)))))) (ht : tys[4]? = some (cA, .object "HalvedNames$Hill")) (hin : vp_in i n) (kk : V l D tys A k d mc ms post cells slots (pc + 1) lv (va_rf (f i.toNatClampNeg) :: st) ws) : V l D tys A k d mc ms post cells slots pc lv (.int i :: .ref b :: st) ws := by
  have t : ok19 k pc a 3 y z = true := by have t := tabOK k pc; rw [hi] at t; exact t
  intro p e R s m args below meth c H locs ls Q F hl hH hQ
  have K := kk p e R s m args below meth c H locs ls Q F hl hH hQ
  obtain ⟨hx, hb, -, hown, hts, -, -, -, hK, -⟩ := F
  exact va_aldq hx hb hK.1 hH.1 q0 4 he ht hin (dec_of t) K
theorem V_iast {b q0 n : Nat} {cA : ClassId} {f : Nat → Int32} {i v : Int32} (hi : mI k pc = (20, a, 0, y, z)) (he : ws[q0]? = some (b, .inl (cA, n, .inl f))) (ht : tys[0]? = some (cA, .int)) (hin : vp_in i n) (kk : V l D tys A k d mc ms post cells slots (pc + 1) lv st (ws.set q0 (b, .inl (cA, n, .inl (upd f i.toNatClampNeg v))))) : V l D tys A k d mc ms post cells slots pc lv (.int v :: .int i :: .ref b :: st) ws := by
  have t : ok20 k pc a 0 y z = true := by have t := tabOK k pc; rw [hi] at t; exact t
  intro p e R s m args below meth c H locs ls Q F hl hH hQ
  have K := fun H1 locs1 h => kk p e R s m args below meth c H1 locs1 ls Q F hl h hQ
  obtain ⟨hx, hb, -, hown, hts, -, -, -, hK, -⟩ := F
  exact va_iast hx hb hK.1 hH.1 hH.2.1 hH.2.2 q0 0 he ht hin (dec_of t) (fun H1 locs1 h1 h2 h3 => K H1 locs1 ⟨h1, h2, h3⟩)
theorem V_bast {b q0 n : Nat} {cA : ClassId} {f : Nat → Int32} {i v : Int32} (hi : mI k pc = (20, a, 1, y, z)) (he : ws[q0]? = some (b, .inl (cA, n, .inl f))) (ht : tys[1]? = some (cA, .byte)) (hin : vp_in i n) (kk : V l D tys A k d mc ms post cells slots (pc + 1) lv st (ws.set q0 (b, .inl (cA, n, .inl (upd f i.toNatClampNeg (vp_nar .byte v)))))) : V l D tys A k d mc ms post cells slots pc lv (.int v :: .int i :: .ref b :: st) ws := by
  have t : ok20 k pc a 1 y z = true := by have t := tabOK k pc; rw [hi] at t; exact t
  intro p e R s m args below meth c H locs ls Q F hl hH hQ
  have K := fun H1 locs1 h => kk p e R s m args below meth c H1 locs1 ls Q F hl h hQ
  obtain ⟨hx, hb, -, hown, hts, -, -, -, hK, -⟩ := F
  exact va_bast hx hb hK.1 hH.1 hH.2.1 hH.2.2 q0 1 he ht hin (dec_of t) (fun H1 locs1 h1 h2 h3 => K H1 locs1 ⟨h1, h2, h3⟩)
theorem V_zast {b q0 n : Nat} {cA : ClassId} {f : Nat → Int32} {i v : Int32} (hi : mI k pc = (20, a, 1, y, z)) (he : ws[q0]? = some (b, .inl (cA, n, .inl f))) (ht : tys[2]? = some (cA, .boolean)) (hin : vp_in i n) (kk : V l D tys A k d mc ms post cells slots (pc + 1) lv st (ws.set q0 (b, .inl (cA, n, .inl (upd f i.toNatClampNeg (vp_nar .boolean v)))))) : V l D tys A k d mc ms post cells slots pc lv (.int v :: .int i :: .ref b :: st) ws := by
  have t : ok20 k pc a 1 y z = true := by have t := tabOK k pc; rw [hi] at t; exact t
  intro p e R s m args below meth c H locs ls Q F hl hH hQ
  have K := fun H1 locs1 h => kk p e R s m args below meth c H1 locs1 ls Q F hl h hQ
  obtain ⟨hx, hb, -, hown, hts, -, -, -, hK, -⟩ := F
  exact va_zast hx hb hK.1 hH.1 hH.2.1 hH.2.2 q0 2 he ht hin (dec_of t) (fun H1 locs1 h1 h2 h3 => K H1 locs1 ⟨h1, h2, h3⟩)
theorem V_last {b q0 n : Nat} {cA : ClassId} {f : Nat → Int64} {i : Int32} {v : Int64} (hi : mI k pc = (20, a, 2, y, z)) (he : ws[q0]? = some (b, .inl (cA, n, .inr (.inl f)))) (ht : tys[3]? = some (cA, .long)) (hin : vp_in i n) (kk : V l D tys A k d mc ms post cells slots (pc + 1) lv st (ws.set q0 (b, .inl (cA, n, .inr (.inl (vp_updL f i.toNatClampNeg v)))))) : V l D tys A k d mc ms post cells slots pc lv (.long v :: .int i :: .ref b :: st) ws := by
  have t : ok20 k pc a 2 y z = true := by have t := tabOK k pc; rw [hi] at t; exact t
  intro p e R s m args below meth c H locs ls Q F hl hH hQ
  have K := fun H1 locs1 h => kk p e R s m args below meth c H1 locs1 ls Q F hl h hQ
  obtain ⟨hx, hb, -, hown, hts, -, -, -, hK, -⟩ := F
  exact va_last hx hb hK.1 hH.1 hH.2.1 hH.2.2 q0 3 he ht hin (dec_of t) (fun H1 locs1 h1 h2 h3 => K H1 locs1 ⟨h1, h2, h3⟩)
theorem V_alen {b q0 t0 : Nat} {cA : ClassId} {v : vp_A} {ty : FieldType} (hi : mI k pc = (21, a, x, y, z)) (he : ws[q0]? = some (b, .inl (cA, v))) (ht : tys[t0]? = some (cA, ty)) (kk : V l D tys A k d mc ms post cells slots (pc + 1) lv (.int (Int32.ofNat v.1) :: st) ws) : V l D tys A k d mc ms post cells slots pc lv (.ref b :: st) ws := by
  have t : ok21 k pc a x y z = true := by have t := tabOK k pc; rw [hi] at t; exact t
  intro p e R s m args below meth c H locs ls Q F hl hH hQ
  have K := kk p e R s m args below meth c H locs ls Q F hl hH hQ
  obtain ⟨hx, hb, -, hown, hts, -, -, -, hK, -⟩ := F
  exact va_alen hx hb hK.1 hH.1 q0 t0 he ht rfl (dec_of t) K
end VEG
end
section
noncomputable def QV (D : va_G) (tys : List (ClassId × FieldType)) (A : Nat → Prop) (post : Option Value → va_W → Prop) : Array Value → State → Outcome → State → Prop := fun _ st oc t => (∃ (r : Option Value) (ws' : va_W), oc = .returned r ∧ post r ws' ∧ va_P D vwCl ws' t.heap ∧ KK D tys A t ∧ va_D A ws') ∧ va_F A st t
noncomputable def PV (D : va_G) (tys : List (ClassId × FieldType)) (A : Nat → Prop) (vs : List Value) (ws : va_W) : Array Value → State → Prop := va_Pc vs (fun U => va_P D vwCl ws U.heap ∧ KK D tys A U ∧ va_D A ws ∧ ∀ q, U.heap.size ≤ q → A q)
/-- a contract: from the world ws and these values the method ends, with post -/
noncomputable def CT0 (l : Launch) (D : va_G) (tys : List (ClassId × FieldType)) (A : Nat → Prop) (k d mc ms : Nat) (vs : List Value) (ws : va_W) (post : Option Value → va_W → Prop) : Prop :=
  Met l (mY k) (mWs k) (rmD d mc ms) (PV D tys A vs ws) (QV D tys A post) mc ms A
noncomputable def CT (l : Launch) (D : va_G) (tys : List (ClassId × FieldType)) (A : Nat → Prop) (k d mc ms : Nat) (vs : List Value) (ws : va_W) (post : Option Value → va_W → Prop) : Prop := ∀ post' : Option Value → va_W → Prop, (∀ r w, post r w → post' r w) → CT0 l D tys A k d mc ms vs ws post'
theorem CT_post {l : Launch} {D : va_G} {tys : List (ClassId × FieldType)} {A : Nat → Prop} {k d mc ms : Nat} {vs : List Value} {ws : va_W} {post post' : Option Value → va_W → Prop} (h : CT l D tys A k d mc ms vs ws post) (hp : ∀ r w, post r w → post' r w) : CT l D tys A k d mc ms vs ws post' := fun q hq => h q (fun r w z => hq r w (hp r w z))
theorem okY_at (k : Nat) (h : k < 352) : okY k = true := cy_all k h
theorem y_facts {k : Nat} (h : k < 352) : Cond.code (mY k) (mCode k) (mML k) (mRet k) ∈ gtb ∧ Cond.initialized (mY k).cls ∈ gtb ∧ (mY k).cls ≠ "java/lang/invoke/MethodHandle" ∧ (mY k).cls ≠ "java/lang/invoke/VarHandle" ∧ (parseMethodDescriptor (mY k).desc).map (fun d => d.parameters.length) = some (mN k) ∧ plainFor (mY k) = true ∧ mML k ≤ 21 ∧ (mY k).cls = mOwn k := by
  have t := okY_at k h
  unfold okY at t
  simp only [Bool.and_eq_true, decide_eq_true_eq] at t
  obtain ⟨⟨⟨⟨⟨⟨⟨⟨t1, t2⟩, t3⟩, t4⟩, t5⟩, t6⟩, t7⟩, t8⟩, t9⟩ := t
  exact ⟨List.mem_filter.mpr ⟨tbl_in (tch_in (List.mem_of_getElem? (wc_all k h))), t1⟩, wAt_in t2, t3, t4, t5, t6, Nat.le_of_ble_eq_true t7, t8⟩
theorem y_virt {k : Nat} (h : k < 352) (hk : mKind k = 0) : Cond.instanceMethod (mY k) ∈ gtb ∧ Cond.selects (mY k).cls (mY k) (mY k) ∈ gtb := by
  have t := okY_at k h
  unfold okY at t
  rw [Bool.and_eq_true] at t
  have t := t.2
  rw [hk] at t
  have t : (wAt (mW k).2.2.1 (Cond.instanceMethod (mY k)) && selB k) = true := t
  rw [Bool.and_eq_true] at t
  exact ⟨wAt_in t.1, List.mem_filter.mpr ⟨selB_in t.2, rfl⟩⟩
theorem y_stat {k : Nat} (h : k < 352) (hk : mKind k = 1) : Cond.static (mY k) ∈ gtb := by
  have t := okY_at k h
  unfold okY at t
  rw [Bool.and_eq_true] at t
  have t := t.2
  rw [hk] at t
  exact wAt_in t
theorem y_spec {k : Nat} (h : k < 352) (hk : mKind k = 2) : Cond.instanceMethod (mY k) ∈ gtb ∧ (mY k).name = "<init>" := by
  have t := okY_at k h
  unfold okY at t
  rw [Bool.and_eq_true] at t
  have t := t.2
  rw [hk] at t
  have t : (wAt (mW k).2.2.1 (Cond.instanceMethod (mY k)) && decide ((mY k).name = "<init>")) = true := t
  rw [Bool.and_eq_true] at t
  exact ⟨wAt_in t.1, of_decide_eq_true t.2⟩
theorem ws_good {k : Nat} (h : k < 352) : GoodIn gtb (mWs k) := by
  intro w hw
  rcases List.mem_cons.mp hw with rfl | hw
  · exact lw_good_all _ (y_facts h).1
  · exact lw_good_all _ hw
/-- a walk from a method's entry is the body that the entry law wants -/
theorem ofW_ {p : Program} {l : Launch} {y : MethodName} {S : Spec} {cc : ByteArray} {maxL mc ms : Nat} {ret : Option FieldType} {e : Env} {s s₁ : State} {m : MethodId} {args : Array Value} {below : List Frame} {meth : Method} {c : Code} {Qc : Array Value → State → Outcome → State → Prop} {free : Addr → Prop} (B : BodyLoose p l y S cc maxL ret e s m args below meth c s₁) (h : W p l e S.room s m args below meth c s.heap [] 0 0 (MQ below Qc args s mc ms free) (entryFrame m args maxL)) : ∃ s₂ o, Steps p.tables e below (s₁.setTop (entryFrame m args maxL)) s₂ ∧ s₂.status = .running ∧ Ended s₂ below o ∧ (Qc args s o s₂ ∧ ∃ L, FrameEnd s o s₂ L mc ms ∧ ∀ q ∈ L, free q.base) := by
  obtain ⟨t, a1, o, b1, b2, b3⟩ := h s₁ (by rw [B.state]; rfl) (Stand.of_body B)
  exact ⟨t, o, a1, b1, b2, b3⟩
theorem CT_of_V {l : Launch} {D : va_G} {tys : List (ClassId × FieldType)} {A : Nat → Prop} {k d mc ms : Nat} {vs : List Value} {ws : va_W} {post : Option Value → va_W → Prop} (hk : k < 352) (hn : (lg_sl vs).length ≤ mML k) (h : V l D tys A k d mc ms post 0 0 0 (lv_args 0 vs) [] ws) : CT l D tys A k d mc ms vs ws post := by
  intro post' hpp
  replace h := V_post hpp h
  clear hpp
  revert h
  generalize post' = post
  intro h
  obtain ⟨y1, y2, y3, y4, y5, y6, y7, y8⟩ := y_facts hk
  unfold CT0
  refine MetFree.of_bodySF (code := mCode k) (maxLocals := mML k) (ret := mRet k) y6 (fun args s m hb hn => ?_) ?_
  · obtain ⟨meth, c, q1, q2, q3, q4, q5, q6, -, -⟩ := Cond.code_spec hn (atoms_spec (ws := mWs k) hb _ List.mem_cons_self)
    exact ⟨meth, c, q1, q2, q3, q4, q5, q6⟩
  intro p e s m args below meth c s₁ B hml hv _
  obtain ⟨rfl, hP, hK, hD, hA⟩ := hv
  refine ofW_ B ?_
  have hts := atoms_spec (ws := mWs k) B.pre
  have hown : s.vm.findClass (mOwn k) = some m.cls := by rw [← y8]; exact findClass_of_methodNamed B.named
  have hlocks := B.notSynchronized
  rw [lg_entry_eq]
  refine h p e _ s m _ below meth c s.heap [] _ _ ⟨B.exec, B.bytes, hml, hown, fun w hw => hts w (List.mem_cons_of_mem _ hw), B.returns, hlocks, (name_of_methodNamed B.named B.method).1, hK, Nat.le_refl _, Nat.le_refl _, Nat.le_refl _, Nat.le_refl _, hA⟩ (lv_entry vs hn) ⟨hP, hD, va_S.rf⟩ ?_
  intro pc' ls' r ws' H' locs' hr hpost hH
  have hq : ∀ t : State, t.heap = H' → s.WarmedH t.vm → QV D tys A post vs.toArray s (.returned r) t := fun t ht hw => ⟨⟨r, ws', rfl, hpost, by rw [ht]; exact hH.1, KK.moved hw (by rw [ht]; exact hH.2.2.2.1) hK, hH.2.1⟩, hH.2.2.F ht⟩
  rcases hr with ⟨v, ty, rfl, hd, h1, h2⟩ | ⟨v, rfl, hd, h1⟩ | ⟨rfl, hd, h1⟩ | ⟨v, n, rfl, hv, hd, h1⟩
  · exact W.zret B.exec B.bytes (B.returns.trans h1) h2 hq hH.2.2.2.2 hd hlocks
  · exact W.lret B.exec B.bytes (B.returns.trans h1) hq hH.2.2.2.2 hd hlocks
  · exact W.vret B.exec B.bytes (B.returns.trans h1) hq hH.2.2.2.2 hd hlocks
  · exact W.aret B.exec B.bytes (B.returns.trans h1) (Or.inl ⟨n, rfl⟩) hv hq hH.2.2.2.2 hd hlocks
section VEH
variable {l : Launch} {D : va_G} {tys : List (ClassId × FieldType)} {A : Nat → Prop}
theorem va_callQ {p : Program} {e : Env} {R : Room} {s : State} {m : MethodId} {args : Array Value} {below : List Frame} {meth : Method} {c : Code} {H : Heap} {locs : List Loc} {cells slots mc ms pc : Nat} {Q : State → Prop} {ls : Array Slot} {rest st0 : List Value} {a : Array Value} {post : Option Value → va_W → Prop}
    (hr : va_Run p l e R s m args below meth c H locs cells slots mc ms (F0 m pc ls st0) rest (QV D tys A post a) A) (hS : va_S A s.heap H locs)
    (kk : ∀ (r : Option Value) (ws' : va_W) (H1 : Heap) (locs1 : List Loc), post r ws' → va_P D vwCl ws' H1 → va_D A ws' → va_S A s.heap H1 locs1 → W p l e R s m args below meth c H1 locs1 (cells + mc) (slots + ms) Q (F0 m (pc + 3) ls (r.toList ++ rest))) : W p l e R s m args below meth c H locs cells slots Q (F0 m pc ls st0) := by
  intro T hT X
  obtain ⟨v, st₀, t, T', L, h0, X', hL, e1, e2, ⟨⟨r, ws', hv, hp, hP', hK', hD'⟩, hz, hk⟩, st⟩ := hr T hT X
  cases hv
  rw [h0] at hz hk
  obtain ⟨t2, a1, b1⟩ := kk _ ws' T'.heap (locs ++ L) hp (by rw [e1]; exact hP') hD'
    ⟨Nat.le_trans hS.1 (by rw [e1]; exact hz), fun q h1 h2 => by rw [e1, hk q (Nat.lt_of_lt_of_le h1 hS.1) h2]; exact hS.2.1 q h1 h2, fun q hq => by
      rcases List.mem_append.mp hq with h | h
      · exact hS.2.2 q h
      · exact hL q h⟩ T' rfl X'
  exact ⟨t2, st t2 a1, b1⟩
theorem PV_blind {vs : List Value} {ws : va_W} : FrameBlind (PV D tys A vs ws) := fun a U g mk q => by
  obtain ⟨q1, q2, q3, q4, q5⟩ := q
  exact ⟨q1, q2, KK.same (u := U) (U := U.calling g mk a) rfl rfl q3, q4, q5⟩
variable {k d mc ms : Nat} {post : Option Value → va_W → Prop} {cells slots pc : Nat} {lv : List (Nat × Value)} {st : List Value} {ws : va_W} {a : Int} {x y z : Nat}
/-- a call of a virtual method: the receiver's class is the method's -/
theorem V_virt {d' mc' ms' b q0 ci N : Nat} {T : u_T} {fs As : List Value} {post' : Option Value → va_W → Prop} (hi : mI k pc = (26, a, x, y, 0)) (hy : y < 352) (hc : CT l D tys A y d' mc' ms' (.ref b :: As) ws post') (hd : d' < d) (hn : As.length = mN y) (he : ws[q0]? = some (b, .inr (ci, fs))) (hcl : vwCl[ci]? = some ((mY y).cls, T, N)) (hst : (st.map fun v => v.category).sum ≤ 8) (hm : cells + mc' ≤ mc ∧ slots + ms' ≤ ms)
    (kk : ∀ (r : Option Value) (ws' : va_W), post' r ws' → V l D tys A k d mc ms post (cells + mc') (slots + ms') (pc + 3) lv (r.toList ++ st) ws') : V l D tys A k d mc ms post cells slots pc lv (As.reverse ++ .ref b :: st) ws := by
  have t : ok26 k pc a x y 0 = true := by have t := tabOK k pc; rw [hi] at t; exact t
  intro p e R s m args below meth c H locs ls Q F hl hH hQ
  have K := fun r ws' H1 locs1 hp h => kk r ws' hp p e R s m args below meth c H1 locs1 ls Q F hl h hQ
  obtain ⟨hx, hb, hml, hown, hts, hr, hlk, hnm, hK, hR1, hR2, hR3, hR4, hA⟩ := F
  have t : (Nat.beq (mKind y) 0 && wAt a (Cond.methodLink (mOwn k) x (mY y)) && dec k pc (.invokevirtual x) 3) = true := t
  rw [Bool.and_eq_true, Bool.and_eq_true] at t
  obtain ⟨⟨t1, t2⟩, t3⟩ := t
  have t1 : mKind y = 0 := Nat.eq_of_beq_eq_true t1
  obtain ⟨y1, y2, y3, y4, y5, y6, y7, y8⟩ := y_facts hy
  obtain ⟨v1, v2⟩ := y_virt hy t1
  have hG : GoodIn gtb (wsV (mOwn k) x (mY y).cls (mY y) (mWs y)) := by
    intro w hw
    have hw : w ∈ ([.methodLink (mOwn k) x (mY y), .instanceMethod (mY y), .selects (mY y).cls (mY y) (mY y), .initialized (mY y).cls] : List Cond) ++ mWs y := hw
    rcases List.mem_append.mp hw with hw | hw
    · simp only [List.mem_cons, List.not_mem_nil, or_false] at hw
      rcases hw with rfl | rfl | rfl | rfl
      · exact lw_good_all _ (wAt_in t2)
      · exact lw_good_all _ v1
      · exact lw_good_all _ v2
      · exact lw_good_all _ y2
    · exact ws_good hy w hw
  refine va_callQ (va_runV (n := mN y) (As := As) (rest := st) ⟨hx, hb, hml, hown, hts⟩ (hc _ (fun _ _ h => h)) (cwV (mN y) hts hG rfl rfl rfl ⟨rfl, y3, y4, y5⟩ ⟨?_, ?_⟩) ⟨PV_blind, va_recv hK.1 hH.1 hcl he, fun U hU hW => ⟨rfl, by rw [hU]; exact hH.1, KK.moved hW (by rw [hU]; exact hH.2.2.2.1) hK, hH.2.1, fun q hq => hA q (Nat.le_trans hH.2.2.1 (by rw [← hU]; exact hq))⟩⟩ rfl hn hl.1 rfl ?_ (dec_of t3) ⟨Nat.le_trans hm.1 hR3, Nat.le_trans hm.2 hR4⟩) hH.2.2 (fun r ws' H1 locs1 h1 h2 h3 h4 => K r ws' H1 locs1 h1 ⟨h2, h3, h4⟩)
  · show d' + 1 + 1 ≤ R.frames
    omega
  · show 8 + (mML y + 11) + 40 * (d' + 1) ≤ R.locals
    omega
  · show 2 * 0 + _ ≤ 8
    omega
theorem V_stat {d' mc' ms' : Nat} {As : List Value} {post' : Option Value → va_W → Prop} (hi : mI k pc = (26, a, x, y, 1)) (hy : y < 352) (hc : CT l D tys A y d' mc' ms' As ws post') (hd : d' < d) (hn : As.length = mN y) (hst : (st.map fun v => v.category).sum ≤ 8) (hm : cells + mc' ≤ mc ∧ slots + ms' ≤ ms)
    (kk : ∀ (r : Option Value) (ws' : va_W), post' r ws' → V l D tys A k d mc ms post (cells + mc') (slots + ms') (pc + 3) lv (r.toList ++ st) ws') : V l D tys A k d mc ms post cells slots pc lv (As.reverse ++ st) ws := by
  have t : ok26 k pc a x y 1 = true := by have t := tabOK k pc; rw [hi] at t; exact t
  intro p e R s m args below meth c H locs ls Q F hl hH hQ
  have K := fun r ws' H1 locs1 hp h => kk r ws' hp p e R s m args below meth c H1 locs1 ls Q F hl h hQ
  obtain ⟨hx, hb, hml, hown, hts, hr, hlk, hnm, hK, hR1, hR2, hR3, hR4, hA⟩ := F
  have t : (Nat.beq (mKind y) 1 && wAt a (Cond.methodLink (mOwn k) x (mY y)) && dec k pc (.invokestatic x) 3) = true := t
  rw [Bool.and_eq_true, Bool.and_eq_true] at t
  obtain ⟨⟨t1, t2⟩, t3⟩ := t
  have t1 : mKind y = 1 := Nat.eq_of_beq_eq_true t1
  obtain ⟨y1, y2, y3, y4, y5, y6, y7, y8⟩ := y_facts hy
  have v1 := y_stat hy t1
  have hG : GoodIn gtb (va_wsS (mOwn k) x (mY y) (mWs y)) := by
    intro w hw
    have hw : w ∈ ([.methodLink (mOwn k) x (mY y), .static (mY y), .initialized (mY y).cls] : List Cond) ++ mWs y := hw
    rcases List.mem_append.mp hw with hw | hw
    · simp only [List.mem_cons, List.not_mem_nil, or_false] at hw
      rcases hw with rfl | rfl | rfl
      · exact lw_good_all _ (wAt_in t2)
      · exact lw_good_all _ v1
      · exact lw_good_all _ y2
    · exact ws_good hy w hw
  refine va_callQ (va_runS (n := mN y) (As := As) (rest := st) ⟨hx, hb, hml, hown, hts⟩ (hc _ (fun _ _ h => h)) (va_cwS (mN y) hts hG rfl rfl rfl ⟨y3, y4, y5⟩ ⟨?_, ?_⟩) ⟨PV_blind, fun U hU hW => ⟨rfl, by rw [hU]; exact hH.1, KK.moved hW (by rw [hU]; exact hH.2.2.2.1) hK, hH.2.1, fun q hq => hA q (Nat.le_trans hH.2.2.1 (by rw [← hU]; exact hq))⟩⟩ rfl hn hl.1 rfl ?_ (dec_of t3) ⟨Nat.le_trans hm.1 hR3, Nat.le_trans hm.2 hR4⟩) hH.2.2 (fun r ws' H1 locs1 h1 h2 h3 h4 => K r ws' H1 locs1 h1 ⟨h2, h3, h4⟩)
  · show d' + 1 + 1 ≤ R.frames
    omega
  · show 8 + (mML y + 11) + 40 * (d' + 1) ≤ R.locals
    omega
  · show 2 * 0 + _ ≤ 8
    omega
theorem V_spec {d' mc' ms' b : Nat} {As : List Value} {post' : Option Value → va_W → Prop} (hi : mI k pc = (26, a, x, y, 2)) (hy : y < 352) (hrt : mRet y = none) (hc : CT l D tys A y d' mc' ms' (.ref b :: As) ws post') (hd : d' < d) (hn : As.length = mN y) (hst : (st.map fun v => v.category).sum ≤ 8) (hm : cells + mc' ≤ mc ∧ slots + ms' ≤ ms)
    (kk : ∀ (r : Option Value) (ws' : va_W), post' r ws' → V l D tys A k d mc ms post (cells + mc') (slots + ms') (pc + 3) lv (r.toList ++ st) ws') : V l D tys A k d mc ms post cells slots pc lv (As.reverse ++ .ref b :: st) ws := by
  have t : ok26 k pc a x y 2 = true := by have t := tabOK k pc; rw [hi] at t; exact t
  intro p e R s m args below meth c H locs ls Q F hl hH hQ
  have K := fun r ws' H1 locs1 hp h => kk r ws' hp p e R s m args below meth c H1 locs1 ls Q F hl h hQ
  obtain ⟨hx, hb, hml, hown, hts, hr, hlk, hnm, hK, hR1, hR2, hR3, hR4, hA⟩ := F
  have t : (Nat.beq (mKind y) 2 && wAt a (Cond.methodLink (mOwn k) x (mY y)) && dec k pc (.invokespecial x) 3) = true := t
  rw [Bool.and_eq_true, Bool.and_eq_true] at t
  obtain ⟨⟨t1, t2⟩, t3⟩ := t
  have t1 : mKind y = 2 := Nat.eq_of_beq_eq_true t1
  obtain ⟨y1, y2, y3, y4, y5, y6, y7, y8⟩ := y_facts hy
  obtain ⟨v1, v2⟩ := y_spec hy t1
  have hw : mWs y = Cond.code (mY y) (mCode y) (mML y) none :: gtb := by unfold mWs; rw [hrt]
  refine va_callQ (va_runI (n := mN y) (As := As) (rest := st) ⟨hx, hb, hml, hown, hts⟩ (hc _ (fun _ _ h => h)) (cwI (mN y) hts (ws_good hy) hw rfl rfl (hts _ y2) (hts _ (wAt_in t2)) (hts _ v1) v2 ⟨y3, y4, y5⟩ ⟨?_, ?_⟩) ⟨PV_blind, fun U hU hW => ⟨rfl, by rw [hU]; exact hH.1, KK.moved hW (by rw [hU]; exact hH.2.2.2.1) hK, hH.2.1, fun q hq => hA q (Nat.le_trans hH.2.2.1 (by rw [← hU]; exact hq))⟩⟩ rfl hn hl.1 rfl ?_ (dec_of t3) ⟨Nat.le_trans hm.1 hR3, Nat.le_trans hm.2 hR4⟩) hH.2.2 (fun r ws' H1 locs1 h1 h2 h3 h4 => K r ws' H1 locs1 h1 ⟨h2, h3, h4⟩)
  · show d' + 1 + 1 ≤ R.frames
    omega
  · show 8 + (mML y + 11) + 40 * (d' + 1) ≤ R.locals
    omega
  · show 2 * 0 + _ ≤ 8
    omega
end VEH
end
section
section VEX
variable {l : Launch} {D : va_G} {tys : List (ClassId × FieldType)} {A : Nat → Prop} {k d mc ms : Nat} {post : Option Value → va_W → Prop} {cells slots pc : Nat} {lv : List (Nat × Value)} {st : List Value} {ws : va_W} {a : Int} {x y z : Nat}
theorem V_gets (hi : mI k pc = (23, a, x, y, z)) (k0 : y = 0 → V l D tys A k d mc ms post cells slots (pc + 3) lv (.int 1 :: st) ws) (k1 : y ≠ 0 → V l D tys A k d mc ms post cells slots (pc + 3) lv (.ref (D.2 1000 200) :: st) ws) (k2 : y ≠ 0 → V l D tys A k d mc ms post cells slots (pc + 3) lv (.null :: st) ws) : V l D tys A k d mc ms post cells slots pc lv st ws := by
  have t : ok23 k pc a x y z = true := by have t := tabOK k pc; rw [hi] at t; exact t
  intro p e R s m args below meth c H locs ls Q F hl hH hQ
  unfold ok23 at t
  rw [Bool.and_eq_true] at t
  obtain ⟨t1, t2⟩ := t
  rcases y with _ | y
  · have K := k0 rfl p e R s m args below meth c H locs ls Q F hl hH hQ
    obtain ⟨hx, hb, -, hown, hts, -, -, -, hK, -⟩ := F
    exact va_gets hx hb hK.2.2.2.1 hH.2.2 hown (hts _ (wAt_in t2)) (fun _ h => h) (dec_of t1) K
  · have K := k1 (by omega) p e R s m args below meth c H locs ls Q F hl hH hQ
    have K2 := k2 (by omega) p e R s m args below meth c H locs ls Q F hl hH hQ
    obtain ⟨hx, hb, -, hown, hts, -, -, -, hK, -⟩ := F
    rcases hK.2.2.2.2 with hz | hz
    · exact va_gets hx hb hz hH.2.2 hown (hts _ (wAt_in t2)) (fun _ h => h) (dec_of t1) K2
    · exact va_gets hx hb hz hH.2.2 hown (hts _ (wAt_in t2)) (fun _ h => h) (dec_of t1) K
theorem V_ldcS (hi : mI k pc = (35, a, x, y, z)) (kk : V l D tys A k d mc ms post cells slots (pc + 2) lv (.ref (D.2 1000 y) :: st) ws) : V l D tys A k d mc ms post cells slots pc lv st ws := by
  have t : ok35 k pc a x y z = true := by have t := tabOK k pc; rw [hi] at t; exact t
  intro p e R s m args below meth c H locs ls Q F hl hH hQ
  have K := kk p e R s m args below meth c H locs ls Q F hl hH hQ
  obtain ⟨hx, hb, -, hown, hts, -, -, -, hK, -⟩ := F
  unfold ok35 at t
  rw [Bool.and_eq_true] at t
  obtain ⟨t1, t2⟩ := t
  cases hq : xsT[y]? with
  | none => rw [hq] at t2; cases t2
  | some q =>
    rw [hq] at t2
    dsimp only at t2
    rw [Bool.and_eq_true] at t2
    have e1 := of_decide_eq_true t2.1
    have e2 := Nat.eq_of_beq_eq_true t2.2
    have hZ := (hK.2.2.1 y q hq).1
    rw [e1, e2] at hZ
    exact va_ldcS hx hb hown hZ (dec_of t1) K
theorem V_getX {i : Nat} {q : String × Nat × String × List Int32} (hi : mI k pc = (39, a, x, y, z)) (hq : xsT[i]? = some q) (k0 : y = 0 → V l D tys A k d mc ms post cells slots (pc + 3) lv (.ref (D.2 1000 (100 + i)) :: st) ws) (k1 : y ≠ 0 → V l D tys A k d mc ms post cells slots (pc + 3) lv (.int 0 :: st) ws) : V l D tys A k d mc ms post cells slots pc lv (.ref (D.2 1000 i) :: st) ws := by
  have t : ok39 k pc a x y z = true := by have t := tabOK k pc; rw [hi] at t; exact t
  intro p e R s m args below meth c H locs ls Q F hl hH hQ
  unfold ok39 at t
  rw [Bool.and_eq_true] at t
  obtain ⟨t1, t2⟩ := t
  rcases y with _ | y
  · have K := k0 rfl p e R s m args below meth c H locs ls Q F hl hH hQ
    obtain ⟨hx, hb, -, hown, hts, -, -, -, hK, -⟩ := F
    exact vk_getf hx hb (hK.2.2.1 i q hq).2.2.2.1 hH.2.2 hown (hts _ (wAt_in t2)) (fun _ h => h) (dec_of t1) K
  · have K := k1 (by omega) p e R s m args below meth c H locs ls Q F hl hH hQ
    obtain ⟨hx, hb, -, hown, hts, -, -, -, hK, -⟩ := F
    exact vk_getf hx hb (hK.2.2.1 i q hq).2.2.1 hH.2.2 hown (hts _ (wAt_in t2)) (fun _ h => h) (dec_of t1) K
theorem V_lenX {i : Nat} {q : String × Nat × String × List Int32} (hi : mI k pc = (21, a, x, y, z)) (hq : xsT[i]? = some q) (kk : V l D tys A k d mc ms post cells slots (pc + 1) lv (.int (Int32.ofNat q.2.2.2.length) :: st) ws) : V l D tys A k d mc ms post cells slots pc lv (.ref (D.2 1000 (100 + i)) :: st) ws := by
  have t : ok21 k pc a x y z = true := by have t := tabOK k pc; rw [hi] at t; exact t
  intro p e R s m args below meth c H locs ls Q F hl hH hQ
  have K := kk p e R s m args below meth c H locs ls Q F hl hH hQ
  obtain ⟨hx, hb, -, hown, hts, -, -, -, hK, -⟩ := F
  exact va_tlen hx hb (hK.2.2.1 i q hq).2.2.2.2 hH.2.2 rfl (dec_of t) K
theorem V_bldX {i : Nat} {q : String × Nat × String × List Int32} {j : Int32} (hi : mI k pc = (19, a, 1, y, z)) (hq : xsT[i]? = some q) (hin : vp_in j q.2.2.2.length) (kk : V l D tys A k d mc ms post cells slots (pc + 1) lv (.int (q.2.2.2.getD j.toNatClampNeg 0) :: st) ws) : V l D tys A k d mc ms post cells slots pc lv (.int j :: .ref (D.2 1000 (100 + i)) :: st) ws := by
  have t : ok19 k pc a 1 y z = true := by have t := tabOK k pc; rw [hi] at t; exact t
  intro p e R s m args below meth c H locs ls Q F hl hH hQ
  have K := kk p e R s m args below meth c H locs ls Q F hl hH hQ
  obtain ⟨hx, hb, -, hown, hts, -, -, -, hK, -⟩ := F
  exact va_tb hx hb (hK.2.2.1 i q hq).2.2.2.2 hH.2.2 hin rfl (dec_of t) K
theorem V_retX {v : Int32} (hi : mI k pc = (38, a, x, y, z)) (h1 : v.toUInt32.toUInt16.toUInt32.toInt32 = v) (h2 : v.toInt8.toInt32 = v) (hp : post (some (.int v)) ws) : V l D tys A k d mc ms post mc ms pc lv [.int v] ws := by
  have t : ok38 k pc a x y z = true := by have t := tabOK k pc; rw [hi] at t; exact t
  unfold ok38 at t
  rw [Bool.and_eq_true, Bool.or_eq_true] at t
  rcases t.2 with h | h
  · have h := of_decide_eq_true h
    exact V_ret (r := some (.int v)) (Or.inl ⟨v, .char, rfl, dec_of t.1, h, by show Value.int _ = Value.int v; rw [h1]⟩) hp
  · have h := of_decide_eq_true h
    exact V_ret (r := some (.int v)) (Or.inl ⟨v, .byte, rfl, dec_of t.1, h, by show Value.int _ = Value.int v; rw [h2]⟩) hp
theorem V_i2c {u : Int32} (hi : mI k pc = (12, a, 5, y, z)) (kk : V l D tys A k d mc ms post cells slots (pc + 1) lv (.int (u.toUInt32 % 65536).toInt32 :: st) ws) : V l D tys A k d mc ms post cells slots pc lv (.int u :: st) ws := by
  have t : ok12 k pc a 5 y z = true := by have t := tabOK k pc; rw [hi] at t; exact t
  intro p e R s m args below meth c H locs ls Q F hl hH hQ
  have K := kk p e R s m args below meth c H locs ls Q F hl hH hQ
  obtain ⟨hx, hb, -, hown, hts, -⟩ := F
  exact lv_i2c hx hb (dec_of t) rfl K
theorem V_dupx1 {u v : Value} (hi : mI k pc = (22, a, 3, y, z)) (hv : v.category = 1) (hu : u.category = 1) (kk : V l D tys A k d mc ms post cells slots (pc + 1) lv (v :: u :: v :: st) ws) : V l D tys A k d mc ms post cells slots pc lv (v :: u :: st) ws := by
  have t : ok22 k pc a 3 y z = true := by have t := tabOK k pc; rw [hi] at t; exact t
  intro p e R s m args below meth c H locs ls Q F hl hH hQ
  have K := kk p e R s m args below meth c H locs ls Q F hl hH hQ
  obtain ⟨hx, hb, -, hown, hts, -⟩ := F
  exact lv_dup_x1 hx hb (dec_of t) hv hu K
theorem V_dupx2 {u v w : Value} (hi : mI k pc = (22, a, 4, y, z)) (hv : v.category = 1) (hu : u.category = 1) (hw : w.category = 1) (kk : V l D tys A k d mc ms post cells slots (pc + 1) lv (v :: u :: w :: v :: st) ws) : V l D tys A k d mc ms post cells slots pc lv (v :: u :: w :: st) ws := by
  have t : ok22 k pc a 4 y z = true := by have t := tabOK k pc; rw [hi] at t; exact t
  intro p e R s m args below meth c H locs ls Q F hl hH hQ
  have K := kk p e R s m args below meth c H locs ls Q F hl hH hQ
  obtain ⟨hx, hb, -, hown, hts, -⟩ := F
  exact lv_dup_x2 hx hb (dec_of t) hv hu hw K
/-- a call of a virtual method of a String constant -/
theorem V_virtX {d' mc' ms' i : Nat} {q : String × Nat × String × List Int32} {As : List Value} {post' : Option Value → va_W → Prop} (hi : mI k pc = (26, a, x, y, 0)) (hy : y < 352) (hc : CT l D tys A y d' mc' ms' (.ref (D.2 1000 i) :: As) ws post') (hd : d' < d) (hn : As.length = mN y) (hq : xsT[i]? = some q) (hcl : (mY y).cls = "java/lang/String") (hst : (st.map fun v => v.category).sum ≤ 8) (hm : cells + mc' ≤ mc ∧ slots + ms' ≤ ms)
    (kk : ∀ (r : Option Value) (ws' : va_W), post' r ws' → V l D tys A k d mc ms post (cells + mc') (slots + ms') (pc + 3) lv (r.toList ++ st) ws') : V l D tys A k d mc ms post cells slots pc lv (As.reverse ++ .ref (D.2 1000 i) :: st) ws := by
  have t : ok26 k pc a x y 0 = true := by have t := tabOK k pc; rw [hi] at t; exact t
  intro p e R s m args below meth c H locs ls Q F hl hH hQ
  have K := fun r ws' H1 locs1 hp h => kk r ws' hp p e R s m args below meth c H1 locs1 ls Q F hl h hQ
  obtain ⟨hx, hb, hml, hown, hts, hr, hlk, hnm, hK, hR1, hR2, hR3, hR4, hA⟩ := F
  have t : (Nat.beq (mKind y) 0 && wAt a (Cond.methodLink (mOwn k) x (mY y)) && dec k pc (.invokevirtual x) 3) = true := t
  rw [Bool.and_eq_true, Bool.and_eq_true] at t
  obtain ⟨⟨t1, t2⟩, t3⟩ := t
  have t1 : mKind y = 0 := Nat.eq_of_beq_eq_true t1
  obtain ⟨y1, y2, y3, y4, y5, y6, y7, y8⟩ := y_facts hy
  obtain ⟨v1, v2⟩ := y_virt hy t1
  have hG : GoodIn gtb (wsV (mOwn k) x (mY y).cls (mY y) (mWs y)) := by
    intro w hw
    have hw : w ∈ ([.methodLink (mOwn k) x (mY y), .instanceMethod (mY y), .selects (mY y).cls (mY y) (mY y), .initialized (mY y).cls] : List Cond) ++ mWs y := hw
    rcases List.mem_append.mp hw with hw | hw
    · simp only [List.mem_cons, List.not_mem_nil, or_false] at hw
      rcases hw with rfl | rfl | rfl | rfl
      · exact lw_good_all _ (wAt_in t2)
      · exact lw_good_all _ v1
      · exact lw_good_all _ v2
      · exact lw_good_all _ y2
    · exact ws_good hy w hw
  have hrc : ∃ cell : Cell, H[D.2 1000 i]? = some cell ∧ cell.vm.isStatics = false ∧ s.vm.findClass (mY y).cls = some cell.cls := by
    obtain ⟨cell, h1, h2, h3, -⟩ := ((hK.2.2.1 i q hq).2.1).kept hH.2.2.2.1
    exact ⟨cell, h1, h2, by rw [hcl]; exact h3⟩
  refine va_callQ (va_runV (n := mN y) (As := As) (rest := st) ⟨hx, hb, hml, hown, hts⟩ (hc _ (fun _ _ h => h)) (cwV (mN y) hts hG rfl rfl rfl ⟨rfl, y3, y4, y5⟩ ⟨?_, ?_⟩) ⟨PV_blind, hrc, fun U hU hW => ⟨rfl, by rw [hU]; exact hH.1, KK.moved hW (by rw [hU]; exact hH.2.2.2.1) hK, hH.2.1, fun q hq => hA q (Nat.le_trans hH.2.2.1 (by rw [← hU]; exact hq))⟩⟩ rfl hn hl.1 rfl ?_ (dec_of t3) ⟨Nat.le_trans hm.1 hR3, Nat.le_trans hm.2 hR4⟩) hH.2.2 (fun r ws' H1 locs1 h1 h2 h3 h4 => K r ws' H1 locs1 h1 ⟨h2, h3, h4⟩)
  · show d' + 1 + 1 ≤ R.frames
    omega
  · show 8 + (mML y + 11) + 40 * (d' + 1) ≤ R.locals
    omega
  · show 2 * 0 + _ ≤ 8
    omega
end VEX
end
