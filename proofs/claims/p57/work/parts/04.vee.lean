/-! what lies outside: the String constants (by their numbers in xsT: the object at x i, its row of bytes at x (100 + i)), two statics of the JDK -/
noncomputable def XK (A : Nat → Prop) (x : Nat → Nat) (U : State) (H : Heap) : Prop := (∀ (i : Nat) (q : String × Nat × String × List Int32), xsT[i]? = some q → vk_R q.1 q.2.1 q.2.2.1 (x i) U ∧ va_O "java/lang/String" (x i) A U H ∧ va_OF "java/lang/String" "coder" "B" (.int 0) (x i) A U H ∧ va_OF "java/lang/String" "value" "[B" (.ref (x (100 + i))) (x i) A U H ∧ va_T .byte (x (100 + i)) q.2.2.2.length (fun j => .int (q.2.2.2.getD j 0)) A U H) ∧ va_Z "java/lang/String" "COMPACT_STRINGS" "Z" (.int 1) A U H ∧ (va_Z "jdk/internal/util/Preconditions" "SIOOBE_FORMATTER" "Ljava/util/function/BiFunction;" .null A U H ∨ va_Z "jdk/internal/util/Preconditions" "SIOOBE_FORMATTER" "Ljava/util/function/BiFunction;" (.ref (x 200)) A U H)
theorem XK.moved {A : Nat → Prop} {x : Nat → Nat} {s U : State} (hW : s.WarmedH U.vm) (hq : ∀ a : Nat, a < s.heap.size → ¬ A a → U.heap[a]? = s.heap[a]?) (h : XK A x s s.heap) : XK A x U U.heap :=
  ⟨fun i q hi => ⟨vk_R.warm hW (h.1 i q hi).1, (va_O.moved hW.alike (h.1 i q hi).2.1).kept hq, (va_OF.moved hW.alike (h.1 i q hi).2.2.1).kept hq, (va_OF.moved hW.alike (h.1 i q hi).2.2.2.1).kept hq, (va_T.moved hW.alike (h.1 i q hi).2.2.2.2).kept hq⟩, (va_Z.moved hW.alike h.2.1).kept hq, h.2.2.imp (fun h => (va_Z.moved hW.alike h).kept hq) (fun h => (va_Z.moved hW.alike h).kept hq)⟩
theorem XK.same {A : Nat → Prop} {x : Nat → Nat} {s U : State} (hv : U.vm = s.vm) (hh : U.heap = s.heap) (h : XK A x s s.heap) : XK A x U U.heap := by
  have ha : s.vm.Alike U.vm := by rw [hv]; exact Vm.Alike.refl _
  rw [hh]
  exact ⟨fun i q hi => ⟨vk_R.same hv (h.1 i q hi).1, va_O.moved ha (h.1 i q hi).2.1, va_OF.moved ha (h.1 i q hi).2.2.1, va_OF.moved ha (h.1 i q hi).2.2.2.1, va_T.moved ha (h.1 i q hi).2.2.2.2⟩, va_Z.moved ha h.2.1, h.2.2.imp (va_Z.moved ha) (va_Z.moved ha)⟩
noncomputable def KK (D : va_G) (tys : List (ClassId × FieldType)) (A : Nat → Prop) (U : State) : Prop := va_K D vwCl tys U ∧ va_AO "HalvedNames$Hill" U ∧ XK A (D.2 1000) U U.heap
theorem KK.moved {D : va_G} {tys : List (ClassId × FieldType)} {A : Nat → Prop} {u U : State} (hW : u.WarmedH U.vm) (hq : ∀ a : Nat, a < u.heap.size → ¬ A a → U.heap[a]? = u.heap[a]?) (h : KK D tys A u) : KK D tys A U := ⟨va_K.moved hW.alike h.1, va_AO.moved hW.alike h.2.1, XK.moved hW hq h.2.2⟩
theorem KK.same {D : va_G} {tys : List (ClassId × FieldType)} {A : Nat → Prop} {u U : State} (hv : U.vm = u.vm) (hh : U.heap = u.heap) (h : KK D tys A u) : KK D tys A U := by
  have ha : u.vm.Alike U.vm := by rw [hv]; exact Vm.Alike.refl _
  exact ⟨va_K.moved ha h.1, va_AO.moved ha h.2.1, XK.same hv hh h.2.2⟩
noncomputable def mWs (k : Nat) : List Cond := Cond.code (mY k) (mCode k) (mML k) (mRet k) :: gtb
noncomputable def rmD (d mc ms : Nat) : Room := { frames := d + 1, cells := mc, slots := ms, locals := 40 * (d + 1) }
theorem lw_good_all : ∀ w ∈ gtb, w ∈ gtb ∧ ((w.onTables && w.keeps) = true ∨ ∃ ty, w = .arrayClass ty) := fun w hw => ⟨hw, good_of_word (List.mem_filter.mp hw).2⟩
theorem tbl_in {w : Cond} (h : w ∈ tables_1) : w ∈ lw_tbl := by unfold lw_tbl; exact List.mem_append_right _ h
theorem tch_in {i : Nat} {w : Cond} (h : w ∈ tch i) : w ∈ tables_1 := by
  unfold tch at h
  unfold tables_1
  cases h1 : Nat.blt i 240 with
  | true => rw [h1, cond_true] at h; simp [h]
  | false =>
  rw [h1, cond_false] at h
  cases h2 : Nat.blt i 480 with
  | true => rw [h2, cond_true] at h; simp [h]
  | false =>
  rw [h2, cond_false] at h
  cases h3 : Nat.blt i 720 with
  | true => rw [h3, cond_true] at h; simp [h]
  | false =>
  rw [h3, cond_false] at h
  cases h4 : Nat.blt i 960 with
  | true => rw [h4, cond_true] at h; simp [h]
  | false =>
  rw [h4, cond_false] at h
  cases h5 : Nat.blt i 1200 with
  | true => rw [h5, cond_true] at h; simp [h]
  | false =>
  rw [h5, cond_false] at h
  cases h6 : Nat.blt i 1440 with
  | true => rw [h6, cond_true] at h; simp [h]
  | false =>
  rw [h6, cond_false] at h
  cases h7 : Nat.blt i 1680 with
  | true => rw [h7, cond_true] at h; simp [h]
  | false =>
  rw [h7, cond_false] at h
  cases h8 : Nat.blt i 1920 with
  | true => rw [h8, cond_true] at h; simp [h]
  | false =>
  rw [h8, cond_false] at h
  simp [h]
theorem wAt_in {i : Int} {w : Cond} (h : wAt i w = true) : w ∈ gtb := by
  unfold wAt at h
  rw [Bool.and_eq_true] at h
  exact List.mem_filter.mpr ⟨tbl_in (tch_in (List.mem_of_getElem? (of_decide_eq_true h.1))), h.2⟩
theorem bif_t {α : Type} {b : Bool} {x y : α} (h : b = true) : (bif b then x else y) = x := by rw [h]; rfl
theorem bif_f {α : Type} {b : Bool} {x y : α} (h : b = false) : (bif b then x else y) = y := by rw [h]; rfl
theorem f4_val {x : Nat} (h : Nat.blt x 4 = true) : ((f4 x : Fin 4) : Nat) = x := by
  have h : x < 4 := Nat.blt_eq.mp h
  match x, h with
  | 0, _ => rfl
  | 1, _ => rfl
  | 2, _ => rfl
  | 3, _ => rfl
theorem dec_of {k pc n : Nat} {i : Instr} (h : dec k pc i n = true) : decode (mCode k) pc = .ok (i, n) := decF_ok h
noncomputable def Fix (D : va_G) (tys : List (ClassId × FieldType)) (A : Nat → Prop) (k d mc ms : Nat) (p : Program) (R : Room) (s : State) (m : MethodId) (args : Array Value) (meth : Method) (c : Code) : Prop :=
  p.tables.exec = Jvm.exec ∧ c.code = mCode k ∧ c.maxLocals = mML k ∧ s.vm.findClass (mOwn k) = some m.cls ∧ (∀ w ∈ gtb, w.before args s = true) ∧ meth.sig.returnType = mRet k ∧ meth.locks = false ∧ meth.name = (mY k).name ∧ KK D tys A s ∧ d + 1 ≤ R.frames ∧ 40 * (d + 1) ≤ R.locals ∧ mc ≤ R.cells ∧ ms ≤ R.slots ∧ (∀ q, s.heap.size ≤ q → A q)
noncomputable def RetAt (k pc : Nat) (r : Option Value) : Prop :=
  (∃ (x : Int32) (ty : FieldType), r = some (.int x) ∧ decode (mCode k) pc = .ok (.ireturn, 1) ∧ mRet k = some ty ∧ narrow ty (.int x) = .int x)
  ∨ (∃ x : Int64, r = some (.long x) ∧ decode (mCode k) pc = .ok (.lreturn, 1) ∧ mRet k = some .long)
  ∨ (r = none ∧ decode (mCode k) pc = .ok (.return_, 1) ∧ mRet k = none)
  ∨ (∃ (v : Value) (n : String), r = some v ∧ (v = .null ∨ ∃ a, v = .ref a) ∧ decode (mCode k) pc = .ok (.areturn, 1) ∧ mRet k = some (.object n))
noncomputable abbrev Hp (D : va_G) (A : Nat → Prop) (s : State) (ws : va_W) (H : Heap) (locs : List Loc) : Prop := va_P D vwCl ws H ∧ va_D A ws ∧ va_S A s.heap H locs
noncomputable def V (l : Launch) (D : va_G) (tys : List (ClassId × FieldType)) (A : Nat → Prop) (k d mc ms : Nat) (post : Option Value → va_W → Prop) (cells slots pc : Nat) (lv : List (Nat × Value)) (st : List Value) (ws : va_W) : Prop :=
  ∀ (p : Program) (e : Env) (R : Room) (s : State) (m : MethodId) (args : Array Value) (below : List Frame) (meth : Method) (c : Code) (H : Heap) (locs : List Loc) (ls : Array Slot) (Q : State → Prop),
    Fix D tys A k d mc ms p R s m args meth c → lv_has ls (mML k) lv → Hp D A s ws H locs →
    (∀ (pc' : Nat) (ls' : Array Slot) (r : Option Value) (ws' : va_W) (H' : Heap) (locs' : List Loc), RetAt k pc' r → post r ws' → Hp D A s ws' H' locs' → W p l e R s m args below meth c H' locs' mc ms Q (F0 m pc' ls' r.toList)) →
    W p l e R s m args below meth c H locs cells slots Q (F0 m pc ls st)
section VEE
variable {l : Launch} {D : va_G} {tys : List (ClassId × FieldType)} {A : Nat → Prop} {k d mc ms : Nat} {post : Option Value → va_W → Prop} {cells slots pc : Nat} {lv : List (Nat × Value)} {st : List Value} {ws : va_W} {a : Int} {x y z : Nat}
theorem V_sub {lv' : List (Nat × Value)} (h : ∀ q ∈ lv', q ∈ lv) (kk : V l D tys A k d mc ms post cells slots pc lv' st ws) : V l D tys A k d mc ms post cells slots pc lv st ws := by
  intro p e R s m args below meth c H locs ls Q F hl hH hQ
  exact kk p e R s m args below meth c H locs ls Q F ⟨hl.1, hl.2.1, fun q hq => hl.2.2 q (h q hq)⟩ hH hQ
theorem V_post {post' : Option Value → va_W → Prop} (h : ∀ r ws', post' r ws' → post r ws') (kk : V l D tys A k d mc ms post' cells slots pc lv st ws) : V l D tys A k d mc ms post cells slots pc lv st ws := by
  intro p e R s m args below meth c H locs ls Q F hl hH hQ
  exact kk p e R s m args below meth c H locs ls Q F hl hH (fun pc' ls' r ws' H' locs' h1 h2 h3 => hQ pc' ls' r ws' H' locs' h1 (h r ws' h2) h3)
theorem V_wide {cells' slots' : Nat} (h1 : cells ≤ cells') (h2 : slots ≤ slots') (kk : V l D tys A k d mc ms post cells' slots' pc lv st ws) : V l D tys A k d mc ms post cells slots pc lv st ws := by
  intro p e R s m args below meth c H locs ls Q F hl hH hQ
  exact W.widen h1 h2 (kk p e R s m args below meth c H locs ls Q F hl hH hQ)
noncomputable def ln1 (x : Nat) : Nat := bif Nat.beq x 0 then 1 else bif Nat.beq x 1 then 2 else bif Nat.beq x 2 then 3 else bif Nat.beq x 3 then 2 else 3
theorem V_ipush (hi : mI k pc = (1, a, x, y, z)) (kk : V l D tys A k d mc ms post cells slots (pc + ln1 x) lv (.int (Int32.ofInt a) :: st) ws) : V l D tys A k d mc ms post cells slots pc lv st ws := by
  have t : ok1 k pc a x y z = true := by have t := tabOK k pc; rw [hi] at t; exact t
  intro p e R s m args below meth c H locs ls Q F hl hH hQ
  have K := kk p e R s m args below meth c H locs ls Q F hl hH hQ
  obtain ⟨hx, hb, -, hown, hts, -⟩ := F
  unfold ok1 at t
  rw [Bool.and_eq_true] at t
  obtain ⟨-, t⟩ := t
  rcases x with _ | _ | _ | _ | _ | x
  · exact lv_iconst hx hb (dec_of t) rfl K
  · have t := (Bool.and_eq_true _ _).mp t
    exact lv_bipush hx hb (dec_of t.1) (of_decide_eq_true t.2) K
  · have t := (Bool.and_eq_true _ _).mp t
    exact lv_sipush hx hb (dec_of t.1) (of_decide_eq_true t.2) K
  · have t := (Bool.and_eq_true _ _).mp t
    exact lv_ldc hx hb hown (hts _ (wAt_in t.2)) (dec_of t.1) K
  · have t := (Bool.and_eq_true _ _).mp t
    exact lv_ldcw hx hb hown (hts _ (wAt_in t.2)) (dec_of t.1) K
  · exact absurd t (by simp)
noncomputable def ln2 (x : Nat) : Nat := bif Nat.beq x 0 then 1 else 3
theorem V_lpush (hi : mI k pc = (2, a, x, y, z)) (kk : V l D tys A k d mc ms post cells slots (pc + ln2 x) lv (.long (Int64.ofInt a) :: st) ws) : V l D tys A k d mc ms post cells slots pc lv st ws := by
  have t : ok2 k pc a x y z = true := by have t := tabOK k pc; rw [hi] at t; exact t
  intro p e R s m args below meth c H locs ls Q F hl hH hQ
  have K := kk p e R s m args below meth c H locs ls Q F hl hH hQ
  obtain ⟨hx, hb, -, hown, hts, -⟩ := F
  unfold ok2 at t
  rw [Bool.and_eq_true] at t
  obtain ⟨-, t⟩ := t
  rcases x with _ | x
  · by_cases h0 : a = 0
    · subst h0
      exact lv_lconst hx hb (dec_of t) rfl K
    · have e0 : decide (a = 0) = false := decide_eq_false h0
      have t : (bif decide (a = 0) then dec k pc (.lconst 0) 1 else decide (a = 1) && dec k pc (.lconst 1) 1) = true := t
      rw [bif_f e0] at t
      have t := (Bool.and_eq_true _ _).mp t
      have h1 : a = 1 := of_decide_eq_true t.1
      subst h1
      exact lv_lconst hx hb (dec_of t.2) rfl K
  · have t := (Bool.and_eq_true _ _).mp t
    exact lv_ldc2 hx hb hown (hts _ (wAt_in t.2)) (dec_of t.1) K
noncomputable def ln3 (y : Nat) : Nat := bif Nat.beq y 0 then 1 else 2
theorem V_iload {v : Int32} (hi : mI k pc = (3, a, x, y, z)) (hv : (x, Value.int v) ∈ lv) (kk : V l D tys A k d mc ms post cells slots (pc + ln3 y) lv (.int v :: st) ws) : V l D tys A k d mc ms post cells slots pc lv st ws := by
  have t : ok3 k pc a x y z = true := by have t := tabOK k pc; rw [hi] at t; exact t
  intro p e R s m args below meth c H locs ls Q F hl hH hQ
  have K := kk p e R s m args below meth c H locs ls Q F hl hH hQ
  obtain ⟨hx, hb, -, hown, hts, -⟩ := F
  have hg := hl.2.2 _ hv
  unfold ok3 at t
  rcases y with _ | y
  · have t := (Bool.and_eq_true _ _).mp t
    exact lv_iload_n hx hb (dec_of t.2) (f4_val t.1) hg K
  · exact lv_iload hx hb (dec_of t) hg K
theorem V_lload {v : Int64} (hi : mI k pc = (4, a, x, y, z)) (hv : (x, Value.long v) ∈ lv) (kk : V l D tys A k d mc ms post cells slots (pc + ln3 y) lv (.long v :: st) ws) : V l D tys A k d mc ms post cells slots pc lv st ws := by
  have t : ok4 k pc a x y z = true := by have t := tabOK k pc; rw [hi] at t; exact t
  intro p e R s m args below meth c H locs ls Q F hl hH hQ
  have K := kk p e R s m args below meth c H locs ls Q F hl hH hQ
  obtain ⟨hx, hb, -, hown, hts, -⟩ := F
  have hg := hl.2.2 _ hv
  unfold ok4 at t
  rcases y with _ | y
  · have t := (Bool.and_eq_true _ _).mp t
    exact lv_lload_n hx hb (dec_of t.2) (f4_val t.1) hg K
  · exact lv_lload hx hb (dec_of t) hg K
theorem V_aload {v : Nat} (hi : mI k pc = (5, a, x, y, z)) (hv : (x, Value.ref v) ∈ lv) (kk : V l D tys A k d mc ms post cells slots (pc + ln3 y) lv (.ref v :: st) ws) : V l D tys A k d mc ms post cells slots pc lv st ws := by
  have t : ok5 k pc a x y z = true := by have t := tabOK k pc; rw [hi] at t; exact t
  intro p e R s m args below meth c H locs ls Q F hl hH hQ
  have K := kk p e R s m args below meth c H locs ls Q F hl hH hQ
  obtain ⟨hx, hb, -, hown, hts, -⟩ := F
  have hg := hl.2.2 _ hv
  unfold ok5 at t
  rcases y with _ | y
  · have t := (Bool.and_eq_true _ _).mp t
    exact lv_aload_n hx hb (dec_of t.2) (f4_val t.1) hg K
  · exact lv_aload hx hb (dec_of t) hg K
theorem V_aloadN (hi : mI k pc = (5, a, x, y, z)) (hv : (x, Value.null) ∈ lv) (kk : V l D tys A k d mc ms post cells slots (pc + ln3 y) lv (.null :: st) ws) : V l D tys A k d mc ms post cells slots pc lv st ws := by
  have t : ok5 k pc a x y z = true := by have t := tabOK k pc; rw [hi] at t; exact t
  intro p e R s m args below meth c H locs ls Q F hl hH hQ
  have K := kk p e R s m args below meth c H locs ls Q F hl hH hQ
  obtain ⟨hx, hb, -, hown, hts, -⟩ := F
  have hg := hl.2.2 _ hv
  unfold ok5 at t
  rcases y with _ | y
  · have t := (Bool.and_eq_true _ _).mp t
    exact lv_aload_nN hx hb (dec_of t.2) (f4_val t.1) hg K
  · exact lv_aloadN hx hb (dec_of t) hg K
noncomputable def stL (i : Nat) (v : Value) (lv : List (Nat × Value)) : List (Nat × Value) := (i, v) :: lv.filter (fun q => !(q.1 == i) && !(q.1 + 1 == i && q.2.category == 2))
noncomputable def stL2 (i : Nat) (v : Value) (lv : List (Nat × Value)) : List (Nat × Value) := (i, v) :: lv.filter (fun q => !(q.1 == i) && (!(q.1 == i + 1) && !(q.1 + 1 == i && q.2.category == 2)))
theorem V_istore {v : Int32} (hi : mI k pc = (6, a, x, y, z)) (kk : V l D tys A k d mc ms post cells slots (pc + ln3 y) (stL x (.int v) lv) st ws) : V l D tys A k d mc ms post cells slots pc lv (.int v :: st) ws := by
  have t : ok6 k pc a x y z = true := by have t := tabOK k pc; rw [hi] at t; exact t
  intro p e R s m args below meth c H locs ls Q F hl hH hQ
  have K := fun ls' hl' => kk p e R s m args below meth c H locs ls' Q F hl' hH hQ
  obtain ⟨hx, hb, -, hown, hts, -⟩ := F
  unfold ok6 at t
  rw [Bool.and_eq_true] at t
  obtain ⟨t0, t⟩ := t
  have hn : x < mML k := Nat.blt_eq.mp t0
  rcases y with _ | y
  · have t := (Bool.and_eq_true _ _).mp t
    exact lv_istore_n hx hb (dec_of t.2) (f4_val t.1) hl hn rfl K
  · exact lv_istore hx hb (dec_of t) hl hn rfl K
theorem V_lstore {v : Int64} (hi : mI k pc = (7, a, x, y, z)) (kk : V l D tys A k d mc ms post cells slots (pc + ln3 y) (stL2 x (.long v) lv) st ws) : V l D tys A k d mc ms post cells slots pc lv (.long v :: st) ws := by
  have t : ok7 k pc a x y z = true := by have t := tabOK k pc; rw [hi] at t; exact t
  intro p e R s m args below meth c H locs ls Q F hl hH hQ
  have K := fun ls' hl' => kk p e R s m args below meth c H locs ls' Q F hl' hH hQ
  obtain ⟨hx, hb, -, hown, hts, -⟩ := F
  unfold ok7 at t
  rw [Bool.and_eq_true] at t
  obtain ⟨t0, t⟩ := t
  have hn : x + 1 < mML k := Nat.blt_eq.mp t0
  rcases y with _ | y
  · have t := (Bool.and_eq_true _ _).mp t
    exact lv_lstore_n hx hb (dec_of t.2) (f4_val t.1) hl hn rfl K
  · exact lv_lstore hx hb (dec_of t) hl hn rfl K
theorem V_astore {v : Nat} (hi : mI k pc = (8, a, x, y, z)) (kk : V l D tys A k d mc ms post cells slots (pc + ln3 y) (stL x (.ref v) lv) st ws) : V l D tys A k d mc ms post cells slots pc lv (.ref v :: st) ws := by
  have t : ok8 k pc a x y z = true := by have t := tabOK k pc; rw [hi] at t; exact t
  intro p e R s m args below meth c H locs ls Q F hl hH hQ
  have K := fun ls' hl' => kk p e R s m args below meth c H locs ls' Q F hl' hH hQ
  obtain ⟨hx, hb, -, hown, hts, -⟩ := F
  unfold ok8 at t
  rw [Bool.and_eq_true] at t
  obtain ⟨t0, t⟩ := t
  have hn : x < mML k := Nat.blt_eq.mp t0
  rcases y with _ | y
  · have t := (Bool.and_eq_true _ _).mp t
    exact lv_astore_n hx hb (dec_of t.2) (f4_val t.1) hl hn rfl K
  · exact lv_astore hx hb (dec_of t) hl hn rfl K
theorem V_astoreN (hi : mI k pc = (8, a, x, y, z)) (kk : V l D tys A k d mc ms post cells slots (pc + ln3 y) (stL x .null lv) st ws) : V l D tys A k d mc ms post cells slots pc lv (.null :: st) ws := by
  have t : ok8 k pc a x y z = true := by have t := tabOK k pc; rw [hi] at t; exact t
  intro p e R s m args below meth c H locs ls Q F hl hH hQ
  have K := fun ls' hl' => kk p e R s m args below meth c H locs ls' Q F hl' hH hQ
  obtain ⟨hx, hb, -, hown, hts, -⟩ := F
  unfold ok8 at t
  rw [Bool.and_eq_true] at t
  obtain ⟨t0, t⟩ := t
  have hn : x < mML k := Nat.blt_eq.mp t0
  rcases y with _ | y
  · have t := (Bool.and_eq_true _ _).mp t
    exact lv_astore_nN hx hb (dec_of t.2) (f4_val t.1) hl hn rfl K
  · exact lv_astoreN hx hb (dec_of t) hl hn rfl K
theorem V_iinc {v : Int32} (hi : mI k pc = (9, a, x, y, z)) (hv : (x, Value.int v) ∈ lv) (kk : V l D tys A k d mc ms post cells slots (pc + 3) (stL x (.int (v + Int32.ofInt a)) lv) st ws) : V l D tys A k d mc ms post cells slots pc lv st ws := by
  have t : ok9 k pc a x y z = true := by have t := tabOK k pc; rw [hi] at t; exact t
  intro p e R s m args below meth c H locs ls Q F hl hH hQ
  have K := fun ls' hl' => kk p e R s m args below meth c H locs ls' Q F hl' hH hQ
  obtain ⟨hx, hb, -, hown, hts, -⟩ := F
  unfold ok9 at t
  rw [Bool.and_eq_true, Bool.and_eq_true] at t
  have hn : x < mML k := Nat.blt_eq.mp t.1.1
  obtain ⟨j, hj⟩ := List.getElem?_of_mem hv
  exact lv_iinc hx hb (dec_of t.2) hl hj rfl hn rfl K
theorem V_goto (hi : mI k pc = (16, a, x, y, z)) (kk : V l D tys A k d mc ms post cells slots y lv st ws) : V l D tys A k d mc ms post cells slots pc lv st ws := by
  have t : ok16 k pc a x y z = true := by have t := tabOK k pc; rw [hi] at t; exact t
  intro p e R s m args below meth c H locs ls Q F hl hH hQ
  have K := kk p e R s m args below meth c H locs ls Q F hl hH hQ
  obtain ⟨hx, hb, -, hown, hts, -⟩ := F
  unfold ok16 at t
  have t := (Bool.and_eq_true _ _).mp t
  exact lv_goto hx hb (dec_of t.1) (of_decide_eq_true t.2) K
end VEE
