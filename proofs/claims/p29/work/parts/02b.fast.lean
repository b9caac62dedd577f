noncomputable def rdB (code : ByteArray) : List Nat := code.data.toList.map UInt8.toNat
noncomputable def bU2 (x : Nat) : List Nat := [x / 256, x % 256]
noncomputable def bS (m : Nat) (a : Int) : Nat := (a % (m : Int)).toNat
noncomputable def okS (h a : Int) : Bool := bif decide (-h ≤ a) then decide (a < h) else false
noncomputable def encI : Instr → Option (List Nat)
  | .iadd => some [96]
  | .isub => some [100]
  | .imul => some [104]
  | .idiv => some [108]
  | .irem => some [112]
  | .ineg => some [116]
  | .iand => some [126]
  | .ior => some [128]
  | .ixor => some [130]
  | .ishl => some [120]
  | .ishr => some [122]
  | .iushr => some [124]
  | .ladd => some [97]
  | .lsub => some [101]
  | .lmul => some [105]
  | .ldiv => some [109]
  | .lrem => some [113]
  | .lneg => some [117]
  | .land => some [127]
  | .lor => some [129]
  | .lxor => some [131]
  | .lshl => some [121]
  | .lshr => some [123]
  | .lushr => some [125]
  | .i2l => some [133]
  | .l2i => some [136]
  | .i2b => some [145]
  | .i2c => some [146]
  | .i2s => some [147]
  | .lcmp => some [148]
  | .iaload => some [46]
  | .laload => some [47]
  | .aaload => some [50]
  | .baload => some [51]
  | .iastore => some [79]
  | .lastore => some [80]
  | .aastore => some [83]
  | .bastore => some [84]
  | .pop => some [87]
  | .pop2 => some [88]
  | .dup => some [89]
  | .dup_x1 => some [90]
  | .dup_x2 => some [91]
  | .dup2 => some [92]
  | .arraylength => some [190]
  | .ireturn => some [172]
  | .lreturn => some [173]
  | .areturn => some [176]
  | .return_ => some [177]
  | .aconst_null => some [1]
  | .athrow => some [191]
  | .ldc x => some [18, x]
  | .iload x => some [21, x]
  | .lload x => some [22, x]
  | .aload x => some [25, x]
  | .istore x => some [54, x]
  | .lstore x => some [55, x]
  | .astore x => some [58, x]
  | .ldc_w x => some [19, x / 256, x % 256]
  | .ldc2_w x => some [20, x / 256, x % 256]
  | .getstatic x => some [178, x / 256, x % 256]
  | .putstatic x => some [179, x / 256, x % 256]
  | .getfield x => some [180, x / 256, x % 256]
  | .putfield x => some [181, x / 256, x % 256]
  | .invokevirtual x => some [182, x / 256, x % 256]
  | .invokespecial x => some [183, x / 256, x % 256]
  | .invokestatic x => some [184, x / 256, x % 256]
  | .new x => some [187, x / 256, x % 256]
  | .anewarray x => some [189, x / 256, x % 256]
  | .checkcast x => some [192, x / 256, x % 256]
  | .goto a => bif okS 32768 a then some [167, bS 65536 a / 256, bS 65536 a % 256] else none
  | .ifnull a => bif okS 32768 a then some [198, bS 65536 a / 256, bS 65536 a % 256] else none
  | .ifnonnull a => bif okS 32768 a then some [199, bS 65536 a / 256, bS 65536 a % 256] else none
  | .sipush a => bif okS 32768 a then some [17, bS 65536 a / 256, bS 65536 a % 256] else none
  | .iload_n f => some [26 + f.val]
  | .lload_n f => some [30 + f.val]
  | .aload_n f => some [42 + f.val]
  | .istore_n f => some [59 + f.val]
  | .lstore_n f => some [63 + f.val]
  | .astore_n f => some [75 + f.val]
  | .bipush a => bif okS 128 a then some [16, bS 256 a] else none
  | .iinc x a => bif okS 128 a then some [132, x, bS 256 a] else none
  | .iconst a => bif decide (-1 ≤ a) then bif decide (a ≤ 5) then some [(a + 3).toNat] else none else none
  | .lconst a => some [9 + a.val]
  | .ifCond c a => bif okS 32768 a then some [(match c with | .eq => 153 | .ne => 154 | .lt => 155 | .ge => 156 | .gt => 157 | .le => 158), bS 65536 a / 256, bS 65536 a % 256] else none
  | .if_icmp c a => bif okS 32768 a then some [(match c with | .eq => 159 | .ne => 160 | .lt => 161 | .ge => 162 | .gt => 163 | .le => 164), bS 65536 a / 256, bS 65536 a % 256] else none
  | _ => none
noncomputable def pfx : List Nat → List Nat → Bool
  | [], _ => true
  | a :: t, l => match l with
    | [] => false
    | b :: r => bif Nat.beq a b then pfx t r else false
noncomputable def pfU (l : List Nat) : List UInt8 → Bool := List.rec (motive := fun _ => List UInt8 → Bool) (fun _ => true) (fun a _ ih l => List.casesOn (motive := fun _ => Bool) l false (fun b r => bif Nat.beq a b.toNat then ih r else false)) l
theorem pfU_ok : ∀ {a : List Nat} {l : List UInt8}, pfU a l = true → pfx a (l.map UInt8.toNat) = true
  | [], _, _ => rfl
  | a :: t, [], h => by cases h
  | a :: t, b :: r, h => by
    have h : (bif Nat.beq a b.toNat then pfU t r else false) = true := h
    show (bif Nat.beq a b.toNat then pfx t (r.map UInt8.toNat) else false) = true
    cases hb : Nat.beq a b.toNat with
    | false => rw [hb] at h; cases h
    | true => rw [hb, cond_true] at h; rw [cond_true]; exact pfU_ok h
noncomputable def decF (code : ByteArray) (pc : Nat) (i : Instr) (n : Nat) : Bool := match encI i with
  | some bs => bif Nat.beq bs.length n then pfU bs (code.data.toList.drop pc) else false
  | none => decide (decode code pc = .ok (i, n))
theorem rdB_at {code : ByteArray} {p b : Nat} {t : List Nat} (h : (rdB code).drop p = b :: t) : ∃ hp : p < code.size, code[p].toNat = b ∧ (rdB code).drop (p + 1) = t := by
  have hl : p < (rdB code).length := by
    rcases Nat.lt_or_ge p (rdB code).length with q | q
    · exact q
    · rw [List.drop_eq_nil_of_le q] at h; cases h
  have hs : p < code.size := by
    unfold rdB at hl
    rw [List.length_map, Array.length_toList] at hl
    exact hl
  have hb : (rdB code)[p]? = some b := by
    have e := congrArg (fun l => l[0]?) h
    simpa using e
  have ht : (rdB code).drop (p + 1) = t := by
    rw [← List.drop_drop, h]
    rfl
  refine ⟨hs, ?_, ht⟩
  have hb : (code.data.toList.map UInt8.toNat)[p]? = some b := hb
  rw [List.getElem?_map, Array.getElem?_toList, Array.getElem?_eq_getElem hs] at hb
  exact Option.some.inj hb
theorem u1_run {code : ByteArray} {p b : Nat} {t : List Nat} (h : (rdB code).drop p = b :: t) : (Reader.u1 : Decoder Nat).runAt code p = .ok (b, p + 1) := by
  obtain ⟨hs, h1, -⟩ := rdB_at h
  subst h1
  show (if h : p < code.size then _ else _ : Decoder Nat).runAt code p = _
  rw [dif_pos hs]
  rfl
theorem bind_run {α β : Type} {r : Decoder α} {f : α → Decoder β} {code : ByteArray} {p q : Nat} {v : α} (h : r.runAt code p = .ok (v, q)) : (r >>= f).runAt code p = (f v).runAt code q := by
  show (r.runAt code p >>= fun z => (f z.1).runAt code z.2) = _
  rw [h]
  rfl
theorem map_run {α β : Type} {r : Decoder α} {f : α → β} {code : ByteArray} {p q : Nat} {v : α} (h : r.runAt code p = .ok (v, q)) : (f <$> r).runAt code p = .ok (f v, q) := by
  show (r.runAt code p >>= fun z => Except.ok (f z.1, z.2)) = _
  rw [h]
  rfl
theorem u2_run {code : ByteArray} {p b c : Nat} {t : List Nat} (h : (rdB code).drop p = b :: c :: t) : (Reader.u2 : Decoder Nat).runAt code p = .ok (b * 256 + c, p + 2) := by
  obtain ⟨-, -, h2⟩ := rdB_at h
  unfold Reader.u2
  rw [bind_run (u1_run h), bind_run (u1_run h2)]
  rfl
theorem s1_run {code : ByteArray} {p b : Nat} {t : List Nat} (h : (rdB code).drop p = b :: t) : (Reader.s1 : Decoder Int).runAt code p = .ok (Reader.signed 8 b, p + 1) := map_run (u1_run h)
theorem s2_run {code : ByteArray} {p b c : Nat} {t : List Nat} (h : (rdB code).drop p = b :: c :: t) : (Reader.s2 : Decoder Int).runAt code p = .ok (Reader.signed 16 (b * 256 + c), p + 2) := map_run (u2_run h)
theorem dec_run {code : ByteArray} {pc n : Nat} {i : Instr} (h : (Decoder.instr pc).runAt code pc = .ok (i, pc + n)) : decode code pc = .ok (i, n) := by
  unfold decode
  rw [h]
  show Except.ok (i, pc + n - pc) = _
  rw [Nat.add_sub_cancel_left]
theorem sg8 {a : Int} (h : okS 128 a = true) : Reader.signed 8 (bS 256 a) = a := by
  unfold okS at h
  cases h1 : decide (-128 ≤ a) with
  | false => rw [h1] at h; cases h
  | true =>
    rw [h1, cond_true] at h
    have h1 := of_decide_eq_true h1
    have h2 := of_decide_eq_true h
    unfold Reader.signed bS
    split <;> omega
theorem sg16 {a : Int} (h : okS 32768 a = true) : Reader.signed 16 (bS 65536 a / 256 * 256 + bS 65536 a % 256) = a := by
  unfold okS at h
  cases h1 : decide (-32768 ≤ a) with
  | false => rw [h1] at h; cases h
  | true =>
    rw [h1, cond_true] at h
    have h1 := of_decide_eq_true h1
    have h2 := of_decide_eq_true h
    unfold Reader.signed bS
    split <;> omega
theorem u16 (x : Nat) : x / 256 * 256 + x % 256 = x := by omega
theorem pfx_ok : ∀ {a l : List Nat}, pfx a l = true → ∃ t, l = a ++ t
  | [], l, _ => ⟨l, rfl⟩
  | a :: t, [], h => by cases h
  | a :: t, b :: r, h => by
    have h : (bif Nat.beq a b then pfx t r else false) = true := h
    cases hb : Nat.beq a b with
    | false => rw [hb] at h; cases h
    | true =>
      rw [hb, cond_true] at h
      obtain ⟨u, hu⟩ := pfx_ok h
      exact ⟨u, by rw [hu, Nat.eq_of_beq_eq_true hb]; rfl⟩
theorem op1 {code : ByteArray} {pc b : Nat} {t : List Nat} {i : Instr} {q : Nat} {F : Nat → Decoder Instr} (h : (rdB code).drop pc = b :: t) (hF : Decoder.instr pc = Reader.u1 >>= F) (hk : (F b).runAt code (pc + 1) = .ok (i, q)) : (Decoder.instr pc).runAt code pc = .ok (i, q) := by
  rw [hF, bind_run (u1_run h)]
  exact hk
theorem e_iadd {code : ByteArray} {pc : Nat} {t : List Nat} (h : (rdB code).drop pc = 96 :: t) : decode code pc = .ok (.iadd, 1) := dec_run (op1 h rfl rfl)
theorem e_isub {code : ByteArray} {pc : Nat} {t : List Nat} (h : (rdB code).drop pc = 100 :: t) : decode code pc = .ok (.isub, 1) := dec_run (op1 h rfl rfl)
theorem e_imul {code : ByteArray} {pc : Nat} {t : List Nat} (h : (rdB code).drop pc = 104 :: t) : decode code pc = .ok (.imul, 1) := dec_run (op1 h rfl rfl)
theorem e_idiv {code : ByteArray} {pc : Nat} {t : List Nat} (h : (rdB code).drop pc = 108 :: t) : decode code pc = .ok (.idiv, 1) := dec_run (op1 h rfl rfl)
theorem e_irem {code : ByteArray} {pc : Nat} {t : List Nat} (h : (rdB code).drop pc = 112 :: t) : decode code pc = .ok (.irem, 1) := dec_run (op1 h rfl rfl)
theorem e_ineg {code : ByteArray} {pc : Nat} {t : List Nat} (h : (rdB code).drop pc = 116 :: t) : decode code pc = .ok (.ineg, 1) := dec_run (op1 h rfl rfl)
theorem e_iand {code : ByteArray} {pc : Nat} {t : List Nat} (h : (rdB code).drop pc = 126 :: t) : decode code pc = .ok (.iand, 1) := dec_run (op1 h rfl rfl)
theorem e_ior {code : ByteArray} {pc : Nat} {t : List Nat} (h : (rdB code).drop pc = 128 :: t) : decode code pc = .ok (.ior, 1) := dec_run (op1 h rfl rfl)
theorem e_ixor {code : ByteArray} {pc : Nat} {t : List Nat} (h : (rdB code).drop pc = 130 :: t) : decode code pc = .ok (.ixor, 1) := dec_run (op1 h rfl rfl)
theorem e_ishl {code : ByteArray} {pc : Nat} {t : List Nat} (h : (rdB code).drop pc = 120 :: t) : decode code pc = .ok (.ishl, 1) := dec_run (op1 h rfl rfl)
theorem e_ishr {code : ByteArray} {pc : Nat} {t : List Nat} (h : (rdB code).drop pc = 122 :: t) : decode code pc = .ok (.ishr, 1) := dec_run (op1 h rfl rfl)
theorem e_iushr {code : ByteArray} {pc : Nat} {t : List Nat} (h : (rdB code).drop pc = 124 :: t) : decode code pc = .ok (.iushr, 1) := dec_run (op1 h rfl rfl)
theorem e_ladd {code : ByteArray} {pc : Nat} {t : List Nat} (h : (rdB code).drop pc = 97 :: t) : decode code pc = .ok (.ladd, 1) := dec_run (op1 h rfl rfl)
theorem e_lsub {code : ByteArray} {pc : Nat} {t : List Nat} (h : (rdB code).drop pc = 101 :: t) : decode code pc = .ok (.lsub, 1) := dec_run (op1 h rfl rfl)
theorem e_lmul {code : ByteArray} {pc : Nat} {t : List Nat} (h : (rdB code).drop pc = 105 :: t) : decode code pc = .ok (.lmul, 1) := dec_run (op1 h rfl rfl)
theorem e_ldiv {code : ByteArray} {pc : Nat} {t : List Nat} (h : (rdB code).drop pc = 109 :: t) : decode code pc = .ok (.ldiv, 1) := dec_run (op1 h rfl rfl)
theorem e_lrem {code : ByteArray} {pc : Nat} {t : List Nat} (h : (rdB code).drop pc = 113 :: t) : decode code pc = .ok (.lrem, 1) := dec_run (op1 h rfl rfl)
theorem e_lneg {code : ByteArray} {pc : Nat} {t : List Nat} (h : (rdB code).drop pc = 117 :: t) : decode code pc = .ok (.lneg, 1) := dec_run (op1 h rfl rfl)
theorem e_land {code : ByteArray} {pc : Nat} {t : List Nat} (h : (rdB code).drop pc = 127 :: t) : decode code pc = .ok (.land, 1) := dec_run (op1 h rfl rfl)
theorem e_lor {code : ByteArray} {pc : Nat} {t : List Nat} (h : (rdB code).drop pc = 129 :: t) : decode code pc = .ok (.lor, 1) := dec_run (op1 h rfl rfl)
theorem e_lxor {code : ByteArray} {pc : Nat} {t : List Nat} (h : (rdB code).drop pc = 131 :: t) : decode code pc = .ok (.lxor, 1) := dec_run (op1 h rfl rfl)
theorem e_lshl {code : ByteArray} {pc : Nat} {t : List Nat} (h : (rdB code).drop pc = 121 :: t) : decode code pc = .ok (.lshl, 1) := dec_run (op1 h rfl rfl)
theorem e_lshr {code : ByteArray} {pc : Nat} {t : List Nat} (h : (rdB code).drop pc = 123 :: t) : decode code pc = .ok (.lshr, 1) := dec_run (op1 h rfl rfl)
theorem e_lushr {code : ByteArray} {pc : Nat} {t : List Nat} (h : (rdB code).drop pc = 125 :: t) : decode code pc = .ok (.lushr, 1) := dec_run (op1 h rfl rfl)
theorem e_i2l {code : ByteArray} {pc : Nat} {t : List Nat} (h : (rdB code).drop pc = 133 :: t) : decode code pc = .ok (.i2l, 1) := dec_run (op1 h rfl rfl)
theorem e_l2i {code : ByteArray} {pc : Nat} {t : List Nat} (h : (rdB code).drop pc = 136 :: t) : decode code pc = .ok (.l2i, 1) := dec_run (op1 h rfl rfl)
theorem e_i2b {code : ByteArray} {pc : Nat} {t : List Nat} (h : (rdB code).drop pc = 145 :: t) : decode code pc = .ok (.i2b, 1) := dec_run (op1 h rfl rfl)
theorem e_i2c {code : ByteArray} {pc : Nat} {t : List Nat} (h : (rdB code).drop pc = 146 :: t) : decode code pc = .ok (.i2c, 1) := dec_run (op1 h rfl rfl)
theorem e_i2s {code : ByteArray} {pc : Nat} {t : List Nat} (h : (rdB code).drop pc = 147 :: t) : decode code pc = .ok (.i2s, 1) := dec_run (op1 h rfl rfl)
theorem e_lcmp {code : ByteArray} {pc : Nat} {t : List Nat} (h : (rdB code).drop pc = 148 :: t) : decode code pc = .ok (.lcmp, 1) := dec_run (op1 h rfl rfl)
theorem e_iaload {code : ByteArray} {pc : Nat} {t : List Nat} (h : (rdB code).drop pc = 46 :: t) : decode code pc = .ok (.iaload, 1) := dec_run (op1 h rfl rfl)
theorem e_laload {code : ByteArray} {pc : Nat} {t : List Nat} (h : (rdB code).drop pc = 47 :: t) : decode code pc = .ok (.laload, 1) := dec_run (op1 h rfl rfl)
theorem e_aaload {code : ByteArray} {pc : Nat} {t : List Nat} (h : (rdB code).drop pc = 50 :: t) : decode code pc = .ok (.aaload, 1) := dec_run (op1 h rfl rfl)
theorem e_baload {code : ByteArray} {pc : Nat} {t : List Nat} (h : (rdB code).drop pc = 51 :: t) : decode code pc = .ok (.baload, 1) := dec_run (op1 h rfl rfl)
theorem e_iastore {code : ByteArray} {pc : Nat} {t : List Nat} (h : (rdB code).drop pc = 79 :: t) : decode code pc = .ok (.iastore, 1) := dec_run (op1 h rfl rfl)
theorem e_lastore {code : ByteArray} {pc : Nat} {t : List Nat} (h : (rdB code).drop pc = 80 :: t) : decode code pc = .ok (.lastore, 1) := dec_run (op1 h rfl rfl)
theorem e_aastore {code : ByteArray} {pc : Nat} {t : List Nat} (h : (rdB code).drop pc = 83 :: t) : decode code pc = .ok (.aastore, 1) := dec_run (op1 h rfl rfl)
theorem e_bastore {code : ByteArray} {pc : Nat} {t : List Nat} (h : (rdB code).drop pc = 84 :: t) : decode code pc = .ok (.bastore, 1) := dec_run (op1 h rfl rfl)
theorem e_pop {code : ByteArray} {pc : Nat} {t : List Nat} (h : (rdB code).drop pc = 87 :: t) : decode code pc = .ok (.pop, 1) := dec_run (op1 h rfl rfl)
theorem e_pop2 {code : ByteArray} {pc : Nat} {t : List Nat} (h : (rdB code).drop pc = 88 :: t) : decode code pc = .ok (.pop2, 1) := dec_run (op1 h rfl rfl)
theorem e_dup {code : ByteArray} {pc : Nat} {t : List Nat} (h : (rdB code).drop pc = 89 :: t) : decode code pc = .ok (.dup, 1) := dec_run (op1 h rfl rfl)
theorem e_dup_x1 {code : ByteArray} {pc : Nat} {t : List Nat} (h : (rdB code).drop pc = 90 :: t) : decode code pc = .ok (.dup_x1, 1) := dec_run (op1 h rfl rfl)
theorem e_dup_x2 {code : ByteArray} {pc : Nat} {t : List Nat} (h : (rdB code).drop pc = 91 :: t) : decode code pc = .ok (.dup_x2, 1) := dec_run (op1 h rfl rfl)
theorem e_dup2 {code : ByteArray} {pc : Nat} {t : List Nat} (h : (rdB code).drop pc = 92 :: t) : decode code pc = .ok (.dup2, 1) := dec_run (op1 h rfl rfl)
theorem e_arraylength {code : ByteArray} {pc : Nat} {t : List Nat} (h : (rdB code).drop pc = 190 :: t) : decode code pc = .ok (.arraylength, 1) := dec_run (op1 h rfl rfl)
theorem e_ireturn {code : ByteArray} {pc : Nat} {t : List Nat} (h : (rdB code).drop pc = 172 :: t) : decode code pc = .ok (.ireturn, 1) := dec_run (op1 h rfl rfl)
theorem e_lreturn {code : ByteArray} {pc : Nat} {t : List Nat} (h : (rdB code).drop pc = 173 :: t) : decode code pc = .ok (.lreturn, 1) := dec_run (op1 h rfl rfl)
theorem e_areturn {code : ByteArray} {pc : Nat} {t : List Nat} (h : (rdB code).drop pc = 176 :: t) : decode code pc = .ok (.areturn, 1) := dec_run (op1 h rfl rfl)
theorem e_return_ {code : ByteArray} {pc : Nat} {t : List Nat} (h : (rdB code).drop pc = 177 :: t) : decode code pc = .ok (.return_, 1) := dec_run (op1 h rfl rfl)
theorem e_aconst_null {code : ByteArray} {pc : Nat} {t : List Nat} (h : (rdB code).drop pc = 1 :: t) : decode code pc = .ok (.aconst_null, 1) := dec_run (op1 h rfl rfl)
theorem e_athrow {code : ByteArray} {pc : Nat} {t : List Nat} (h : (rdB code).drop pc = 191 :: t) : decode code pc = .ok (.athrow, 1) := dec_run (op1 h rfl rfl)
theorem e_ldc {code : ByteArray} {pc x : Nat} {t : List Nat} (h : (rdB code).drop pc = 18 :: x :: t) : decode code pc = .ok (.ldc x, 2) := by
  obtain ⟨-, -, h2⟩ := rdB_at h
  exact dec_run (op1 h rfl (map_run (f := fun x => Instr.ldc x) (u1_run h2)))
theorem e_iload {code : ByteArray} {pc x : Nat} {t : List Nat} (h : (rdB code).drop pc = 21 :: x :: t) : decode code pc = .ok (.iload x, 2) := by
  obtain ⟨-, -, h2⟩ := rdB_at h
  exact dec_run (op1 h rfl (map_run (f := fun x => Instr.iload x) (u1_run h2)))
theorem e_lload {code : ByteArray} {pc x : Nat} {t : List Nat} (h : (rdB code).drop pc = 22 :: x :: t) : decode code pc = .ok (.lload x, 2) := by
  obtain ⟨-, -, h2⟩ := rdB_at h
  exact dec_run (op1 h rfl (map_run (f := fun x => Instr.lload x) (u1_run h2)))
theorem e_aload {code : ByteArray} {pc x : Nat} {t : List Nat} (h : (rdB code).drop pc = 25 :: x :: t) : decode code pc = .ok (.aload x, 2) := by
  obtain ⟨-, -, h2⟩ := rdB_at h
  exact dec_run (op1 h rfl (map_run (f := fun x => Instr.aload x) (u1_run h2)))
theorem e_istore {code : ByteArray} {pc x : Nat} {t : List Nat} (h : (rdB code).drop pc = 54 :: x :: t) : decode code pc = .ok (.istore x, 2) := by
  obtain ⟨-, -, h2⟩ := rdB_at h
  exact dec_run (op1 h rfl (map_run (f := fun x => Instr.istore x) (u1_run h2)))
theorem e_lstore {code : ByteArray} {pc x : Nat} {t : List Nat} (h : (rdB code).drop pc = 55 :: x :: t) : decode code pc = .ok (.lstore x, 2) := by
  obtain ⟨-, -, h2⟩ := rdB_at h
  exact dec_run (op1 h rfl (map_run (f := fun x => Instr.lstore x) (u1_run h2)))
theorem e_astore {code : ByteArray} {pc x : Nat} {t : List Nat} (h : (rdB code).drop pc = 58 :: x :: t) : decode code pc = .ok (.astore x, 2) := by
  obtain ⟨-, -, h2⟩ := rdB_at h
  exact dec_run (op1 h rfl (map_run (f := fun x => Instr.astore x) (u1_run h2)))
theorem e_ldc_w {code : ByteArray} {pc x : Nat} {t : List Nat} (h : (rdB code).drop pc = 19 :: x / 256 :: x % 256 :: t) : decode code pc = .ok (.ldc_w x, 3) := by
  obtain ⟨-, -, h2⟩ := rdB_at h
  have e := map_run (f := fun x => Instr.ldc_w x) (u2_run h2)
  rw [u16] at e
  exact dec_run (op1 h rfl e)
theorem e_ldc2_w {code : ByteArray} {pc x : Nat} {t : List Nat} (h : (rdB code).drop pc = 20 :: x / 256 :: x % 256 :: t) : decode code pc = .ok (.ldc2_w x, 3) := by
  obtain ⟨-, -, h2⟩ := rdB_at h
  have e := map_run (f := fun x => Instr.ldc2_w x) (u2_run h2)
  rw [u16] at e
  exact dec_run (op1 h rfl e)
theorem e_getstatic {code : ByteArray} {pc x : Nat} {t : List Nat} (h : (rdB code).drop pc = 178 :: x / 256 :: x % 256 :: t) : decode code pc = .ok (.getstatic x, 3) := by
  obtain ⟨-, -, h2⟩ := rdB_at h
  have e := map_run (f := fun x => Instr.getstatic x) (u2_run h2)
  rw [u16] at e
  exact dec_run (op1 h rfl e)
theorem e_putstatic {code : ByteArray} {pc x : Nat} {t : List Nat} (h : (rdB code).drop pc = 179 :: x / 256 :: x % 256 :: t) : decode code pc = .ok (.putstatic x, 3) := by
  obtain ⟨-, -, h2⟩ := rdB_at h
  have e := map_run (f := fun x => Instr.putstatic x) (u2_run h2)
  rw [u16] at e
  exact dec_run (op1 h rfl e)
theorem e_getfield {code : ByteArray} {pc x : Nat} {t : List Nat} (h : (rdB code).drop pc = 180 :: x / 256 :: x % 256 :: t) : decode code pc = .ok (.getfield x, 3) := by
  obtain ⟨-, -, h2⟩ := rdB_at h
  have e := map_run (f := fun x => Instr.getfield x) (u2_run h2)
  rw [u16] at e
  exact dec_run (op1 h rfl e)
theorem e_putfield {code : ByteArray} {pc x : Nat} {t : List Nat} (h : (rdB code).drop pc = 181 :: x / 256 :: x % 256 :: t) : decode code pc = .ok (.putfield x, 3) := by
  obtain ⟨-, -, h2⟩ := rdB_at h
  have e := map_run (f := fun x => Instr.putfield x) (u2_run h2)
  rw [u16] at e
  exact dec_run (op1 h rfl e)
theorem e_invokevirtual {code : ByteArray} {pc x : Nat} {t : List Nat} (h : (rdB code).drop pc = 182 :: x / 256 :: x % 256 :: t) : decode code pc = .ok (.invokevirtual x, 3) := by
  obtain ⟨-, -, h2⟩ := rdB_at h
  have e := map_run (f := fun x => Instr.invokevirtual x) (u2_run h2)
  rw [u16] at e
  exact dec_run (op1 h rfl e)
theorem e_invokespecial {code : ByteArray} {pc x : Nat} {t : List Nat} (h : (rdB code).drop pc = 183 :: x / 256 :: x % 256 :: t) : decode code pc = .ok (.invokespecial x, 3) := by
  obtain ⟨-, -, h2⟩ := rdB_at h
  have e := map_run (f := fun x => Instr.invokespecial x) (u2_run h2)
  rw [u16] at e
  exact dec_run (op1 h rfl e)
theorem e_invokestatic {code : ByteArray} {pc x : Nat} {t : List Nat} (h : (rdB code).drop pc = 184 :: x / 256 :: x % 256 :: t) : decode code pc = .ok (.invokestatic x, 3) := by
  obtain ⟨-, -, h2⟩ := rdB_at h
  have e := map_run (f := fun x => Instr.invokestatic x) (u2_run h2)
  rw [u16] at e
  exact dec_run (op1 h rfl e)
theorem e_new {code : ByteArray} {pc x : Nat} {t : List Nat} (h : (rdB code).drop pc = 187 :: x / 256 :: x % 256 :: t) : decode code pc = .ok (.new x, 3) := by
  obtain ⟨-, -, h2⟩ := rdB_at h
  have e := map_run (f := fun x => Instr.new x) (u2_run h2)
  rw [u16] at e
  exact dec_run (op1 h rfl e)
theorem e_anewarray {code : ByteArray} {pc x : Nat} {t : List Nat} (h : (rdB code).drop pc = 189 :: x / 256 :: x % 256 :: t) : decode code pc = .ok (.anewarray x, 3) := by
  obtain ⟨-, -, h2⟩ := rdB_at h
  have e := map_run (f := fun x => Instr.anewarray x) (u2_run h2)
  rw [u16] at e
  exact dec_run (op1 h rfl e)
theorem e_checkcast {code : ByteArray} {pc x : Nat} {t : List Nat} (h : (rdB code).drop pc = 192 :: x / 256 :: x % 256 :: t) : decode code pc = .ok (.checkcast x, 3) := by
  obtain ⟨-, -, h2⟩ := rdB_at h
  have e := map_run (f := fun x => Instr.checkcast x) (u2_run h2)
  rw [u16] at e
  exact dec_run (op1 h rfl e)
theorem e_goto {code : ByteArray} {pc : Nat} {a : Int} {t : List Nat} (ha : okS 32768 a = true) (h : (rdB code).drop pc = 167 :: bS 65536 a / 256 :: bS 65536 a % 256 :: t) : decode code pc = .ok (.goto a, 3) := by
  obtain ⟨-, -, h2⟩ := rdB_at h
  have e := map_run (f := fun x => Instr.goto x) (s2_run h2)
  rw [sg16 ha] at e
  exact dec_run (op1 h rfl e)
theorem e_ifnull {code : ByteArray} {pc : Nat} {a : Int} {t : List Nat} (ha : okS 32768 a = true) (h : (rdB code).drop pc = 198 :: bS 65536 a / 256 :: bS 65536 a % 256 :: t) : decode code pc = .ok (.ifnull a, 3) := by
  obtain ⟨-, -, h2⟩ := rdB_at h
  have e := map_run (f := fun x => Instr.ifnull x) (s2_run h2)
  rw [sg16 ha] at e
  exact dec_run (op1 h rfl e)
theorem e_ifnonnull {code : ByteArray} {pc : Nat} {a : Int} {t : List Nat} (ha : okS 32768 a = true) (h : (rdB code).drop pc = 199 :: bS 65536 a / 256 :: bS 65536 a % 256 :: t) : decode code pc = .ok (.ifnonnull a, 3) := by
  obtain ⟨-, -, h2⟩ := rdB_at h
  have e := map_run (f := fun x => Instr.ifnonnull x) (s2_run h2)
  rw [sg16 ha] at e
  exact dec_run (op1 h rfl e)
theorem e_sipush {code : ByteArray} {pc : Nat} {a : Int} {t : List Nat} (ha : okS 32768 a = true) (h : (rdB code).drop pc = 17 :: bS 65536 a / 256 :: bS 65536 a % 256 :: t) : decode code pc = .ok (.sipush a, 3) := by
  obtain ⟨-, -, h2⟩ := rdB_at h
  have e := map_run (f := fun x => Instr.sipush x) (s2_run h2)
  rw [sg16 ha] at e
  exact dec_run (op1 h rfl e)
theorem e_ifCond_eq {code : ByteArray} {pc : Nat} {a : Int} {t : List Nat} (ha : okS 32768 a = true) (h : (rdB code).drop pc = 153 :: bS 65536 a / 256 :: bS 65536 a % 256 :: t) : decode code pc = .ok (.ifCond .eq a, 3) := by
  obtain ⟨-, -, h2⟩ := rdB_at h
  have e := map_run (f := fun x => Instr.ifCond .eq x) (s2_run h2)
  rw [sg16 ha] at e
  exact dec_run (op1 h rfl e)
theorem e_ifCond_ne {code : ByteArray} {pc : Nat} {a : Int} {t : List Nat} (ha : okS 32768 a = true) (h : (rdB code).drop pc = 154 :: bS 65536 a / 256 :: bS 65536 a % 256 :: t) : decode code pc = .ok (.ifCond .ne a, 3) := by
  obtain ⟨-, -, h2⟩ := rdB_at h
  have e := map_run (f := fun x => Instr.ifCond .ne x) (s2_run h2)
  rw [sg16 ha] at e
  exact dec_run (op1 h rfl e)
theorem e_ifCond_lt {code : ByteArray} {pc : Nat} {a : Int} {t : List Nat} (ha : okS 32768 a = true) (h : (rdB code).drop pc = 155 :: bS 65536 a / 256 :: bS 65536 a % 256 :: t) : decode code pc = .ok (.ifCond .lt a, 3) := by
  obtain ⟨-, -, h2⟩ := rdB_at h
  have e := map_run (f := fun x => Instr.ifCond .lt x) (s2_run h2)
  rw [sg16 ha] at e
  exact dec_run (op1 h rfl e)
theorem e_ifCond_ge {code : ByteArray} {pc : Nat} {a : Int} {t : List Nat} (ha : okS 32768 a = true) (h : (rdB code).drop pc = 156 :: bS 65536 a / 256 :: bS 65536 a % 256 :: t) : decode code pc = .ok (.ifCond .ge a, 3) := by
  obtain ⟨-, -, h2⟩ := rdB_at h
  have e := map_run (f := fun x => Instr.ifCond .ge x) (s2_run h2)
  rw [sg16 ha] at e
  exact dec_run (op1 h rfl e)
theorem e_ifCond_gt {code : ByteArray} {pc : Nat} {a : Int} {t : List Nat} (ha : okS 32768 a = true) (h : (rdB code).drop pc = 157 :: bS 65536 a / 256 :: bS 65536 a % 256 :: t) : decode code pc = .ok (.ifCond .gt a, 3) := by
  obtain ⟨-, -, h2⟩ := rdB_at h
  have e := map_run (f := fun x => Instr.ifCond .gt x) (s2_run h2)
  rw [sg16 ha] at e
  exact dec_run (op1 h rfl e)
theorem e_ifCond_le {code : ByteArray} {pc : Nat} {a : Int} {t : List Nat} (ha : okS 32768 a = true) (h : (rdB code).drop pc = 158 :: bS 65536 a / 256 :: bS 65536 a % 256 :: t) : decode code pc = .ok (.ifCond .le a, 3) := by
  obtain ⟨-, -, h2⟩ := rdB_at h
  have e := map_run (f := fun x => Instr.ifCond .le x) (s2_run h2)
  rw [sg16 ha] at e
  exact dec_run (op1 h rfl e)
theorem e_if_icmp_eq {code : ByteArray} {pc : Nat} {a : Int} {t : List Nat} (ha : okS 32768 a = true) (h : (rdB code).drop pc = 159 :: bS 65536 a / 256 :: bS 65536 a % 256 :: t) : decode code pc = .ok (.if_icmp .eq a, 3) := by
  obtain ⟨-, -, h2⟩ := rdB_at h
  have e := map_run (f := fun x => Instr.if_icmp .eq x) (s2_run h2)
  rw [sg16 ha] at e
  exact dec_run (op1 h rfl e)
theorem e_if_icmp_ne {code : ByteArray} {pc : Nat} {a : Int} {t : List Nat} (ha : okS 32768 a = true) (h : (rdB code).drop pc = 160 :: bS 65536 a / 256 :: bS 65536 a % 256 :: t) : decode code pc = .ok (.if_icmp .ne a, 3) := by
  obtain ⟨-, -, h2⟩ := rdB_at h
  have e := map_run (f := fun x => Instr.if_icmp .ne x) (s2_run h2)
  rw [sg16 ha] at e
  exact dec_run (op1 h rfl e)
theorem e_if_icmp_lt {code : ByteArray} {pc : Nat} {a : Int} {t : List Nat} (ha : okS 32768 a = true) (h : (rdB code).drop pc = 161 :: bS 65536 a / 256 :: bS 65536 a % 256 :: t) : decode code pc = .ok (.if_icmp .lt a, 3) := by
  obtain ⟨-, -, h2⟩ := rdB_at h
  have e := map_run (f := fun x => Instr.if_icmp .lt x) (s2_run h2)
  rw [sg16 ha] at e
  exact dec_run (op1 h rfl e)
theorem e_if_icmp_ge {code : ByteArray} {pc : Nat} {a : Int} {t : List Nat} (ha : okS 32768 a = true) (h : (rdB code).drop pc = 162 :: bS 65536 a / 256 :: bS 65536 a % 256 :: t) : decode code pc = .ok (.if_icmp .ge a, 3) := by
  obtain ⟨-, -, h2⟩ := rdB_at h
  have e := map_run (f := fun x => Instr.if_icmp .ge x) (s2_run h2)
  rw [sg16 ha] at e
  exact dec_run (op1 h rfl e)
theorem e_if_icmp_gt {code : ByteArray} {pc : Nat} {a : Int} {t : List Nat} (ha : okS 32768 a = true) (h : (rdB code).drop pc = 163 :: bS 65536 a / 256 :: bS 65536 a % 256 :: t) : decode code pc = .ok (.if_icmp .gt a, 3) := by
  obtain ⟨-, -, h2⟩ := rdB_at h
  have e := map_run (f := fun x => Instr.if_icmp .gt x) (s2_run h2)
  rw [sg16 ha] at e
  exact dec_run (op1 h rfl e)
theorem e_if_icmp_le {code : ByteArray} {pc : Nat} {a : Int} {t : List Nat} (ha : okS 32768 a = true) (h : (rdB code).drop pc = 164 :: bS 65536 a / 256 :: bS 65536 a % 256 :: t) : decode code pc = .ok (.if_icmp .le a, 3) := by
  obtain ⟨-, -, h2⟩ := rdB_at h
  have e := map_run (f := fun x => Instr.if_icmp .le x) (s2_run h2)
  rw [sg16 ha] at e
  exact dec_run (op1 h rfl e)
theorem e_bipush {code : ByteArray} {pc : Nat} {a : Int} {t : List Nat} (ha : okS 128 a = true) (h : (rdB code).drop pc = 16 :: bS 256 a :: t) : decode code pc = .ok (.bipush a, 2) := by
  obtain ⟨-, -, h2⟩ := rdB_at h
  have e := map_run (f := fun x => Instr.bipush x) (s1_run h2)
  rw [sg8 ha] at e
  exact dec_run (op1 h rfl e)
theorem e_iinc {code : ByteArray} {pc x : Nat} {a : Int} {t : List Nat} (ha : okS 128 a = true) (h : (rdB code).drop pc = 132 :: x :: bS 256 a :: t) : decode code pc = .ok (.iinc x a, 3) := by
  obtain ⟨-, -, h2⟩ := rdB_at h
  obtain ⟨-, -, h3⟩ := rdB_at h2
  have e := map_run (f := fun y => Instr.iinc x y) (s1_run h3)
  rw [sg8 ha] at e
  exact dec_run (op1 h rfl ((bind_run (u1_run h2)).trans e))
theorem e_iload_n_0 {code : ByteArray} {pc : Nat} {t : List Nat} (h : (rdB code).drop pc = 26 :: t) : decode code pc = .ok (.iload_n 0, 1) := dec_run (op1 h rfl rfl)
theorem e_iload_n_1 {code : ByteArray} {pc : Nat} {t : List Nat} (h : (rdB code).drop pc = 27 :: t) : decode code pc = .ok (.iload_n 1, 1) := dec_run (op1 h rfl rfl)
theorem e_iload_n_2 {code : ByteArray} {pc : Nat} {t : List Nat} (h : (rdB code).drop pc = 28 :: t) : decode code pc = .ok (.iload_n 2, 1) := dec_run (op1 h rfl rfl)
theorem e_iload_n_3 {code : ByteArray} {pc : Nat} {t : List Nat} (h : (rdB code).drop pc = 29 :: t) : decode code pc = .ok (.iload_n 3, 1) := dec_run (op1 h rfl rfl)
theorem e_lload_n_0 {code : ByteArray} {pc : Nat} {t : List Nat} (h : (rdB code).drop pc = 30 :: t) : decode code pc = .ok (.lload_n 0, 1) := dec_run (op1 h rfl rfl)
theorem e_lload_n_1 {code : ByteArray} {pc : Nat} {t : List Nat} (h : (rdB code).drop pc = 31 :: t) : decode code pc = .ok (.lload_n 1, 1) := dec_run (op1 h rfl rfl)
theorem e_lload_n_2 {code : ByteArray} {pc : Nat} {t : List Nat} (h : (rdB code).drop pc = 32 :: t) : decode code pc = .ok (.lload_n 2, 1) := dec_run (op1 h rfl rfl)
theorem e_lload_n_3 {code : ByteArray} {pc : Nat} {t : List Nat} (h : (rdB code).drop pc = 33 :: t) : decode code pc = .ok (.lload_n 3, 1) := dec_run (op1 h rfl rfl)
theorem e_aload_n_0 {code : ByteArray} {pc : Nat} {t : List Nat} (h : (rdB code).drop pc = 42 :: t) : decode code pc = .ok (.aload_n 0, 1) := dec_run (op1 h rfl rfl)
theorem e_aload_n_1 {code : ByteArray} {pc : Nat} {t : List Nat} (h : (rdB code).drop pc = 43 :: t) : decode code pc = .ok (.aload_n 1, 1) := dec_run (op1 h rfl rfl)
theorem e_aload_n_2 {code : ByteArray} {pc : Nat} {t : List Nat} (h : (rdB code).drop pc = 44 :: t) : decode code pc = .ok (.aload_n 2, 1) := dec_run (op1 h rfl rfl)
theorem e_aload_n_3 {code : ByteArray} {pc : Nat} {t : List Nat} (h : (rdB code).drop pc = 45 :: t) : decode code pc = .ok (.aload_n 3, 1) := dec_run (op1 h rfl rfl)
theorem e_istore_n_0 {code : ByteArray} {pc : Nat} {t : List Nat} (h : (rdB code).drop pc = 59 :: t) : decode code pc = .ok (.istore_n 0, 1) := dec_run (op1 h rfl rfl)
theorem e_istore_n_1 {code : ByteArray} {pc : Nat} {t : List Nat} (h : (rdB code).drop pc = 60 :: t) : decode code pc = .ok (.istore_n 1, 1) := dec_run (op1 h rfl rfl)
theorem e_istore_n_2 {code : ByteArray} {pc : Nat} {t : List Nat} (h : (rdB code).drop pc = 61 :: t) : decode code pc = .ok (.istore_n 2, 1) := dec_run (op1 h rfl rfl)
theorem e_istore_n_3 {code : ByteArray} {pc : Nat} {t : List Nat} (h : (rdB code).drop pc = 62 :: t) : decode code pc = .ok (.istore_n 3, 1) := dec_run (op1 h rfl rfl)
theorem e_lstore_n_0 {code : ByteArray} {pc : Nat} {t : List Nat} (h : (rdB code).drop pc = 63 :: t) : decode code pc = .ok (.lstore_n 0, 1) := dec_run (op1 h rfl rfl)
theorem e_lstore_n_1 {code : ByteArray} {pc : Nat} {t : List Nat} (h : (rdB code).drop pc = 64 :: t) : decode code pc = .ok (.lstore_n 1, 1) := dec_run (op1 h rfl rfl)
theorem e_lstore_n_2 {code : ByteArray} {pc : Nat} {t : List Nat} (h : (rdB code).drop pc = 65 :: t) : decode code pc = .ok (.lstore_n 2, 1) := dec_run (op1 h rfl rfl)
theorem e_lstore_n_3 {code : ByteArray} {pc : Nat} {t : List Nat} (h : (rdB code).drop pc = 66 :: t) : decode code pc = .ok (.lstore_n 3, 1) := dec_run (op1 h rfl rfl)
theorem e_astore_n_0 {code : ByteArray} {pc : Nat} {t : List Nat} (h : (rdB code).drop pc = 75 :: t) : decode code pc = .ok (.astore_n 0, 1) := dec_run (op1 h rfl rfl)
theorem e_astore_n_1 {code : ByteArray} {pc : Nat} {t : List Nat} (h : (rdB code).drop pc = 76 :: t) : decode code pc = .ok (.astore_n 1, 1) := dec_run (op1 h rfl rfl)
theorem e_astore_n_2 {code : ByteArray} {pc : Nat} {t : List Nat} (h : (rdB code).drop pc = 77 :: t) : decode code pc = .ok (.astore_n 2, 1) := dec_run (op1 h rfl rfl)
theorem e_astore_n_3 {code : ByteArray} {pc : Nat} {t : List Nat} (h : (rdB code).drop pc = 78 :: t) : decode code pc = .ok (.astore_n 3, 1) := dec_run (op1 h rfl rfl)
theorem e_iconst_m1 {code : ByteArray} {pc : Nat} {t : List Nat} (h : (rdB code).drop pc = 2 :: t) : decode code pc = .ok (.iconst (-1), 1) := dec_run (op1 h rfl rfl)
theorem e_iconst_0 {code : ByteArray} {pc : Nat} {t : List Nat} (h : (rdB code).drop pc = 3 :: t) : decode code pc = .ok (.iconst (0), 1) := dec_run (op1 h rfl rfl)
theorem e_iconst_1 {code : ByteArray} {pc : Nat} {t : List Nat} (h : (rdB code).drop pc = 4 :: t) : decode code pc = .ok (.iconst (1), 1) := dec_run (op1 h rfl rfl)
theorem e_iconst_2 {code : ByteArray} {pc : Nat} {t : List Nat} (h : (rdB code).drop pc = 5 :: t) : decode code pc = .ok (.iconst (2), 1) := dec_run (op1 h rfl rfl)
theorem e_iconst_3 {code : ByteArray} {pc : Nat} {t : List Nat} (h : (rdB code).drop pc = 6 :: t) : decode code pc = .ok (.iconst (3), 1) := dec_run (op1 h rfl rfl)
theorem e_iconst_4 {code : ByteArray} {pc : Nat} {t : List Nat} (h : (rdB code).drop pc = 7 :: t) : decode code pc = .ok (.iconst (4), 1) := dec_run (op1 h rfl rfl)
theorem e_iconst_5 {code : ByteArray} {pc : Nat} {t : List Nat} (h : (rdB code).drop pc = 8 :: t) : decode code pc = .ok (.iconst (5), 1) := dec_run (op1 h rfl rfl)
theorem e_lconst_0 {code : ByteArray} {pc : Nat} {t : List Nat} (h : (rdB code).drop pc = 9 :: t) : decode code pc = .ok (.lconst 0, 1) := dec_run (op1 h rfl rfl)
theorem e_lconst_1 {code : ByteArray} {pc : Nat} {t : List Nat} (h : (rdB code).drop pc = 10 :: t) : decode code pc = .ok (.lconst 1, 1) := dec_run (op1 h rfl rfl)
theorem bif_some {c : Bool} {a b : List Nat} (h : (bif c then some a else none) = some b) : c = true ∧ a = b := by
  cases c with
  | false => cases h
  | true => cases h; exact ⟨rfl, rfl⟩
theorem decF_ok {code : ByteArray} {pc n : Nat} {i : Instr} (h : decF code pc i n = true) : decode code pc = .ok (i, n) := by
  unfold decF at h
  cases he : encI i with
  | none => rw [he] at h; exact of_decide_eq_true h
  | some bs =>
    rw [he] at h
    have g : (bif Nat.beq bs.length n then pfU bs (code.data.toList.drop pc) else false) = true := h
    clear h
    cases hn : Nat.beq bs.length n with
    | false => rw [hn] at g; cases g
    | true =>
      rw [hn, cond_true] at g
      have hn := Nat.eq_of_beq_eq_true hn
      subst hn
      have g := pfU_ok g
      rw [List.map_drop] at g
      obtain ⟨t, ht⟩ := pfx_ok g
      have ht : (rdB code).drop pc = bs ++ t := ht
      clear g
      cases i
      case iadd =>
        cases he
        exact e_iadd ht
      case isub =>
        cases he
        exact e_isub ht
      case imul =>
        cases he
        exact e_imul ht
      case idiv =>
        cases he
        exact e_idiv ht
      case irem =>
        cases he
        exact e_irem ht
      case ineg =>
        cases he
        exact e_ineg ht
      case iand =>
        cases he
        exact e_iand ht
      case ior =>
        cases he
        exact e_ior ht
      case ixor =>
        cases he
        exact e_ixor ht
      case ishl =>
        cases he
        exact e_ishl ht
      case ishr =>
        cases he
        exact e_ishr ht
      case iushr =>
        cases he
        exact e_iushr ht
      case ladd =>
        cases he
        exact e_ladd ht
      case lsub =>
        cases he
        exact e_lsub ht
      case lmul =>
        cases he
        exact e_lmul ht
      case ldiv =>
        cases he
        exact e_ldiv ht
      case lrem =>
        cases he
        exact e_lrem ht
      case lneg =>
        cases he
        exact e_lneg ht
      case land =>
        cases he
        exact e_land ht
      case lor =>
        cases he
        exact e_lor ht
      case lxor =>
        cases he
        exact e_lxor ht
      case lshl =>
        cases he
        exact e_lshl ht
      case lshr =>
        cases he
        exact e_lshr ht
      case lushr =>
        cases he
        exact e_lushr ht
      case i2l =>
        cases he
        exact e_i2l ht
      case l2i =>
        cases he
        exact e_l2i ht
      case i2b =>
        cases he
        exact e_i2b ht
      case i2c =>
        cases he
        exact e_i2c ht
      case i2s =>
        cases he
        exact e_i2s ht
      case lcmp =>
        cases he
        exact e_lcmp ht
      case iaload =>
        cases he
        exact e_iaload ht
      case laload =>
        cases he
        exact e_laload ht
      case aaload =>
        cases he
        exact e_aaload ht
      case baload =>
        cases he
        exact e_baload ht
      case iastore =>
        cases he
        exact e_iastore ht
      case lastore =>
        cases he
        exact e_lastore ht
      case aastore =>
        cases he
        exact e_aastore ht
      case bastore =>
        cases he
        exact e_bastore ht
      case pop =>
        cases he
        exact e_pop ht
      case pop2 =>
        cases he
        exact e_pop2 ht
      case dup =>
        cases he
        exact e_dup ht
      case dup_x1 =>
        cases he
        exact e_dup_x1 ht
      case dup_x2 =>
        cases he
        exact e_dup_x2 ht
      case dup2 =>
        cases he
        exact e_dup2 ht
      case arraylength =>
        cases he
        exact e_arraylength ht
      case ireturn =>
        cases he
        exact e_ireturn ht
      case lreturn =>
        cases he
        exact e_lreturn ht
      case areturn =>
        cases he
        exact e_areturn ht
      case return_ =>
        cases he
        exact e_return_ ht
      case aconst_null =>
        cases he
        exact e_aconst_null ht
      case athrow =>
        cases he
        exact e_athrow ht
      case ldc x =>
        cases he
        exact e_ldc ht
      case iload x =>
        cases he
        exact e_iload ht
      case lload x =>
        cases he
        exact e_lload ht
      case aload x =>
        cases he
        exact e_aload ht
      case istore x =>
        cases he
        exact e_istore ht
      case lstore x =>
        cases he
        exact e_lstore ht
      case astore x =>
        cases he
        exact e_astore ht
      case ldc_w x =>
        cases he
        exact e_ldc_w ht
      case ldc2_w x =>
        cases he
        exact e_ldc2_w ht
      case getstatic x =>
        cases he
        exact e_getstatic ht
      case putstatic x =>
        cases he
        exact e_putstatic ht
      case getfield x =>
        cases he
        exact e_getfield ht
      case putfield x =>
        cases he
        exact e_putfield ht
      case invokevirtual x =>
        cases he
        exact e_invokevirtual ht
      case invokespecial x =>
        cases he
        exact e_invokespecial ht
      case invokestatic x =>
        cases he
        exact e_invokestatic ht
      case new x =>
        cases he
        exact e_new ht
      case anewarray x =>
        cases he
        exact e_anewarray ht
      case checkcast x =>
        cases he
        exact e_checkcast ht
      case goto a =>
        obtain ⟨ha, rfl⟩ := bif_some he
        exact e_goto ha ht
      case ifnull a =>
        obtain ⟨ha, rfl⟩ := bif_some he
        exact e_ifnull ha ht
      case ifnonnull a =>
        obtain ⟨ha, rfl⟩ := bif_some he
        exact e_ifnonnull ha ht
      case sipush a =>
        obtain ⟨ha, rfl⟩ := bif_some he
        exact e_sipush ha ht
      case iload_n f =>
        cases he
        match f, ht with
        | 0, ht => exact e_iload_n_0 ht
        | 1, ht => exact e_iload_n_1 ht
        | 2, ht => exact e_iload_n_2 ht
        | 3, ht => exact e_iload_n_3 ht
      case lload_n f =>
        cases he
        match f, ht with
        | 0, ht => exact e_lload_n_0 ht
        | 1, ht => exact e_lload_n_1 ht
        | 2, ht => exact e_lload_n_2 ht
        | 3, ht => exact e_lload_n_3 ht
      case aload_n f =>
        cases he
        match f, ht with
        | 0, ht => exact e_aload_n_0 ht
        | 1, ht => exact e_aload_n_1 ht
        | 2, ht => exact e_aload_n_2 ht
        | 3, ht => exact e_aload_n_3 ht
      case istore_n f =>
        cases he
        match f, ht with
        | 0, ht => exact e_istore_n_0 ht
        | 1, ht => exact e_istore_n_1 ht
        | 2, ht => exact e_istore_n_2 ht
        | 3, ht => exact e_istore_n_3 ht
      case lstore_n f =>
        cases he
        match f, ht with
        | 0, ht => exact e_lstore_n_0 ht
        | 1, ht => exact e_lstore_n_1 ht
        | 2, ht => exact e_lstore_n_2 ht
        | 3, ht => exact e_lstore_n_3 ht
      case astore_n f =>
        cases he
        match f, ht with
        | 0, ht => exact e_astore_n_0 ht
        | 1, ht => exact e_astore_n_1 ht
        | 2, ht => exact e_astore_n_2 ht
        | 3, ht => exact e_astore_n_3 ht
      case bipush a =>
        obtain ⟨ha, rfl⟩ := bif_some he
        exact e_bipush ha ht
      case iinc x a =>
        obtain ⟨ha, rfl⟩ := bif_some he
        exact e_iinc ha ht
      case iconst a =>
        have he : (bif decide (-1 ≤ a) then bif decide (a ≤ 5) then some [(a + 3).toNat] else none else none) = some bs := he
        cases h1 : decide (-1 ≤ a) with
        | false => rw [h1] at he; cases he
        | true =>
          rw [h1, cond_true] at he
          obtain ⟨h2, rfl⟩ := bif_some he
          have h1 := of_decide_eq_true h1
          have h2 := of_decide_eq_true h2
          rcases (show a = -1 ∨ a = 0 ∨ a = 1 ∨ a = 2 ∨ a = 3 ∨ a = 4 ∨ a = 5 by omega) with rfl | rfl | rfl | rfl | rfl | rfl | rfl
          · exact e_iconst_m1 ht
          · exact e_iconst_0 ht
          · exact e_iconst_1 ht
          · exact e_iconst_2 ht
          · exact e_iconst_3 ht
          · exact e_iconst_4 ht
          · exact e_iconst_5 ht
      case lconst a =>
        cases he
        match a, ht with
        | 0, ht => exact e_lconst_0 ht
        | 1, ht => exact e_lconst_1 ht
      case ifCond c a =>
        obtain ⟨ha, rfl⟩ := bif_some he
        cases c
        · exact e_ifCond_eq ha ht
        · exact e_ifCond_ne ha ht
        · exact e_ifCond_lt ha ht
        · exact e_ifCond_ge ha ht
        · exact e_ifCond_gt ha ht
        · exact e_ifCond_le ha ht
      case if_icmp c a =>
        obtain ⟨ha, rfl⟩ := bif_some he
        cases c
        · exact e_if_icmp_eq ha ht
        · exact e_if_icmp_ne ha ht
        · exact e_if_icmp_lt ha ht
        · exact e_if_icmp_ge ha ht
        · exact e_if_icmp_gt ha ht
        · exact e_if_icmp_le ha ht
      all_goals cases he
