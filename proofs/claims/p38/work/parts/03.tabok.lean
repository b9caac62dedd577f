def dec (k pc : Nat) (i : Instr) (n : Nat) : Bool := decF (mCode k) pc i n
def tch (i : Nat) : List Cond := bif Nat.blt i 240 then tables_1_1 else (bif Nat.blt i 480 then tables_1_2 else (bif Nat.blt i 720 then tables_1_3 else (bif Nat.blt i 960 then tables_1_4 else (bif Nat.blt i 1200 then tables_1_5 else (bif Nat.blt i 1440 then tables_1_6 else (bif Nat.blt i 1680 then tables_1_7 else (bif Nat.blt i 1920 then tables_1_8 else (tables_1_9))))))))
def wAt (i : Int) (w : Cond) : Bool := decide ((tch i.toNat)[i.toNat % 240]? = some w) && goodWord w
def cnd (x : Nat) : Jvm.ClassFile.Cond := bif Nat.beq x 0 then .eq else bif Nat.beq x 1 then .ne else bif Nat.beq x 2 then .lt else bif Nat.beq x 3 then .ge else bif Nat.beq x 4 then .gt else .le
def f4 (x : Nat) : Fin 4 := bif Nat.beq x 0 then 0 else bif Nat.beq x 1 then 1 else bif Nat.beq x 2 then 2 else 3
def i32 (a : Int) : Bool := decide (-2147483648 ≤ a) && decide (a ≤ 2147483647)
def i64 (a : Int) : Bool := decide (-9223372036854775808 ≤ a) && decide (a ≤ 9223372036854775807)
def ok1 (k pc : Nat) (a : Int) (x y z : Nat) : Bool := i32 a && (bif Nat.beq x 0 then dec k pc (.iconst a) 1
      else bif Nat.beq x 1 then dec k pc (.bipush a) 2 && decide ((Int8.ofInt a).toInt32 = Int32.ofInt a)
      else bif Nat.beq x 2 then dec k pc (.sipush a) 3 && decide ((Int16.ofInt a).toInt32 = Int32.ofInt a)
      else bif Nat.beq x 3 then dec k pc (.ldc y) 2 && wAt z (Cond.constant (mOwn k) y (Int32.ofInt a))
      else bif Nat.beq x 4 then dec k pc (.ldc_w y) 3 && wAt z (Cond.constant (mOwn k) y (Int32.ofInt a)) else false)
def ok2 (k pc : Nat) (a : Int) (x y z : Nat) : Bool := i64 a && (bif Nat.beq x 0 then (bif decide (a = 0) then dec k pc (.lconst 0) 1 else decide (a = 1) && dec k pc (.lconst 1) 1)
      else dec k pc (.ldc2_w y) 3 && wAt z (Cond.constantLong (mOwn k) y (Int64.ofInt a)))
def ok3 (k pc : Nat) (a : Int) (x y z : Nat) : Bool := (bif Nat.beq y 0 then Nat.blt x 4 && dec k pc (.iload_n (f4 x)) 1 else dec k pc (.iload x) 2)
def ok4 (k pc : Nat) (a : Int) (x y z : Nat) : Bool := (bif Nat.beq y 0 then Nat.blt x 4 && dec k pc (.lload_n (f4 x)) 1 else dec k pc (.lload x) 2)
def ok5 (k pc : Nat) (a : Int) (x y z : Nat) : Bool := (bif Nat.beq y 0 then Nat.blt x 4 && dec k pc (.aload_n (f4 x)) 1 else dec k pc (.aload x) 2)
def ok6 (k pc : Nat) (a : Int) (x y z : Nat) : Bool := Nat.blt x (mML k) && (bif Nat.beq y 0 then Nat.blt x 4 && dec k pc (.istore_n (f4 x)) 1 else dec k pc (.istore x) 2)
def ok7 (k pc : Nat) (a : Int) (x y z : Nat) : Bool := Nat.blt (x + 1) (mML k) && (bif Nat.beq y 0 then Nat.blt x 4 && dec k pc (.lstore_n (f4 x)) 1 else dec k pc (.lstore x) 2)
def ok8 (k pc : Nat) (a : Int) (x y z : Nat) : Bool := Nat.blt x (mML k) && (bif Nat.beq y 0 then Nat.blt x 4 && dec k pc (.astore_n (f4 x)) 1 else dec k pc (.astore x) 2)
def ok9 (k pc : Nat) (a : Int) (x y z : Nat) : Bool := Nat.blt x (mML k) && i32 a && dec k pc (.iinc x a) 3
def ok10 (k pc : Nat) (a : Int) (x y z : Nat) : Bool := (bif Nat.beq x 0 then dec k pc .iadd 1 else bif Nat.beq x 1 then dec k pc .isub 1 else bif Nat.beq x 2 then dec k pc .imul 1 else bif Nat.beq x 3 then dec k pc .idiv 1 else bif Nat.beq x 4 then dec k pc .irem 1 else bif Nat.beq x 5 then dec k pc .iand 1 else bif Nat.beq x 6 then dec k pc .ior 1 else bif Nat.beq x 7 then dec k pc .ixor 1 else bif Nat.beq x 8 then dec k pc .ishl 1 else bif Nat.beq x 9 then dec k pc .ishr 1 else bif Nat.beq x 10 then dec k pc .iushr 1 else false)
def ok11 (k pc : Nat) (a : Int) (x y z : Nat) : Bool := (bif Nat.beq x 0 then dec k pc .ladd 1 else bif Nat.beq x 1 then dec k pc .lsub 1 else bif Nat.beq x 2 then dec k pc .lmul 1 else bif Nat.beq x 3 then dec k pc .ldiv 1 else bif Nat.beq x 4 then dec k pc .lrem 1 else bif Nat.beq x 5 then dec k pc .land 1 else bif Nat.beq x 6 then dec k pc .lor 1 else bif Nat.beq x 7 then dec k pc .lxor 1 else false)
def ok12 (k pc : Nat) (a : Int) (x y z : Nat) : Bool := (bif Nat.beq x 0 then dec k pc .ineg 1 else bif Nat.beq x 1 then dec k pc .i2l 1 else bif Nat.beq x 2 then dec k pc .l2i 1 else bif Nat.beq x 3 then dec k pc .i2b 1 else bif Nat.beq x 4 then dec k pc .i2s 1 else bif Nat.beq x 5 then dec k pc .i2c 1 else false)
def ok13 (k pc : Nat) (a : Int) (x y z : Nat) : Bool := dec k pc .lcmp 1
def ok14 (k pc : Nat) (a : Int) (x y z : Nat) : Bool := dec k pc (.ifCond (cnd x) a) 3 && decide ((pc : Int) + a = (y : Int)) && Nat.blt x 6
def ok15 (k pc : Nat) (a : Int) (x y z : Nat) : Bool := dec k pc (.if_icmp (cnd x) a) 3 && decide ((pc : Int) + a = (y : Int)) && Nat.blt x 6
def ok16 (k pc : Nat) (a : Int) (x y z : Nat) : Bool := dec k pc (.goto a) 3 && decide ((pc : Int) + a = (y : Int))
def ok17 (k pc : Nat) (a : Int) (x y z : Nat) : Bool := (match vwCl[y]? with | some (C, T, N) => Nat.blt z N && decide ((T z).1 = C) && dec k pc (.getfield x) 3 && wAt a (Cond.fieldLink (mOwn k) x C (T z).2.1 (T z).2.2.1) | none => false)
def ok18 (k pc : Nat) (a : Int) (x y z : Nat) : Bool := (match vwCl[y]? with | some (C, T, N) => Nat.blt z N && decide ((T z).1 = C) && dec k pc (.putfield x) 3 && wAt a (Cond.fieldLink (mOwn k) x C (T z).2.1 (T z).2.2.1) | none => false)
def ok19 (k pc : Nat) (a : Int) (x y z : Nat) : Bool := (bif Nat.beq x 0 then dec k pc .iaload 1 else bif Nat.beq x 1 then dec k pc .baload 1 else bif Nat.beq x 2 then dec k pc .laload 1 else bif Nat.beq x 3 then dec k pc .aaload 1 else false)
def ok20 (k pc : Nat) (a : Int) (x y z : Nat) : Bool := (bif Nat.beq x 0 then dec k pc .iastore 1 else bif Nat.beq x 1 then dec k pc .bastore 1 else bif Nat.beq x 2 then dec k pc .lastore 1 else bif Nat.beq x 3 then dec k pc .aastore 1 else false)
def ok21 (k pc : Nat) (a : Int) (x y z : Nat) : Bool := dec k pc .arraylength 1
def ok22 (k pc : Nat) (a : Int) (x y z : Nat) : Bool := (bif Nat.beq x 0 then dec k pc .dup 1 else bif Nat.beq x 1 then dec k pc .dup2 1 else bif Nat.beq x 2 then dec k pc .pop 1 else bif Nat.beq x 3 then dec k pc .dup_x1 1 else bif Nat.beq x 4 then dec k pc .dup_x2 1 else false)
def ok25 (k pc : Nat) (a : Int) (x y z : Nat) : Bool := (bif Nat.beq x 0 then dec k pc .lshl 1 else bif Nat.beq x 1 then dec k pc .lshr 1 else false)
def ok26 (k pc : Nat) (a : Int) (x y z : Nat) : Bool := Nat.beq (mKind y) z && wAt a (Cond.methodLink (mOwn k) x (mY y)) && (bif Nat.beq z 0 then dec k pc (.invokevirtual x) 3 else bif Nat.beq z 1 then dec k pc (.invokestatic x) 3 else dec k pc (.invokespecial x) 3)
def ok27 (k pc : Nat) (a : Int) (x y z : Nat) : Bool := (bif Nat.beq x 0 then dec k pc .ireturn 1 && (decide (mRet k = some .int) || decide (mRet k = some .boolean)) else bif Nat.beq x 1 then dec k pc .lreturn 1 && decide (mRet k = some .long) else bif Nat.beq x 2 then dec k pc .return_ 1 && decide (mRet k = none) else dec k pc .areturn 1 && decide (mRet k = some (.object "HalvedNames$Hill")))
def ok28 (k pc : Nat) (a : Int) (x y z : Nat) : Bool := (match mSw k pc, mSwI k pc with | (d, lo, ts), (doff, hi, offs, n) => dec k pc (.tableswitch doff lo hi offs) n && decide ((pc : Int) + doff = (d : Int)) && decide (offs.toList.map (fun q => (pc : Int) + q) = ts.map (fun t : Nat => (t : Int))) && decide (hi - lo + 1 = (ts.length : Int)))
def ok29 (k pc : Nat) (a : Int) (x y z : Nat) : Bool := dec k pc (.invokespecial x) 3 && wAt a (Cond.methodLink (mOwn k) x Lib.objectInit)
def ok30 (k pc : Nat) (a : Int) (x y z : Nat) : Bool := (bif Nat.beq x 0 then dec k pc (.ifnull a) 3 else dec k pc (.ifnonnull a) 3) && decide ((pc : Int) + a = (y : Int))
def ok31 (k pc : Nat) (a : Int) (x y z : Nat) : Bool := dec k pc .aconst_null 1
def ok32 (k pc : Nat) (a : Int) (x y z : Nat) : Bool := (match vwCl[y]? with | some (C, T, N) => dec k pc (.new x) 3 && wAt a (Cond.classLink (mOwn k) x C) && wAt (cW y).1 (Cond.instantiable C N) && wAt (cW y).2 (Cond.initialized C) | none => false)
def ok33 (k pc : Nat) (a : Int) (x y z : Nat) : Bool := (bif Nat.beq x 0 then dec k pc (.newarray .int) 2 else bif Nat.beq x 1 then dec k pc (.newarray .byte) 2 else bif Nat.beq x 2 then dec k pc (.newarray .boolean) 2 else dec k pc (.newarray .long) 2)
def ok34 (k pc : Nat) (a : Int) (x y z : Nat) : Bool := dec k pc (.anewarray x) 3
def ok36 (k pc : Nat) (a : Int) (x y z : Nat) : Bool := dec k pc (.lookupswitch a #[(0, (x : Int)), (1, (y : Int))]) z && (match mSw k pc with | (d, lo, ts) => decide ((pc : Int) + a = (d : Int)) && decide (lo = 0) && decide (ts = [pc + x, pc + y]))
def ok23 (k pc : Nat) (a : Int) (x y z : Nat) : Bool := dec k pc (.getstatic x) 3 && (bif Nat.beq y 0 then wAt a (Cond.fieldLink (mOwn k) x "java/lang/String" "COMPACT_STRINGS" "Z") else wAt a (Cond.fieldLink (mOwn k) x "jdk/internal/util/Preconditions" "SIOOBE_FORMATTER" "Ljava/util/function/BiFunction;"))
def ok35 (k pc : Nat) (a : Int) (x y z : Nat) : Bool := dec k pc (.ldc x) 2 && (match xsT[y]? with | some q => decide (q.1 = mOwn k) && Nat.beq q.2.1 x | none => false)
def ok38 (k pc : Nat) (a : Int) (x y z : Nat) : Bool := dec k pc .ireturn 1 && (decide (mRet k = some .char) || decide (mRet k = some .byte))
def ok39 (k pc : Nat) (a : Int) (x y z : Nat) : Bool := dec k pc (.getfield x) 3 && (bif Nat.beq y 0 then wAt a (Cond.fieldLink (mOwn k) x "java/lang/String" "value" "[B") else wAt a (Cond.fieldLink (mOwn k) x "java/lang/String" "coder" "B"))
def okB (k pc : Nat) (xi : XI) : Bool := match xi with
  | (op, a, x, y, z) =>
    bif Nat.beq op 0 then true
    else bif Nat.beq op 1 then ok1 k pc a x y z
    else bif Nat.beq op 2 then ok2 k pc a x y z
    else bif Nat.beq op 3 then ok3 k pc a x y z
    else bif Nat.beq op 4 then ok4 k pc a x y z
    else bif Nat.beq op 5 then ok5 k pc a x y z
    else bif Nat.beq op 6 then ok6 k pc a x y z
    else bif Nat.beq op 7 then ok7 k pc a x y z
    else bif Nat.beq op 8 then ok8 k pc a x y z
    else bif Nat.beq op 9 then ok9 k pc a x y z
    else bif Nat.beq op 10 then ok10 k pc a x y z
    else bif Nat.beq op 11 then ok11 k pc a x y z
    else bif Nat.beq op 12 then ok12 k pc a x y z
    else bif Nat.beq op 13 then ok13 k pc a x y z
    else bif Nat.beq op 14 then ok14 k pc a x y z
    else bif Nat.beq op 15 then ok15 k pc a x y z
    else bif Nat.beq op 16 then ok16 k pc a x y z
    else bif Nat.beq op 17 then ok17 k pc a x y z
    else bif Nat.beq op 18 then ok18 k pc a x y z
    else bif Nat.beq op 19 then ok19 k pc a x y z
    else bif Nat.beq op 20 then ok20 k pc a x y z
    else bif Nat.beq op 21 then ok21 k pc a x y z
    else bif Nat.beq op 22 then ok22 k pc a x y z
    else bif Nat.beq op 25 then ok25 k pc a x y z
    else bif Nat.beq op 26 then ok26 k pc a x y z
    else bif Nat.beq op 27 then ok27 k pc a x y z
    else bif Nat.beq op 28 then ok28 k pc a x y z
    else bif Nat.beq op 29 then ok29 k pc a x y z
    else bif Nat.beq op 30 then ok30 k pc a x y z
    else bif Nat.beq op 31 then ok31 k pc a x y z
    else bif Nat.beq op 32 then ok32 k pc a x y z
    else bif Nat.beq op 33 then ok33 k pc a x y z
    else bif Nat.beq op 34 then ok34 k pc a x y z
    else bif Nat.beq op 35 then ok35 k pc a x y z
    else bif Nat.beq op 23 then ok23 k pc a x y z
    else bif Nat.beq op 38 then ok38 k pc a x y z
    else bif Nat.beq op 39 then ok39 k pc a x y z
    else bif Nat.beq op 36 then ok36 k pc a x y z
    else bif Nat.beq op 37 then true
    else false
def chkM (k : Nat) : Bool := (List.range (mLen k)).all (fun pc => okB k pc (mI k pc))
set_option maxRecDepth 100000 in
theorem ck_0 : (List.range' 0 17).all chkM = true := by decide +kernel
set_option maxRecDepth 100000 in
theorem ck_17 : (List.range' 17 15).all chkM = true := by decide +kernel
set_option maxRecDepth 100000 in
theorem ck_32 : (List.range' 32 14).all chkM = true := by decide +kernel
set_option maxRecDepth 100000 in
theorem ck_46 : (List.range' 46 16).all chkM = true := by decide +kernel
set_option maxRecDepth 100000 in
theorem ck_62 : (List.range' 62 14).all chkM = true := by decide +kernel
set_option maxRecDepth 100000 in
theorem ck_76 : (List.range' 76 16).all chkM = true := by decide +kernel
set_option maxRecDepth 100000 in
theorem ck_92 : (List.range' 92 8).all chkM = true := by decide +kernel
set_option maxRecDepth 100000 in
theorem ck_100 : (List.range' 100 18).all chkM = true := by decide +kernel
set_option maxRecDepth 100000 in
theorem ck_118 : (List.range' 118 12).all chkM = true := by decide +kernel
set_option maxRecDepth 100000 in
theorem ck_130 : (List.range' 130 9).all chkM = true := by decide +kernel
set_option maxRecDepth 100000 in
theorem ck_139 : (List.range' 139 20).all chkM = true := by decide +kernel
set_option maxRecDepth 100000 in
theorem ck_159 : (List.range' 159 21).all chkM = true := by decide +kernel
set_option maxRecDepth 100000 in
theorem ck_180 : (List.range' 180 12).all chkM = true := by decide +kernel
set_option maxRecDepth 100000 in
theorem ck_192 : (List.range' 192 21).all chkM = true := by decide +kernel
set_option maxRecDepth 100000 in
theorem ck_213 : (List.range' 213 17).all chkM = true := by decide +kernel
set_option maxRecDepth 100000 in
theorem ck_230 : (List.range' 230 6).all chkM = true := by decide +kernel
set_option maxRecDepth 100000 in
theorem ck_236 : (List.range' 236 19).all chkM = true := by decide +kernel
set_option maxRecDepth 100000 in
theorem ck_255 : (List.range' 255 17).all chkM = true := by decide +kernel
set_option maxRecDepth 100000 in
theorem ck_272 : (List.range' 272 15).all chkM = true := by decide +kernel
set_option maxRecDepth 100000 in
theorem ck_287 : (List.range' 287 14).all chkM = true := by decide +kernel
set_option maxRecDepth 100000 in
theorem ck_301 : (List.range' 301 7).all chkM = true := by decide +kernel
set_option maxRecDepth 100000 in
theorem ck_308 : (List.range' 308 15).all chkM = true := by decide +kernel
set_option maxRecDepth 100000 in
theorem ck_323 : (List.range' 323 12).all chkM = true := by decide +kernel
set_option maxRecDepth 100000 in
theorem ck_335 : (List.range' 335 17).all chkM = true := by decide +kernel
theorem ck_all (k : Nat) (h : k < 352) : chkM k = true := by
  by_cases h17 : k < 17
  · exact List.all_eq_true.mp ck_0 k (by rw [List.mem_range']; exact ⟨k - 0, by omega, by omega⟩)
  by_cases h32 : k < 32
  · exact List.all_eq_true.mp ck_17 k (by rw [List.mem_range']; exact ⟨k - 17, by omega, by omega⟩)
  by_cases h46 : k < 46
  · exact List.all_eq_true.mp ck_32 k (by rw [List.mem_range']; exact ⟨k - 32, by omega, by omega⟩)
  by_cases h62 : k < 62
  · exact List.all_eq_true.mp ck_46 k (by rw [List.mem_range']; exact ⟨k - 46, by omega, by omega⟩)
  by_cases h76 : k < 76
  · exact List.all_eq_true.mp ck_62 k (by rw [List.mem_range']; exact ⟨k - 62, by omega, by omega⟩)
  by_cases h92 : k < 92
  · exact List.all_eq_true.mp ck_76 k (by rw [List.mem_range']; exact ⟨k - 76, by omega, by omega⟩)
  by_cases h100 : k < 100
  · exact List.all_eq_true.mp ck_92 k (by rw [List.mem_range']; exact ⟨k - 92, by omega, by omega⟩)
  by_cases h118 : k < 118
  · exact List.all_eq_true.mp ck_100 k (by rw [List.mem_range']; exact ⟨k - 100, by omega, by omega⟩)
  by_cases h130 : k < 130
  · exact List.all_eq_true.mp ck_118 k (by rw [List.mem_range']; exact ⟨k - 118, by omega, by omega⟩)
  by_cases h139 : k < 139
  · exact List.all_eq_true.mp ck_130 k (by rw [List.mem_range']; exact ⟨k - 130, by omega, by omega⟩)
  by_cases h159 : k < 159
  · exact List.all_eq_true.mp ck_139 k (by rw [List.mem_range']; exact ⟨k - 139, by omega, by omega⟩)
  by_cases h180 : k < 180
  · exact List.all_eq_true.mp ck_159 k (by rw [List.mem_range']; exact ⟨k - 159, by omega, by omega⟩)
  by_cases h192 : k < 192
  · exact List.all_eq_true.mp ck_180 k (by rw [List.mem_range']; exact ⟨k - 180, by omega, by omega⟩)
  by_cases h213 : k < 213
  · exact List.all_eq_true.mp ck_192 k (by rw [List.mem_range']; exact ⟨k - 192, by omega, by omega⟩)
  by_cases h230 : k < 230
  · exact List.all_eq_true.mp ck_213 k (by rw [List.mem_range']; exact ⟨k - 213, by omega, by omega⟩)
  by_cases h236 : k < 236
  · exact List.all_eq_true.mp ck_230 k (by rw [List.mem_range']; exact ⟨k - 230, by omega, by omega⟩)
  by_cases h255 : k < 255
  · exact List.all_eq_true.mp ck_236 k (by rw [List.mem_range']; exact ⟨k - 236, by omega, by omega⟩)
  by_cases h272 : k < 272
  · exact List.all_eq_true.mp ck_255 k (by rw [List.mem_range']; exact ⟨k - 255, by omega, by omega⟩)
  by_cases h287 : k < 287
  · exact List.all_eq_true.mp ck_272 k (by rw [List.mem_range']; exact ⟨k - 272, by omega, by omega⟩)
  by_cases h301 : k < 301
  · exact List.all_eq_true.mp ck_287 k (by rw [List.mem_range']; exact ⟨k - 287, by omega, by omega⟩)
  by_cases h308 : k < 308
  · exact List.all_eq_true.mp ck_301 k (by rw [List.mem_range']; exact ⟨k - 301, by omega, by omega⟩)
  by_cases h323 : k < 323
  · exact List.all_eq_true.mp ck_308 k (by rw [List.mem_range']; exact ⟨k - 308, by omega, by omega⟩)
  by_cases h335 : k < 335
  · exact List.all_eq_true.mp ck_323 k (by rw [List.mem_range']; exact ⟨k - 323, by omega, by omega⟩)
  by_cases h352 : k < 352
  · exact List.all_eq_true.mp ck_335 k (by rw [List.mem_range']; exact ⟨k - 335, by omega, by omega⟩)
  omega
theorem tabOK (k pc : Nat) : okB k pc (mI k pc) = true := by
  by_cases h : k < 352
  · by_cases h2 : pc < mLen k
    · exact List.all_eq_true.mp (ck_all k h) pc (List.mem_range.mpr h2)
    · have e : mI k pc = xi0 := by
        have h3 : Nat.blt pc (mLen k) = false := by
          cases hb : Nat.blt pc (mLen k) with
          | false => rfl
          | true => exact absurd (Nat.blt_eq.mp hb) h2
        unfold mI
        rw [h3]
        cases Nat.blt k 352 <;> rfl
      rw [e]; rfl
  · have e : mI k pc = xi0 := by
      have h3 : Nat.blt k 352 = false := by
        cases hb : Nat.blt k 352 with
        | false => rfl
        | true => exact absurd (Nat.blt_eq.mp hb) h
      unfold mI
      rw [h3]
      rfl
    rw [e]; rfl
def okY (k : Nat) : Bool := goodWord (Cond.code (mY k) (mCode k) (mML k) (mRet k)) && wAt (mW k).2.1 (Cond.initialized (mY k).cls) && decide ((mY k).cls ≠ "java/lang/invoke/MethodHandle") && decide ((mY k).cls ≠ "java/lang/invoke/VarHandle") && decide ((parseMethodDescriptor (mY k).desc).map (fun d => d.parameters.length) = some (mN k)) && plainFor (mY k) && Nat.ble (mML k) 21 && decide ((mY k).cls = mOwn k)
  && (bif Nat.beq (mKind k) 0 then wAt (mW k).2.2.1 (Cond.instanceMethod (mY k)) && decide (lw_tbl[(mW k).2.2.2]? = some (Cond.selects (mY k).cls (mY k) (mY k))) else bif Nat.beq (mKind k) 1 then wAt (mW k).2.2.1 (Cond.static (mY k)) else wAt (mW k).2.2.1 (Cond.instanceMethod (mY k)) && decide ((mY k).name = "<init>"))
def mCi (k : Nat) : Nat := (bif Nat.blt k 176 then (bif Nat.blt k 88 then (bif Nat.blt k 44 then (bif Nat.blt k 22 then (bif Nat.blt k 11 then (bif Nat.blt k 5 then (bif Nat.blt k 2 then (bif Nat.blt k 1 then 10 else 10) else (bif Nat.blt k 3 then 10 else (bif Nat.blt k 4 then 10 else 10))) else (bif Nat.blt k 8 then (bif Nat.blt k 6 then 10 else (bif Nat.blt k 7 then 10 else 10)) else (bif Nat.blt k 9 then 10 else (bif Nat.blt k 10 then 10 else 10)))) else (bif Nat.blt k 16 then (bif Nat.blt k 13 then (bif Nat.blt k 12 then 10 else 10) else (bif Nat.blt k 14 then 10 else (bif Nat.blt k 15 then 10 else 10))) else (bif Nat.blt k 19 then (bif Nat.blt k 17 then 10 else (bif Nat.blt k 18 then 10 else 10)) else (bif Nat.blt k 20 then 10 else (bif Nat.blt k 21 then 10 else 10))))) else (bif Nat.blt k 33 then (bif Nat.blt k 27 then (bif Nat.blt k 24 then (bif Nat.blt k 23 then 10 else 10) else (bif Nat.blt k 25 then 10 else (bif Nat.blt k 26 then 10 else 10))) else (bif Nat.blt k 30 then (bif Nat.blt k 28 then 10 else (bif Nat.blt k 29 then 10 else 10)) else (bif Nat.blt k 31 then 10 else (bif Nat.blt k 32 then 10 else 10)))) else (bif Nat.blt k 38 then (bif Nat.blt k 35 then (bif Nat.blt k 34 then 10 else 10) else (bif Nat.blt k 36 then 10 else (bif Nat.blt k 37 then 10 else 10))) else (bif Nat.blt k 41 then (bif Nat.blt k 39 then 10 else (bif Nat.blt k 40 then 10 else 10)) else (bif Nat.blt k 42 then 10 else (bif Nat.blt k 43 then 10 else 10)))))) else (bif Nat.blt k 66 then (bif Nat.blt k 55 then (bif Nat.blt k 49 then (bif Nat.blt k 46 then (bif Nat.blt k 45 then 10 else 10) else (bif Nat.blt k 47 then 10 else (bif Nat.blt k 48 then 10 else 10))) else (bif Nat.blt k 52 then (bif Nat.blt k 50 then 10 else (bif Nat.blt k 51 then 10 else 10)) else (bif Nat.blt k 53 then 10 else (bif Nat.blt k 54 then 10 else 10)))) else (bif Nat.blt k 60 then (bif Nat.blt k 57 then (bif Nat.blt k 56 then 10 else 10) else (bif Nat.blt k 58 then 10 else (bif Nat.blt k 59 then 10 else 10))) else (bif Nat.blt k 63 then (bif Nat.blt k 61 then 10 else (bif Nat.blt k 62 then 10 else 10)) else (bif Nat.blt k 64 then 10 else (bif Nat.blt k 65 then 10 else 10))))) else (bif Nat.blt k 77 then (bif Nat.blt k 71 then (bif Nat.blt k 68 then (bif Nat.blt k 67 then 10 else 10) else (bif Nat.blt k 69 then 10 else (bif Nat.blt k 70 then 10 else 10))) else (bif Nat.blt k 74 then (bif Nat.blt k 72 then 10 else (bif Nat.blt k 73 then 10 else 10)) else (bif Nat.blt k 75 then 10 else (bif Nat.blt k 76 then 10 else 10)))) else (bif Nat.blt k 82 then (bif Nat.blt k 79 then (bif Nat.blt k 78 then 0 else 0) else (bif Nat.blt k 80 then 0 else (bif Nat.blt k 81 then 0 else 0))) else (bif Nat.blt k 85 then (bif Nat.blt k 83 then 0 else (bif Nat.blt k 84 then 0 else 1)) else (bif Nat.blt k 86 then 1 else (bif Nat.blt k 87 then 1 else 1))))))) else (bif Nat.blt k 132 then (bif Nat.blt k 110 then (bif Nat.blt k 99 then (bif Nat.blt k 93 then (bif Nat.blt k 90 then (bif Nat.blt k 89 then 1 else 1) else (bif Nat.blt k 91 then 1 else (bif Nat.blt k 92 then 1 else 1))) else (bif Nat.blt k 96 then (bif Nat.blt k 94 then 1 else (bif Nat.blt k 95 then 1 else 1)) else (bif Nat.blt k 97 then 1 else (bif Nat.blt k 98 then 1 else 2)))) else (bif Nat.blt k 104 then (bif Nat.blt k 101 then (bif Nat.blt k 100 then 2 else 2) else (bif Nat.blt k 102 then 2 else (bif Nat.blt k 103 then 2 else 2))) else (bif Nat.blt k 107 then (bif Nat.blt k 105 then 2 else (bif Nat.blt k 106 then 2 else 2)) else (bif Nat.blt k 108 then 2 else (bif Nat.blt k 109 then 2 else 2))))) else (bif Nat.blt k 121 then (bif Nat.blt k 115 then (bif Nat.blt k 112 then (bif Nat.blt k 111 then 2 else 2) else (bif Nat.blt k 113 then 2 else (bif Nat.blt k 114 then 2 else 2))) else (bif Nat.blt k 118 then (bif Nat.blt k 116 then 3 else (bif Nat.blt k 117 then 3 else 3)) else (bif Nat.blt k 119 then 3 else (bif Nat.blt k 120 then 3 else 3)))) else (bif Nat.blt k 126 then (bif Nat.blt k 123 then (bif Nat.blt k 122 then 3 else 3) else (bif Nat.blt k 124 then 3 else (bif Nat.blt k 125 then 4 else 4))) else (bif Nat.blt k 129 then (bif Nat.blt k 127 then 4 else (bif Nat.blt k 128 then 4 else 4)) else (bif Nat.blt k 130 then 4 else (bif Nat.blt k 131 then 4 else 4)))))) else (bif Nat.blt k 154 then (bif Nat.blt k 143 then (bif Nat.blt k 137 then (bif Nat.blt k 134 then (bif Nat.blt k 133 then 5 else 5) else (bif Nat.blt k 135 then 5 else (bif Nat.blt k 136 then 5 else 5))) else (bif Nat.blt k 140 then (bif Nat.blt k 138 then 5 else (bif Nat.blt k 139 then 5 else 5)) else (bif Nat.blt k 141 then 5 else (bif Nat.blt k 142 then 5 else 5)))) else (bif Nat.blt k 148 then (bif Nat.blt k 145 then (bif Nat.blt k 144 then 5 else 5) else (bif Nat.blt k 146 then 5 else (bif Nat.blt k 147 then 5 else 99))) else (bif Nat.blt k 151 then (bif Nat.blt k 149 then 99 else (bif Nat.blt k 150 then 99 else 99)) else (bif Nat.blt k 152 then 99 else (bif Nat.blt k 153 then 99 else 6))))) else (bif Nat.blt k 165 then (bif Nat.blt k 159 then (bif Nat.blt k 156 then (bif Nat.blt k 155 then 6 else 6) else (bif Nat.blt k 157 then 6 else (bif Nat.blt k 158 then 6 else 6))) else (bif Nat.blt k 162 then (bif Nat.blt k 160 then 7 else (bif Nat.blt k 161 then 7 else 7)) else (bif Nat.blt k 163 then 7 else (bif Nat.blt k 164 then 7 else 7)))) else (bif Nat.blt k 170 then (bif Nat.blt k 167 then (bif Nat.blt k 166 then 7 else 7) else (bif Nat.blt k 168 then 7 else (bif Nat.blt k 169 then 7 else 7))) else (bif Nat.blt k 173 then (bif Nat.blt k 171 then 7 else (bif Nat.blt k 172 then 7 else 8)) else (bif Nat.blt k 174 then 8 else (bif Nat.blt k 175 then 8 else 8)))))))) else (bif Nat.blt k 264 then (bif Nat.blt k 220 then (bif Nat.blt k 198 then (bif Nat.blt k 187 then (bif Nat.blt k 181 then (bif Nat.blt k 178 then (bif Nat.blt k 177 then 8 else 8) else (bif Nat.blt k 179 then 8 else (bif Nat.blt k 180 then 8 else 8))) else (bif Nat.blt k 184 then (bif Nat.blt k 182 then 8 else (bif Nat.blt k 183 then 8 else 8)) else (bif Nat.blt k 185 then 9 else (bif Nat.blt k 186 then 9 else 9)))) else (bif Nat.blt k 192 then (bif Nat.blt k 189 then (bif Nat.blt k 188 then 9 else 9) else (bif Nat.blt k 190 then 9 else (bif Nat.blt k 191 then 9 else 9))) else (bif Nat.blt k 195 then (bif Nat.blt k 193 then 11 else (bif Nat.blt k 194 then 11 else 11)) else (bif Nat.blt k 196 then 11 else (bif Nat.blt k 197 then 11 else 11))))) else (bif Nat.blt k 209 then (bif Nat.blt k 203 then (bif Nat.blt k 200 then (bif Nat.blt k 199 then 11 else 11) else (bif Nat.blt k 201 then 11 else (bif Nat.blt k 202 then 11 else 11))) else (bif Nat.blt k 206 then (bif Nat.blt k 204 then 11 else (bif Nat.blt k 205 then 11 else 11)) else (bif Nat.blt k 207 then 11 else (bif Nat.blt k 208 then 11 else 11)))) else (bif Nat.blt k 214 then (bif Nat.blt k 211 then (bif Nat.blt k 210 then 11 else 11) else (bif Nat.blt k 212 then 11 else (bif Nat.blt k 213 then 11 else 11))) else (bif Nat.blt k 217 then (bif Nat.blt k 215 then 11 else (bif Nat.blt k 216 then 11 else 11)) else (bif Nat.blt k 218 then 11 else (bif Nat.blt k 219 then 11 else 11)))))) else (bif Nat.blt k 242 then (bif Nat.blt k 231 then (bif Nat.blt k 225 then (bif Nat.blt k 222 then (bif Nat.blt k 221 then 11 else 11) else (bif Nat.blt k 223 then 11 else (bif Nat.blt k 224 then 11 else 11))) else (bif Nat.blt k 228 then (bif Nat.blt k 226 then 11 else (bif Nat.blt k 227 then 11 else 11)) else (bif Nat.blt k 229 then 11 else (bif Nat.blt k 230 then 11 else 11)))) else (bif Nat.blt k 236 then (bif Nat.blt k 233 then (bif Nat.blt k 232 then 11 else 11) else (bif Nat.blt k 234 then 11 else (bif Nat.blt k 235 then 11 else 11))) else (bif Nat.blt k 239 then (bif Nat.blt k 237 then 11 else (bif Nat.blt k 238 then 11 else 11)) else (bif Nat.blt k 240 then 11 else (bif Nat.blt k 241 then 11 else 11))))) else (bif Nat.blt k 253 then (bif Nat.blt k 247 then (bif Nat.blt k 244 then (bif Nat.blt k 243 then 11 else 11) else (bif Nat.blt k 245 then 11 else (bif Nat.blt k 246 then 11 else 11))) else (bif Nat.blt k 250 then (bif Nat.blt k 248 then 11 else (bif Nat.blt k 249 then 11 else 11)) else (bif Nat.blt k 251 then 11 else (bif Nat.blt k 252 then 11 else 11)))) else (bif Nat.blt k 258 then (bif Nat.blt k 255 then (bif Nat.blt k 254 then 11 else 11) else (bif Nat.blt k 256 then 11 else (bif Nat.blt k 257 then 11 else 11))) else (bif Nat.blt k 261 then (bif Nat.blt k 259 then 11 else (bif Nat.blt k 260 then 11 else 11)) else (bif Nat.blt k 262 then 11 else (bif Nat.blt k 263 then 11 else 11))))))) else (bif Nat.blt k 308 then (bif Nat.blt k 286 then (bif Nat.blt k 275 then (bif Nat.blt k 269 then (bif Nat.blt k 266 then (bif Nat.blt k 265 then 11 else 11) else (bif Nat.blt k 267 then 11 else (bif Nat.blt k 268 then 11 else 11))) else (bif Nat.blt k 272 then (bif Nat.blt k 270 then 11 else (bif Nat.blt k 271 then 11 else 11)) else (bif Nat.blt k 273 then 11 else (bif Nat.blt k 274 then 11 else 11)))) else (bif Nat.blt k 280 then (bif Nat.blt k 277 then (bif Nat.blt k 276 then 11 else 11) else (bif Nat.blt k 278 then 11 else (bif Nat.blt k 279 then 11 else 11))) else (bif Nat.blt k 283 then (bif Nat.blt k 281 then 11 else (bif Nat.blt k 282 then 11 else 11)) else (bif Nat.blt k 284 then 11 else (bif Nat.blt k 285 then 11 else 11))))) else (bif Nat.blt k 297 then (bif Nat.blt k 291 then (bif Nat.blt k 288 then (bif Nat.blt k 287 then 11 else 11) else (bif Nat.blt k 289 then 11 else (bif Nat.blt k 290 then 11 else 11))) else (bif Nat.blt k 294 then (bif Nat.blt k 292 then 11 else (bif Nat.blt k 293 then 11 else 11)) else (bif Nat.blt k 295 then 11 else (bif Nat.blt k 296 then 11 else 11)))) else (bif Nat.blt k 302 then (bif Nat.blt k 299 then (bif Nat.blt k 298 then 11 else 11) else (bif Nat.blt k 300 then 11 else (bif Nat.blt k 301 then 11 else 11))) else (bif Nat.blt k 305 then (bif Nat.blt k 303 then 11 else (bif Nat.blt k 304 then 11 else 11)) else (bif Nat.blt k 306 then 11 else (bif Nat.blt k 307 then 11 else 11)))))) else (bif Nat.blt k 330 then (bif Nat.blt k 319 then (bif Nat.blt k 313 then (bif Nat.blt k 310 then (bif Nat.blt k 309 then 11 else 11) else (bif Nat.blt k 311 then 11 else (bif Nat.blt k 312 then 11 else 11))) else (bif Nat.blt k 316 then (bif Nat.blt k 314 then 11 else (bif Nat.blt k 315 then 11 else 11)) else (bif Nat.blt k 317 then 11 else (bif Nat.blt k 318 then 11 else 11)))) else (bif Nat.blt k 324 then (bif Nat.blt k 321 then (bif Nat.blt k 320 then 11 else 11) else (bif Nat.blt k 322 then 11 else (bif Nat.blt k 323 then 11 else 11))) else (bif Nat.blt k 327 then (bif Nat.blt k 325 then 11 else (bif Nat.blt k 326 then 11 else 11)) else (bif Nat.blt k 328 then 11 else (bif Nat.blt k 329 then 11 else 11))))) else (bif Nat.blt k 341 then (bif Nat.blt k 335 then (bif Nat.blt k 332 then (bif Nat.blt k 331 then 11 else 11) else (bif Nat.blt k 333 then 11 else (bif Nat.blt k 334 then 11 else 11))) else (bif Nat.blt k 338 then (bif Nat.blt k 336 then 11 else (bif Nat.blt k 337 then 11 else 11)) else (bif Nat.blt k 339 then 11 else (bif Nat.blt k 340 then 11 else 11)))) else (bif Nat.blt k 346 then (bif Nat.blt k 343 then (bif Nat.blt k 342 then 99 else 99) else (bif Nat.blt k 344 then 99 else (bif Nat.blt k 345 then 99 else 99))) else (bif Nat.blt k 349 then (bif Nat.blt k 347 then 99 else (bif Nat.blt k 348 then 99 else 99)) else (bif Nat.blt k 350 then 99 else (bif Nat.blt k 351 then 99 else 99)))))))))
def ciOK (k : Nat) : Bool := !(Nat.beq (mKind k) 0) || Nat.beq (mCi k) 99 || (match vwCl[mCi k]? with | some q => decide (q.1 = (mY k).cls) | none => false)
set_option maxRecDepth 100000 in
theorem ci_all : (List.range 352).all ciOK = true := by decide +kernel
set_option maxRecDepth 100000 in
theorem cy_0 : (List.range' 0 25).all okY = true := by decide +kernel
set_option maxRecDepth 100000 in
theorem cy_25 : (List.range' 25 25).all okY = true := by decide +kernel
set_option maxRecDepth 100000 in
theorem cy_50 : (List.range' 50 25).all okY = true := by decide +kernel
set_option maxRecDepth 100000 in
theorem cy_75 : (List.range' 75 25).all okY = true := by decide +kernel
set_option maxRecDepth 100000 in
theorem cy_100 : (List.range' 100 25).all okY = true := by decide +kernel
set_option maxRecDepth 100000 in
theorem cy_125 : (List.range' 125 25).all okY = true := by decide +kernel
set_option maxRecDepth 100000 in
theorem cy_150 : (List.range' 150 25).all okY = true := by decide +kernel
set_option maxRecDepth 100000 in
theorem cy_175 : (List.range' 175 25).all okY = true := by decide +kernel
set_option maxRecDepth 100000 in
theorem cy_200 : (List.range' 200 25).all okY = true := by decide +kernel
set_option maxRecDepth 100000 in
theorem cy_225 : (List.range' 225 25).all okY = true := by decide +kernel
set_option maxRecDepth 100000 in
theorem cy_250 : (List.range' 250 25).all okY = true := by decide +kernel
set_option maxRecDepth 100000 in
theorem cy_275 : (List.range' 275 25).all okY = true := by decide +kernel
set_option maxRecDepth 100000 in
theorem cy_300 : (List.range' 300 25).all okY = true := by decide +kernel
set_option maxRecDepth 100000 in
theorem cy_325 : (List.range' 325 25).all okY = true := by decide +kernel
set_option maxRecDepth 100000 in
theorem cy_350 : (List.range' 350 2).all okY = true := by decide +kernel
set_option maxRecDepth 100000 in
theorem wc_0 : (List.range' 0 25).map (fun k => (tch (mW k).1)[(mW k).1 % 240]?) = (List.range' 0 25).map (fun k => some (Cond.code (mY k) (mCode k) (mML k) (mRet k))) := rfl
set_option maxRecDepth 100000 in
theorem wc_25 : (List.range' 25 25).map (fun k => (tch (mW k).1)[(mW k).1 % 240]?) = (List.range' 25 25).map (fun k => some (Cond.code (mY k) (mCode k) (mML k) (mRet k))) := rfl
set_option maxRecDepth 100000 in
theorem wc_50 : (List.range' 50 25).map (fun k => (tch (mW k).1)[(mW k).1 % 240]?) = (List.range' 50 25).map (fun k => some (Cond.code (mY k) (mCode k) (mML k) (mRet k))) := rfl
set_option maxRecDepth 100000 in
theorem wc_75 : (List.range' 75 25).map (fun k => (tch (mW k).1)[(mW k).1 % 240]?) = (List.range' 75 25).map (fun k => some (Cond.code (mY k) (mCode k) (mML k) (mRet k))) := rfl
set_option maxRecDepth 100000 in
theorem wc_100 : (List.range' 100 25).map (fun k => (tch (mW k).1)[(mW k).1 % 240]?) = (List.range' 100 25).map (fun k => some (Cond.code (mY k) (mCode k) (mML k) (mRet k))) := rfl
set_option maxRecDepth 100000 in
theorem wc_125 : (List.range' 125 25).map (fun k => (tch (mW k).1)[(mW k).1 % 240]?) = (List.range' 125 25).map (fun k => some (Cond.code (mY k) (mCode k) (mML k) (mRet k))) := rfl
set_option maxRecDepth 100000 in
theorem wc_150 : (List.range' 150 25).map (fun k => (tch (mW k).1)[(mW k).1 % 240]?) = (List.range' 150 25).map (fun k => some (Cond.code (mY k) (mCode k) (mML k) (mRet k))) := rfl
set_option maxRecDepth 100000 in
theorem wc_175 : (List.range' 175 25).map (fun k => (tch (mW k).1)[(mW k).1 % 240]?) = (List.range' 175 25).map (fun k => some (Cond.code (mY k) (mCode k) (mML k) (mRet k))) := rfl
set_option maxRecDepth 100000 in
theorem wc_200 : (List.range' 200 25).map (fun k => (tch (mW k).1)[(mW k).1 % 240]?) = (List.range' 200 25).map (fun k => some (Cond.code (mY k) (mCode k) (mML k) (mRet k))) := rfl
set_option maxRecDepth 100000 in
theorem wc_225 : (List.range' 225 25).map (fun k => (tch (mW k).1)[(mW k).1 % 240]?) = (List.range' 225 25).map (fun k => some (Cond.code (mY k) (mCode k) (mML k) (mRet k))) := rfl
set_option maxRecDepth 100000 in
theorem wc_250 : (List.range' 250 25).map (fun k => (tch (mW k).1)[(mW k).1 % 240]?) = (List.range' 250 25).map (fun k => some (Cond.code (mY k) (mCode k) (mML k) (mRet k))) := rfl
set_option maxRecDepth 100000 in
theorem wc_275 : (List.range' 275 25).map (fun k => (tch (mW k).1)[(mW k).1 % 240]?) = (List.range' 275 25).map (fun k => some (Cond.code (mY k) (mCode k) (mML k) (mRet k))) := rfl
set_option maxRecDepth 100000 in
theorem wc_300 : (List.range' 300 25).map (fun k => (tch (mW k).1)[(mW k).1 % 240]?) = (List.range' 300 25).map (fun k => some (Cond.code (mY k) (mCode k) (mML k) (mRet k))) := rfl
set_option maxRecDepth 100000 in
theorem wc_325 : (List.range' 325 25).map (fun k => (tch (mW k).1)[(mW k).1 % 240]?) = (List.range' 325 25).map (fun k => some (Cond.code (mY k) (mCode k) (mML k) (mRet k))) := rfl
set_option maxRecDepth 100000 in
theorem wc_350 : (List.range' 350 2).map (fun k => (tch (mW k).1)[(mW k).1 % 240]?) = (List.range' 350 2).map (fun k => some (Cond.code (mY k) (mCode k) (mML k) (mRet k))) := rfl
theorem wc_all (k : Nat) (h : k < 352) : (tch (mW k).1)[(mW k).1 % 240]? = some (Cond.code (mY k) (mCode k) (mML k) (mRet k)) := by
  by_cases h25 : k < 25
  · exact List.map_inj_left.mp wc_0 k (by rw [List.mem_range']; exact ⟨k - 0, by omega, by omega⟩)
  by_cases h50 : k < 50
  · exact List.map_inj_left.mp wc_25 k (by rw [List.mem_range']; exact ⟨k - 25, by omega, by omega⟩)
  by_cases h75 : k < 75
  · exact List.map_inj_left.mp wc_50 k (by rw [List.mem_range']; exact ⟨k - 50, by omega, by omega⟩)
  by_cases h100 : k < 100
  · exact List.map_inj_left.mp wc_75 k (by rw [List.mem_range']; exact ⟨k - 75, by omega, by omega⟩)
  by_cases h125 : k < 125
  · exact List.map_inj_left.mp wc_100 k (by rw [List.mem_range']; exact ⟨k - 100, by omega, by omega⟩)
  by_cases h150 : k < 150
  · exact List.map_inj_left.mp wc_125 k (by rw [List.mem_range']; exact ⟨k - 125, by omega, by omega⟩)
  by_cases h175 : k < 175
  · exact List.map_inj_left.mp wc_150 k (by rw [List.mem_range']; exact ⟨k - 150, by omega, by omega⟩)
  by_cases h200 : k < 200
  · exact List.map_inj_left.mp wc_175 k (by rw [List.mem_range']; exact ⟨k - 175, by omega, by omega⟩)
  by_cases h225 : k < 225
  · exact List.map_inj_left.mp wc_200 k (by rw [List.mem_range']; exact ⟨k - 200, by omega, by omega⟩)
  by_cases h250 : k < 250
  · exact List.map_inj_left.mp wc_225 k (by rw [List.mem_range']; exact ⟨k - 225, by omega, by omega⟩)
  by_cases h275 : k < 275
  · exact List.map_inj_left.mp wc_250 k (by rw [List.mem_range']; exact ⟨k - 250, by omega, by omega⟩)
  by_cases h300 : k < 300
  · exact List.map_inj_left.mp wc_275 k (by rw [List.mem_range']; exact ⟨k - 275, by omega, by omega⟩)
  by_cases h325 : k < 325
  · exact List.map_inj_left.mp wc_300 k (by rw [List.mem_range']; exact ⟨k - 300, by omega, by omega⟩)
  by_cases h350 : k < 350
  · exact List.map_inj_left.mp wc_325 k (by rw [List.mem_range']; exact ⟨k - 325, by omega, by omega⟩)
  by_cases h352 : k < 352
  · exact List.map_inj_left.mp wc_350 k (by rw [List.mem_range']; exact ⟨k - 350, by omega, by omega⟩)
  omega
theorem cy_all (k : Nat) (h : k < 352) : okY k = true := by
  by_cases h25 : k < 25
  · exact List.all_eq_true.mp cy_0 k (by rw [List.mem_range']; exact ⟨k - 0, by omega, by omega⟩)
  by_cases h50 : k < 50
  · exact List.all_eq_true.mp cy_25 k (by rw [List.mem_range']; exact ⟨k - 25, by omega, by omega⟩)
  by_cases h75 : k < 75
  · exact List.all_eq_true.mp cy_50 k (by rw [List.mem_range']; exact ⟨k - 50, by omega, by omega⟩)
  by_cases h100 : k < 100
  · exact List.all_eq_true.mp cy_75 k (by rw [List.mem_range']; exact ⟨k - 75, by omega, by omega⟩)
  by_cases h125 : k < 125
  · exact List.all_eq_true.mp cy_100 k (by rw [List.mem_range']; exact ⟨k - 100, by omega, by omega⟩)
  by_cases h150 : k < 150
  · exact List.all_eq_true.mp cy_125 k (by rw [List.mem_range']; exact ⟨k - 125, by omega, by omega⟩)
  by_cases h175 : k < 175
  · exact List.all_eq_true.mp cy_150 k (by rw [List.mem_range']; exact ⟨k - 150, by omega, by omega⟩)
  by_cases h200 : k < 200
  · exact List.all_eq_true.mp cy_175 k (by rw [List.mem_range']; exact ⟨k - 175, by omega, by omega⟩)
  by_cases h225 : k < 225
  · exact List.all_eq_true.mp cy_200 k (by rw [List.mem_range']; exact ⟨k - 200, by omega, by omega⟩)
  by_cases h250 : k < 250
  · exact List.all_eq_true.mp cy_225 k (by rw [List.mem_range']; exact ⟨k - 225, by omega, by omega⟩)
  by_cases h275 : k < 275
  · exact List.all_eq_true.mp cy_250 k (by rw [List.mem_range']; exact ⟨k - 250, by omega, by omega⟩)
  by_cases h300 : k < 300
  · exact List.all_eq_true.mp cy_275 k (by rw [List.mem_range']; exact ⟨k - 275, by omega, by omega⟩)
  by_cases h325 : k < 325
  · exact List.all_eq_true.mp cy_300 k (by rw [List.mem_range']; exact ⟨k - 300, by omega, by omega⟩)
  by_cases h350 : k < 350
  · exact List.all_eq_true.mp cy_325 k (by rw [List.mem_range']; exact ⟨k - 325, by omega, by omega⟩)
  by_cases h352 : k < 352
  · exact List.all_eq_true.mp cy_350 k (by rw [List.mem_range']; exact ⟨k - 350, by omega, by omega⟩)
  omega
