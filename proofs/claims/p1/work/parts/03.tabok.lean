def dec (k pc : Nat) (i : Instr) (n : Nat) : Bool := decide (decode (mCode k) pc = .ok (i, n))
def wAt (i : Int) (w : Cond) : Bool := decide (tables_1[i.toNat]? = some w) && goodWord w
def cnd (x : Nat) : Jvm.ClassFile.Cond := bif Nat.beq x 0 then .eq else bif Nat.beq x 1 then .ne else bif Nat.beq x 2 then .lt else bif Nat.beq x 3 then .ge else bif Nat.beq x 4 then .gt else .le
def f4 (x : Nat) : Fin 4 := bif Nat.beq x 0 then 0 else bif Nat.beq x 1 then 1 else bif Nat.beq x 2 then 2 else 3
def i32 (a : Int) : Bool := decide (-2147483648 ≤ a) && decide (a ≤ 2147483647)
def i64 (a : Int) : Bool := decide (-9223372036854775808 ≤ a) && decide (a ≤ 9223372036854775807)
def ok1 (k pc : Nat) (a : Int) (x y z : Nat) : Bool := i32 a && (bif Nat.beq x 0 then dec k pc (.iconst a) 1
      else bif Nat.beq x 1 then dec k pc (.bipush a) 2 && decide ((Int8.ofInt a).toInt32 = Int32.ofInt a)
      else bif Nat.beq x 2 then dec k pc (.sipush a) 3 && decide ((Int16.ofInt a).toInt32 = Int32.ofInt a)
      else bif Nat.beq x 3 then dec k pc (.ldc y) 2 && wAt z (Cond.constant (mOwn k) y (Int32.ofInt a))
      else bif Nat.beq x 4 then dec k pc (.ldc_w y) 3 && wAt z (Cond.constant (mOwn k) y (Int32.ofInt a)) else false)
def ok2 (k pc : Nat) (a : Int) (x y z : Nat) : Bool := i64 a && (bif Nat.beq x 0 then (bif decide (a = 0) then dec k pc (.lconst 0) 1 else decide (a = 1) && dec k pc (.lconst 1) 1)
      else dec k pc (.ldc2_w y) 3 && wAt z (Cond.constantLong (mOwn k) y (Int64.ofInt a)))
def ok3 (k pc : Nat) (a : Int) (x y z : Nat) : Bool := (bif Nat.beq y 0 then Nat.blt x 4 && dec k pc (.iload_n (f4 x)) 1 else dec k pc (.iload x) 2)
def ok4 (k pc : Nat) (a : Int) (x y z : Nat) : Bool := (bif Nat.beq y 0 then Nat.blt x 4 && dec k pc (.lload_n (f4 x)) 1 else dec k pc (.lload x) 2)
def ok5 (k pc : Nat) (a : Int) (x y z : Nat) : Bool := (bif Nat.beq y 0 then Nat.blt x 4 && dec k pc (.aload_n (f4 x)) 1 else dec k pc (.aload x) 2)
def ok6 (k pc : Nat) (a : Int) (x y z : Nat) : Bool := Nat.blt x (mML k) && (bif Nat.beq y 0 then Nat.blt x 4 && dec k pc (.istore_n (f4 x)) 1 else dec k pc (.istore x) 2)
def ok7 (k pc : Nat) (a : Int) (x y z : Nat) : Bool := Nat.blt (x + 1) (mML k) && (bif Nat.beq y 0 then Nat.blt x 4 && dec k pc (.lstore_n (f4 x)) 1 else dec k pc (.lstore x) 2)
def ok8 (k pc : Nat) (a : Int) (x y z : Nat) : Bool := Nat.blt x (mML k) && (bif Nat.beq y 0 then Nat.blt x 4 && dec k pc (.astore_n (f4 x)) 1 else dec k pc (.astore x) 2)
def ok9 (k pc : Nat) (a : Int) (x y z : Nat) : Bool := Nat.blt x (mML k) && i32 a && dec k pc (.iinc x a) 3
def ok10 (k pc : Nat) (a : Int) (x y z : Nat) : Bool := (bif Nat.beq x 0 then dec k pc .iadd 1 else bif Nat.beq x 1 then dec k pc .isub 1 else bif Nat.beq x 2 then dec k pc .imul 1 else bif Nat.beq x 3 then dec k pc .idiv 1 else bif Nat.beq x 4 then dec k pc .irem 1 else bif Nat.beq x 5 then dec k pc .iand 1 else bif Nat.beq x 6 then dec k pc .ior 1 else bif Nat.beq x 7 then dec k pc .ixor 1 else bif Nat.beq x 8 then dec k pc .ishl 1 else bif Nat.beq x 9 then dec k pc .ishr 1 else bif Nat.beq x 10 then dec k pc .iushr 1 else false)
def ok11 (k pc : Nat) (a : Int) (x y z : Nat) : Bool := (bif Nat.beq x 0 then dec k pc .ladd 1 else bif Nat.beq x 1 then dec k pc .lsub 1 else bif Nat.beq x 2 then dec k pc .lmul 1 else bif Nat.beq x 3 then dec k pc .ldiv 1 else bif Nat.beq x 4 then dec k pc .lrem 1 else bif Nat.beq x 5 then dec k pc .land 1 else bif Nat.beq x 6 then dec k pc .lor 1 else bif Nat.beq x 7 then dec k pc .lxor 1 else false)
def ok12 (k pc : Nat) (a : Int) (x y z : Nat) : Bool := (bif Nat.beq x 0 then dec k pc .ineg 1 else bif Nat.beq x 1 then dec k pc .i2l 1 else bif Nat.beq x 2 then dec k pc .l2i 1 else bif Nat.beq x 3 then dec k pc .i2b 1 else bif Nat.beq x 4 then dec k pc .i2s 1 else bif Nat.beq x 5 then dec k pc .i2c 1 else false)
def ok13 (k pc : Nat) (a : Int) (x y z : Nat) : Bool := dec k pc .lcmp 1
def ok14 (k pc : Nat) (a : Int) (x y z : Nat) : Bool := dec k pc (.ifCond (cnd x) a) 3 && decide ((pc : Int) + a = (y : Int)) && Nat.blt x 6
def ok15 (k pc : Nat) (a : Int) (x y z : Nat) : Bool := dec k pc (.if_icmp (cnd x) a) 3 && decide ((pc : Int) + a = (y : Int)) && Nat.blt x 6
def ok16 (k pc : Nat) (a : Int) (x y z : Nat) : Bool := dec k pc (.goto a) 3 && decide ((pc : Int) + a = (y : Int))
def ok17 (k pc : Nat) (a : Int) (x y z : Nat) : Bool := (match vwCl[y]? with | some (C, T, N) => Nat.blt z N && decide ((T z).1 = C) && dec k pc (.getfield x) 3 && wAt a (Cond.fieldLink (mOwn k) x C (T z).2.1 (T z).2.2.1) | none => false)
def ok18 (k pc : Nat) (a : Int) (x y z : Nat) : Bool := (match vwCl[y]? with | some (C, T, N) => Nat.blt z N && decide ((T z).1 = C) && dec k pc (.putfield x) 3 && wAt a (Cond.fieldLink (mOwn k) x C (T z).2.1 (T z).2.2.1) | none => false)
def ok19 (k pc : Nat) (a : Int) (x y z : Nat) : Bool := (bif Nat.beq x 0 then dec k pc .iaload 1 else bif Nat.beq x 1 then dec k pc .baload 1 else bif Nat.beq x 2 then dec k pc .laload 1 else bif Nat.beq x 3 then dec k pc .aaload 1 else false)
def ok20 (k pc : Nat) (a : Int) (x y z : Nat) : Bool := (bif Nat.beq x 0 then dec k pc .iastore 1 else bif Nat.beq x 1 then dec k pc .bastore 1 else bif Nat.beq x 2 then dec k pc .lastore 1 else bif Nat.beq x 3 then dec k pc .aastore 1 else false)
def ok21 (k pc : Nat) (a : Int) (x y z : Nat) : Bool := dec k pc .arraylength 1
def ok22 (k pc : Nat) (a : Int) (x y z : Nat) : Bool := (bif Nat.beq x 0 then dec k pc .dup 1 else bif Nat.beq x 1 then dec k pc .dup2 1 else bif Nat.beq x 2 then dec k pc .pop 1 else bif Nat.beq x 3 then dec k pc .dup_x1 1 else bif Nat.beq x 4 then dec k pc .dup_x2 1 else false)
def ok25 (k pc : Nat) (a : Int) (x y z : Nat) : Bool := (bif Nat.beq x 0 then dec k pc .lshl 1 else bif Nat.beq x 1 then dec k pc .lshr 1 else false)
def ok26 (k pc : Nat) (a : Int) (x y z : Nat) : Bool := Nat.beq (mKind y) z && wAt a (Cond.methodLink (mOwn k) x (mY y)) && (bif Nat.beq z 0 then dec k pc (.invokevirtual x) 3 else bif Nat.beq z 1 then dec k pc (.invokestatic x) 3 else dec k pc (.invokespecial x) 3)
def ok27 (k pc : Nat) (a : Int) (x y z : Nat) : Bool := (bif Nat.beq x 0 then dec k pc .ireturn 1 && (decide (mRet k = some .int) || decide (mRet k = some .boolean)) else bif Nat.beq x 1 then dec k pc .lreturn 1 && decide (mRet k = some .long) else bif Nat.beq x 2 then dec k pc .return_ 1 && decide (mRet k = none) else dec k pc .areturn 1 && decide (mRet k = some (.object "HalvedNames$Hill")))
def ok28 (k pc : Nat) (a : Int) (x y z : Nat) : Bool := (match mSw k pc, mSwI k pc with | (d, lo, ts), (doff, hi, offs, n) => dec k pc (.tableswitch doff lo hi offs) n && decide ((pc : Int) + doff = (d : Int)) && decide (offs.toList.map (fun q => (pc : Int) + q) = ts.map (fun t : Nat => (t : Int))) && decide (hi - lo + 1 = (ts.length : Int)))
def ok29 (k pc : Nat) (a : Int) (x y z : Nat) : Bool := dec k pc (.invokespecial x) 3 && wAt a (Cond.methodLink (mOwn k) x Lib.objectInit)
def ok30 (k pc : Nat) (a : Int) (x y z : Nat) : Bool := (bif Nat.beq x 0 then dec k pc (.ifnull a) 3 else dec k pc (.ifnonnull a) 3) && decide ((pc : Int) + a = (y : Int))
def ok31 (k pc : Nat) (a : Int) (x y z : Nat) : Bool := dec k pc .aconst_null 1
def ok32 (k pc : Nat) (a : Int) (x y z : Nat) : Bool := (match vwCl[y]? with | some (C, T, N) => dec k pc (.new x) 3 && wAt a (Cond.classLink (mOwn k) x C) && wAt (cW y).1 (Cond.instantiable C N) && wAt (cW y).2 (Cond.initialized C) | none => false)
def ok33 (k pc : Nat) (a : Int) (x y z : Nat) : Bool := (bif Nat.beq x 0 then dec k pc (.newarray .int) 2 else bif Nat.beq x 1 then dec k pc (.newarray .byte) 2 else bif Nat.beq x 2 then dec k pc (.newarray .boolean) 2 else dec k pc (.newarray .long) 2)
def ok34 (k pc : Nat) (a : Int) (x y z : Nat) : Bool := dec k pc (.anewarray x) 3
def ok36 (k pc : Nat) (a : Int) (x y z : Nat) : Bool := dec k pc (.lookupswitch a #[(0, (x : Int)), (1, (y : Int))]) z && (match mSw k pc with | (d, lo, ts) => decide ((pc : Int) + a = (d : Int)) && decide (lo = 0) && decide (ts = [pc + x, pc + y]))
def okB (k pc : Nat) (xi : XI) : Bool := match xi with
  | (op, a, x, y, z) =>
    bif Nat.beq op 0 then true
    else bif Nat.beq op 1 then ok1 k pc a x y z
    else bif Nat.beq op 2 then ok2 k pc a x y z
    else bif Nat.beq op 3 then ok3 k pc a x y z
    else bif Nat.beq op 4 then ok4 k pc a x y z
    else bif Nat.beq op 5 then ok5 k pc a x y z
    else bif Nat.beq op 6 then ok6 k pc a x y z
    else bif Nat.beq op 7 then ok7 k pc a x y z
    else bif Nat.beq op 8 then ok8 k pc a x y z
    else bif Nat.beq op 9 then ok9 k pc a x y z
    else bif Nat.beq op 10 then ok10 k pc a x y z
    else bif Nat.beq op 11 then ok11 k pc a x y z
    else bif Nat.beq op 12 then ok12 k pc a x y z
    else bif Nat.beq op 13 then ok13 k pc a x y z
    else bif Nat.beq op 14 then ok14 k pc a x y z
    else bif Nat.beq op 15 then ok15 k pc a x y z
    else bif Nat.beq op 16 then ok16 k pc a x y z
    else bif Nat.beq op 17 then ok17 k pc a x y z
    else bif Nat.beq op 18 then ok18 k pc a x y z
    else bif Nat.beq op 19 then ok19 k pc a x y z
    else bif Nat.beq op 20 then ok20 k pc a x y z
    else bif Nat.beq op 21 then ok21 k pc a x y z
    else bif Nat.beq op 22 then ok22 k pc a x y z
    else bif Nat.beq op 25 then ok25 k pc a x y z
    else bif Nat.beq op 26 then ok26 k pc a x y z
    else bif Nat.beq op 27 then ok27 k pc a x y z
    else bif Nat.beq op 28 then ok28 k pc a x y z
    else bif Nat.beq op 29 then ok29 k pc a x y z
    else bif Nat.beq op 30 then ok30 k pc a x y z
    else bif Nat.beq op 31 then ok31 k pc a x y z
    else bif Nat.beq op 32 then ok32 k pc a x y z
    else bif Nat.beq op 33 then ok33 k pc a x y z
    else bif Nat.beq op 34 then ok34 k pc a x y z
    else bif Nat.beq op 35 then true
    else bif Nat.beq op 36 then ok36 k pc a x y z
    else bif Nat.beq op 37 then true
    else false
def chkM (k : Nat) : Bool := (List.range (mLen k)).all (fun pc => okB k pc (mI k pc))
theorem tabOK (k pc : Nat) : okB k pc (mI k pc) = true := sorry
def okY (k : Nat) : Bool := wAt (mW k).1 (Cond.code (mY k) (mCode k) (mML k) (mRet k)) && wAt (mW k).2.1 (Cond.initialized (mY k).cls) && decide ((mY k).cls ≠ "java/lang/invoke/MethodHandle") && decide ((mY k).cls ≠ "java/lang/invoke/VarHandle") && decide ((parseMethodDescriptor (mY k).desc).map (fun d => d.parameters.length) = some (mN k)) && plainName (mY k).cls && Nat.ble (mML k) 21 && decide ((mY k).cls = mOwn k)
  && (bif Nat.beq (mKind k) 0 then wAt (mW k).2.2.1 (Cond.instanceMethod (mY k)) && decide (lw_tbl[(mW k).2.2.2]? = some (Cond.selects (mY k).cls (mY k) (mY k))) else bif Nat.beq (mKind k) 1 then wAt (mW k).2.2.1 (Cond.static (mY k)) else wAt (mW k).2.2.1 (Cond.instanceMethod (mY k)) && decide ((mY k).name = "<init>"))
theorem cy_all (k : Nat) (h : k < 341) : okY k = true := sorry
