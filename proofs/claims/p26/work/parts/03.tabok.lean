section
noncomputable def dec (k pc : Nat) (i : Instr) (n : Nat) : Bool := decF (mCode k) pc i n
noncomputable def wAt (i : Int) (w : Cond) : Bool := decide ((tch i.toNat)[i.toNat % 240]? = some w) && goodWord w
noncomputable def cnd (x : Nat) : Jvm.ClassFile.Cond := bif Nat.beq x 0 then .eq else bif Nat.beq x 1 then .ne else bif Nat.beq x 2 then .lt else bif Nat.beq x 3 then .ge else bif Nat.beq x 4 then .gt else .le
noncomputable def f4 (x : Nat) : Fin 4 := bif Nat.beq x 0 then 0 else bif Nat.beq x 1 then 1 else bif Nat.beq x 2 then 2 else 3
noncomputable def i32 (a : Int) : Bool := decide (-2147483648 ≤ a) && decide (a ≤ 2147483647)
noncomputable def i64 (a : Int) : Bool := decide (-9223372036854775808 ≤ a) && decide (a ≤ 9223372036854775807)
noncomputable def ok1 (k pc : Nat) (a : Int) (x y z : Nat) : Bool := i32 a && (bif Nat.beq x 0 then dec k pc (.iconst a) 1
      else bif Nat.beq x 1 then dec k pc (.bipush a) 2 && decide ((Int8.ofInt a).toInt32 = Int32.ofInt a)
      else bif Nat.beq x 2 then dec k pc (.sipush a) 3 && decide ((Int16.ofInt a).toInt32 = Int32.ofInt a)
      else bif Nat.beq x 3 then dec k pc (.ldc y) 2 && wAt z (Cond.constant (mOwn k) y (Int32.ofInt a))
      else bif Nat.beq x 4 then dec k pc (.ldc_w y) 3 && wAt z (Cond.constant (mOwn k) y (Int32.ofInt a)) else false)
noncomputable def ok2 (k pc : Nat) (a : Int) (x y z : Nat) : Bool := i64 a && (bif Nat.beq x 0 then (bif decide (a = 0) then dec k pc (.lconst 0) 1 else decide (a = 1) && dec k pc (.lconst 1) 1)
      else dec k pc (.ldc2_w y) 3 && wAt z (Cond.constantLong (mOwn k) y (Int64.ofInt a)))
noncomputable def ok3 (k pc : Nat) (a : Int) (x y z : Nat) : Bool := (bif Nat.beq y 0 then Nat.blt x 4 && dec k pc (.iload_n (f4 x)) 1 else dec k pc (.iload x) 2)
noncomputable def ok4 (k pc : Nat) (a : Int) (x y z : Nat) : Bool := (bif Nat.beq y 0 then Nat.blt x 4 && dec k pc (.lload_n (f4 x)) 1 else dec k pc (.lload x) 2)
noncomputable def ok5 (k pc : Nat) (a : Int) (x y z : Nat) : Bool := (bif Nat.beq y 0 then Nat.blt x 4 && dec k pc (.aload_n (f4 x)) 1 else dec k pc (.aload x) 2)
noncomputable def ok6 (k pc : Nat) (a : Int) (x y z : Nat) : Bool := Nat.blt x (mML k) && (bif Nat.beq y 0 then Nat.blt x 4 && dec k pc (.istore_n (f4 x)) 1 else dec k pc (.istore x) 2)
noncomputable def ok7 (k pc : Nat) (a : Int) (x y z : Nat) : Bool := Nat.blt (x + 1) (mML k) && (bif Nat.beq y 0 then Nat.blt x 4 && dec k pc (.lstore_n (f4 x)) 1 else dec k pc (.lstore x) 2)
noncomputable def ok8 (k pc : Nat) (a : Int) (x y z : Nat) : Bool := Nat.blt x (mML k) && (bif Nat.beq y 0 then Nat.blt x 4 && dec k pc (.astore_n (f4 x)) 1 else dec k pc (.astore x) 2)
noncomputable def ok9 (k pc : Nat) (a : Int) (x y z : Nat) : Bool := Nat.blt x (mML k) && i32 a && dec k pc (.iinc x a) 3
noncomputable def ok10 (k pc : Nat) (a : Int) (x y z : Nat) : Bool := (bif Nat.beq x 0 then dec k pc .iadd 1 else bif Nat.beq x 1 then dec k pc .isub 1 else bif Nat.beq x 2 then dec k pc .imul 1 else bif Nat.beq x 3 then dec k pc .idiv 1 else bif Nat.beq x 4 then dec k pc .irem 1 else bif Nat.beq x 5 then dec k pc .iand 1 else bif Nat.beq x 6 then dec k pc .ior 1 else bif Nat.beq x 7 then dec k pc .ixor 1 else bif Nat.beq x 8 then dec k pc .ishl 1 else bif Nat.beq x 9 then dec k pc .ishr 1 else bif Nat.beq x 10 then dec k pc .iushr 1 else false)
noncomputable def ok11 (k pc : Nat) (a : Int) (x y z : Nat) : Bool := (bif Nat.beq x 0 then dec k pc .ladd 1 else bif Nat.beq x 1 then dec k pc .lsub 1 else bif Nat.beq x 2 then dec k pc .lmul 1 else bif Nat.beq x 3 then dec k pc .ldiv 1 else bif Nat.beq x 4 then dec k pc .lrem 1 else bif Nat.beq x 5 then dec k pc .land 1 else bif Nat.beq x 6 then dec k pc .lor 1 else bif Nat.beq x 7 then dec k pc .lxor 1 else false)
noncomputable def ok12 (k pc : Nat) (a : Int) (x y z : Nat) : Bool := (bif Nat.beq x 0 then dec k pc .ineg 1 else bif Nat.beq x 1 then dec k pc .i2l 1 else bif Nat.beq x 2 then dec k pc .l2i 1 else bif Nat.beq x 3 then dec k pc .i2b 1 else bif Nat.beq x 4 then dec k pc .i2s 1 else bif Nat.beq x 5 then dec k pc .i2c 1 else false)
noncomputable def ok13 (k pc : Nat) (a : Int) (x y z : Nat) : Bool := dec k pc .lcmp 1
noncomputable def ok14 (k pc : Nat) (a : Int) (x y z : Nat) : Bool := dec k pc (.ifCond (cnd x) a) 3 && decide ((pc : Int) + a = (y : Int)) && Nat.blt x 6
noncomputable def ok15 (k pc : Nat) (a : Int) (x y z : Nat) : Bool := dec k pc (.if_icmp (cnd x) a) 3 && decide ((pc : Int) + a = (y : Int)) && Nat.blt x 6
noncomputable def ok16 (k pc : Nat) (a : Int) (x y z : Nat) : Bool := dec k pc (.goto a) 3 && decide ((pc : Int) + a = (y : Int))
noncomputable def ok17 (k pc : Nat) (a : Int) (x y z : Nat) : Bool := (match vwCl[y]? with | some (C, T, N) => Nat.blt z N && decide ((T z).1 = C) && dec k pc (.getfield x) 3 && wAt a (Cond.fieldLink (mOwn k) x C (T z).2.1 (T z).2.2.1) | none => false)
noncomputable def ok18 (k pc : Nat) (a : Int) (x y z : Nat) : Bool := (match vwCl[y]? with | some (C, T, N) => Nat.blt z N && decide ((T z).1 = C) && dec k pc (.putfield x) 3 && wAt a (Cond.fieldLink (mOwn k) x C (T z).2.1 (T z).2.2.1) | none => false)
noncomputable def ok19 (k pc : Nat) (a : Int) (x y z : Nat) : Bool := (bif Nat.beq x 0 then dec k pc .iaload 1 else bif Nat.beq x 1 then dec k pc .baload 1 else bif Nat.beq x 2 then dec k pc .laload 1 else bif Nat.beq x 3 then dec k pc .aaload 1 else false)
noncomputable def ok20 (k pc : Nat) (a : Int) (x y z : Nat) : Bool := (bif Nat.beq x 0 then dec k pc .iastore 1 else bif Nat.beq x 1 then dec k pc .bastore 1 else bif Nat.beq x 2 then dec k pc .lastore 1 else bif Nat.beq x 3 then dec k pc .aastore 1 else false)
noncomputable def ok21 (k pc : Nat) (a : Int) (x y z : Nat) : Bool := dec k pc .arraylength 1
noncomputable def ok22 (k pc : Nat) (a : Int) (x y z : Nat) : Bool := (bif Nat.beq x 0 then dec k pc .dup 1 else bif Nat.beq x 1 then dec k pc .dup2 1 else bif Nat.beq x 2 then dec k pc .pop 1 else bif Nat.beq x 3 then dec k pc .dup_x1 1 else bif Nat.beq x 4 then dec k pc .dup_x2 1 else false)
noncomputable def ok25 (k pc : Nat) (a : Int) (x y z : Nat) : Bool := (bif Nat.beq x 0 then dec k pc .lshl 1 else bif Nat.beq x 1 then dec k pc .lshr 1 else false)
noncomputable def ok26 (k pc : Nat) (a : Int) (x y z : Nat) : Bool := Nat.beq (mKind y) z && wAt a (Cond.methodLink (mOwn k) x (mY y)) && (bif Nat.beq z 0 then dec k pc (.invokevirtual x) 3 else bif Nat.beq z 1 then dec k pc (.invokestatic x) 3 else dec k pc (.invokespecial x) 3)
noncomputable def ok27 (k pc : Nat) (a : Int) (x y z : Nat) : Bool := (bif Nat.beq x 0 then dec k pc .ireturn 1 && (decide (mRet k = some .int) || decide (mRet k = some .boolean)) else bif Nat.beq x 1 then dec k pc .lreturn 1 && decide (mRet k = some .long) else bif Nat.beq x 2 then dec k pc .return_ 1 && decide (mRet k = none) else dec k pc .areturn 1 && decide (mRet k = some (.object "HalvedNames$Hill")))
noncomputable def ok28 (k pc : Nat) (a : Int) (x y z : Nat) : Bool := (match mSw k pc, mSwI k pc with | (d, lo, ts), (doff, hi, offs, n) => dec k pc (.tableswitch doff lo hi offs) n && decide ((pc : Int) + doff = (d : Int)) && decide (offs.toList.map (fun q => (pc : Int) + q) = ts.map (fun t : Nat => (t : Int))) && decide (hi - lo + 1 = (ts.length : Int)))
noncomputable def ok29 (k pc : Nat) (a : Int) (x y z : Nat) : Bool := dec k pc (.invokespecial x) 3 && wAt a (Cond.methodLink (mOwn k) x Lib.objectInit)
noncomputable def ok30 (k pc : Nat) (a : Int) (x y z : Nat) : Bool := (bif Nat.beq x 0 then dec k pc (.ifnull a) 3 else dec k pc (.ifnonnull a) 3) && decide ((pc : Int) + a = (y : Int))
noncomputable def ok31 (k pc : Nat) (a : Int) (x y z : Nat) : Bool := dec k pc .aconst_null 1
noncomputable def ok32 (k pc : Nat) (a : Int) (x y z : Nat) : Bool := (match vwCl[y]? with | some (C, T, N) => dec k pc (.new x) 3 && wAt a (Cond.classLink (mOwn k) x C) && wAt (cW y).1 (Cond.instantiable C N) && wAt (cW y).2 (Cond.initialized C) | none => false)
noncomputable def ok33 (k pc : Nat) (a : Int) (x y z : Nat) : Bool := (bif Nat.beq x 0 then dec k pc (.newarray .int) 2 else bif Nat.beq x 1 then dec k pc (.newarray .byte) 2 else bif Nat.beq x 2 then dec k pc (.newarray .boolean) 2 else dec k pc (.newarray .long) 2)
noncomputable def ok34 (k pc : Nat) (a : Int) (x y z : Nat) : Bool := dec k pc (.anewarray x) 3
noncomputable def ok36 (k pc : Nat) (a : Int) (x y z : Nat) : Bool := dec k pc (.lookupswitch a #[(0, (x : Int)), (1, (y : Int))]) z && (match mSw k pc with | (d, lo, ts) => decide ((pc : Int) + a = (d : Int)) && decide (lo = 0) && decide (ts = [pc + x, pc + y]))
noncomputable def ok23 (k pc : Nat) (a : Int) (x y z : Nat) : Bool := dec k pc (.getstatic x) 3 && (bif Nat.beq y 0 then wAt a (Cond.fieldLink (mOwn k) x "java/lang/String" "COMPACT_STRINGS" "Z") else wAt a (Cond.fieldLink (mOwn k) x "jdk/internal/util/Preconditions" "SIOOBE_FORMATTER" "Ljava/util/function/BiFunction;"))
noncomputable def ok35 (k pc : Nat) (a : Int) (x y z : Nat) : Bool := dec k pc (.ldc x) 2 && (match xsT[y]? with | some q => decide (q.1 = mOwn k) && Nat.beq q.2.1 x | none => false)
noncomputable def ok38 (k pc : Nat) (a : Int) (x y z : Nat) : Bool := dec k pc .ireturn 1 && (decide (mRet k = some .char) || decide (mRet k = some .byte))
noncomputable def ok39 (k pc : Nat) (a : Int) (x y z : Nat) : Bool := dec k pc (.getfield x) 3 && (bif Nat.beq y 0 then wAt a (Cond.fieldLink (mOwn k) x "java/lang/String" "value" "[B") else wAt a (Cond.fieldLink (mOwn k) x "java/lang/String" "coder" "B"))
noncomputable def okB (k pc : Nat) (xi : XI) : Bool := match xi with
  | (op, a, x, y, z) =>
    bif Nat.beq op 0 then true
    else bif Nat.beq op 1 then ok1 k pc a x y z
    else bif Nat.beq op 2 then ok2 k pc a x y z
    else bif Nat.beq op 3 then ok3 k pc a x y z
    else bif Nat.beq op 4 then ok4 k pc a x y z
    else bif Nat.beq op 5 then ok5 k pc a x y z
    else bif Nat.beq op 6 then ok6 k pc a x y z
    else bif Nat.beq op 7 then ok7 k pc a x y z
    else bif Nat.beq op 8 then ok8 k pc a x y z
    else bif Nat.beq op 9 then ok9 k pc a x y z
    else bif Nat.beq op 10 then ok10 k pc a x y z
    else bif Nat.beq op 11 then ok11 k pc a x y z
    else bif Nat.beq op 12 then ok12 k pc a x y z
    else bif Nat.beq op 13 then ok13 k pc a x y z
    else bif Nat.beq op 14 then ok14 k pc a x y z
    else bif Nat.beq op 15 then ok15 k pc a x y z
    else bif Nat.beq op 16 then ok16 k pc a x y z
    else bif Nat.beq op 17 then ok17 k pc a x y z
    else bif Nat.beq op 18 then ok18 k pc a x y z
    else bif Nat.beq op 19 then ok19 k pc a x y z
    else bif Nat.beq op 20 then ok20 k pc a x y z
    else bif Nat.beq op 21 then ok21 k pc a x y z
    else bif Nat.beq op 22 then ok22 k pc a x y z
    else bif Nat.beq op 25 then ok25 k pc a x y z
    else bif Nat.beq op 26 then ok26 k pc a x y z
    else bif Nat.beq op 27 then ok27 k pc a x y z
    else bif Nat.beq op 28 then ok28 k pc a x y z
    else bif Nat.beq op 29 then ok29 k pc a x y z
    else bif Nat.beq op 30 then ok30 k pc a x y z
    else bif Nat.beq op 31 then ok31 k pc a x y z
    else bif Nat.beq op 32 then ok32 k pc a x y z
    else bif Nat.beq op 33 then ok33 k pc a x y z
    else bif Nat.beq op 34 then ok34 k pc a x y z
    else bif Nat.beq op 35 then ok35 k pc a x y z
    else bif Nat.beq op 23 then ok23 k pc a x y z
    else bif Nat.beq op 38 then ok38 k pc a x y z
    else bif Nat.beq op 39 then ok39 k pc a x y z
    else bif Nat.beq op 36 then ok36 k pc a x y z
    else bif Nat.beq op 37 then true
    else false
noncomputable def kyC_h0 (k : Nat) : String := (bqT (Nat.ble 4 k) (bqT (Nat.ble 6 k) (bqT (Nat.ble 7 k) "HalvedNames$Rows" "HalvedNames$Reader") (bqT (Nat.ble 5 k) "HalvedNames$Naming" "HalvedNames$Listening")) (bqT (Nat.ble 2 k) (bqT (Nat.ble 3 k) "HalvedNames$Hill" "HalvedNames$Course") (bqT (Nat.ble 1 k) "HalvedNames$Bidding" "HalvedNames")))
noncomputable def kyC_h1 (k : Nat) : String := (bqT (Nat.ble 12 k) (bqT (Nat.ble 14 k) (bqT (Nat.ble 15 k) "java/lang/String" "java/lang/Integer") (bqT (Nat.ble 13 k) "java/lang/Math" "HalvedNamesModel")) (bqT (Nat.ble 10 k) (bqT (Nat.ble 11 k) "HalvedNames$Tape" "HalvedNames$Story") (bqT (Nat.ble 9 k) "HalvedNames$Slots" "HalvedNames$Sharing")))
noncomputable def kyC_h2 (k : Nat) : String := (bqT (Nat.ble 17 k) "jdk/internal/util/Preconditions" "java/lang/StringLatin1")
noncomputable def kyC (k : Nat) : String := (bqT (Nat.ble 8 k) (bqT (Nat.ble 16 k) (kyC_h2 k) (kyC_h1 k)) (kyC_h0 k))
noncomputable def kyO_h0_h0 (k : Nat) : Nat := (bqT (Nat.ble 4 k) (bqT (Nat.ble 6 k) (bqT (Nat.ble 7 k) 0 0) (bqT (Nat.ble 5 k) 0 0)) (bqT (Nat.ble 2 k) (bqT (Nat.ble 3 k) 0 0) (bqT (Nat.ble 1 k) 0 0)))
noncomputable def kyO_h0_h1 (k : Nat) : Nat := (bqT (Nat.ble 12 k) (bqT (Nat.ble 14 k) (bqT (Nat.ble 15 k) 0 0) (bqT (Nat.ble 13 k) 0 0)) (bqT (Nat.ble 10 k) (bqT (Nat.ble 11 k) 0 0) (bqT (Nat.ble 9 k) 0 0)))
noncomputable def kyO_h0_h2 (k : Nat) : Nat := (bqT (Nat.ble 20 k) (bqT (Nat.ble 22 k) (bqT (Nat.ble 23 k) 0 0) (bqT (Nat.ble 21 k) 0 0)) (bqT (Nat.ble 18 k) (bqT (Nat.ble 19 k) 0 0) (bqT (Nat.ble 17 k) 0 0)))
noncomputable def kyO_h0_h3 (k : Nat) : Nat := (bqT (Nat.ble 28 k) (bqT (Nat.ble 30 k) (bqT (Nat.ble 31 k) 0 0) (bqT (Nat.ble 29 k) 0 0)) (bqT (Nat.ble 26 k) (bqT (Nat.ble 27 k) 0 0) (bqT (Nat.ble 25 k) 0 0)))
noncomputable def kyO_h0_h4 (k : Nat) : Nat := (bqT (Nat.ble 36 k) (bqT (Nat.ble 38 k) (bqT (Nat.ble 39 k) 0 0) (bqT (Nat.ble 37 k) 0 0)) (bqT (Nat.ble 34 k) (bqT (Nat.ble 35 k) 0 0) (bqT (Nat.ble 33 k) 0 0)))
noncomputable def kyO_h0_h5 (k : Nat) : Nat := (bqT (Nat.ble 44 k) (bqT (Nat.ble 46 k) (bqT (Nat.ble 47 k) 0 0) (bqT (Nat.ble 45 k) 0 0)) (bqT (Nat.ble 42 k) (bqT (Nat.ble 43 k) 0 0) (bqT (Nat.ble 41 k) 0 0)))
noncomputable def kyO_h0_h6 (k : Nat) : Nat := (bqT (Nat.ble 52 k) (bqT (Nat.ble 54 k) (bqT (Nat.ble 55 k) 0 0) (bqT (Nat.ble 53 k) 0 0)) (bqT (Nat.ble 50 k) (bqT (Nat.ble 51 k) 0 0) (bqT (Nat.ble 49 k) 0 0)))
noncomputable def kyO_h0_h7 (k : Nat) : Nat := (bqT (Nat.ble 60 k) (bqT (Nat.ble 62 k) (bqT (Nat.ble 63 k) 0 0) (bqT (Nat.ble 61 k) 0 0)) (bqT (Nat.ble 58 k) (bqT (Nat.ble 59 k) 0 0) (bqT (Nat.ble 57 k) 0 0)))
noncomputable def kyO_h0 (k : Nat) : Nat := (bqT (Nat.ble 32 k) (bqT (Nat.ble 48 k) (bqT (Nat.ble 56 k) (kyO_h0_h7 k) (kyO_h0_h6 k)) (bqT (Nat.ble 40 k) (kyO_h0_h5 k) (kyO_h0_h4 k))) (bqT (Nat.ble 16 k) (bqT (Nat.ble 24 k) (kyO_h0_h3 k) (kyO_h0_h2 k)) (bqT (Nat.ble 8 k) (kyO_h0_h1 k) (kyO_h0_h0 k))))
noncomputable def kyO_h1_h0 (k : Nat) : Nat := (bqT (Nat.ble 68 k) (bqT (Nat.ble 70 k) (bqT (Nat.ble 71 k) 0 0) (bqT (Nat.ble 69 k) 0 0)) (bqT (Nat.ble 66 k) (bqT (Nat.ble 67 k) 0 0) (bqT (Nat.ble 65 k) 0 0)))
noncomputable def kyO_h1_h1 (k : Nat) : Nat := (bqT (Nat.ble 76 k) (bqT (Nat.ble 78 k) (bqT (Nat.ble 79 k) 1 1) (bqT (Nat.ble 77 k) 1 0)) (bqT (Nat.ble 74 k) (bqT (Nat.ble 75 k) 0 0) (bqT (Nat.ble 73 k) 0 0)))
noncomputable def kyO_h1_h2 (k : Nat) : Nat := (bqT (Nat.ble 84 k) (bqT (Nat.ble 86 k) (bqT (Nat.ble 87 k) 2 2) (bqT (Nat.ble 85 k) 2 2)) (bqT (Nat.ble 82 k) (bqT (Nat.ble 83 k) 1 1) (bqT (Nat.ble 81 k) 1 1)))
noncomputable def kyO_h1_h3 (k : Nat) : Nat := (bqT (Nat.ble 92 k) (bqT (Nat.ble 94 k) (bqT (Nat.ble 95 k) 2 2) (bqT (Nat.ble 93 k) 2 2)) (bqT (Nat.ble 90 k) (bqT (Nat.ble 91 k) 2 2) (bqT (Nat.ble 89 k) 2 2)))
noncomputable def kyO_h1_h4 (k : Nat) : Nat := (bqT (Nat.ble 100 k) (bqT (Nat.ble 102 k) (bqT (Nat.ble 103 k) 3 3) (bqT (Nat.ble 101 k) 3 3)) (bqT (Nat.ble 98 k) (bqT (Nat.ble 99 k) 3 3) (bqT (Nat.ble 97 k) 2 2)))
noncomputable def kyO_h1_h5 (k : Nat) : Nat := (bqT (Nat.ble 108 k) (bqT (Nat.ble 110 k) (bqT (Nat.ble 111 k) 3 3) (bqT (Nat.ble 109 k) 3 3)) (bqT (Nat.ble 106 k) (bqT (Nat.ble 107 k) 3 3) (bqT (Nat.ble 105 k) 3 3)))
noncomputable def kyO_h1_h6 (k : Nat) : Nat := (bqT (Nat.ble 116 k) (bqT (Nat.ble 118 k) (bqT (Nat.ble 119 k) 4 4) (bqT (Nat.ble 117 k) 4 4)) (bqT (Nat.ble 114 k) (bqT (Nat.ble 115 k) 4 3) (bqT (Nat.ble 113 k) 3 3)))
noncomputable def kyO_h1_h7 (k : Nat) : Nat := (bqT (Nat.ble 124 k) (bqT (Nat.ble 126 k) (bqT (Nat.ble 127 k) 5 5) (bqT (Nat.ble 125 k) 5 5)) (bqT (Nat.ble 122 k) (bqT (Nat.ble 123 k) 4 4) (bqT (Nat.ble 121 k) 4 4)))
noncomputable def kyO_h1 (k : Nat) : Nat := (bqT (Nat.ble 96 k) (bqT (Nat.ble 112 k) (bqT (Nat.ble 120 k) (kyO_h1_h7 k) (kyO_h1_h6 k)) (bqT (Nat.ble 104 k) (kyO_h1_h5 k) (kyO_h1_h4 k))) (bqT (Nat.ble 80 k) (bqT (Nat.ble 88 k) (kyO_h1_h3 k) (kyO_h1_h2 k)) (bqT (Nat.ble 72 k) (kyO_h1_h1 k) (kyO_h1_h0 k))))
noncomputable def kyO_h2_h0 (k : Nat) : Nat := (bqT (Nat.ble 132 k) (bqT (Nat.ble 134 k) (bqT (Nat.ble 135 k) 6 6) (bqT (Nat.ble 133 k) 6 6)) (bqT (Nat.ble 130 k) (bqT (Nat.ble 131 k) 5 5) (bqT (Nat.ble 129 k) 5 5)))
noncomputable def kyO_h2_h1 (k : Nat) : Nat := (bqT (Nat.ble 140 k) (bqT (Nat.ble 142 k) (bqT (Nat.ble 143 k) 6 6) (bqT (Nat.ble 141 k) 6 6)) (bqT (Nat.ble 138 k) (bqT (Nat.ble 139 k) 6 6) (bqT (Nat.ble 137 k) 6 6)))
noncomputable def kyO_h2_h2 (k : Nat) : Nat := (bqT (Nat.ble 148 k) (bqT (Nat.ble 150 k) (bqT (Nat.ble 151 k) 7 7) (bqT (Nat.ble 149 k) 7 7)) (bqT (Nat.ble 146 k) (bqT (Nat.ble 147 k) 7 6) (bqT (Nat.ble 145 k) 6 6)))
noncomputable def kyO_h2_h3 (k : Nat) : Nat := (bqT (Nat.ble 156 k) (bqT (Nat.ble 158 k) (bqT (Nat.ble 159 k) 9 8) (bqT (Nat.ble 157 k) 8 8)) (bqT (Nat.ble 154 k) (bqT (Nat.ble 155 k) 8 8) (bqT (Nat.ble 153 k) 8 7)))
noncomputable def kyO_h2_h4 (k : Nat) : Nat := (bqT (Nat.ble 164 k) (bqT (Nat.ble 166 k) (bqT (Nat.ble 167 k) 9 9) (bqT (Nat.ble 165 k) 9 9)) (bqT (Nat.ble 162 k) (bqT (Nat.ble 163 k) 9 9) (bqT (Nat.ble 161 k) 9 9)))
noncomputable def kyO_h2_h5 (k : Nat) : Nat := (bqT (Nat.ble 172 k) (bqT (Nat.ble 174 k) (bqT (Nat.ble 175 k) 10 10) (bqT (Nat.ble 173 k) 10 10)) (bqT (Nat.ble 170 k) (bqT (Nat.ble 171 k) 9 9) (bqT (Nat.ble 169 k) 9 9)))
noncomputable def kyO_h2_h6 (k : Nat) : Nat := (bqT (Nat.ble 180 k) (bqT (Nat.ble 182 k) (bqT (Nat.ble 183 k) 10 10) (bqT (Nat.ble 181 k) 10 10)) (bqT (Nat.ble 178 k) (bqT (Nat.ble 179 k) 10 10) (bqT (Nat.ble 177 k) 10 10)))
noncomputable def kyO_h2_h7 (k : Nat) : Nat := (bqT (Nat.ble 188 k) (bqT (Nat.ble 190 k) (bqT (Nat.ble 191 k) 11 11) (bqT (Nat.ble 189 k) 11 11)) (bqT (Nat.ble 186 k) (bqT (Nat.ble 187 k) 11 11) (bqT (Nat.ble 185 k) 11 11)))
noncomputable def kyO_h2 (k : Nat) : Nat := (bqT (Nat.ble 160 k) (bqT (Nat.ble 176 k) (bqT (Nat.ble 184 k) (kyO_h2_h7 k) (kyO_h2_h6 k)) (bqT (Nat.ble 168 k) (kyO_h2_h5 k) (kyO_h2_h4 k))) (bqT (Nat.ble 144 k) (bqT (Nat.ble 152 k) (kyO_h2_h3 k) (kyO_h2_h2 k)) (bqT (Nat.ble 136 k) (kyO_h2_h1 k) (kyO_h2_h0 k))))
noncomputable def kyO_h3_h0 (k : Nat) : Nat := (bqT (Nat.ble 196 k) (bqT (Nat.ble 198 k) (bqT (Nat.ble 199 k) 12 12) (bqT (Nat.ble 197 k) 12 12)) (bqT (Nat.ble 194 k) (bqT (Nat.ble 195 k) 12 12) (bqT (Nat.ble 193 k) 12 12)))
noncomputable def kyO_h3_h1 (k : Nat) : Nat := (bqT (Nat.ble 204 k) (bqT (Nat.ble 206 k) (bqT (Nat.ble 207 k) 12 12) (bqT (Nat.ble 205 k) 12 12)) (bqT (Nat.ble 202 k) (bqT (Nat.ble 203 k) 12 12) (bqT (Nat.ble 201 k) 12 12)))
noncomputable def kyO_h3_h2 (k : Nat) : Nat := (bqT (Nat.ble 212 k) (bqT (Nat.ble 214 k) (bqT (Nat.ble 215 k) 12 12) (bqT (Nat.ble 213 k) 12 12)) (bqT (Nat.ble 210 k) (bqT (Nat.ble 211 k) 12 12) (bqT (Nat.ble 209 k) 12 12)))
noncomputable def kyO_h3_h3 (k : Nat) : Nat := (bqT (Nat.ble 220 k) (bqT (Nat.ble 222 k) (bqT (Nat.ble 223 k) 12 12) (bqT (Nat.ble 221 k) 12 12)) (bqT (Nat.ble 218 k) (bqT (Nat.ble 219 k) 12 12) (bqT (Nat.ble 217 k) 12 12)))
noncomputable def kyO_h3_h4 (k : Nat) : Nat := (bqT (Nat.ble 228 k) (bqT (Nat.ble 230 k) (bqT (Nat.ble 231 k) 12 12) (bqT (Nat.ble 229 k) 12 12)) (bqT (Nat.ble 226 k) (bqT (Nat.ble 227 k) 12 12) (bqT (Nat.ble 225 k) 12 12)))
noncomputable def kyO_h3_h5 (k : Nat) : Nat := (bqT (Nat.ble 236 k) (bqT (Nat.ble 238 k) (bqT (Nat.ble 239 k) 12 12) (bqT (Nat.ble 237 k) 12 12)) (bqT (Nat.ble 234 k) (bqT (Nat.ble 235 k) 12 12) (bqT (Nat.ble 233 k) 12 12)))
noncomputable def kyO_h3_h6 (k : Nat) : Nat := (bqT (Nat.ble 244 k) (bqT (Nat.ble 246 k) (bqT (Nat.ble 247 k) 12 12) (bqT (Nat.ble 245 k) 12 12)) (bqT (Nat.ble 242 k) (bqT (Nat.ble 243 k) 12 12) (bqT (Nat.ble 241 k) 12 12)))
noncomputable def kyO_h3_h7 (k : Nat) : Nat := (bqT (Nat.ble 252 k) (bqT (Nat.ble 254 k) (bqT (Nat.ble 255 k) 12 12) (bqT (Nat.ble 253 k) 12 12)) (bqT (Nat.ble 250 k) (bqT (Nat.ble 251 k) 12 12) (bqT (Nat.ble 249 k) 12 12)))
noncomputable def kyO_h3 (k : Nat) : Nat := (bqT (Nat.ble 224 k) (bqT (Nat.ble 240 k) (bqT (Nat.ble 248 k) (kyO_h3_h7 k) (kyO_h3_h6 k)) (bqT (Nat.ble 232 k) (kyO_h3_h5 k) (kyO_h3_h4 k))) (bqT (Nat.ble 208 k) (bqT (Nat.ble 216 k) (kyO_h3_h3 k) (kyO_h3_h2 k)) (bqT (Nat.ble 200 k) (kyO_h3_h1 k) (kyO_h3_h0 k))))
noncomputable def kyO_h4_h0 (k : Nat) : Nat := (bqT (Nat.ble 260 k) (bqT (Nat.ble 262 k) (bqT (Nat.ble 263 k) 12 12) (bqT (Nat.ble 261 k) 12 12)) (bqT (Nat.ble 258 k) (bqT (Nat.ble 259 k) 12 12) (bqT (Nat.ble 257 k) 12 12)))
noncomputable def kyO_h4_h1 (k : Nat) : Nat := (bqT (Nat.ble 268 k) (bqT (Nat.ble 270 k) (bqT (Nat.ble 271 k) 12 12) (bqT (Nat.ble 269 k) 12 12)) (bqT (Nat.ble 266 k) (bqT (Nat.ble 267 k) 12 12) (bqT (Nat.ble 265 k) 12 12)))
noncomputable def kyO_h4_h2 (k : Nat) : Nat := (bqT (Nat.ble 276 k) (bqT (Nat.ble 278 k) (bqT (Nat.ble 279 k) 12 12) (bqT (Nat.ble 277 k) 12 12)) (bqT (Nat.ble 274 k) (bqT (Nat.ble 275 k) 12 12) (bqT (Nat.ble 273 k) 12 12)))
noncomputable def kyO_h4_h3 (k : Nat) : Nat := (bqT (Nat.ble 284 k) (bqT (Nat.ble 286 k) (bqT (Nat.ble 287 k) 12 12) (bqT (Nat.ble 285 k) 12 12)) (bqT (Nat.ble 282 k) (bqT (Nat.ble 283 k) 12 12) (bqT (Nat.ble 281 k) 12 12)))
noncomputable def kyO_h4_h4 (k : Nat) : Nat := (bqT (Nat.ble 292 k) (bqT (Nat.ble 294 k) (bqT (Nat.ble 295 k) 12 12) (bqT (Nat.ble 293 k) 12 12)) (bqT (Nat.ble 290 k) (bqT (Nat.ble 291 k) 12 12) (bqT (Nat.ble 289 k) 12 12)))
noncomputable def kyO_h4_h5 (k : Nat) : Nat := (bqT (Nat.ble 300 k) (bqT (Nat.ble 302 k) (bqT (Nat.ble 303 k) 12 12) (bqT (Nat.ble 301 k) 12 12)) (bqT (Nat.ble 298 k) (bqT (Nat.ble 299 k) 12 12) (bqT (Nat.ble 297 k) 12 12)))
noncomputable def kyO_h4_h6 (k : Nat) : Nat := (bqT (Nat.ble 308 k) (bqT (Nat.ble 310 k) (bqT (Nat.ble 311 k) 12 12) (bqT (Nat.ble 309 k) 12 12)) (bqT (Nat.ble 306 k) (bqT (Nat.ble 307 k) 12 12) (bqT (Nat.ble 305 k) 12 12)))
noncomputable def kyO_h4_h7 (k : Nat) : Nat := (bqT (Nat.ble 316 k) (bqT (Nat.ble 318 k) (bqT (Nat.ble 319 k) 12 12) (bqT (Nat.ble 317 k) 12 12)) (bqT (Nat.ble 314 k) (bqT (Nat.ble 315 k) 12 12) (bqT (Nat.ble 313 k) 12 12)))
noncomputable def kyO_h4 (k : Nat) : Nat := (bqT (Nat.ble 288 k) (bqT (Nat.ble 304 k) (bqT (Nat.ble 312 k) (kyO_h4_h7 k) (kyO_h4_h6 k)) (bqT (Nat.ble 296 k) (kyO_h4_h5 k) (kyO_h4_h4 k))) (bqT (Nat.ble 272 k) (bqT (Nat.ble 280 k) (kyO_h4_h3 k) (kyO_h4_h2 k)) (bqT (Nat.ble 264 k) (kyO_h4_h1 k) (kyO_h4_h0 k))))
noncomputable def kyO_h5_h0 (k : Nat) : Nat := (bqT (Nat.ble 324 k) (bqT (Nat.ble 326 k) (bqT (Nat.ble 327 k) 12 12) (bqT (Nat.ble 325 k) 12 12)) (bqT (Nat.ble 322 k) (bqT (Nat.ble 323 k) 12 12) (bqT (Nat.ble 321 k) 12 12)))
noncomputable def kyO_h5_h1 (k : Nat) : Nat := (bqT (Nat.ble 332 k) (bqT (Nat.ble 334 k) (bqT (Nat.ble 335 k) 12 12) (bqT (Nat.ble 333 k) 12 12)) (bqT (Nat.ble 330 k) (bqT (Nat.ble 331 k) 12 12) (bqT (Nat.ble 329 k) 12 12)))
noncomputable def kyO_h5_h2 (k : Nat) : Nat := (bqT (Nat.ble 340 k) (bqT (Nat.ble 342 k) (bqT (Nat.ble 343 k) 13 13) (bqT (Nat.ble 341 k) 13 12)) (bqT (Nat.ble 338 k) (bqT (Nat.ble 339 k) 12 12) (bqT (Nat.ble 337 k) 12 12)))
noncomputable def kyO_h5_h3 (k : Nat) : Nat := (bqT (Nat.ble 348 k) (bqT (Nat.ble 350 k) (bqT (Nat.ble 351 k) 17 15) (bqT (Nat.ble 349 k) 16 15)) (bqT (Nat.ble 346 k) (bqT (Nat.ble 347 k) 15 15) (bqT (Nat.ble 345 k) 15 14)))
noncomputable def kyO_h5 (k : Nat) : Nat := (bqT (Nat.ble 336 k) (bqT (Nat.ble 344 k) (kyO_h5_h3 k) (kyO_h5_h2 k)) (bqT (Nat.ble 328 k) (kyO_h5_h1 k) (kyO_h5_h0 k)))
noncomputable def kyO (k : Nat) : Nat := (bqT (Nat.ble 192 k) (bqT (Nat.ble 256 k) (bqT (Nat.ble 320 k) (kyO_h5 k) (kyO_h4 k)) (kyO_h3 k)) (bqT (Nat.ble 64 k) (bqT (Nat.ble 128 k) (kyO_h2 k) (kyO_h1 k)) (kyO_h0 k)))
noncomputable def kyF_h0_h0 (a : Nat) : Nat × Nat × Nat × Nat := (bqT (Nat.ble 44 a) (bqT (Nat.ble 46 a) (bqT (Nat.ble 47 a) (bif Nat.beq a 47 then (12, 25, 9, 4) else (0, 0, 0, 0)) (bif Nat.beq a 46 then (7, 172, 9, 3) else (0, 0, 0, 0))) (bqT (Nat.ble 45 a) (bif Nat.beq a 45 then (12, 22, 9, 3) else (0, 0, 0, 0)) (bif Nat.beq a 44 then (12, 19, 9, 2) else (0, 0, 0, 0)))) (bqT (Nat.ble 42 a) (bqT (Nat.ble 43 a) (bif Nat.beq a 43 then (7, 36, 9, 2) else (0, 0, 0, 0)) (bif Nat.beq a 42 then (12, 15, 9, 1) else (0, 0, 0, 0))) (bqT (Nat.ble 41 a) (bif Nat.beq a 41 then (1, 84, 9, 1) else (0, 0, 0, 0)) (bif Nat.beq a 40 then (12, 9, 9, 0) else (0, 0, 0, 0)))))
noncomputable def kyF_h0_h1 (a : Nat) : Nat × Nat × Nat × Nat := (bqT (Nat.ble 66 a) (bqT (Nat.ble 68 a) (bqT (Nat.ble 69 a) (bif Nat.beq a 69 then (1, 110, 5, 2) else (0, 0, 0, 0)) (bif Nat.beq a 68 then (7, 18, 5, 2) else (0, 0, 0, 0))) (bqT (Nat.ble 67 a) (bif Nat.beq a 67 then (1, 98, 5, 1) else (0, 0, 0, 0)) (bif Nat.beq a 66 then (7, 27, 5, 1) else (0, 0, 0, 0)))) (bqT (Nat.ble 64 a) (bqT (Nat.ble 65 a) (bif Nat.beq a 65 then (1, 16, 5, 0) else (0, 0, 0, 0)) (bif Nat.beq a 64 then (7, 12, 5, 0) else (0, 0, 0, 0))) (bqT (Nat.ble 49 a) (bif Nat.beq a 49 then (7, 169, 9, 5) else (0, 0, 0, 0)) (bif Nat.beq a 48 then (12, 28, 9, 5) else (0, 0, 0, 0)))))
noncomputable def kyF_h0_h2 (a : Nat) : Nat × Nat × Nat × Nat := (bqT (Nat.ble 87 a) (bqT (Nat.ble 89 a) (bqT (Nat.ble 90 a) (bif Nat.beq a 90 then (1, 311, 2, 1) else (0, 0, 0, 0)) (bif Nat.beq a 89 then (5, 55, 2, 1) else (0, 0, 0, 0))) (bqT (Nat.ble 88 a) (bif Nat.beq a 88 then (7, 129, 2, 1) else (0, 0, 0, 0)) (bif Nat.beq a 87 then (4, 49, 2, 1) else (0, 0, 0, 0)))) (bqT (Nat.ble 85 a) (bqT (Nat.ble 86 a) (bif Nat.beq a 86 then (6, 18, 2, 1) else (0, 0, 0, 0)) (bif Nat.beq a 85 then (1, 107, 2, 0) else (0, 0, 0, 0))) (bqT (Nat.ble 84 a) (bif Nat.beq a 84 then (7, 46, 2, 0) else (0, 0, 0, 0)) (bif Nat.beq a 83 then (4, 45, 2, 0) else (0, 0, 0, 0)))))
noncomputable def kyF_h0_h3 (a : Nat) : Nat × Nat × Nat × Nat := (bqT (Nat.ble 95 a) (bqT (Nat.ble 97 a) (bqT (Nat.ble 98 a) (bif Nat.beq a 98 then (7, 137, 2, 3) else (0, 0, 0, 0)) (bif Nat.beq a 97 then (11, 41, 2, 3) else (0, 0, 0, 0))) (bqT (Nat.ble 96 a) (bif Nat.beq a 96 then (2, 24, 2, 3) else (0, 0, 0, 0)) (bif Nat.beq a 95 then (4, 55, 2, 3) else (0, 0, 0, 0)))) (bqT (Nat.ble 93 a) (bqT (Nat.ble 94 a) (bif Nat.beq a 94 then (3, 21, 2, 3) else (0, 0, 0, 0)) (bif Nat.beq a 93 then (1, 258, 2, 2) else (0, 0, 0, 0))) (bqT (Nat.ble 92 a) (bif Nat.beq a 92 then (7, 133, 2, 2) else (0, 0, 0, 0)) (bif Nat.beq a 91 then (4, 52, 2, 2) else (0, 0, 0, 0)))))
noncomputable def kyF_h0_h4 (a : Nat) : Nat × Nat × Nat × Nat := (bqT (Nat.ble 103 a) (bqT (Nat.ble 105 a) (bqT (Nat.ble 106 a) (bif Nat.beq a 106 then (11, 93, 2, 4) else (0, 0, 0, 0)) (bif Nat.beq a 105 then (7, 139, 2, 4) else (0, 0, 0, 0))) (bqT (Nat.ble 104 a) (bif Nat.beq a 104 then (3, 50, 2, 4) else (0, 0, 0, 0)) (bif Nat.beq a 103 then (4, 58, 2, 4) else (0, 0, 0, 0)))) (bqT (Nat.ble 101 a) (bqT (Nat.ble 102 a) (bif Nat.beq a 102 then (6, 30, 2, 4) else (0, 0, 0, 0)) (bif Nat.beq a 101 then (5, 18, 2, 4) else (0, 0, 0, 0))) (bqT (Nat.ble 100 a) (bif Nat.beq a 100 then (2, 18, 2, 4) else (0, 0, 0, 0)) (bif Nat.beq a 99 then (1, 205, 2, 3) else (0, 0, 0, 0)))))
noncomputable def kyF_h0_h5 (a : Nat) : Nat × Nat × Nat × Nat := (bqT (Nat.ble 111 a) (bqT (Nat.ble 113 a) (bqT (Nat.ble 114 a) (bif Nat.beq a 114 then (7, 148, 2, 6) else (0, 0, 0, 0)) (bif Nat.beq a 113 then (4, 9, 2, 6) else (0, 0, 0, 0))) (bqT (Nat.ble 112 a) (bif Nat.beq a 112 then (1, 212, 2, 5) else (0, 0, 0, 0)) (bif Nat.beq a 111 then (7, 162, 2, 5) else (0, 0, 0, 0)))) (bqT (Nat.ble 109 a) (bqT (Nat.ble 110 a) (bif Nat.beq a 110 then (11, 46, 2, 5) else (0, 0, 0, 0)) (bif Nat.beq a 109 then (4, 61, 2, 5) else (0, 0, 0, 0))) (bqT (Nat.ble 108 a) (bif Nat.beq a 108 then (3, 27, 2, 5) else (0, 0, 0, 0)) (bif Nat.beq a 107 then (1, 196, 2, 4) else (0, 0, 0, 0)))))
noncomputable def kyF_h0_h6 (a : Nat) : Nat × Nat × Nat × Nat := (bqT (Nat.ble 119 a) (bqT (Nat.ble 121 a) (bqT (Nat.ble 122 a) (bif Nat.beq a 122 then (1, 139, 2, 9) else (0, 0, 0, 0)) (bif Nat.beq a 121 then (7, 86, 2, 9) else (0, 0, 0, 0))) (bqT (Nat.ble 120 a) (bif Nat.beq a 120 then (4, 21, 2, 9) else (0, 0, 0, 0)) (bif Nat.beq a 119 then (1, 129, 2, 8) else (0, 0, 0, 0)))) (bqT (Nat.ble 117 a) (bqT (Nat.ble 118 a) (bif Nat.beq a 118 then (7, 70, 2, 8) else (0, 0, 0, 0)) (bif Nat.beq a 117 then (4, 18, 2, 8) else (0, 0, 0, 0))) (bqT (Nat.ble 116 a) (bif Nat.beq a 116 then (7, 145, 2, 7) else (0, 0, 0, 0)) (bif Nat.beq a 115 then (4, 15, 2, 7) else (0, 0, 0, 0)))))
noncomputable def kyF_h0_h7 (a : Nat) : Nat × Nat × Nat × Nat := (bqT (Nat.ble 127 a) (bqT (Nat.ble 129 a) (bqT (Nat.ble 130 a) (bif Nat.beq a 130 then (1, 261, 2, 11) else (0, 0, 0, 0)) (bif Nat.beq a 129 then (7, 152, 2, 11) else (0, 0, 0, 0))) (bqT (Nat.ble 128 a) (bif Nat.beq a 128 then (4, 27, 2, 11) else (0, 0, 0, 0)) (bif Nat.beq a 127 then (11, 96, 2, 10) else (0, 0, 0, 0)))) (bqT (Nat.ble 125 a) (bqT (Nat.ble 126 a) (bif Nat.beq a 126 then (1, 142, 2, 10) else (0, 0, 0, 0)) (bif Nat.beq a 125 then (7, 110, 2, 10) else (0, 0, 0, 0))) (bqT (Nat.ble 124 a) (bif Nat.beq a 124 then (4, 24, 2, 10) else (0, 0, 0, 0)) (bif Nat.beq a 123 then (3, 94, 2, 9) else (0, 0, 0, 0)))))
noncomputable def kyF_h0 (a : Nat) : Nat × Nat × Nat × Nat := (bqT (Nat.ble 99 a) (bqT (Nat.ble 115 a) (bqT (Nat.ble 123 a) (kyF_h0_h7 a) (kyF_h0_h6 a)) (bqT (Nat.ble 107 a) (kyF_h0_h5 a) (kyF_h0_h4 a))) (bqT (Nat.ble 83 a) (bqT (Nat.ble 91 a) (kyF_h0_h3 a) (kyF_h0_h2 a)) (bqT (Nat.ble 48 a) (kyF_h0_h1 a) (kyF_h0_h0 a))))
noncomputable def kyF_h1_h0 (a : Nat) : Nat × Nat × Nat × Nat := (bqT (Nat.ble 135 a) (bqT (Nat.ble 137 a) (bqT (Nat.ble 138 a) (bif Nat.beq a 138 then (4, 36, 2, 14) else (0, 0, 0, 0)) (bif Nat.beq a 137 then (1, 154, 2, 13) else (0, 0, 0, 0))) (bqT (Nat.ble 136 a) (bif Nat.beq a 136 then (3, 43, 2, 13) else (0, 0, 0, 0)) (bif Nat.beq a 135 then (4, 33, 2, 13) else (0, 0, 0, 0)))) (bqT (Nat.ble 133 a) (bqT (Nat.ble 134 a) (bif Nat.beq a 134 then (1, 268, 2, 12) else (0, 0, 0, 0)) (bif Nat.beq a 133 then (7, 159, 2, 12) else (0, 0, 0, 0))) (bqT (Nat.ble 132 a) (bif Nat.beq a 132 then (3, 57, 2, 12) else (0, 0, 0, 0)) (bif Nat.beq a 131 then (4, 30, 2, 12) else (0, 0, 0, 0)))))
noncomputable def kyF_h1_h1 (a : Nat) : Nat × Nat × Nat × Nat := (bqT (Nat.ble 143 a) (bqT (Nat.ble 145 a) (bqT (Nat.ble 146 a) (bif Nat.beq a 146 then (11, 49, 2, 16) else (0, 0, 0, 0)) (bif Nat.beq a 145 then (3, 30, 2, 16) else (0, 0, 0, 0))) (bqT (Nat.ble 144 a) (bif Nat.beq a 144 then (4, 42, 2, 16) else (0, 0, 0, 0)) (bif Nat.beq a 143 then (1, 160, 2, 15) else (0, 0, 0, 0)))) (bqT (Nat.ble 141 a) (bqT (Nat.ble 142 a) (bif Nat.beq a 142 then (3, 74, 2, 15) else (0, 0, 0, 0)) (bif Nat.beq a 141 then (4, 39, 2, 15) else (0, 0, 0, 0))) (bqT (Nat.ble 140 a) (bif Nat.beq a 140 then (1, 157, 2, 14) else (0, 0, 0, 0)) (bif Nat.beq a 139 then (3, 68, 2, 14) else (0, 0, 0, 0)))))
noncomputable def kyF_h1_h2 (a : Nat) : Nat × Nat × Nat × Nat := (bqT (Nat.ble 206 a) (bqT (Nat.ble 208 a) (bqT (Nat.ble 209 a) (bif Nat.beq a 209 then (11, 18, 8, 2) else (0, 0, 0, 0)) (bif Nat.beq a 208 then (1, 173, 8, 1) else (0, 0, 0, 0))) (bqT (Nat.ble 207 a) (bif Nat.beq a 207 then (11, 15, 8, 1) else (0, 0, 0, 0)) (bif Nat.beq a 206 then (11, 9, 8, 0) else (0, 0, 0, 0)))) (bqT (Nat.ble 191 a) (bqT (Nat.ble 192 a) (bif Nat.beq a 192 then (3, 18, 1, 2) else (0, 0, 0, 0)) (bif Nat.beq a 191 then (3, 15, 1, 1) else (0, 0, 0, 0))) (bqT (Nat.ble 190 a) (bif Nat.beq a 190 then (3, 9, 1, 0) else (0, 0, 0, 0)) (bif Nat.beq a 147 then (1, 163, 2, 16) else (0, 0, 0, 0)))))
noncomputable def kyF_h1_h3 (a : Nat) : Nat × Nat × Nat × Nat := (bqT (Nat.ble 229 a) (bqT (Nat.ble 242 a) (bqT (Nat.ble 243 a) (bif Nat.beq a 243 then (10, 19, 7, 2) else (0, 0, 0, 0)) (bif Nat.beq a 242 then (10, 15, 7, 1) else (0, 0, 0, 0))) (bqT (Nat.ble 241 a) (bif Nat.beq a 241 then (10, 9, 7, 0) else (0, 0, 0, 0)) (bif Nat.beq a 229 then (2, 15, 0, 1) else (0, 0, 0, 0)))) (bqT (Nat.ble 212 a) (bqT (Nat.ble 228 a) (bif Nat.beq a 228 then (2, 9, 0, 0) else (0, 0, 0, 0)) (bif Nat.beq a 212 then (1, 170, 8, 3) else (0, 0, 0, 0))) (bqT (Nat.ble 211 a) (bif Nat.beq a 211 then (11, 21, 8, 3) else (0, 0, 0, 0)) (bif Nat.beq a 210 then (1, 176, 8, 2) else (0, 0, 0, 0)))))
noncomputable def kyF_h1_h4 (a : Nat) : Nat × Nat × Nat × Nat := (bqT (Nat.ble 275 a) (bqT (Nat.ble 288 a) (bqT (Nat.ble 289 a) (bif Nat.beq a 289 then (1, 344, 4, 0) else (0, 0, 0, 0)) (bif Nat.beq a 288 then (6, 9, 4, 0) else (0, 0, 0, 0))) (bqT (Nat.ble 276 a) (bif Nat.beq a 276 then (5, 15, 3, 1) else (0, 0, 0, 0)) (bif Nat.beq a 275 then (5, 9, 3, 0) else (0, 0, 0, 0)))) (bqT (Nat.ble 260 a) (bqT (Nat.ble 261 a) (bif Nat.beq a 261 then (1, 284, 6, 2) else (0, 0, 0, 0)) (bif Nat.beq a 260 then (9, 18, 6, 2) else (0, 0, 0, 0))) (bqT (Nat.ble 259 a) (bif Nat.beq a 259 then (9, 15, 6, 1) else (0, 0, 0, 0)) (bif Nat.beq a 258 then (9, 9, 6, 0) else (0, 0, 0, 0)))))
noncomputable def kyF_h1_h5 (a : Nat) : Nat × Nat × Nat × Nat := (bqT (Nat.ble 300 a) (bqT (Nat.ble 302 a) (bqT (Nat.ble 303 a) (bif Nat.beq a 303 then (1, 48, 10, 6) else (0, 0, 0, 0)) (bif Nat.beq a 302 then (1, 41, 10, 5) else (0, 0, 0, 0))) (bqT (Nat.ble 301 a) (bif Nat.beq a 301 then (1, 34, 10, 4) else (0, 0, 0, 0)) (bif Nat.beq a 300 then (1, 28, 10, 3) else (0, 0, 0, 0)))) (bqT (Nat.ble 298 a) (bqT (Nat.ble 299 a) (bif Nat.beq a 299 then (1, 24, 10, 2) else (0, 0, 0, 0)) (bif Nat.beq a 298 then (1, 20, 10, 1) else (0, 0, 0, 0))) (bqT (Nat.ble 297 a) (bif Nat.beq a 297 then (1, 12, 10, 0) else (0, 0, 0, 0)) (bif Nat.beq a 290 then (6, 15, 4, 1) else (0, 0, 0, 0)))))
noncomputable def kyF_h1_h6 (a : Nat) : Nat × Nat × Nat × Nat := (bqT (Nat.ble 308 a) (bqT (Nat.ble 1207 a) (bqT (Nat.ble 1208 a) (bif Nat.beq a 1208 then (13, 13, 11, 2) else (0, 0, 0, 0)) (bif Nat.beq a 1207 then (13, 9, 11, 1) else (0, 0, 0, 0))) (bqT (Nat.ble 309 a) (bif Nat.beq a 309 then (1, 383, 10, 12) else (0, 0, 0, 0)) (bif Nat.beq a 308 then (1, 80, 10, 11) else (0, 0, 0, 0)))) (bqT (Nat.ble 306 a) (bqT (Nat.ble 307 a) (bif Nat.beq a 307 then (1, 76, 10, 10) else (0, 0, 0, 0)) (bif Nat.beq a 306 then (1, 69, 10, 9) else (0, 0, 0, 0))) (bqT (Nat.ble 305 a) (bif Nat.beq a 305 then (1, 62, 10, 8) else (0, 0, 0, 0)) (bif Nat.beq a 304 then (1, 55, 10, 7) else (0, 0, 0, 0)))))
noncomputable def kyF_h1_h7 (a : Nat) : Nat × Nat × Nat × Nat := (bqT (Nat.ble 1213 a) (bqT (Nat.ble 1215 a) (bqT (Nat.ble 1216 a) (bif Nat.beq a 1216 then (13, 112, 11, 10) else (0, 0, 0, 0)) (bif Nat.beq a 1215 then (13, 109, 11, 9) else (0, 0, 0, 0))) (bqT (Nat.ble 1214 a) (bif Nat.beq a 1214 then (13, 103, 11, 8) else (0, 0, 0, 0)) (bif Nat.beq a 1213 then (13, 100, 11, 7) else (0, 0, 0, 0)))) (bqT (Nat.ble 1211 a) (bqT (Nat.ble 1212 a) (bif Nat.beq a 1212 then (13, 24, 11, 6) else (0, 0, 0, 0)) (bif Nat.beq a 1211 then (13, 97, 11, 5) else (0, 0, 0, 0))) (bqT (Nat.ble 1210 a) (bif Nat.beq a 1210 then (13, 20, 11, 4) else (0, 0, 0, 0)) (bif Nat.beq a 1209 then (13, 16, 11, 3) else (0, 0, 0, 0)))))
noncomputable def kyF_h1 (a : Nat) : Nat × Nat × Nat × Nat := (bqT (Nat.ble 258 a) (bqT (Nat.ble 304 a) (bqT (Nat.ble 1209 a) (kyF_h1_h7 a) (kyF_h1_h6 a)) (bqT (Nat.ble 290 a) (kyF_h1_h5 a) (kyF_h1_h4 a))) (bqT (Nat.ble 147 a) (bqT (Nat.ble 210 a) (kyF_h1_h3 a) (kyF_h1_h2 a)) (bqT (Nat.ble 139 a) (kyF_h1_h1 a) (kyF_h1_h0 a))))
noncomputable def kyF_h2_h0 (a : Nat) : Nat × Nat × Nat × Nat := (bqT (Nat.ble 1221 a) (bqT (Nat.ble 1223 a) (bqT (Nat.ble 1224 a) (bif Nat.beq a 1224 then (13, 264, 11, 18) else (0, 0, 0, 0)) (bif Nat.beq a 1223 then (13, 40, 11, 17) else (0, 0, 0, 0))) (bqT (Nat.ble 1222 a) (bif Nat.beq a 1222 then (13, 37, 11, 16) else (0, 0, 0, 0)) (bif Nat.beq a 1221 then (13, 34, 11, 15) else (0, 0, 0, 0)))) (bqT (Nat.ble 1219 a) (bqT (Nat.ble 1220 a) (bif Nat.beq a 1220 then (13, 31, 11, 14) else (0, 0, 0, 0)) (bif Nat.beq a 1219 then (13, 27, 11, 13) else (0, 0, 0, 0))) (bqT (Nat.ble 1218 a) (bif Nat.beq a 1218 then (13, 133, 11, 12) else (0, 0, 0, 0)) (bif Nat.beq a 1217 then (13, 123, 11, 11) else (0, 0, 0, 0)))))
noncomputable def kyF_h2_h1 (a : Nat) : Nat × Nat × Nat × Nat := (bqT (Nat.ble 1229 a) (bqT (Nat.ble 1231 a) (bqT (Nat.ble 1232 a) (bif Nat.beq a 1232 then (13, 52, 11, 26) else (0, 0, 0, 0)) (bif Nat.beq a 1231 then (13, 233, 11, 25) else (0, 0, 0, 0))) (bqT (Nat.ble 1230 a) (bif Nat.beq a 1230 then (13, 245, 11, 24) else (0, 0, 0, 0)) (bif Nat.beq a 1229 then (13, 252, 11, 23) else (0, 0, 0, 0)))) (bqT (Nat.ble 1227 a) (bqT (Nat.ble 1228 a) (bif Nat.beq a 1228 then (13, 49, 11, 22) else (0, 0, 0, 0)) (bif Nat.beq a 1227 then (13, 261, 11, 21) else (0, 0, 0, 0))) (bqT (Nat.ble 1226 a) (bif Nat.beq a 1226 then (13, 46, 11, 20) else (0, 0, 0, 0)) (bif Nat.beq a 1225 then (13, 43, 11, 19) else (0, 0, 0, 0)))))
noncomputable def kyF_h2_h2 (a : Nat) : Nat × Nat × Nat × Nat := (bqT (Nat.ble 1237 a) (bqT (Nat.ble 1239 a) (bqT (Nat.ble 1240 a) (bif Nat.beq a 1240 then (13, 73, 11, 34) else (0, 0, 0, 0)) (bif Nat.beq a 1239 then (13, 70, 11, 33) else (0, 0, 0, 0))) (bqT (Nat.ble 1238 a) (bif Nat.beq a 1238 then (13, 67, 11, 32) else (0, 0, 0, 0)) (bif Nat.beq a 1237 then (13, 64, 11, 31) else (0, 0, 0, 0)))) (bqT (Nat.ble 1235 a) (bqT (Nat.ble 1236 a) (bif Nat.beq a 1236 then (13, 393, 11, 30) else (0, 0, 0, 0)) (bif Nat.beq a 1235 then (13, 61, 11, 29) else (0, 0, 0, 0))) (bqT (Nat.ble 1234 a) (bif Nat.beq a 1234 then (13, 58, 11, 28) else (0, 0, 0, 0)) (bif Nat.beq a 1233 then (13, 55, 11, 27) else (0, 0, 0, 0)))))
noncomputable def kyF_h2_h3 (a : Nat) : Nat × Nat × Nat × Nat := (bif Nat.beq a 1241 then (13, 77, 11, 35) else (0, 0, 0, 0))
noncomputable def kyF_h2 (a : Nat) : Nat × Nat × Nat × Nat := (bqT (Nat.ble 1233 a) (bqT (Nat.ble 1241 a) (kyF_h2_h3 a) (kyF_h2_h2 a)) (bqT (Nat.ble 1225 a) (kyF_h2_h1 a) (kyF_h2_h0 a)))
noncomputable def kyF (a : Nat) : Nat × Nat × Nat × Nat := (bqT (Nat.ble 131 a) (bqT (Nat.ble 1217 a) (kyF_h2 a) (kyF_h1 a)) (kyF_h0 a))
noncomputable def kyM_h0_h0 (a : Nat) : Nat × Nat × Nat × Nat := (bqT (Nat.ble 202 a) (bqT (Nat.ble 237 a) (bqT (Nat.ble 254 a) (bif Nat.beq a 254 then (1, 61, 153, 0) else (0, 0, 0, 0)) (bif Nat.beq a 237 then (1, 54, 159, 0) else (0, 0, 0, 0))) (bqT (Nat.ble 224 a) (bif Nat.beq a 224 then (1, 47, 77, 0) else (0, 0, 0, 0)) (bif Nat.beq a 202 then (1, 40, 172, 0) else (0, 0, 0, 0)))) (bqT (Nat.ble 79 a) (bqT (Nat.ble 186 a) (bif Nat.beq a 186 then (1, 33, 84, 0) else (0, 0, 0, 0)) (bif Nat.beq a 79 then (1, 23, 98, 0) else (0, 0, 0, 0))) (bqT (Nat.ble 36 a) (bif Nat.beq a 36 then (7, 11, 184, 0) else (0, 0, 0, 0)) (bif Nat.beq a 30 then (1, 11, 132, 0) else (0, 0, 0, 0)))))
noncomputable def kyM_h0_h1 (a : Nat) : Nat × Nat × Nat × Nat := (bqT (Nat.ble 357 a) (bqT (Nat.ble 364 a) (bqT (Nat.ble 368 a) (bif Nat.beq a 368 then (7, 33, 188, 0) else (0, 0, 0, 0)) (bif Nat.beq a 364 then (7, 30, 187, 0) else (0, 0, 0, 0))) (bqT (Nat.ble 361 a) (bif Nat.beq a 361 then (4, 64, 149, 0) else (0, 0, 0, 0)) (bif Nat.beq a 357 then (7, 22, 99, 0) else (0, 0, 0, 0)))) (bqT (Nat.ble 341 a) (bqT (Nat.ble 353 a) (bif Nat.beq a 353 then (1, 94, 133, 0) else (0, 0, 0, 0)) (bif Nat.beq a 341 then (1, 90, 185, 0) else (0, 0, 0, 0))) (bqT (Nat.ble 284 a) (bif Nat.beq a 284 then (1, 75, 124, 0) else (0, 0, 0, 0)) (bif Nat.beq a 271 then (1, 68, 115, 0) else (0, 0, 0, 0)))))
noncomputable def kyM_h0_h2 (a : Nat) : Nat × Nat × Nat × Nat := (bqT (Nat.ble 389 a) (bqT (Nat.ble 398 a) (bqT (Nat.ble 402 a) (bif Nat.beq a 402 then (16, 335, 347, 0) else (0, 0, 0, 0)) (bif Nat.beq a 398 then (12, 43, 345, 0) else (0, 0, 0, 0))) (bqT (Nat.ble 394 a) (bif Nat.beq a 394 then (7, 57, 191, 0) else (0, 0, 0, 0)) (bif Nat.beq a 389 then (7, 52, 135, 0) else (0, 0, 0, 0)))) (bqT (Nat.ble 380 a) (bqT (Nat.ble 385 a) (bif Nat.beq a 385 then (7, 39, 134, 0) else (0, 0, 0, 0)) (bif Nat.beq a 380 then (12, 39, 190, 0) else (0, 0, 0, 0))) (bqT (Nat.ble 376 a) (bif Nat.beq a 376 then (12, 35, 189, 0) else (0, 0, 0, 0)) (bif Nat.beq a 372 then (12, 31, 186, 0) else (0, 0, 0, 0)))))
noncomputable def kyM_h0_h3 (a : Nat) : Nat × Nat × Nat × Nat := (bqT (Nat.ble 424 a) (bqT (Nat.ble 451 a) (bqT (Nat.ble 455 a) (bif Nat.beq a 455 then (7, 74, 141, 0) else (0, 0, 0, 0)) (bif Nat.beq a 451 then (7, 125, 144, 0) else (0, 0, 0, 0))) (bqT (Nat.ble 446 a) (bif Nat.beq a 446 then (7, 117, 146, 0) else (0, 0, 0, 0)) (bif Nat.beq a 424 then (16, 1059, 351, 0) else (0, 0, 0, 0)))) (bqT (Nat.ble 416 a) (bqT (Nat.ble 419 a) (bif Nat.beq a 419 then (17, 9, 350, 0) else (0, 0, 0, 0)) (bif Nat.beq a 416 then (16, 495, 349, 0) else (0, 0, 0, 0))) (bqT (Nat.ble 412 a) (bif Nat.beq a 412 then (16, 492, 348, 0) else (0, 0, 0, 0)) (bif Nat.beq a 408 then (12, 49, 346, 0) else (0, 0, 0, 0)))))
noncomputable def kyM_h0_h4 (a : Nat) : Nat × Nat × Nat × Nat := (bqT (Nat.ble 480 a) (bqT (Nat.ble 490 a) (bqT (Nat.ble 494 a) (bif Nat.beq a 494 then (7, 155, 106, 0) else (0, 0, 0, 0)) (bif Nat.beq a 490 then (7, 106, 142, 0) else (0, 0, 0, 0))) (bqT (Nat.ble 486 a) (bif Nat.beq a 486 then (7, 96, 138, 0) else (0, 0, 0, 0)) (bif Nat.beq a 480 then (7, 91, 137, 0) else (0, 0, 0, 0)))) (bqT (Nat.ble 470 a) (bqT (Nat.ble 474 a) (bif Nat.beq a 474 then (7, 66, 140, 0) else (0, 0, 0, 0)) (bif Nat.beq a 470 then (7, 78, 148, 0) else (0, 0, 0, 0))) (bqT (Nat.ble 466 a) (bif Nat.beq a 466 then (7, 61, 136, 0) else (0, 0, 0, 0)) (bif Nat.beq a 459 then (7, 142, 143, 0) else (0, 0, 0, 0)))))
noncomputable def kyM_h0_h5 (a : Nat) : Nat × Nat × Nat × Nat := (bqT (Nat.ble 512 a) (bqT (Nat.ble 520 a) (bqT (Nat.ble 521 a) (bif Nat.beq a 521 then (1, 101, 100, 0) else (0, 0, 0, 0)) (bif Nat.beq a 520 then (4, 82, 147, 0) else (0, 0, 0, 0))) (bqT (Nat.ble 516 a) (bif Nat.beq a 516 then (7, 49, 111, 0) else (0, 0, 0, 0)) (bif Nat.beq a 512 then (7, 43, 145, 0) else (0, 0, 0, 0)))) (bqT (Nat.ble 506 a) (bqT (Nat.ble 510 a) (bif Nat.beq a 510 then (4, 89, 148, 0) else (0, 0, 0, 0)) (bif Nat.beq a 506 then (7, 165, 112, 0) else (0, 0, 0, 0))) (bqT (Nat.ble 502 a) (bif Nat.beq a 502 then (7, 101, 139, 0) else (0, 0, 0, 0)) (bif Nat.beq a 498 then (7, 113, 147, 0) else (0, 0, 0, 0)))))
noncomputable def kyM_h0_h6 (a : Nat) : Nat × Nat × Nat × Nat := (bqT (Nat.ble 537 a) (bqT (Nat.ble 541 a) (bqT (Nat.ble 545 a) (bif Nat.beq a 545 then (4, 74, 102, 0) else (0, 0, 0, 0)) (bif Nat.beq a 541 then (3, 53, 110, 0) else (0, 0, 0, 0))) (bqT (Nat.ble 538 a) (bif Nat.beq a 538 then (3, 46, 86, 0) else (0, 0, 0, 0)) (bif Nat.beq a 537 then (3, 39, 148, 0) else (0, 0, 0, 0)))) (bqT (Nat.ble 532 a) (bqT (Nat.ble 536 a) (bif Nat.beq a 536 then (3, 33, 147, 0) else (0, 0, 0, 0)) (bif Nat.beq a 532 then (1, 404, 85, 0) else (0, 0, 0, 0))) (bqT (Nat.ble 528 a) (bif Nat.beq a 528 then (1, 104, 73, 0) else (0, 0, 0, 0)) (bif Nat.beq a 525 then (4, 70, 150, 0) else (0, 0, 0, 0)))))
noncomputable def kyM_h0_h7 (a : Nat) : Nat × Nat × Nat × Nat := (bqT (Nat.ble 562 a) (bqT (Nat.ble 567 a) (bqT (Nat.ble 568 a) (bif Nat.beq a 568 then (11, 37, 175, 0) else (0, 0, 0, 0)) (bif Nat.beq a 567 then (4, 78, 106, 0) else (0, 0, 0, 0))) (bqT (Nat.ble 563 a) (bif Nat.beq a 563 then (3, 64, 108, 0) else (0, 0, 0, 0)) (bif Nat.beq a 562 then (3, 60, 150, 0) else (0, 0, 0, 0)))) (bqT (Nat.ble 557 a) (bqT (Nat.ble 558 a) (bif Nat.beq a 558 then (11, 31, 87, 0) else (0, 0, 0, 0)) (bif Nat.beq a 557 then (11, 25, 149, 0) else (0, 0, 0, 0))) (bqT (Nat.ble 553 a) (bif Nat.beq a 553 then (1, 407, 173, 0) else (0, 0, 0, 0)) (bif Nat.beq a 549 then (4, 86, 103, 0) else (0, 0, 0, 0)))))
noncomputable def kyM_h0 (a : Nat) : Nat × Nat × Nat × Nat := (bqT (Nat.ble 459 a) (bqT (Nat.ble 525 a) (bqT (Nat.ble 549 a) (kyM_h0_h7 a) (kyM_h0_h6 a)) (bqT (Nat.ble 498 a) (kyM_h0_h5 a) (kyM_h0_h4 a))) (bqT (Nat.ble 372 a) (bqT (Nat.ble 408 a) (kyM_h0_h3 a) (kyM_h0_h2 a)) (bqT (Nat.ble 271 a) (kyM_h0_h1 a) (kyM_h0_h0 a))))
noncomputable def kyM_h1_h0 (a : Nat) : Nat × Nat × Nat × Nat := (bqT (Nat.ble 582 a) (bqT (Nat.ble 590 a) (bqT (Nat.ble 591 a) (bif Nat.beq a 591 then (11, 68, 89, 0) else (0, 0, 0, 0)) (bif Nat.beq a 590 then (3, 71, 88, 0) else (0, 0, 0, 0))) (bqT (Nat.ble 586 a) (bif Nat.beq a 586 then (11, 64, 91, 0) else (0, 0, 0, 0)) (bif Nat.beq a 582 then (11, 60, 174, 0) else (0, 0, 0, 0)))) (bqT (Nat.ble 577 a) (bqT (Nat.ble 581 a) (bif Nat.beq a 581 then (11, 56, 147, 0) else (0, 0, 0, 0)) (bif Nat.beq a 577 then (11, 52, 90, 0) else (0, 0, 0, 0))) (bqT (Nat.ble 576 a) (bif Nat.beq a 576 then (11, 71, 148, 0) else (0, 0, 0, 0)) (bif Nat.beq a 572 then (11, 79, 88, 0) else (0, 0, 0, 0)))))
noncomputable def kyM_h1_h1 (a : Nat) : Nat × Nat × Nat × Nat := (bqT (Nat.ble 620 a) (bqT (Nat.ble 630 a) (bqT (Nat.ble 631 a) (bif Nat.beq a 631 then (1, 148, 110, 0) else (0, 0, 0, 0)) (bif Nat.beq a 630 then (1, 145, 103, 0) else (0, 0, 0, 0))) (bqT (Nat.ble 625 a) (bif Nat.beq a 625 then (1, 133, 147, 0) else (0, 0, 0, 0)) (bif Nat.beq a 620 then (1, 125, 106, 0) else (0, 0, 0, 0)))) (bqT (Nat.ble 608 a) (bqT (Nat.ble 612 a) (bif Nat.beq a 612 then (1, 121, 107, 0) else (0, 0, 0, 0)) (bif Nat.beq a 608 then (1, 117, 105, 0) else (0, 0, 0, 0))) (bqT (Nat.ble 607 a) (bif Nat.beq a 607 then (1, 113, 102, 0) else (0, 0, 0, 0)) (bif Nat.beq a 595 then (11, 75, 92, 0) else (0, 0, 0, 0)))))
noncomputable def kyM_h1_h2 (a : Nat) : Nat × Nat × Nat × Nat := (bqT (Nat.ble 676 a) (bqT (Nat.ble 681 a) (bqT (Nat.ble 682 a) (bif Nat.beq a 682 then (1, 186, 75, 0) else (0, 0, 0, 0)) (bif Nat.beq a 681 then (11, 86, 108, 0) else (0, 0, 0, 0))) (bqT (Nat.ble 680 a) (bif Nat.beq a 680 then (11, 83, 176, 0) else (0, 0, 0, 0)) (bif Nat.beq a 676 then (11, 89, 177, 0) else (0, 0, 0, 0)))) (bqT (Nat.ble 668 a) (bqT (Nat.ble 672 a) (bif Nat.beq a 672 then (1, 182, 178, 0) else (0, 0, 0, 0)) (bif Nat.beq a 668 then (1, 179, 74, 0) else (0, 0, 0, 0))) (bqT (Nat.ble 644 a) (bif Nat.beq a 644 then (1, 166, 176, 0) else (0, 0, 0, 0)) (bif Nat.beq a 636 then (1, 151, 104, 0) else (0, 0, 0, 0)))))
noncomputable def kyM_h1_h3 (a : Nat) : Nat × Nat × Nat × Nat := (bqT (Nat.ble 718 a) (bqT (Nat.ble 736 a) (bqT (Nat.ble 757 a) (bif Nat.beq a 757 then (1, 215, 344, 0) else (0, 0, 0, 0)) (bif Nat.beq a 736 then (1, 208, 177, 0) else (0, 0, 0, 0))) (bqT (Nat.ble 732 a) (bif Nat.beq a 732 then (1, 202, 26, 0) else (0, 0, 0, 0)) (bif Nat.beq a 718 then (11, 102, 344, 0) else (0, 0, 0, 0)))) (bqT (Nat.ble 701 a) (bqT (Nat.ble 714 a) (bif Nat.beq a 714 then (1, 199, 181, 0) else (0, 0, 0, 0)) (bif Nat.beq a 701 then (11, 99, 178, 0) else (0, 0, 0, 0))) (bqT (Nat.ble 697 a) (bif Nat.beq a 697 then (1, 192, 180, 0) else (0, 0, 0, 0)) (bif Nat.beq a 689 then (1, 189, 179, 0) else (0, 0, 0, 0)))))
noncomputable def kyM_h1_h4 (a : Nat) : Nat × Nat × Nat × Nat := (bqT (Nat.ble 787 a) (bqT (Nat.ble 789 a) (bqT (Nat.ble 790 a) (bif Nat.beq a 790 then (2, 43, 108, 0) else (0, 0, 0, 0)) (bif Nat.beq a 789 then (2, 39, 147, 0) else (0, 0, 0, 0))) (bqT (Nat.ble 788 a) (bif Nat.beq a 788 then (2, 33, 148, 0) else (0, 0, 0, 0)) (bif Nat.beq a 787 then (2, 27, 176, 0) else (0, 0, 0, 0)))) (bqT (Nat.ble 779 a) (bqT (Nat.ble 783 a) (bif Nat.beq a 783 then (1, 227, 78, 0) else (0, 0, 0, 0)) (bif Nat.beq a 779 then (1, 223, 109, 0) else (0, 0, 0, 0))) (bqT (Nat.ble 766 a) (bif Nat.beq a 766 then (4, 93, 107, 0) else (0, 0, 0, 0)) (bif Nat.beq a 762 then (1, 220, 114, 0) else (0, 0, 0, 0)))))
noncomputable def kyM_h1_h5 (a : Nat) : Nat × Nat × Nat × Nat := (bqT (Nat.ble 805 a) (bqT (Nat.ble 817 a) (bqT (Nat.ble 821 a) (bif Nat.beq a 821 then (1, 241, 81, 0) else (0, 0, 0, 0)) (bif Nat.beq a 817 then (1, 237, 101, 0) else (0, 0, 0, 0))) (bqT (Nat.ble 806 a) (bif Nat.beq a 806 then (1, 234, 76, 0) else (0, 0, 0, 0)) (bif Nat.beq a 805 then (2, 60, 78, 0) else (0, 0, 0, 0)))) (bqT (Nat.ble 803 a) (bqT (Nat.ble 804 a) (bif Nat.beq a 804 then (2, 55, 344, 0) else (0, 0, 0, 0)) (bif Nat.beq a 803 then (2, 51, 109, 0) else (0, 0, 0, 0))) (bqT (Nat.ble 799 a) (bif Nat.beq a 799 then (1, 231, 80, 0) else (0, 0, 0, 0)) (bif Nat.beq a 791 then (2, 47, 79, 0) else (0, 0, 0, 0)))))
noncomputable def kyM_h1_h6 (a : Nat) : Nat × Nat × Nat × Nat := (bqT (Nat.ble 841 a) (bqT (Nat.ble 846 a) (bqT (Nat.ble 847 a) (bif Nat.beq a 847 then (3, 84, 91, 0) else (0, 0, 0, 0)) (bif Nat.beq a 846 then (3, 81, 90, 0) else (0, 0, 0, 0))) (bqT (Nat.ble 845 a) (bif Nat.beq a 845 then (3, 77, 87, 0) else (0, 0, 0, 0)) (bif Nat.beq a 841 then (1, 248, 93, 0) else (0, 0, 0, 0)))) (bqT (Nat.ble 829 a) (bqT (Nat.ble 837 a) (bif Nat.beq a 837 then (1, 245, 113, 0) else (0, 0, 0, 0)) (bif Nat.beq a 829 then (2, 68, 83, 0) else (0, 0, 0, 0))) (bqT (Nat.ble 828 a) (bif Nat.beq a 828 then (2, 72, 177, 0) else (0, 0, 0, 0)) (bif Nat.beq a 825 then (2, 64, 82, 0) else (0, 0, 0, 0)))))
noncomputable def kyM_h1_h7 (a : Nat) : Nat × Nat × Nat × Nat := (bqT (Nat.ble 879 a) (bqT (Nat.ble 896 a) (bqT (Nat.ble 900 a) (bif Nat.beq a 900 then (11, 107, 109, 0) else (0, 0, 0, 0)) (bif Nat.beq a 896 then (1, 274, 183, 0) else (0, 0, 0, 0))) (bqT (Nat.ble 888 a) (bif Nat.beq a 888 then (1, 271, 182, 0) else (0, 0, 0, 0)) (bif Nat.beq a 879 then (1, 264, 148, 0) else (0, 0, 0, 0)))) (bqT (Nat.ble 858 a) (bqT (Nat.ble 870 a) (bif Nat.beq a 870 then (1, 254, 112, 0) else (0, 0, 0, 0)) (bif Nat.beq a 858 then (1, 251, 40, 0) else (0, 0, 0, 0))) (bqT (Nat.ble 849 a) (bif Nat.beq a 849 then (3, 91, 92, 0) else (0, 0, 0, 0)) (bif Nat.beq a 848 then (3, 88, 89, 0) else (0, 0, 0, 0)))))
noncomputable def kyM_h1 (a : Nat) : Nat × Nat × Nat × Nat := (bqT (Nat.ble 762 a) (bqT (Nat.ble 825 a) (bqT (Nat.ble 848 a) (kyM_h1_h7 a) (kyM_h1_h6 a)) (bqT (Nat.ble 791 a) (kyM_h1_h5 a) (kyM_h1_h4 a))) (bqT (Nat.ble 636 a) (bqT (Nat.ble 689 a) (kyM_h1_h3 a) (kyM_h1_h2 a)) (bqT (Nat.ble 595 a) (kyM_h1_h1 a) (kyM_h1_h0 a))))
noncomputable def kyM_h2_h0 (a : Nat) : Nat × Nat × Nat × Nat := (bqT (Nat.ble 922 a) (bqT (Nat.ble 924 a) (bqT (Nat.ble 928 a) (bif Nat.beq a 928 then (10, 22, 162, 0) else (0, 0, 0, 0)) (bif Nat.beq a 924 then (1, 293, 161, 0) else (0, 0, 0, 0))) (bqT (Nat.ble 923 a) (bif Nat.beq a 923 then (10, 30, 147, 0) else (0, 0, 0, 0)) (bif Nat.beq a 922 then (10, 26, 160, 0) else (0, 0, 0, 0)))) (bqT (Nat.ble 914 a) (bqT (Nat.ble 918 a) (bif Nat.beq a 918 then (1, 290, 162, 0) else (0, 0, 0, 0)) (bif Nat.beq a 914 then (1, 287, 160, 0) else (0, 0, 0, 0))) (bqT (Nat.ble 910 a) (bif Nat.beq a 910 then (1, 277, 50, 0) else (0, 0, 0, 0)) (bif Nat.beq a 901 then (11, 111, 182, 0) else (0, 0, 0, 0)))))
noncomputable def kyM_h2_h1 (a : Nat) : Nat × Nat × Nat × Nat := (bqT (Nat.ble 944 a) (bqT (Nat.ble 946 a) (bqT (Nat.ble 947 a) (bif Nat.beq a 947 then (9, 37, 342, 0) else (0, 0, 0, 0)) (bif Nat.beq a 946 then (9, 25, 148, 0) else (0, 0, 0, 0))) (bqT (Nat.ble 945 a) (bif Nat.beq a 945 then (9, 57, 164, 0) else (0, 0, 0, 0)) (bif Nat.beq a 944 then (9, 31, 162, 0) else (0, 0, 0, 0)))) (bqT (Nat.ble 937 a) (bqT (Nat.ble 941 a) (bif Nat.beq a 941 then (9, 21, 155, 0) else (0, 0, 0, 0)) (bif Nat.beq a 937 then (1, 280, 154, 0) else (0, 0, 0, 0))) (bqT (Nat.ble 933 a) (bif Nat.beq a 933 then (10, 51, 164, 0) else (0, 0, 0, 0)) (bif Nat.beq a 929 then (1, 296, 170, 0) else (0, 0, 0, 0)))))
noncomputable def kyM_h2_h2 (a : Nat) : Nat × Nat × Nat × Nat := (bqT (Nat.ble 962 a) (bqT (Nat.ble 975 a) (bqT (Nat.ble 979 a) (bif Nat.beq a 979 then (1, 303, 116, 0) else (0, 0, 0, 0)) (bif Nat.beq a 975 then (1, 300, 53, 0) else (0, 0, 0, 0))) (bqT (Nat.ble 963 a) (bif Nat.beq a 963 then (9, 53, 158, 0) else (0, 0, 0, 0)) (bif Nat.beq a 962 then (9, 65, 344, 0) else (0, 0, 0, 0)))) (bqT (Nat.ble 957 a) (bqT (Nat.ble 961 a) (bif Nat.beq a 961 then (9, 49, 147, 0) else (0, 0, 0, 0)) (bif Nat.beq a 957 then (9, 61, 157, 0) else (0, 0, 0, 0))) (bqT (Nat.ble 953 a) (bif Nat.beq a 953 then (9, 46, 156, 0) else (0, 0, 0, 0)) (bif Nat.beq a 950 then (9, 43, 341, 0) else (0, 0, 0, 0)))))
noncomputable def kyM_h2_h3 (a : Nat) : Nat × Nat × Nat × Nat := (bqT (Nat.ble 989 a) (bqT (Nat.ble 998 a) (bqT (Nat.ble 999 a) (bif Nat.beq a 999 then (5, 51, 148, 0) else (0, 0, 0, 0)) (bif Nat.beq a 998 then (5, 45, 149, 0) else (0, 0, 0, 0))) (bqT (Nat.ble 994 a) (bif Nat.beq a 994 then (1, 307, 118, 0) else (0, 0, 0, 0)) (bif Nat.beq a 989 then (5, 41, 164, 0) else (0, 0, 0, 0)))) (bqT (Nat.ble 987 a) (bqT (Nat.ble 988 a) (bif Nat.beq a 988 then (5, 37, 107, 0) else (0, 0, 0, 0)) (bif Nat.beq a 987 then (5, 34, 106, 0) else (0, 0, 0, 0))) (bqT (Nat.ble 986 a) (bif Nat.beq a 986 then (5, 28, 162, 0) else (0, 0, 0, 0)) (bif Nat.beq a 983 then (5, 24, 117, 0) else (0, 0, 0, 0)))))
noncomputable def kyM_h2_h4 (a : Nat) : Nat × Nat × Nat × Nat := (bqT (Nat.ble 1013 a) (bqT (Nat.ble 1022 a) (bqT (Nat.ble 1027 a) (bif Nat.beq a 1027 then (1, 320, 122, 0) else (0, 0, 0, 0)) (bif Nat.beq a 1022 then (5, 72, 109, 0) else (0, 0, 0, 0))) (bqT (Nat.ble 1018 a) (bif Nat.beq a 1018 then (1, 317, 121, 0) else (0, 0, 0, 0)) (bif Nat.beq a 1013 then (1, 326, 120, 0) else (0, 0, 0, 0)))) (bqT (Nat.ble 1004 a) (bqT (Nat.ble 1009 a) (bif Nat.beq a 1009 then (1, 314, 57, 0) else (0, 0, 0, 0)) (bif Nat.beq a 1004 then (5, 66, 150, 0) else (0, 0, 0, 0))) (bqT (Nat.ble 1003 a) (bif Nat.beq a 1003 then (5, 62, 147, 0) else (0, 0, 0, 0)) (bif Nat.beq a 1000 then (5, 58, 119, 0) else (0, 0, 0, 0)))))
noncomputable def kyM_h2_h5 (a : Nat) : Nat × Nat × Nat × Nat := (bqT (Nat.ble 1046 a) (bqT (Nat.ble 1051 a) (bqT (Nat.ble 1052 a) (bif Nat.beq a 1052 then (6, 73, 343, 0) else (0, 0, 0, 0)) (bif Nat.beq a 1051 then (6, 53, 147, 0) else (0, 0, 0, 0))) (bqT (Nat.ble 1050 a) (bif Nat.beq a 1050 then (6, 69, 149, 0) else (0, 0, 0, 0)) (bif Nat.beq a 1046 then (1, 330, 131, 0) else (0, 0, 0, 0)))) (bqT (Nat.ble 1036 a) (bqT (Nat.ble 1041 a) (bif Nat.beq a 1041 then (1, 323, 123, 0) else (0, 0, 0, 0)) (bif Nat.beq a 1036 then (5, 85, 341, 0) else (0, 0, 0, 0))) (bqT (Nat.ble 1032 a) (bif Nat.beq a 1032 then (5, 81, 123, 0) else (0, 0, 0, 0)) (bif Nat.beq a 1031 then (5, 76, 344, 0) else (0, 0, 0, 0)))))
noncomputable def kyM_h2_h6 (a : Nat) : Nat × Nat × Nat × Nat := (bqT (Nat.ble 1072 a) (bqT (Nat.ble 1077 a) (bqT (Nat.ble 1078 a) (bif Nat.beq a 1078 then (6, 47, 127, 0) else (0, 0, 0, 0)) (bif Nat.beq a 1077 then (6, 50, 107, 0) else (0, 0, 0, 0))) (bqT (Nat.ble 1073 a) (bif Nat.beq a 1073 then (6, 43, 126, 0) else (0, 0, 0, 0)) (bif Nat.beq a 1072 then (6, 37, 342, 0) else (0, 0, 0, 0)))) (bqT (Nat.ble 1068 a) (bqT (Nat.ble 1071 a) (bif Nat.beq a 1071 then (6, 33, 106, 0) else (0, 0, 0, 0)) (bif Nat.beq a 1068 then (6, 24, 151, 0) else (0, 0, 0, 0))) (bqT (Nat.ble 1064 a) (bif Nat.beq a 1064 then (1, 333, 125, 0) else (0, 0, 0, 0)) (bif Nat.beq a 1055 then (6, 65, 148, 0) else (0, 0, 0, 0)))))
noncomputable def kyM_h2_h7 (a : Nat) : Nat × Nat × Nat × Nat := (bqT (Nat.ble 1102 a) (bqT (Nat.ble 1111 a) (bqT (Nat.ble 1114 a) (bif Nat.beq a 1114 then (3, 101, 94, 0) else (0, 0, 0, 0)) (bif Nat.beq a 1111 then (3, 97, 96, 0) else (0, 0, 0, 0))) (bqT (Nat.ble 1107 a) (bif Nat.beq a 1107 then (1, 354, 95, 0) else (0, 0, 0, 0)) (bif Nat.beq a 1102 then (1, 349, 63, 0) else (0, 0, 0, 0)))) (bqT (Nat.ble 1092 a) (bqT (Nat.ble 1093 a) (bif Nat.beq a 1093 then (1, 340, 130, 0) else (0, 0, 0, 0)) (bif Nat.beq a 1092 then (6, 61, 125, 0) else (0, 0, 0, 0))) (bqT (Nat.ble 1088 a) (bif Nat.beq a 1088 then (1, 336, 129, 0) else (0, 0, 0, 0)) (bif Nat.beq a 1081 then (6, 57, 128, 0) else (0, 0, 0, 0)))))
noncomputable def kyM_h2 (a : Nat) : Nat × Nat × Nat × Nat := (bqT (Nat.ble 1000 a) (bqT (Nat.ble 1055 a) (bqT (Nat.ble 1081 a) (kyM_h2_h7 a) (kyM_h2_h6 a)) (bqT (Nat.ble 1031 a) (kyM_h2_h5 a) (kyM_h2_h4 a))) (bqT (Nat.ble 950 a) (bqT (Nat.ble 983 a) (kyM_h2_h3 a) (kyM_h2_h2 a)) (bqT (Nat.ble 929 a) (kyM_h2_h1 a) (kyM_h2_h0 a))))
noncomputable def kyM_h3_h0 (a : Nat) : Nat × Nat × Nat × Nat := (bqT (Nat.ble 1141 a) (bqT (Nat.ble 1150 a) (bqT (Nat.ble 1155 a) (bif Nat.beq a 1155 then (1, 379, 69, 0) else (0, 0, 0, 0)) (bif Nat.beq a 1150 then (10, 55, 161, 0) else (0, 0, 0, 0))) (bqT (Nat.ble 1146 a) (bif Nat.beq a 1146 then (1, 376, 171, 0) else (0, 0, 0, 0)) (bif Nat.beq a 1141 then (1, 373, 108, 0) else (0, 0, 0, 0)))) (bqT (Nat.ble 1127 a) (bqT (Nat.ble 1136 a) (bif Nat.beq a 1136 then (1, 371, 88, 0) else (0, 0, 0, 0)) (bif Nat.beq a 1127 then (1, 367, 97, 0) else (0, 0, 0, 0))) (bqT (Nat.ble 1119 a) (bif Nat.beq a 1119 then (1, 362, 152, 0) else (0, 0, 0, 0)) (bif Nat.beq a 1118 then (1, 358, 151, 0) else (0, 0, 0, 0)))))
noncomputable def kyM_h3_h1 (a : Nat) : Nat × Nat × Nat × Nat := (bqT (Nat.ble 1180 a) (bqT (Nat.ble 1192 a) (bqT (Nat.ble 1193 a) (bif Nat.beq a 1193 then (1, 397, 168, 0) else (0, 0, 0, 0)) (bif Nat.beq a 1192 then (1, 394, 163, 0) else (0, 0, 0, 0))) (bqT (Nat.ble 1187 a) (bif Nat.beq a 1187 then (1, 390, 166, 0) else (0, 0, 0, 0)) (bif Nat.beq a 1180 then (10, 47, 167, 0) else (0, 0, 0, 0)))) (bqT (Nat.ble 1172 a) (bqT (Nat.ble 1176 a) (bif Nat.beq a 1176 then (10, 44, 163, 0) else (0, 0, 0, 0)) (bif Nat.beq a 1172 then (10, 40, 166, 0) else (0, 0, 0, 0))) (bqT (Nat.ble 1171 a) (bif Nat.beq a 1171 then (10, 36, 148, 0) else (0, 0, 0, 0)) (bif Nat.beq a 1167 then (1, 386, 165, 0) else (0, 0, 0, 0)))))
noncomputable def kyM_h3_h2 (a : Nat) : Nat × Nat × Nat × Nat := (bqT (Nat.ble 1357 a) (bqT (Nat.ble 1362 a) (bqT (Nat.ble 1366 a) (bif Nat.beq a 1366 then (13, 222, 225, 0) else (0, 0, 0, 0)) (bif Nat.beq a 1362 then (13, 228, 232, 0) else (0, 0, 0, 0))) (bqT (Nat.ble 1358 a) (bif Nat.beq a 1358 then (13, 136, 214, 0) else (0, 0, 0, 0)) (bif Nat.beq a 1357 then (13, 127, 342, 0) else (0, 0, 0, 0)))) (bqT (Nat.ble 1344 a) (bqT (Nat.ble 1348 a) (bif Nat.beq a 1348 then (13, 106, 212, 0) else (0, 0, 0, 0)) (bif Nat.beq a 1344 then (13, 154, 213, 0) else (0, 0, 0, 0))) (bqT (Nat.ble 1321 a) (bif Nat.beq a 1321 then (13, 85, 193, 0) else (0, 0, 0, 0)) (bif Nat.beq a 1197 then (1, 400, 169, 0) else (0, 0, 0, 0)))))
noncomputable def kyM_h3_h3 (a : Nat) : Nat × Nat × Nat × Nat := (bqT (Nat.ble 1384 a) (bqT (Nat.ble 1390 a) (bqT (Nat.ble 1394 a) (bif Nat.beq a 1394 then (13, 168, 219, 0) else (0, 0, 0, 0)) (bif Nat.beq a 1390 then (13, 178, 220, 0) else (0, 0, 0, 0))) (bqT (Nat.ble 1385 a) (bif Nat.beq a 1385 then (13, 160, 215, 0) else (0, 0, 0, 0)) (bif Nat.beq a 1384 then (13, 146, 346, 0) else (0, 0, 0, 0)))) (bqT (Nat.ble 1379 a) (bqT (Nat.ble 1383 a) (bif Nat.beq a 1383 then (13, 140, 345, 0) else (0, 0, 0, 0)) (bif Nat.beq a 1379 then (13, 150, 216, 0) else (0, 0, 0, 0))) (bqT (Nat.ble 1375 a) (bif Nat.beq a 1375 then (13, 157, 217, 0) else (0, 0, 0, 0)) (bif Nat.beq a 1371 then (13, 164, 218, 0) else (0, 0, 0, 0)))))
noncomputable def kyM_h3_h4 (a : Nat) : Nat × Nat × Nat × Nat := (bqT (Nat.ble 1424 a) (bqT (Nat.ble 1432 a) (bqT (Nat.ble 1436 a) (bif Nat.beq a 1436 then (13, 193, 227, 0) else (0, 0, 0, 0)) (bif Nat.beq a 1432 then (13, 190, 223, 0) else (0, 0, 0, 0))) (bqT (Nat.ble 1428 a) (bif Nat.beq a 1428 then (13, 216, 229, 0) else (0, 0, 0, 0)) (bif Nat.beq a 1424 then (13, 187, 224, 0) else (0, 0, 0, 0)))) (bqT (Nat.ble 1415 a) (bqT (Nat.ble 1419 a) (bif Nat.beq a 1419 then (13, 213, 228, 0) else (0, 0, 0, 0)) (bif Nat.beq a 1415 then (13, 171, 222, 0) else (0, 0, 0, 0))) (bqT (Nat.ble 1411 a) (bif Nat.beq a 1411 then (13, 210, 226, 0) else (0, 0, 0, 0)) (bif Nat.beq a 1400 then (13, 225, 231, 0) else (0, 0, 0, 0)))))
noncomputable def kyM_h3_h5 (a : Nat) : Nat × Nat × Nat × Nat := (bqT (Nat.ble 1472 a) (bqT (Nat.ble 1484 a) (bqT (Nat.ble 1489 a) (bif Nat.beq a 1489 then (13, 258, 208, 0) else (0, 0, 0, 0)) (bif Nat.beq a 1484 then (13, 296, 202, 0) else (0, 0, 0, 0))) (bqT (Nat.ble 1476 a) (bif Nat.beq a 1476 then (13, 267, 207, 0) else (0, 0, 0, 0)) (bif Nat.beq a 1472 then (13, 293, 201, 0) else (0, 0, 0, 0)))) (bqT (Nat.ble 1452 a) (bqT (Nat.ble 1456 a) (bif Nat.beq a 1456 then (13, 290, 205, 0) else (0, 0, 0, 0)) (bif Nat.beq a 1452 then (13, 93, 204, 0) else (0, 0, 0, 0))) (bqT (Nat.ble 1448 a) (bif Nat.beq a 1448 then (13, 89, 199, 0) else (0, 0, 0, 0)) (bif Nat.beq a 1440 then (13, 219, 230, 0) else (0, 0, 0, 0)))))
noncomputable def kyM_h3_h6 (a : Nat) : Nat × Nat × Nat × Nat := (bqT (Nat.ble 1517 a) (bqT (Nat.ble 1524 a) (bqT (Nat.ble 1533 a) (bif Nat.beq a 1533 then (13, 282, 239, 0) else (0, 0, 0, 0)) (bif Nat.beq a 1524 then (13, 249, 234, 0) else (0, 0, 0, 0))) (bqT (Nat.ble 1520 a) (bif Nat.beq a 1520 then (13, 270, 235, 0) else (0, 0, 0, 0)) (bif Nat.beq a 1517 then (13, 255, 195, 0) else (0, 0, 0, 0)))) (bqT (Nat.ble 1509 a) (bqT (Nat.ble 1513 a) (bif Nat.beq a 1513 then (13, 277, 236, 0) else (0, 0, 0, 0)) (bif Nat.beq a 1509 then (13, 279, 237, 0) else (0, 0, 0, 0))) (bqT (Nat.ble 1505 a) (bif Nat.beq a 1505 then (13, 301, 238, 0) else (0, 0, 0, 0)) (bif Nat.beq a 1497 then (13, 274, 206, 0) else (0, 0, 0, 0)))))
noncomputable def kyM_h3_h7 (a : Nat) : Nat × Nat × Nat × Nat := (bqT (Nat.ble 1577 a) (bqT (Nat.ble 1598 a) (bqT (Nat.ble 1609 a) (bif Nat.beq a 1609 then (13, 326, 265, 0) else (0, 0, 0, 0)) (bif Nat.beq a 1598 then (13, 317, 194, 0) else (0, 0, 0, 0))) (bqT (Nat.ble 1594 a) (bif Nat.beq a 1594 then (13, 320, 261, 0) else (0, 0, 0, 0)) (bif Nat.beq a 1577 then (13, 314, 257, 0) else (0, 0, 0, 0)))) (bqT (Nat.ble 1561 a) (bqT (Nat.ble 1569 a) (bif Nat.beq a 1569 then (13, 310, 255, 0) else (0, 0, 0, 0)) (bif Nat.beq a 1561 then (13, 286, 241, 0) else (0, 0, 0, 0))) (bqT (Nat.ble 1557 a) (bif Nat.beq a 1557 then (13, 307, 253, 0) else (0, 0, 0, 0)) (bif Nat.beq a 1553 then (13, 304, 200, 0) else (0, 0, 0, 0)))))
noncomputable def kyM_h3 (a : Nat) : Nat × Nat × Nat × Nat := (bqT (Nat.ble 1400 a) (bqT (Nat.ble 1497 a) (bqT (Nat.ble 1553 a) (kyM_h3_h7 a) (kyM_h3_h6 a)) (bqT (Nat.ble 1440 a) (kyM_h3_h5 a) (kyM_h3_h4 a))) (bqT (Nat.ble 1197 a) (bqT (Nat.ble 1371 a) (kyM_h3_h3 a) (kyM_h3_h2 a)) (bqT (Nat.ble 1167 a) (kyM_h3_h1 a) (kyM_h3_h0 a))))
noncomputable def kyM_h4_h0 (a : Nat) : Nat × Nat × Nat × Nat := (bqT (Nat.ble 1665 a) (bqT (Nat.ble 1677 a) (bqT (Nat.ble 1689 a) (bif Nat.beq a 1689 then (13, 350, 198, 0) else (0, 0, 0, 0)) (bif Nat.beq a 1677 then (13, 344, 279, 0) else (0, 0, 0, 0))) (bqT (Nat.ble 1669 a) (bif Nat.beq a 1669 then (13, 332, 240, 0) else (0, 0, 0, 0)) (bif Nat.beq a 1665 then (13, 335, 276, 0) else (0, 0, 0, 0)))) (bqT (Nat.ble 1657 a) (bqT (Nat.ble 1661 a) (bif Nat.beq a 1661 then (13, 341, 277, 0) else (0, 0, 0, 0)) (bif Nat.beq a 1657 then (13, 338, 209, 0) else (0, 0, 0, 0))) (bqT (Nat.ble 1641 a) (bif Nat.beq a 1641 then (13, 329, 272, 0) else (0, 0, 0, 0)) (bif Nat.beq a 1613 then (13, 323, 264, 0) else (0, 0, 0, 0)))))
noncomputable def kyM_h4_h1 (a : Nat) : Nat × Nat × Nat × Nat := (bqT (Nat.ble 1721 a) (bqT (Nat.ble 1757 a) (bqT (Nat.ble 1769 a) (bif Nat.beq a 1769 then (13, 382, 301, 0) else (0, 0, 0, 0)) (bif Nat.beq a 1757 then (13, 368, 297, 0) else (0, 0, 0, 0))) (bqT (Nat.ble 1749 a) (bif Nat.beq a 1749 then (13, 365, 295, 0) else (0, 0, 0, 0)) (bif Nat.beq a 1721 then (13, 362, 288, 0) else (0, 0, 0, 0)))) (bqT (Nat.ble 1705 a) (bqT (Nat.ble 1709 a) (bif Nat.beq a 1709 then (13, 359, 285, 0) else (0, 0, 0, 0)) (bif Nat.beq a 1705 then (13, 356, 284, 0) else (0, 0, 0, 0))) (bqT (Nat.ble 1697 a) (bif Nat.beq a 1697 then (13, 347, 242, 0) else (0, 0, 0, 0)) (bif Nat.beq a 1693 then (13, 353, 282, 0) else (0, 0, 0, 0)))))
noncomputable def kyM_h4_h2 (a : Nat) : Nat × Nat × Nat × Nat := (bqT (Nat.ble 1798 a) (bqT (Nat.ble 1806 a) (bqT (Nat.ble 1814 a) (bif Nat.beq a 1814 then (13, 406, 309, 0) else (0, 0, 0, 0)) (bif Nat.beq a 1806 then (13, 403, 307, 0) else (0, 0, 0, 0))) (bqT (Nat.ble 1802 a) (bif Nat.beq a 1802 then (13, 400, 306, 0) else (0, 0, 0, 0)) (bif Nat.beq a 1798 then (13, 389, 203, 0) else (0, 0, 0, 0)))) (bqT (Nat.ble 1782 a) (bqT (Nat.ble 1794 a) (bif Nat.beq a 1794 then (13, 396, 305, 0) else (0, 0, 0, 0)) (bif Nat.beq a 1782 then (13, 385, 302, 0) else (0, 0, 0, 0))) (bqT (Nat.ble 1777 a) (bif Nat.beq a 1777 then (13, 376, 300, 0) else (0, 0, 0, 0)) (bif Nat.beq a 1773 then (13, 371, 336, 0) else (0, 0, 0, 0)))))
noncomputable def kyM_h4_h3 (a : Nat) : Nat × Nat × Nat × Nat := (bqT (Nat.ble 1843 a) (bqT (Nat.ble 1851 a) (bqT (Nat.ble 1860 a) (bif Nat.beq a 1860 then (13, 436, 320, 0) else (0, 0, 0, 0)) (bif Nat.beq a 1851 then (13, 424, 341, 0) else (0, 0, 0, 0))) (bqT (Nat.ble 1847 a) (bif Nat.beq a 1847 then (13, 427, 316, 0) else (0, 0, 0, 0)) (bif Nat.beq a 1843 then (13, 430, 317, 0) else (0, 0, 0, 0)))) (bqT (Nat.ble 1831 a) (bqT (Nat.ble 1835 a) (bif Nat.beq a 1835 then (13, 415, 313, 0) else (0, 0, 0, 0)) (bif Nat.beq a 1831 then (13, 421, 314, 0) else (0, 0, 0, 0))) (bqT (Nat.ble 1826 a) (bif Nat.beq a 1826 then (13, 418, 312, 0) else (0, 0, 0, 0)) (bif Nat.beq a 1818 then (13, 409, 310, 0) else (0, 0, 0, 0)))))
noncomputable def kyM_h4_h4 (a : Nat) : Nat × Nat × Nat × Nat := (bqT (Nat.ble 1895 a) (bqT (Nat.ble 1906 a) (bqT (Nat.ble 1910 a) (bif Nat.beq a 1910 then (13, 465, 331, 0) else (0, 0, 0, 0)) (bif Nat.beq a 1906 then (13, 462, 332, 0) else (0, 0, 0, 0))) (bqT (Nat.ble 1899 a) (bif Nat.beq a 1899 then (13, 456, 328, 0) else (0, 0, 0, 0)) (bif Nat.beq a 1895 then (13, 452, 329, 0) else (0, 0, 0, 0)))) (bqT (Nat.ble 1877 a) (bqT (Nat.ble 1890 a) (bif Nat.beq a 1890 then (13, 447, 327, 0) else (0, 0, 0, 0)) (bif Nat.beq a 1877 then (13, 439, 323, 0) else (0, 0, 0, 0))) (bqT (Nat.ble 1873 a) (bif Nat.beq a 1873 then (13, 442, 324, 0) else (0, 0, 0, 0)) (bif Nat.beq a 1864 then (13, 433, 343, 0) else (0, 0, 0, 0)))))
noncomputable def kyM_h4_h5 (a : Nat) : Nat × Nat × Nat × Nat := (bif Nat.beq a 1931 then (13, 471, 337, 0) else (0, 0, 0, 0))
noncomputable def kyM_h4 (a : Nat) : Nat × Nat × Nat × Nat := (bqT (Nat.ble 1818 a) (bqT (Nat.ble 1864 a) (bqT (Nat.ble 1931 a) (kyM_h4_h5 a) (kyM_h4_h4 a)) (kyM_h4_h3 a)) (bqT (Nat.ble 1693 a) (bqT (Nat.ble 1773 a) (kyM_h4_h2 a) (kyM_h4_h1 a)) (kyM_h4_h0 a)))
noncomputable def kyM (a : Nat) : Nat × Nat × Nat × Nat := (bqT (Nat.ble 901 a) (bqT (Nat.ble 1118 a) (bqT (Nat.ble 1613 a) (kyM_h4 a) (kyM_h3 a)) (kyM_h2 a)) (bqT (Nat.ble 572 a) (kyM_h1 a) (kyM_h0 a)))
noncomputable def kyI (w : Nat × Nat × Nat × Nat) (o x y z : Nat) : Bool := match w with
  | (o1, x1, y1, z1) => Nat.beq o1 (o + 1) && Nat.beq x1 x && Nat.beq y1 y && Nat.beq z1 z
noncomputable def kyFB (a o x y z : Nat) : Bool := match vwCl[y]? with
  | some (C, T, N) => Nat.blt z N && decide ((T z).1 = C) && wAt (a : Int) (Cond.fieldLink (kyC o) x C (T z).2.1 (T z).2.2.1)
  | none => false
noncomputable def kyMB (a o x y : Nat) : Bool := wAt (a : Int) (Cond.methodLink (kyC o) x (mY y))
noncomputable def kyFC (a : Nat) : Bool := match kyF a with
  | (o1, x, y, z) => bif Nat.beq o1 0 then true else kyFB a (o1 - 1) x y z
noncomputable def kyMC (a : Nat) : Bool := match kyM a with
  | (o1, x, y, _) => bif Nat.beq o1 0 then true else kyMB a (o1 - 1) x y
set_option maxRecDepth 100000 in
theorem kyFC_all : (List.range 2160).all kyFC = true := by decide +kernel
set_option maxRecDepth 100000 in
theorem kyMC_all : (List.range 2160).all kyMC = true := by decide +kernel
set_option maxRecDepth 100000 in
theorem kyO_all : (List.range 352).all (fun k => decide (mOwn k = kyC (kyO k))) = true := by decide +kernel
theorem ky_sz (o : Nat) : Nat.beq (o + 1) 0 = false := by
  cases hb : Nat.beq (o + 1) 0 with
  | false => rfl
  | true => exact absurd (Nat.eq_of_beq_eq_true hb) (Nat.succ_ne_zero o)
theorem kyI_eq {w : Nat × Nat × Nat × Nat} {o x y z : Nat} (h : kyI w o x y z = true) : w = (o + 1, x, y, z) := by
  obtain ⟨o1, x1, y1, z1⟩ := w
  have h : (Nat.beq o1 (o + 1) && Nat.beq x1 x && Nat.beq y1 y && Nat.beq z1 z) = true := h
  simp only [Bool.and_eq_true] at h
  obtain ⟨⟨⟨h1, h2⟩, h3⟩, h4⟩ := h
  rw [Nat.eq_of_beq_eq_true h1, Nat.eq_of_beq_eq_true h2, Nat.eq_of_beq_eq_true h3, Nat.eq_of_beq_eq_true h4]
theorem kyF_ok {a o x y z : Nat} (hb : Nat.blt a 2160 = true) (h : kyI (kyF a) o x y z = true) : kyFB a o x y z = true := by
  have t := List.all_eq_true.mp kyFC_all a (List.mem_range.mpr (Nat.blt_eq.mp hb))
  unfold kyFC at t
  rw [kyI_eq h] at t
  have t : (bif Nat.beq (o + 1) 0 then true else kyFB a (o + 1 - 1) x y z) = true := t
  rw [ky_sz, cond_false, Nat.add_sub_cancel] at t
  exact t
theorem kyM_ok {a o x y : Nat} (hb : Nat.blt a 2160 = true) (h : kyI (kyM a) o x y 0 = true) : kyMB a o x y = true := by
  have t := List.all_eq_true.mp kyMC_all a (List.mem_range.mpr (Nat.blt_eq.mp hb))
  unfold kyMC at t
  rw [kyI_eq h] at t
  have t : (bif Nat.beq (o + 1) 0 then true else kyMB a (o + 1 - 1) x y) = true := t
  rw [ky_sz, cond_false, Nat.add_sub_cancel] at t
  exact t
theorem kyO_eq {k : Nat} (h : k < 352) : mOwn k = kyC (kyO k) := of_decide_eq_true (List.all_eq_true.mp kyO_all k (List.mem_range.mpr h))
theorem kyA_nat {a : Int} {w : Cond} (h : wAt (a.toNat : Int) w = true) : wAt a w = true := by
  have e : ((a.toNat : Nat) : Int).toNat = a.toNat := Int.toNat_natCast _
  unfold wAt at h ⊢
  rw [e] at h
  exact h
noncomputable def kyR (k pc : Nat) : List UInt8 := (mCode k).data.toList.drop pc
theorem ky_dec {k pc n : Nat} {i : Instr} {bs : List Nat} (he : encI i = some bs) (hl : Nat.beq bs.length n = true) (h : pfU bs (kyR k pc) = true) : dec k pc i n = true := by
  unfold dec decF
  rw [he]
  show (bif Nat.beq bs.length n then pfU bs ((mCode k).data.toList.drop pc) else false) = true
  rw [hl, cond_true]
  exact h
theorem en_bp {a : Int} (h : okS 128 a = true) : encI (.bipush a) = some [16, bS 256 a] := by
  show (bif okS 128 a then some [16, bS 256 a] else none) = _
  rw [h, cond_true]
theorem en_sp {a : Int} (h : okS 32768 a = true) : encI (.sipush a) = some [17, bS 65536 a / 256, bS 65536 a % 256] := by
  show (bif okS 32768 a then some [17, bS 65536 a / 256, bS 65536 a % 256] else none) = _
  rw [h, cond_true]
theorem en_go {a : Int} (h : okS 32768 a = true) : encI (.goto a) = some [167, bS 65536 a / 256, bS 65536 a % 256] := by
  show (bif okS 32768 a then some [167, bS 65536 a / 256, bS 65536 a % 256] else none) = _
  rw [h, cond_true]
theorem en_ii {x : Nat} {a : Int} (h : okS 128 a = true) : encI (.iinc x a) = some [132, x, bS 256 a] := by
  show (bif okS 128 a then some [132, x, bS 256 a] else none) = _
  rw [h, cond_true]
theorem en_ic {a : Int} (h1 : decide (-1 ≤ a) = true) (h2 : decide (a ≤ 5) = true) : encI (.iconst a) = some [(a + 3).toNat] := by
  show (bif decide (-1 ≤ a) then bif decide (a ≤ 5) then some [(a + 3).toNat] else none else none) = _
  rw [h1, cond_true, h2, cond_true]
noncomputable def icB (c : Jvm.ClassFile.Cond) : Nat := match c with
  | .eq => 0
  | .ne => 1
  | .lt => 2
  | .ge => 3
  | .gt => 4
  | .le => 5
theorem en_if {c : Jvm.ClassFile.Cond} {a : Int} (h : okS 32768 a = true) : encI (.ifCond c a) = some [153 + icB c, bS 65536 a / 256, bS 65536 a % 256] := by
  have e : encI (.ifCond c a) = (bif okS 32768 a then some [153 + icB c, bS 65536 a / 256, bS 65536 a % 256] else none) := by cases c <;> rfl
  rw [e, h, cond_true]
theorem en_ifi {c : Jvm.ClassFile.Cond} {a : Int} (h : okS 32768 a = true) : encI (.if_icmp c a) = some [159 + icB c, bS 65536 a / 256, bS 65536 a % 256] := by
  have e : encI (.if_icmp c a) = (bif okS 32768 a then some [159 + icB c, bS 65536 a / 256, bS 65536 a % 256] else none) := by cases c <;> rfl
  rw [e, h, cond_true]
noncomputable def okF1 (bs : List UInt8) (k pc : Nat) (a : Int) (x y z : Nat) : Bool := bif Nat.beq x 0 then i32 a && (decide (-1 ≤ a) && (decide (a ≤ 5) && pfU [(a + 3).toNat] bs))
  else bif Nat.beq x 1 then i32 a && (okS 128 a && pfU [16, bS 256 a] bs && decide ((Int8.ofInt a).toInt32 = Int32.ofInt a))
  else bif Nat.beq x 2 then i32 a && (okS 32768 a && pfU [17, bS 65536 a / 256, bS 65536 a % 256] bs && decide ((Int16.ofInt a).toInt32 = Int32.ofInt a))
  else ok1 k pc a x y z
noncomputable def okF3 (bs : List UInt8) (x y : Nat) : Bool := bif Nat.beq y 0 then Nat.blt x 4 && pfU [26 + (f4 x).val] bs else pfU [21, x] bs
noncomputable def okF5 (bs : List UInt8) (x y : Nat) : Bool := bif Nat.beq y 0 then Nat.blt x 4 && pfU [42 + (f4 x).val] bs else pfU [25, x] bs
noncomputable def okF6 (bs : List UInt8) (k x y : Nat) : Bool := Nat.blt x (mML k) && (bif Nat.beq y 0 then Nat.blt x 4 && pfU [59 + (f4 x).val] bs else pfU [54, x] bs)
noncomputable def okF9 (bs : List UInt8) (k : Nat) (a : Int) (x : Nat) : Bool := Nat.blt x (mML k) && i32 a && (okS 128 a && pfU [132, x, bS 256 a] bs)
noncomputable def okF14 (bs : List UInt8) (pc : Nat) (a : Int) (x y : Nat) : Bool := (okS 32768 a && pfU [153 + icB (cnd x), bS 65536 a / 256, bS 65536 a % 256] bs) && decide ((pc : Int) + a = (y : Int)) && Nat.blt x 6
noncomputable def okF15 (bs : List UInt8) (pc : Nat) (a : Int) (x y : Nat) : Bool := (okS 32768 a && pfU [159 + icB (cnd x), bS 65536 a / 256, bS 65536 a % 256] bs) && decide ((pc : Int) + a = (y : Int)) && Nat.blt x 6
noncomputable def okF16 (bs : List UInt8) (pc : Nat) (a : Int) (y : Nat) : Bool := (okS 32768 a && pfU [167, bS 65536 a / 256, bS 65536 a % 256] bs) && decide ((pc : Int) + a = (y : Int))
noncomputable def okF17 (bs : List UInt8) (k : Nat) (a : Int) (x y z : Nat) : Bool := Nat.blt a.toNat 2160 && kyI (kyF a.toNat) (kyO k) x y z && pfU [180, x / 256, x % 256] bs
noncomputable def okF18 (bs : List UInt8) (k : Nat) (a : Int) (x y z : Nat) : Bool := Nat.blt a.toNat 2160 && kyI (kyF a.toNat) (kyO k) x y z && pfU [181, x / 256, x % 256] bs
noncomputable def okF26 (bs : List UInt8) (k : Nat) (a : Int) (x y z : Nat) : Bool := Nat.beq (mKind y) z && (Nat.blt a.toNat 2160 && kyI (kyM a.toNat) (kyO k) x y 0) && (bif Nat.beq z 0 then pfU [182, x / 256, x % 256] bs else bif Nat.beq z 1 then pfU [184, x / 256, x % 256] bs else pfU [183, x / 256, x % 256] bs)
noncomputable def okF27 (bs : List UInt8) (k pc : Nat) (a : Int) (x y z : Nat) : Bool := bif Nat.beq x 0 then pfU [172] bs && (decide (mRet k = some .int) || decide (mRet k = some .boolean)) else ok27 k pc a x y z
noncomputable def okG (bs : List UInt8) (k pc op : Nat) (a : Int) (x y z : Nat) : Bool :=
    bqT (Nat.beq op 0) (true)
    (bqT (Nat.beq op 3) (okF3 bs x y)
    (bqT (Nat.beq op 5) (okF5 bs x y)
    (bqT (Nat.beq op 1) (okF1 bs k pc a x y z)
    (bqT (Nat.beq op 26) (okF26 bs k a x y z)
    (bqT (Nat.beq op 17) (okF17 bs k a x y z)
    (bqT (Nat.beq op 27) (okF27 bs k pc a x y z)
    (bqT (Nat.beq op 6) (okF6 bs k x y)
    (bqT (Nat.beq op 14) (okF14 bs pc a x y)
    (bqT (Nat.beq op 15) (okF15 bs pc a x y)
    (bqT (Nat.beq op 16) (okF16 bs pc a y)
    (bqT (Nat.beq op 9) (okF9 bs k a x)
    (bqT (Nat.beq op 18) (okF18 bs k a x y z)
    (okB k pc (op, a, x, y, z))))))))))))))
noncomputable def okF (bs : List UInt8) (k pc : Nat) (xi : XI) : Bool := okG bs k pc xi.1 xi.2.1 xi.2.2.1 xi.2.2.2.1 xi.2.2.2.2
theorem okF1_ok {k pc : Nat} {a : Int} {x y z : Nat} (h : okF1 (kyR k pc) k pc a x y z = true) : ok1 k pc a x y z = true := by
  unfold okF1 at h
  cases h0 : Nat.beq x 0 with
  | true =>
    rw [h0, cond_true, Bool.and_eq_true, Bool.and_eq_true, Bool.and_eq_true] at h
    unfold ok1
    rw [h0, cond_true, Bool.and_eq_true]
    exact ⟨h.1, ky_dec (en_ic h.2.1 h.2.2.1) rfl h.2.2.2⟩
  | false =>
    rw [h0, cond_false] at h
    cases h1 : Nat.beq x 1 with
    | true =>
      rw [h1, cond_true, Bool.and_eq_true, Bool.and_eq_true, Bool.and_eq_true] at h
      unfold ok1
      rw [h0, cond_false, h1, cond_true, Bool.and_eq_true, Bool.and_eq_true]
      exact ⟨h.1, ky_dec (en_bp h.2.1.1) rfl h.2.1.2, h.2.2⟩
    | false =>
      rw [h1, cond_false] at h
      cases h2 : Nat.beq x 2 with
      | true =>
        rw [h2, cond_true, Bool.and_eq_true, Bool.and_eq_true, Bool.and_eq_true] at h
        unfold ok1
        rw [h0, cond_false, h1, cond_false, h2, cond_true, Bool.and_eq_true, Bool.and_eq_true]
        exact ⟨h.1, ky_dec (en_sp h.2.1.1) rfl h.2.1.2, h.2.2⟩
      | false =>
        rw [h2, cond_false] at h
        exact h
theorem okF3_ok {k pc : Nat} {a : Int} {x y z : Nat} (h : okF3 (kyR k pc) x y = true) : ok3 k pc a x y z = true := by
  unfold okF3 at h
  unfold ok3
  cases hy : Nat.beq y 0 with
  | true =>
    rw [hy, cond_true, Bool.and_eq_true] at h
    rw [cond_true, Bool.and_eq_true]
    exact ⟨h.1, ky_dec (bs := [26 + (f4 x).val]) rfl rfl h.2⟩
  | false =>
    rw [hy, cond_false] at h
    rw [cond_false]
    exact ky_dec (bs := [21, x]) rfl rfl h
theorem okF5_ok {k pc : Nat} {a : Int} {x y z : Nat} (h : okF5 (kyR k pc) x y = true) : ok5 k pc a x y z = true := by
  unfold okF5 at h
  unfold ok5
  cases hy : Nat.beq y 0 with
  | true =>
    rw [hy, cond_true, Bool.and_eq_true] at h
    rw [cond_true, Bool.and_eq_true]
    exact ⟨h.1, ky_dec (bs := [42 + (f4 x).val]) rfl rfl h.2⟩
  | false =>
    rw [hy, cond_false] at h
    rw [cond_false]
    exact ky_dec (bs := [25, x]) rfl rfl h
theorem okF6_ok {k pc : Nat} {a : Int} {x y z : Nat} (h : okF6 (kyR k pc) k x y = true) : ok6 k pc a x y z = true := by
  unfold okF6 at h
  rw [Bool.and_eq_true] at h
  unfold ok6
  rw [Bool.and_eq_true]
  refine ⟨h.1, ?_⟩
  have h := h.2
  cases hy : Nat.beq y 0 with
  | true =>
    rw [hy, cond_true, Bool.and_eq_true] at h
    rw [cond_true, Bool.and_eq_true]
    exact ⟨h.1, ky_dec (bs := [59 + (f4 x).val]) rfl rfl h.2⟩
  | false =>
    rw [hy, cond_false] at h
    rw [cond_false]
    exact ky_dec (bs := [54, x]) rfl rfl h
theorem okF9_ok {k pc : Nat} {a : Int} {x y z : Nat} (h : okF9 (kyR k pc) k a x = true) : ok9 k pc a x y z = true := by
  unfold okF9 at h
  rw [Bool.and_eq_true, Bool.and_eq_true, Bool.and_eq_true] at h
  unfold ok9
  rw [Bool.and_eq_true, Bool.and_eq_true]
  exact ⟨h.1, ky_dec (en_ii h.2.1) rfl h.2.2⟩
theorem okF14_ok {k pc : Nat} {a : Int} {x y z : Nat} (h : okF14 (kyR k pc) pc a x y = true) : ok14 k pc a x y z = true := by
  unfold okF14 at h
  rw [Bool.and_eq_true, Bool.and_eq_true, Bool.and_eq_true] at h
  unfold ok14
  rw [Bool.and_eq_true, Bool.and_eq_true]
  exact ⟨⟨ky_dec (en_if h.1.1.1) rfl h.1.1.2, h.1.2⟩, h.2⟩
theorem okF15_ok {k pc : Nat} {a : Int} {x y z : Nat} (h : okF15 (kyR k pc) pc a x y = true) : ok15 k pc a x y z = true := by
  unfold okF15 at h
  rw [Bool.and_eq_true, Bool.and_eq_true, Bool.and_eq_true] at h
  unfold ok15
  rw [Bool.and_eq_true, Bool.and_eq_true]
  exact ⟨⟨ky_dec (en_ifi h.1.1.1) rfl h.1.1.2, h.1.2⟩, h.2⟩
theorem okF16_ok {k pc : Nat} {a : Int} {x y z : Nat} (h : okF16 (kyR k pc) pc a y = true) : ok16 k pc a x y z = true := by
  unfold okF16 at h
  rw [Bool.and_eq_true, Bool.and_eq_true] at h
  unfold ok16
  rw [Bool.and_eq_true]
  exact ⟨ky_dec (en_go h.1.1) rfl h.1.2, h.2⟩
theorem okF17_ok {k pc : Nat} (hk : k < 352) {a : Int} {x y z : Nat} (h : okF17 (kyR k pc) k a x y z = true) : ok17 k pc a x y z = true := by
  unfold okF17 at h
  simp only [Bool.and_eq_true] at h
  obtain ⟨⟨h1, h2⟩, h3⟩ := h
  have h3 : dec k pc (.getfield x) 3 = true := ky_dec (bs := [180, x / 256, x % 256]) rfl rfl h3
  have t := kyF_ok h1 h2
  unfold kyFB at t
  rw [← kyO_eq hk] at t
  unfold ok17
  cases hc : vwCl[y]? with
  | none => rw [hc] at t; exact t
  | some q =>
    obtain ⟨C, T, N⟩ := q
    rw [hc] at t
    have t : (Nat.blt z N && decide ((T z).1 = C) && wAt (a.toNat : Int) (Cond.fieldLink (mOwn k) x C (T z).2.1 (T z).2.2.1)) = true := t
    show (Nat.blt z N && decide ((T z).1 = C) && dec k pc (.getfield x) 3 && wAt a (Cond.fieldLink (mOwn k) x C (T z).2.1 (T z).2.2.1)) = true
    rw [Bool.and_eq_true, Bool.and_eq_true] at t
    rw [Bool.and_eq_true, Bool.and_eq_true, Bool.and_eq_true]
    exact ⟨⟨t.1, h3⟩, kyA_nat t.2⟩
theorem okF18_ok {k pc : Nat} (hk : k < 352) {a : Int} {x y z : Nat} (h : okF18 (kyR k pc) k a x y z = true) : ok18 k pc a x y z = true := by
  unfold okF18 at h
  simp only [Bool.and_eq_true] at h
  obtain ⟨⟨h1, h2⟩, h3⟩ := h
  have h3 : dec k pc (.putfield x) 3 = true := ky_dec (bs := [181, x / 256, x % 256]) rfl rfl h3
  have t := kyF_ok h1 h2
  unfold kyFB at t
  rw [← kyO_eq hk] at t
  unfold ok18
  cases hc : vwCl[y]? with
  | none => rw [hc] at t; exact t
  | some q =>
    obtain ⟨C, T, N⟩ := q
    rw [hc] at t
    have t : (Nat.blt z N && decide ((T z).1 = C) && wAt (a.toNat : Int) (Cond.fieldLink (mOwn k) x C (T z).2.1 (T z).2.2.1)) = true := t
    show (Nat.blt z N && decide ((T z).1 = C) && dec k pc (.putfield x) 3 && wAt a (Cond.fieldLink (mOwn k) x C (T z).2.1 (T z).2.2.1)) = true
    rw [Bool.and_eq_true, Bool.and_eq_true] at t
    rw [Bool.and_eq_true, Bool.and_eq_true, Bool.and_eq_true]
    exact ⟨⟨t.1, h3⟩, kyA_nat t.2⟩
theorem okF26_ok {k pc : Nat} (hk : k < 352) {a : Int} {x y z : Nat} (h : okF26 (kyR k pc) k a x y z = true) : ok26 k pc a x y z = true := by
  unfold okF26 at h
  rw [Bool.and_eq_true, Bool.and_eq_true, Bool.and_eq_true] at h
  have t := kyM_ok h.1.2.1 h.1.2.2
  unfold kyMB at t
  rw [← kyO_eq hk] at t
  unfold ok26
  rw [Bool.and_eq_true, Bool.and_eq_true]
  refine ⟨⟨h.1.1, kyA_nat t⟩, ?_⟩
  have h := h.2
  cases h0 : Nat.beq z 0 with
  | true =>
    rw [h0, cond_true] at h
    rw [cond_true]
    exact ky_dec (bs := [182, x / 256, x % 256]) rfl rfl h
  | false =>
    rw [h0, cond_false] at h
    rw [cond_false]
    cases h1 : Nat.beq z 1 with
    | true =>
      rw [h1, cond_true] at h
      rw [cond_true]
      exact ky_dec (bs := [184, x / 256, x % 256]) rfl rfl h
    | false =>
      rw [h1, cond_false] at h
      rw [cond_false]
      exact ky_dec (bs := [183, x / 256, x % 256]) rfl rfl h
theorem okF27_ok {k pc : Nat} {a : Int} {x y z : Nat} (h : okF27 (kyR k pc) k pc a x y z = true) : ok27 k pc a x y z = true := by
  unfold okF27 at h
  cases h0 : Nat.beq x 0 with
  | true =>
    rw [h0, cond_true, Bool.and_eq_true] at h
    unfold ok27
    rw [h0, cond_true, Bool.and_eq_true]
    exact ⟨ky_dec (bs := [172]) rfl rfl h.1, h.2⟩
  | false =>
    rw [h0, cond_false] at h
    exact h
theorem ky_br {b : Bool} {X Y : Bool} {P : Prop} (h : bqT b X Y = true) (h1 : b = true → X = true → P) (h2 : Y = true → P) : P := by
  cases b with
  | true => exact h1 rfl h
  | false => exact h2 h
theorem okF_ok {k pc : Nat} (hk : k < 352) : ∀ {xi : XI}, okF (kyR k pc) k pc xi = true → okB k pc xi = true := by
  intro xi h
  obtain ⟨op, a, x, y, z⟩ := xi
  have h : okG (kyR k pc) k pc op a x y z = true := h
  unfold okG at h
  refine ky_br h (fun e _ => by rw [Nat.eq_of_beq_eq_true e]; rfl) (fun h => ?_)
  refine ky_br h (fun e h => by rw [Nat.eq_of_beq_eq_true e]; exact okF3_ok (a := a) (x := x) (y := y) (z := z) h) (fun h => ?_)
  refine ky_br h (fun e h => by rw [Nat.eq_of_beq_eq_true e]; exact okF5_ok (a := a) (x := x) (y := y) (z := z) h) (fun h => ?_)
  refine ky_br h (fun e h => by rw [Nat.eq_of_beq_eq_true e]; exact okF1_ok (a := a) (x := x) (y := y) (z := z) h) (fun h => ?_)
  refine ky_br h (fun e h => by rw [Nat.eq_of_beq_eq_true e]; exact okF26_ok hk (a := a) (x := x) (y := y) (z := z) h) (fun h => ?_)
  refine ky_br h (fun e h => by rw [Nat.eq_of_beq_eq_true e]; exact okF17_ok hk (a := a) (x := x) (y := y) (z := z) h) (fun h => ?_)
  refine ky_br h (fun e h => by rw [Nat.eq_of_beq_eq_true e]; exact okF27_ok (a := a) (x := x) (y := y) (z := z) h) (fun h => ?_)
  refine ky_br h (fun e h => by rw [Nat.eq_of_beq_eq_true e]; exact okF6_ok (a := a) (x := x) (y := y) (z := z) h) (fun h => ?_)
  refine ky_br h (fun e h => by rw [Nat.eq_of_beq_eq_true e]; exact okF14_ok (a := a) (x := x) (y := y) (z := z) h) (fun h => ?_)
  refine ky_br h (fun e h => by rw [Nat.eq_of_beq_eq_true e]; exact okF15_ok (a := a) (x := x) (y := y) (z := z) h) (fun h => ?_)
  refine ky_br h (fun e h => by rw [Nat.eq_of_beq_eq_true e]; exact okF16_ok (a := a) (x := x) (y := y) (z := z) h) (fun h => ?_)
  refine ky_br h (fun e h => by rw [Nat.eq_of_beq_eq_true e]; exact okF9_ok (a := a) (x := x) (y := y) (z := z) h) (fun h => ?_)
  exact ky_br h (fun e h => by rw [Nat.eq_of_beq_eq_true e]; exact okF18_ok hk (a := a) (x := x) (y := y) (z := z) h) (fun h => h)
noncomputable def kyW (k : Nat) (n : Nat) : Nat → List UInt8 → Bool := Nat.rec (motive := fun _ => Nat → List UInt8 → Bool) (fun _ _ => true) (fun _ ih pc bs => okF bs k pc (mI k pc) && ih (pc + 1) bs.tail) n
theorem kyW_ok {k : Nat} : ∀ {n pc : Nat}, kyW k n pc (kyR k pc) = true → ∀ j, j < n → okF (kyR k (pc + j)) k (pc + j) (mI k (pc + j)) = true
  | 0, _, _, j, hj => by omega
  | n + 1, pc, h, j, hj => by
    have h : (okF (kyR k pc) k pc (mI k pc) && kyW k n (pc + 1) (kyR k pc).tail) = true := h
    rw [Bool.and_eq_true] at h
    have e : (kyR k pc).tail = kyR k (pc + 1) := by unfold kyR; rw [List.tail_drop]
    rw [e] at h
    cases j with
    | zero => exact h.1
    | succ j =>
      have q := kyW_ok h.2 j (by omega)
      rw [show pc + 1 + j = pc + (j + 1) by omega] at q
      exact q
noncomputable def chkM (k : Nat) : Bool := kyW k (mLen k) 0 (mCode k).data.toList
theorem chkM_ok {k pc : Nat} (h : chkM k = true) (hp : pc < mLen k) : okF (kyR k pc) k pc (mI k pc) = true := by
  have h : kyW k (mLen k) 0 (kyR k 0) = true := h
  have q := kyW_ok h pc hp
  rw [Nat.zero_add] at q
  exact q
end
section
set_option maxRecDepth 100000 in
theorem ck_0 : (List.range' 0 31).all chkM = true := by decide +kernel
set_option maxRecDepth 100000 in
theorem ck_31 : (List.range' 31 28).all chkM = true := by decide +kernel
set_option maxRecDepth 100000 in
theorem ck_59 : (List.range' 59 26).all chkM = true := by decide +kernel
set_option maxRecDepth 100000 in
theorem ck_85 : (List.range' 85 31).all chkM = true := by decide +kernel
set_option maxRecDepth 100000 in
theorem ck_116 : (List.range' 116 20).all chkM = true := by decide +kernel
set_option maxRecDepth 100000 in
theorem ck_136 : (List.range' 136 37).all chkM = true := by decide +kernel
set_option maxRecDepth 100000 in
theorem ck_173 : (List.range' 173 37).all chkM = true := by decide +kernel
set_option maxRecDepth 100000 in
theorem ck_210 : (List.range' 210 23).all chkM = true := by decide +kernel
set_option maxRecDepth 100000 in
theorem ck_233 : (List.range' 233 33).all chkM = true := by decide +kernel
set_option maxRecDepth 100000 in
theorem ck_266 : (List.range' 266 29).all chkM = true := by decide +kernel
set_option maxRecDepth 100000 in
theorem ck_295 : (List.range' 295 22).all chkM = true := by decide +kernel
set_option maxRecDepth 100000 in
theorem ck_317 : (List.range' 317 28).all chkM = true := by decide +kernel
set_option maxRecDepth 100000 in
theorem ck_345 : (List.range' 345 7).all chkM = true := by decide +kernel
theorem ck_all (k : Nat) (h : k < 352) : chkM k = true := by
  by_cases h31 : k < 31
  · exact List.all_eq_true.mp ck_0 k (by rw [List.mem_range']; exact ⟨k - 0, by omega, by omega⟩)
  by_cases h59 : k < 59
  · exact List.all_eq_true.mp ck_31 k (by rw [List.mem_range']; exact ⟨k - 31, by omega, by omega⟩)
  by_cases h85 : k < 85
  · exact List.all_eq_true.mp ck_59 k (by rw [List.mem_range']; exact ⟨k - 59, by omega, by omega⟩)
  by_cases h116 : k < 116
  · exact List.all_eq_true.mp ck_85 k (by rw [List.mem_range']; exact ⟨k - 85, by omega, by omega⟩)
  by_cases h136 : k < 136
  · exact List.all_eq_true.mp ck_116 k (by rw [List.mem_range']; exact ⟨k - 116, by omega, by omega⟩)
  by_cases h173 : k < 173
  · exact List.all_eq_true.mp ck_136 k (by rw [List.mem_range']; exact ⟨k - 136, by omega, by omega⟩)
  by_cases h210 : k < 210
  · exact List.all_eq_true.mp ck_173 k (by rw [List.mem_range']; exact ⟨k - 173, by omega, by omega⟩)
  by_cases h233 : k < 233
  · exact List.all_eq_true.mp ck_210 k (by rw [List.mem_range']; exact ⟨k - 210, by omega, by omega⟩)
  by_cases h266 : k < 266
  · exact List.all_eq_true.mp ck_233 k (by rw [List.mem_range']; exact ⟨k - 233, by omega, by omega⟩)
  by_cases h295 : k < 295
  · exact List.all_eq_true.mp ck_266 k (by rw [List.mem_range']; exact ⟨k - 266, by omega, by omega⟩)
  by_cases h317 : k < 317
  · exact List.all_eq_true.mp ck_295 k (by rw [List.mem_range']; exact ⟨k - 295, by omega, by omega⟩)
  by_cases h345 : k < 345
  · exact List.all_eq_true.mp ck_317 k (by rw [List.mem_range']; exact ⟨k - 317, by omega, by omega⟩)
  by_cases h352 : k < 352
  · exact List.all_eq_true.mp ck_345 k (by rw [List.mem_range']; exact ⟨k - 345, by omega, by omega⟩)
  omega
theorem tabOK (k pc : Nat) : okB k pc (mI k pc) = true := by
  by_cases h : k < 352
  · by_cases h2 : pc < mLen k
    · exact okF_ok h (chkM_ok (ck_all k h) h2)
    · have e : mI k pc = xi0 := by
        have h3 : Nat.blt pc (mLen k) = false := by
          cases hb : Nat.blt pc (mLen k) with
          | false => rfl
          | true => exact absurd (Nat.blt_eq.mp hb) h2
        unfold mI
        rw [h3]
        cases Nat.blt k 352 <;> rfl
      rw [e]; rfl
  · have e : mI k pc = xi0 := by
      have h3 : Nat.blt k 352 = false := by
        cases hb : Nat.blt k 352 with
        | false => rfl
        | true => exact absurd (Nat.blt_eq.mp hb) h
      unfold mI
      rw [h3]
      rfl
    rw [e]; rfl
end
