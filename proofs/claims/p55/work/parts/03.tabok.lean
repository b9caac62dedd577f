noncomputable def dec (k pc : Nat) (i : Instr) (n : Nat) : Bool := decF (mCode k) pc i n
noncomputable def wAt (i : Int) (w : Cond) : Bool := decide ((tch i.toNat)[i.toNat % 240]? = some w) && goodWord w
noncomputable def cnd (x : Nat) : Jvm.ClassFile.Cond := bif Nat.beq x 0 then .eq else bif Nat.beq x 1 then .ne else bif Nat.beq x 2 then .lt else bif Nat.beq x 3 then .ge else bif Nat.beq x 4 then .gt else .le
noncomputable def f4 (x : Nat) : Fin 4 := bif Nat.beq x 0 then 0 else bif Nat.beq x 1 then 1 else bif Nat.beq x 2 then 2 else 3
noncomputable def i32 (a : Int) : Bool := decide (-2147483648 ≤ a) && decide (a ≤ 2147483647)
noncomputable def i64 (a : Int) : Bool := decide (-9223372036854775808 ≤ a) && decide (a ≤ 9223372036854775807)
noncomputable def ok1 (k pc : Nat) (a : Int) (x y z : Nat) : Bool := i32 a && (bif Nat.beq x 0 then dec k pc (.iconst a) 1
      else bif Nat.beq x 1 then dec k pc (.bipush a) 2 && decide ((Int8.ofInt a).toInt32 = Int32.ofInt a)
      else bif Nat.beq x 2 then dec k pc (.sipush a) 3 && decide ((Int16.ofInt a).toInt32 = Int32.ofInt a)
      else bif Nat.beq x 3 then dec k pc (.ldc y) 2 && wAt z (Cond.constant (mOwn k) y (Int32.ofInt a))
      else bif Nat.beq x 4 then dec k pc (.ldc_w y) 3 && wAt z (Cond.constant (mOwn k) y (Int32.ofInt a)) else false)
noncomputable def ok2 (k pc : Nat) (a : Int) (x y z : Nat) : Bool := i64 a && (bif Nat.beq x 0 then (bif decide (a = 0) then dec k pc (.lconst 0) 1 else decide (a = 1) && dec k pc (.lconst 1) 1)
      else dec k pc (.ldc2_w y) 3 && wAt z (Cond.constantLong (mOwn k) y (Int64.ofInt a)))
noncomputable def ok3 (k pc : Nat) (a : Int) (x y z : Nat) : Bool := (bif Nat.beq y 0 then Nat.blt x 4 && dec k pc (.iload_n (f4 x)) 1 else dec k pc (.iload x) 2)
noncomputable def ok4 (k pc : Nat) (a : Int) (x y z : Nat) : Bool := (bif Nat.beq y 0 then Nat.blt x 4 && dec k pc (.lload_n (f4 x)) 1 else dec k pc (.lload x) 2)
noncomputable def ok5 (k pc : Nat) (a : Int) (x y z : Nat) : Bool := (bif Nat.beq y 0 then Nat.blt x 4 && dec k pc (.aload_n (f4 x)) 1 else dec k pc (.aload x) 2)
noncomputable def ok6 (k pc : Nat) (a : Int) (x y z : Nat) : Bool := Nat.blt x (mML k) && (bif Nat.beq y 0 then Nat.blt x 4 && dec k pc (.istore_n (f4 x)) 1 else dec k pc (.istore x) 2)
noncomputable def ok7 (k pc : Nat) (a : Int) (x y z : Nat) : Bool := Nat.blt (x + 1) (mML k) && (bif Nat.beq y 0 then Nat.blt x 4 && dec k pc (.lstore_n (f4 x)) 1 else dec k pc (.lstore x) 2)
noncomputable def ok8 (k pc : Nat) (a : Int) (x y z : Nat) : Bool := Nat.blt x (mML k) && (bif Nat.beq y 0 then Nat.blt x 4 && dec k pc (.astore_n (f4 x)) 1 else dec k pc (.astore x) 2)
noncomputable def ok9 (k pc : Nat) (a : Int) (x y z : Nat) : Bool := Nat.blt x (mML k) && i32 a && dec k pc (.iinc x a) 3
noncomputable def ok10 (k pc : Nat) (a : Int) (x y z : Nat) : Bool := (bif Nat.beq x 0 then dec k pc .iadd 1 else bif Nat.beq x 1 then dec k pc .isub 1 else bif Nat.beq x 2 then dec k pc .imul 1 else bif Nat.beq x 3 then dec k pc .idiv 1 else bif Nat.beq x 4 then dec k pc .irem 1 else bif Nat.beq x 5 then dec k pc .iand 1 else bif Nat.beq x 6 then dec k pc .ior 1 else bif Nat.beq x 7 then dec k pc .ixor 1 else bif Nat.beq x 8 then dec k pc .ishl 1 else bif Nat.beq x 9 then dec k pc .ishr 1 else bif Nat.beq x 10 then dec k pc .iushr 1 else false)
noncomputable def ok11 (k pc : Nat) (a : Int) (x y z : Nat) : Bool := (bif Nat.beq x 0 then dec k pc .ladd 1 else bif Nat.beq x 1 then dec k pc .lsub 1 else bif Nat.beq x 2 then dec k pc .lmul 1 else bif Nat.beq x 3 then dec k pc .ldiv 1 else bif Nat.beq x 4 then dec k pc .lrem 1 else bif Nat.beq x 5 then dec k pc .land 1 else bif Nat.beq x 6 then dec k pc .lor 1 else bif Nat.beq x 7 then dec k pc .lxor 1 else false)
noncomputable def ok12 (k pc : Nat) (a : Int) (x y z : Nat) : Bool := (bif Nat.beq x 0 then dec k pc .ineg 1 else bif Nat.beq x 1 then dec k pc .i2l 1 else bif Nat.beq x 2 then dec k pc .l2i 1 else bif Nat.beq x 3 then dec k pc .i2b 1 else bif Nat.beq x 4 then dec k pc .i2s 1 else bif Nat.beq x 5 then dec k pc .i2c 1 else false)
noncomputable def ok13 (k pc : Nat) (a : Int) (x y z : Nat) : Bool := dec k pc .lcmp 1
noncomputable def ok14 (k pc : Nat) (a : Int) (x y z : Nat) : Bool := dec k pc (.ifCond (cnd x) a) 3 && decide ((pc : Int) + a = (y : Int)) && Nat.blt x 6
noncomputable def ok15 (k pc : Nat) (a : Int) (x y z : Nat) : Bool := dec k pc (.if_icmp (cnd x) a) 3 && decide ((pc : Int) + a = (y : Int)) && Nat.blt x 6
noncomputable def ok16 (k pc : Nat) (a : Int) (x y z : Nat) : Bool := dec k pc (.goto a) 3 && decide ((pc : Int) + a = (y : Int))
noncomputable def ok17 (k pc : Nat) (a : Int) (x y z : Nat) : Bool := (match vwCl[y]? with | some (C, T, N) => Nat.blt z N && decide ((T z).1 = C) && dec k pc (.getfield x) 3 && wAt a (Cond.fieldLink (mOwn k) x C (T z).2.1 (T z).2.2.1) | none => false)
noncomputable def ok18 (k pc : Nat) (a : Int) (x y z : Nat) : Bool := (match vwCl[y]? with | some (C, T, N) => Nat.blt z N && decide ((T z).1 = C) && dec k pc (.putfield x) 3 && wAt a (Cond.fieldLink (mOwn k) x C (T z).2.1 (T z).2.2.1) | none => false)
noncomputable def ok19 (k pc : Nat) (a : Int) (x y z : Nat) : Bool := (bif Nat.beq x 0 then dec k pc .iaload 1 else bif Nat.beq x 1 then dec k pc .baload 1 else bif Nat.beq x 2 then dec k pc .laload 1 else bif Nat.beq x 3 then dec k pc .aaload 1 else false)
noncomputable def ok20 (k pc : Nat) (a : Int) (x y z : Nat) : Bool := (bif Nat.beq x 0 then dec k pc .iastore 1 else bif Nat.beq x 1 then dec k pc .bastore 1 else bif Nat.beq x 2 then dec k pc .lastore 1 else bif Nat.beq x 3 then dec k pc .aastore 1 else false)
noncomputable def ok21 (k pc : Nat) (a : Int) (x y z : Nat) : Bool := dec k pc .arraylength 1
noncomputable def ok22 (k pc : Nat) (a : Int) (x y z : Nat) : Bool := (bif Nat.beq x 0 then dec k pc .dup 1 else bif Nat.beq x 1 then dec k pc .dup2 1 else bif Nat.beq x 2 then dec k pc .pop 1 else bif Nat.beq x 3 then dec k pc .dup_x1 1 else bif Nat.beq x 4 then dec k pc .dup_x2 1 else false)
noncomputable def ok25 (k pc : Nat) (a : Int) (x y z : Nat) : Bool := (bif Nat.beq x 0 then dec k pc .lshl 1 else bif Nat.beq x 1 then dec k pc .lshr 1 else false)
noncomputable def ok26 (k pc : Nat) (a : Int) (x y z : Nat) : Bool := Nat.beq (mKind y) z && wAt a (Cond.methodLink (mOwn k) x (mY y)) && (bif Nat.beq z 0 then dec k pc (.invokevirtual x) 3 else bif Nat.beq z 1 then dec k pc (.invokestatic x) 3 else dec k pc (.invokespecial x) 3)
noncomputable def ok27 (k pc : Nat) (a : Int) (x y z : Nat) : Bool := (bif Nat.beq x 0 then dec k pc .ireturn 1 && (decide (mRet k = some .int) || decide (mRet k = some .boolean)) else bif Nat.beq x 1 then dec k pc .lreturn 1 && decide (mRet k = some .long) else bif Nat.beq x 2 then dec k pc .return_ 1 && decide (mRet k = none) else dec k pc .areturn 1 && decide (mRet k = some (.object "HalvedNames$Hill")))
noncomputable def ok28 (k pc : Nat) (a : Int) (x y z : Nat) : Bool := (match mSw k pc, mSwI k pc with | (d, lo, ts), (doff, hi, offs, n) => dec k pc (.tableswitch doff lo hi offs) n && decide ((pc : Int) + doff = (d : Int)) && decide (offs.toList.map (fun q => (pc : Int) + q) = ts.map (fun t : Nat => (t : Int))) && decide (hi - lo + 1 = (ts.length : Int)))
noncomputable def ok29 (k pc : Nat) (a : Int) (x y z : Nat) : Bool := dec k pc (.invokespecial x) 3 && wAt a (Cond.methodLink (mOwn k) x Lib.objectInit)
noncomputable def ok30 (k pc : Nat) (a : Int) (x y z : Nat) : Bool := (bif Nat.beq x 0 then dec k pc (.ifnull a) 3 else dec k pc (.ifnonnull a) 3) && decide ((pc : Int) + a = (y : Int))
noncomputable def ok31 (k pc : Nat) (a : Int) (x y z : Nat) : Bool := dec k pc .aconst_null 1
noncomputable def ok32 (k pc : Nat) (a : Int) (x y z : Nat) : Bool := (match vwCl[y]? with | some (C, T, N) => dec k pc (.new x) 3 && wAt a (Cond.classLink (mOwn k) x C) && wAt (cW y).1 (Cond.instantiable C N) && wAt (cW y).2 (Cond.initialized C) | none => false)
noncomputable def ok33 (k pc : Nat) (a : Int) (x y z : Nat) : Bool := (bif Nat.beq x 0 then dec k pc (.newarray .int) 2 else bif Nat.beq x 1 then dec k pc (.newarray .byte) 2 else bif Nat.beq x 2 then dec k pc (.newarray .boolean) 2 else dec k pc (.newarray .long) 2)
noncomputable def ok34 (k pc : Nat) (a : Int) (x y z : Nat) : Bool := dec k pc (.anewarray x) 3
noncomputable def ok36 (k pc : Nat) (a : Int) (x y z : Nat) : Bool := dec k pc (.lookupswitch a #[(0, (x : Int)), (1, (y : Int))]) z && (match mSw k pc with | (d, lo, ts) => decide ((pc : Int) + a = (d : Int)) && decide (lo = 0) && decide (ts = [pc + x, pc + y]))
noncomputable def ok23 (k pc : Nat) (a : Int) (x y z : Nat) : Bool := dec k pc (.getstatic x) 3 && (bif Nat.beq y 0 then wAt a (Cond.fieldLink (mOwn k) x "java/lang/String" "COMPACT_STRINGS" "Z") else wAt a (Cond.fieldLink (mOwn k) x "jdk/internal/util/Preconditions" "SIOOBE_FORMATTER" "Ljava/util/function/BiFunction;"))
noncomputable def ok35 (k pc : Nat) (a : Int) (x y z : Nat) : Bool := dec k pc (.ldc x) 2 && (match xsT[y]? with | some q => decide (q.1 = mOwn k) && Nat.beq q.2.1 x | none => false)
noncomputable def ok38 (k pc : Nat) (a : Int) (x y z : Nat) : Bool := dec k pc .ireturn 1 && (decide (mRet k = some .char) || decide (mRet k = some .byte))
noncomputable def ok39 (k pc : Nat) (a : Int) (x y z : Nat) : Bool := dec k pc (.getfield x) 3 && (bif Nat.beq y 0 then wAt a (Cond.fieldLink (mOwn k) x "java/lang/String" "value" "[B") else wAt a (Cond.fieldLink (mOwn k) x "java/lang/String" "coder" "B"))
noncomputable def okB (k pc : Nat) (xi : XI) : Bool := match xi with
  | (op, a, x, y, z) =>
    bif Nat.beq op 0 then true
    else bif Nat.beq op 1 then ok1 k pc a x y z
    else bif Nat.beq op 2 then ok2 k pc a x y z
    else bif Nat.beq op 3 then ok3 k pc a x y z
    else bif Nat.beq op 4 then ok4 k pc a x y z
    else bif Nat.beq op 5 then ok5 k pc a x y z
    else bif Nat.beq op 6 then ok6 k pc a x y z
    else bif Nat.beq op 7 then ok7 k pc a x y z
    else bif Nat.beq op 8 then ok8 k pc a x y z
    else bif Nat.beq op 9 then ok9 k pc a x y z
    else bif Nat.beq op 10 then ok10 k pc a x y z
    else bif Nat.beq op 11 then ok11 k pc a x y z
    else bif Nat.beq op 12 then ok12 k pc a x y z
    else bif Nat.beq op 13 then ok13 k pc a x y z
    else bif Nat.beq op 14 then ok14 k pc a x y z
    else bif Nat.beq op 15 then ok15 k pc a x y z
    else bif Nat.beq op 16 then ok16 k pc a x y z
    else bif Nat.beq op 17 then ok17 k pc a x y z
    else bif Nat.beq op 18 then ok18 k pc a x y z
    else bif Nat.beq op 19 then ok19 k pc a x y z
    else bif Nat.beq op 20 then ok20 k pc a x y z
    else bif Nat.beq op 21 then ok21 k pc a x y z
    else bif Nat.beq op 22 then ok22 k pc a x y z
    else bif Nat.beq op 25 then ok25 k pc a x y z
    else bif Nat.beq op 26 then ok26 k pc a x y z
    else bif Nat.beq op 27 then ok27 k pc a x y z
    else bif Nat.beq op 28 then ok28 k pc a x y z
    else bif Nat.beq op 29 then ok29 k pc a x y z
    else bif Nat.beq op 30 then ok30 k pc a x y z
    else bif Nat.beq op 31 then ok31 k pc a x y z
    else bif Nat.beq op 32 then ok32 k pc a x y z
    else bif Nat.beq op 33 then ok33 k pc a x y z
    else bif Nat.beq op 34 then ok34 k pc a x y z
    else bif Nat.beq op 35 then ok35 k pc a x y z
    else bif Nat.beq op 23 then ok23 k pc a x y z
    else bif Nat.beq op 38 then ok38 k pc a x y z
    else bif Nat.beq op 39 then ok39 k pc a x y z
    else bif Nat.beq op 36 then ok36 k pc a x y z
    else bif Nat.beq op 37 then true
    else false
noncomputable def kyC_h0 (k : Nat) : String := (bif Nat.blt k 4 then (bif Nat.blt k 2 then (bif Nat.blt k 1 then "HalvedNames" else "HalvedNames$Bidding") else (bif Nat.blt k 3 then "HalvedNames$Course" else "HalvedNames$Hill")) else (bif Nat.blt k 6 then (bif Nat.blt k 5 then "HalvedNames$Listening" else "HalvedNames$Naming") else (bif Nat.blt k 7 then "HalvedNames$Reader" else "HalvedNames$Rows")))
noncomputable def kyC_h1 (k : Nat) : String := (bif Nat.blt k 12 then (bif Nat.blt k 10 then (bif Nat.blt k 9 then "HalvedNames$Sharing" else "HalvedNames$Slots") else (bif Nat.blt k 11 then "HalvedNames$Story" else "HalvedNames$Tape")) else (bif Nat.blt k 14 then (bif Nat.blt k 13 then "HalvedNamesModel" else "java/lang/Math") else (bif Nat.blt k 15 then "java/lang/Integer" else "java/lang/String")))
noncomputable def kyC_h2 (k : Nat) : String := (bif Nat.blt k 17 then "java/lang/StringLatin1" else "jdk/internal/util/Preconditions")
noncomputable def kyC (k : Nat) : String := (bif Nat.blt k 8 then (kyC_h0 k) else (bif Nat.blt k 16 then (kyC_h1 k) else (kyC_h2 k)))
noncomputable def kyO_h0_h0 (k : Nat) : Nat := (bif Nat.blt k 4 then (bif Nat.blt k 2 then (bif Nat.blt k 1 then 0 else 0) else (bif Nat.blt k 3 then 0 else 0)) else (bif Nat.blt k 6 then (bif Nat.blt k 5 then 0 else 0) else (bif Nat.blt k 7 then 0 else 0)))
noncomputable def kyO_h0_h1 (k : Nat) : Nat := (bif Nat.blt k 12 then (bif Nat.blt k 10 then (bif Nat.blt k 9 then 0 else 0) else (bif Nat.blt k 11 then 0 else 0)) else (bif Nat.blt k 14 then (bif Nat.blt k 13 then 0 else 0) else (bif Nat.blt k 15 then 0 else 0)))
noncomputable def kyO_h0_h2 (k : Nat) : Nat := (bif Nat.blt k 20 then (bif Nat.blt k 18 then (bif Nat.blt k 17 then 0 else 0) else (bif Nat.blt k 19 then 0 else 0)) else (bif Nat.blt k 22 then (bif Nat.blt k 21 then 0 else 0) else (bif Nat.blt k 23 then 0 else 0)))
noncomputable def kyO_h0_h3 (k : Nat) : Nat := (bif Nat.blt k 28 then (bif Nat.blt k 26 then (bif Nat.blt k 25 then 0 else 0) else (bif Nat.blt k 27 then 0 else 0)) else (bif Nat.blt k 30 then (bif Nat.blt k 29 then 0 else 0) else (bif Nat.blt k 31 then 0 else 0)))
noncomputable def kyO_h0_h4 (k : Nat) : Nat := (bif Nat.blt k 36 then (bif Nat.blt k 34 then (bif Nat.blt k 33 then 0 else 0) else (bif Nat.blt k 35 then 0 else 0)) else (bif Nat.blt k 38 then (bif Nat.blt k 37 then 0 else 0) else (bif Nat.blt k 39 then 0 else 0)))
noncomputable def kyO_h0_h5 (k : Nat) : Nat := (bif Nat.blt k 44 then (bif Nat.blt k 42 then (bif Nat.blt k 41 then 0 else 0) else (bif Nat.blt k 43 then 0 else 0)) else (bif Nat.blt k 46 then (bif Nat.blt k 45 then 0 else 0) else (bif Nat.blt k 47 then 0 else 0)))
noncomputable def kyO_h0_h6 (k : Nat) : Nat := (bif Nat.blt k 52 then (bif Nat.blt k 50 then (bif Nat.blt k 49 then 0 else 0) else (bif Nat.blt k 51 then 0 else 0)) else (bif Nat.blt k 54 then (bif Nat.blt k 53 then 0 else 0) else (bif Nat.blt k 55 then 0 else 0)))
noncomputable def kyO_h0_h7 (k : Nat) : Nat := (bif Nat.blt k 60 then (bif Nat.blt k 58 then (bif Nat.blt k 57 then 0 else 0) else (bif Nat.blt k 59 then 0 else 0)) else (bif Nat.blt k 62 then (bif Nat.blt k 61 then 0 else 0) else (bif Nat.blt k 63 then 0 else 0)))
noncomputable def kyO_h0 (k : Nat) : Nat := (bif Nat.blt k 32 then (bif Nat.blt k 16 then (bif Nat.blt k 8 then (kyO_h0_h0 k) else (kyO_h0_h1 k)) else (bif Nat.blt k 24 then (kyO_h0_h2 k) else (kyO_h0_h3 k))) else (bif Nat.blt k 48 then (bif Nat.blt k 40 then (kyO_h0_h4 k) else (kyO_h0_h5 k)) else (bif Nat.blt k 56 then (kyO_h0_h6 k) else (kyO_h0_h7 k))))
noncomputable def kyO_h1_h0 (k : Nat) : Nat := (bif Nat.blt k 68 then (bif Nat.blt k 66 then (bif Nat.blt k 65 then 0 else 0) else (bif Nat.blt k 67 then 0 else 0)) else (bif Nat.blt k 70 then (bif Nat.blt k 69 then 0 else 0) else (bif Nat.blt k 71 then 0 else 0)))
noncomputable def kyO_h1_h1 (k : Nat) : Nat := (bif Nat.blt k 76 then (bif Nat.blt k 74 then (bif Nat.blt k 73 then 0 else 0) else (bif Nat.blt k 75 then 0 else 0)) else (bif Nat.blt k 78 then (bif Nat.blt k 77 then 0 else 1) else (bif Nat.blt k 79 then 1 else 1)))
noncomputable def kyO_h1_h2 (k : Nat) : Nat := (bif Nat.blt k 84 then (bif Nat.blt k 82 then (bif Nat.blt k 81 then 1 else 1) else (bif Nat.blt k 83 then 1 else 1)) else (bif Nat.blt k 86 then (bif Nat.blt k 85 then 2 else 2) else (bif Nat.blt k 87 then 2 else 2)))
noncomputable def kyO_h1_h3 (k : Nat) : Nat := (bif Nat.blt k 92 then (bif Nat.blt k 90 then (bif Nat.blt k 89 then 2 else 2) else (bif Nat.blt k 91 then 2 else 2)) else (bif Nat.blt k 94 then (bif Nat.blt k 93 then 2 else 2) else (bif Nat.blt k 95 then 2 else 2)))
noncomputable def kyO_h1_h4 (k : Nat) : Nat := (bif Nat.blt k 100 then (bif Nat.blt k 98 then (bif Nat.blt k 97 then 2 else 2) else (bif Nat.blt k 99 then 3 else 3)) else (bif Nat.blt k 102 then (bif Nat.blt k 101 then 3 else 3) else (bif Nat.blt k 103 then 3 else 3)))
noncomputable def kyO_h1_h5 (k : Nat) : Nat := (bif Nat.blt k 108 then (bif Nat.blt k 106 then (bif Nat.blt k 105 then 3 else 3) else (bif Nat.blt k 107 then 3 else 3)) else (bif Nat.blt k 110 then (bif Nat.blt k 109 then 3 else 3) else (bif Nat.blt k 111 then 3 else 3)))
noncomputable def kyO_h1_h6 (k : Nat) : Nat := (bif Nat.blt k 116 then (bif Nat.blt k 114 then (bif Nat.blt k 113 then 3 else 3) else (bif Nat.blt k 115 then 3 else 4)) else (bif Nat.blt k 118 then (bif Nat.blt k 117 then 4 else 4) else (bif Nat.blt k 119 then 4 else 4)))
noncomputable def kyO_h1_h7 (k : Nat) : Nat := (bif Nat.blt k 124 then (bif Nat.blt k 122 then (bif Nat.blt k 121 then 4 else 4) else (bif Nat.blt k 123 then 4 else 4)) else (bif Nat.blt k 126 then (bif Nat.blt k 125 then 5 else 5) else (bif Nat.blt k 127 then 5 else 5)))
noncomputable def kyO_h1 (k : Nat) : Nat := (bif Nat.blt k 96 then (bif Nat.blt k 80 then (bif Nat.blt k 72 then (kyO_h1_h0 k) else (kyO_h1_h1 k)) else (bif Nat.blt k 88 then (kyO_h1_h2 k) else (kyO_h1_h3 k))) else (bif Nat.blt k 112 then (bif Nat.blt k 104 then (kyO_h1_h4 k) else (kyO_h1_h5 k)) else (bif Nat.blt k 120 then (kyO_h1_h6 k) else (kyO_h1_h7 k))))
noncomputable def kyO_h2_h0 (k : Nat) : Nat := (bif Nat.blt k 132 then (bif Nat.blt k 130 then (bif Nat.blt k 129 then 5 else 5) else (bif Nat.blt k 131 then 5 else 5)) else (bif Nat.blt k 134 then (bif Nat.blt k 133 then 6 else 6) else (bif Nat.blt k 135 then 6 else 6)))
noncomputable def kyO_h2_h1 (k : Nat) : Nat := (bif Nat.blt k 140 then (bif Nat.blt k 138 then (bif Nat.blt k 137 then 6 else 6) else (bif Nat.blt k 139 then 6 else 6)) else (bif Nat.blt k 142 then (bif Nat.blt k 141 then 6 else 6) else (bif Nat.blt k 143 then 6 else 6)))
noncomputable def kyO_h2_h2 (k : Nat) : Nat := (bif Nat.blt k 148 then (bif Nat.blt k 146 then (bif Nat.blt k 145 then 6 else 6) else (bif Nat.blt k 147 then 6 else 7)) else (bif Nat.blt k 150 then (bif Nat.blt k 149 then 7 else 7) else (bif Nat.blt k 151 then 7 else 7)))
noncomputable def kyO_h2_h3 (k : Nat) : Nat := (bif Nat.blt k 156 then (bif Nat.blt k 154 then (bif Nat.blt k 153 then 7 else 8) else (bif Nat.blt k 155 then 8 else 8)) else (bif Nat.blt k 158 then (bif Nat.blt k 157 then 8 else 8) else (bif Nat.blt k 159 then 8 else 9)))
noncomputable def kyO_h2_h4 (k : Nat) : Nat := (bif Nat.blt k 164 then (bif Nat.blt k 162 then (bif Nat.blt k 161 then 9 else 9) else (bif Nat.blt k 163 then 9 else 9)) else (bif Nat.blt k 166 then (bif Nat.blt k 165 then 9 else 9) else (bif Nat.blt k 167 then 9 else 9)))
noncomputable def kyO_h2_h5 (k : Nat) : Nat := (bif Nat.blt k 172 then (bif Nat.blt k 170 then (bif Nat.blt k 169 then 9 else 9) else (bif Nat.blt k 171 then 9 else 9)) else (bif Nat.blt k 174 then (bif Nat.blt k 173 then 10 else 10) else (bif Nat.blt k 175 then 10 else 10)))
noncomputable def kyO_h2_h6 (k : Nat) : Nat := (bif Nat.blt k 180 then (bif Nat.blt k 178 then (bif Nat.blt k 177 then 10 else 10) else (bif Nat.blt k 179 then 10 else 10)) else (bif Nat.blt k 182 then (bif Nat.blt k 181 then 10 else 10) else (bif Nat.blt k 183 then 10 else 10)))
noncomputable def kyO_h2_h7 (k : Nat) : Nat := (bif Nat.blt k 188 then (bif Nat.blt k 186 then (bif Nat.blt k 185 then 11 else 11) else (bif Nat.blt k 187 then 11 else 11)) else (bif Nat.blt k 190 then (bif Nat.blt k 189 then 11 else 11) else (bif Nat.blt k 191 then 11 else 11)))
noncomputable def kyO_h2 (k : Nat) : Nat := (bif Nat.blt k 160 then (bif Nat.blt k 144 then (bif Nat.blt k 136 then (kyO_h2_h0 k) else (kyO_h2_h1 k)) else (bif Nat.blt k 152 then (kyO_h2_h2 k) else (kyO_h2_h3 k))) else (bif Nat.blt k 176 then (bif Nat.blt k 168 then (kyO_h2_h4 k) else (kyO_h2_h5 k)) else (bif Nat.blt k 184 then (kyO_h2_h6 k) else (kyO_h2_h7 k))))
noncomputable def kyO_h3_h0 (k : Nat) : Nat := (bif Nat.blt k 196 then (bif Nat.blt k 194 then (bif Nat.blt k 193 then 12 else 12) else (bif Nat.blt k 195 then 12 else 12)) else (bif Nat.blt k 198 then (bif Nat.blt k 197 then 12 else 12) else (bif Nat.blt k 199 then 12 else 12)))
noncomputable def kyO_h3_h1 (k : Nat) : Nat := (bif Nat.blt k 204 then (bif Nat.blt k 202 then (bif Nat.blt k 201 then 12 else 12) else (bif Nat.blt k 203 then 12 else 12)) else (bif Nat.blt k 206 then (bif Nat.blt k 205 then 12 else 12) else (bif Nat.blt k 207 then 12 else 12)))
noncomputable def kyO_h3_h2 (k : Nat) : Nat := (bif Nat.blt k 212 then (bif Nat.blt k 210 then (bif Nat.blt k 209 then 12 else 12) else (bif Nat.blt k 211 then 12 else 12)) else (bif Nat.blt k 214 then (bif Nat.blt k 213 then 12 else 12) else (bif Nat.blt k 215 then 12 else 12)))
noncomputable def kyO_h3_h3 (k : Nat) : Nat := (bif Nat.blt k 220 then (bif Nat.blt k 218 then (bif Nat.blt k 217 then 12 else 12) else (bif Nat.blt k 219 then 12 else 12)) else (bif Nat.blt k 222 then (bif Nat.blt k 221 then 12 else 12) else (bif Nat.blt k 223 then 12 else 12)))
noncomputable def kyO_h3_h4 (k : Nat) : Nat := (bif Nat.blt k 228 then (bif Nat.blt k 226 then (bif Nat.blt k 225 then 12 else 12) else (bif Nat.blt k 227 then 12 else 12)) else (bif Nat.blt k 230 then (bif Nat.blt k 229 then 12 else 12) else (bif Nat.blt k 231 then 12 else 12)))
noncomputable def kyO_h3_h5 (k : Nat) : Nat := (bif Nat.blt k 236 then (bif Nat.blt k 234 then (bif Nat.blt k 233 then 12 else 12) else (bif Nat.blt k 235 then 12 else 12)) else (bif Nat.blt k 238 then (bif Nat.blt k 237 then 12 else 12) else (bif Nat.blt k 239 then 12 else 12)))
noncomputable def kyO_h3_h6 (k : Nat) : Nat := (bif Nat.blt k 244 then (bif Nat.blt k 242 then (bif Nat.blt k 241 then 12 else 12) else (bif Nat.blt k 243 then 12 else 12)) else (bif Nat.blt k 246 then (bif Nat.blt k 245 then 12 else 12) else (bif Nat.blt k 247 then 12 else 12)))
noncomputable def kyO_h3_h7 (k : Nat) : Nat := (bif Nat.blt k 252 then (bif Nat.blt k 250 then (bif Nat.blt k 249 then 12 else 12) else (bif Nat.blt k 251 then 12 else 12)) else (bif Nat.blt k 254 then (bif Nat.blt k 253 then 12 else 12) else (bif Nat.blt k 255 then 12 else 12)))
noncomputable def kyO_h3 (k : Nat) : Nat := (bif Nat.blt k 224 then (bif Nat.blt k 208 then (bif Nat.blt k 200 then (kyO_h3_h0 k) else (kyO_h3_h1 k)) else (bif Nat.blt k 216 then (kyO_h3_h2 k) else (kyO_h3_h3 k))) else (bif Nat.blt k 240 then (bif Nat.blt k 232 then (kyO_h3_h4 k) else (kyO_h3_h5 k)) else (bif Nat.blt k 248 then (kyO_h3_h6 k) else (kyO_h3_h7 k))))
noncomputable def kyO_h4_h0 (k : Nat) : Nat := (bif Nat.blt k 260 then (bif Nat.blt k 258 then (bif Nat.blt k 257 then 12 else 12) else (bif Nat.blt k 259 then 12 else 12)) else (bif Nat.blt k 262 then (bif Nat.blt k 261 then 12 else 12) else (bif Nat.blt k 263 then 12 else 12)))
noncomputable def kyO_h4_h1 (k : Nat) : Nat := (bif Nat.blt k 268 then (bif Nat.blt k 266 then (bif Nat.blt k 265 then 12 else 12) else (bif Nat.blt k 267 then 12 else 12)) else (bif Nat.blt k 270 then (bif Nat.blt k 269 then 12 else 12) else (bif Nat.blt k 271 then 12 else 12)))
noncomputable def kyO_h4_h2 (k : Nat) : Nat := (bif Nat.blt k 276 then (bif Nat.blt k 274 then (bif Nat.blt k 273 then 12 else 12) else (bif Nat.blt k 275 then 12 else 12)) else (bif Nat.blt k 278 then (bif Nat.blt k 277 then 12 else 12) else (bif Nat.blt k 279 then 12 else 12)))
noncomputable def kyO_h4_h3 (k : Nat) : Nat := (bif Nat.blt k 284 then (bif Nat.blt k 282 then (bif Nat.blt k 281 then 12 else 12) else (bif Nat.blt k 283 then 12 else 12)) else (bif Nat.blt k 286 then (bif Nat.blt k 285 then 12 else 12) else (bif Nat.blt k 287 then 12 else 12)))
noncomputable def kyO_h4_h4 (k : Nat) : Nat := (bif Nat.blt k 292 then (bif Nat.blt k 290 then (bif Nat.blt k 289 then 12 else 12) else (bif Nat.blt k 291 then 12 else 12)) else (bif Nat.blt k 294 then (bif Nat.blt k 293 then 12 else 12) else (bif Nat.blt k 295 then 12 else 12)))
noncomputable def kyO_h4_h5 (k : Nat) : Nat := (bif Nat.blt k 300 then (bif Nat.blt k 298 then (bif Nat.blt k 297 then 12 else 12) else (bif Nat.blt k 299 then 12 else 12)) else (bif Nat.blt k 302 then (bif Nat.blt k 301 then 12 else 12) else (bif Nat.blt k 303 then 12 else 12)))
noncomputable def kyO_h4_h6 (k : Nat) : Nat := (bif Nat.blt k 308 then (bif Nat.blt k 306 then (bif Nat.blt k 305 then 12 else 12) else (bif Nat.blt k 307 then 12 else 12)) else (bif Nat.blt k 310 then (bif Nat.blt k 309 then 12 else 12) else (bif Nat.blt k 311 then 12 else 12)))
noncomputable def kyO_h4_h7 (k : Nat) : Nat := (bif Nat.blt k 316 then (bif Nat.blt k 314 then (bif Nat.blt k 313 then 12 else 12) else (bif Nat.blt k 315 then 12 else 12)) else (bif Nat.blt k 318 then (bif Nat.blt k 317 then 12 else 12) else (bif Nat.blt k 319 then 12 else 12)))
noncomputable def kyO_h4 (k : Nat) : Nat := (bif Nat.blt k 288 then (bif Nat.blt k 272 then (bif Nat.blt k 264 then (kyO_h4_h0 k) else (kyO_h4_h1 k)) else (bif Nat.blt k 280 then (kyO_h4_h2 k) else (kyO_h4_h3 k))) else (bif Nat.blt k 304 then (bif Nat.blt k 296 then (kyO_h4_h4 k) else (kyO_h4_h5 k)) else (bif Nat.blt k 312 then (kyO_h4_h6 k) else (kyO_h4_h7 k))))
noncomputable def kyO_h5_h0 (k : Nat) : Nat := (bif Nat.blt k 324 then (bif Nat.blt k 322 then (bif Nat.blt k 321 then 12 else 12) else (bif Nat.blt k 323 then 12 else 12)) else (bif Nat.blt k 326 then (bif Nat.blt k 325 then 12 else 12) else (bif Nat.blt k 327 then 12 else 12)))
noncomputable def kyO_h5_h1 (k : Nat) : Nat := (bif Nat.blt k 332 then (bif Nat.blt k 330 then (bif Nat.blt k 329 then 12 else 12) else (bif Nat.blt k 331 then 12 else 12)) else (bif Nat.blt k 334 then (bif Nat.blt k 333 then 12 else 12) else (bif Nat.blt k 335 then 12 else 12)))
noncomputable def kyO_h5_h2 (k : Nat) : Nat := (bif Nat.blt k 340 then (bif Nat.blt k 338 then (bif Nat.blt k 337 then 12 else 12) else (bif Nat.blt k 339 then 12 else 12)) else (bif Nat.blt k 342 then (bif Nat.blt k 341 then 12 else 13) else (bif Nat.blt k 343 then 13 else 13)))
noncomputable def kyO_h5_h3 (k : Nat) : Nat := (bif Nat.blt k 348 then (bif Nat.blt k 346 then (bif Nat.blt k 345 then 14 else 15) else (bif Nat.blt k 347 then 15 else 15)) else (bif Nat.blt k 350 then (bif Nat.blt k 349 then 15 else 16) else (bif Nat.blt k 351 then 15 else 17)))
noncomputable def kyO_h5 (k : Nat) : Nat := (bif Nat.blt k 336 then (bif Nat.blt k 328 then (kyO_h5_h0 k) else (kyO_h5_h1 k)) else (bif Nat.blt k 344 then (kyO_h5_h2 k) else (kyO_h5_h3 k)))
noncomputable def kyO (k : Nat) : Nat := (bif Nat.blt k 192 then (bif Nat.blt k 64 then (kyO_h0 k) else (bif Nat.blt k 128 then (kyO_h1 k) else (kyO_h2 k))) else (bif Nat.blt k 256 then (kyO_h3 k) else (bif Nat.blt k 320 then (kyO_h4 k) else (kyO_h5 k))))
noncomputable def kyF_h0_h0 (a : Nat) : Nat × Nat × Nat × Nat := (bif Nat.blt a 44 then (bif Nat.blt a 42 then (bif Nat.blt a 41 then (bif Nat.beq a 40 then (12, 9, 9, 0) else (0, 0, 0, 0)) else (bif Nat.beq a 41 then (1, 84, 9, 1) else (0, 0, 0, 0))) else (bif Nat.blt a 43 then (bif Nat.beq a 42 then (12, 15, 9, 1) else (0, 0, 0, 0)) else (bif Nat.beq a 43 then (7, 36, 9, 2) else (0, 0, 0, 0)))) else (bif Nat.blt a 46 then (bif Nat.blt a 45 then (bif Nat.beq a 44 then (12, 19, 9, 2) else (0, 0, 0, 0)) else (bif Nat.beq a 45 then (12, 22, 9, 3) else (0, 0, 0, 0))) else (bif Nat.blt a 47 then (bif Nat.beq a 46 then (7, 172, 9, 3) else (0, 0, 0, 0)) else (bif Nat.beq a 47 then (12, 25, 9, 4) else (0, 0, 0, 0)))))
noncomputable def kyF_h0_h1 (a : Nat) : Nat × Nat × Nat × Nat := (bif Nat.blt a 66 then (bif Nat.blt a 64 then (bif Nat.blt a 49 then (bif Nat.beq a 48 then (12, 28, 9, 5) else (0, 0, 0, 0)) else (bif Nat.beq a 49 then (7, 169, 9, 5) else (0, 0, 0, 0))) else (bif Nat.blt a 65 then (bif Nat.beq a 64 then (7, 12, 5, 0) else (0, 0, 0, 0)) else (bif Nat.beq a 65 then (1, 16, 5, 0) else (0, 0, 0, 0)))) else (bif Nat.blt a 68 then (bif Nat.blt a 67 then (bif Nat.beq a 66 then (7, 27, 5, 1) else (0, 0, 0, 0)) else (bif Nat.beq a 67 then (1, 98, 5, 1) else (0, 0, 0, 0))) else (bif Nat.blt a 69 then (bif Nat.beq a 68 then (7, 18, 5, 2) else (0, 0, 0, 0)) else (bif Nat.beq a 69 then (1, 110, 5, 2) else (0, 0, 0, 0)))))
noncomputable def kyF_h0_h2 (a : Nat) : Nat × Nat × Nat × Nat := (bif Nat.blt a 87 then (bif Nat.blt a 85 then (bif Nat.blt a 84 then (bif Nat.beq a 83 then (4, 45, 2, 0) else (0, 0, 0, 0)) else (bif Nat.beq a 84 then (7, 46, 2, 0) else (0, 0, 0, 0))) else (bif Nat.blt a 86 then (bif Nat.beq a 85 then (1, 107, 2, 0) else (0, 0, 0, 0)) else (bif Nat.beq a 86 then (6, 18, 2, 1) else (0, 0, 0, 0)))) else (bif Nat.blt a 89 then (bif Nat.blt a 88 then (bif Nat.beq a 87 then (4, 49, 2, 1) else (0, 0, 0, 0)) else (bif Nat.beq a 88 then (7, 129, 2, 1) else (0, 0, 0, 0))) else (bif Nat.blt a 90 then (bif Nat.beq a 89 then (5, 55, 2, 1) else (0, 0, 0, 0)) else (bif Nat.beq a 90 then (1, 311, 2, 1) else (0, 0, 0, 0)))))
noncomputable def kyF_h0_h3 (a : Nat) : Nat × Nat × Nat × Nat := (bif Nat.blt a 95 then (bif Nat.blt a 93 then (bif Nat.blt a 92 then (bif Nat.beq a 91 then (4, 52, 2, 2) else (0, 0, 0, 0)) else (bif Nat.beq a 92 then (7, 133, 2, 2) else (0, 0, 0, 0))) else (bif Nat.blt a 94 then (bif Nat.beq a 93 then (1, 258, 2, 2) else (0, 0, 0, 0)) else (bif Nat.beq a 94 then (3, 21, 2, 3) else (0, 0, 0, 0)))) else (bif Nat.blt a 97 then (bif Nat.blt a 96 then (bif Nat.beq a 95 then (4, 55, 2, 3) else (0, 0, 0, 0)) else (bif Nat.beq a 96 then (2, 24, 2, 3) else (0, 0, 0, 0))) else (bif Nat.blt a 98 then (bif Nat.beq a 97 then (11, 41, 2, 3) else (0, 0, 0, 0)) else (bif Nat.beq a 98 then (7, 137, 2, 3) else (0, 0, 0, 0)))))
noncomputable def kyF_h0_h4 (a : Nat) : Nat × Nat × Nat × Nat := (bif Nat.blt a 103 then (bif Nat.blt a 101 then (bif Nat.blt a 100 then (bif Nat.beq a 99 then (1, 205, 2, 3) else (0, 0, 0, 0)) else (bif Nat.beq a 100 then (2, 18, 2, 4) else (0, 0, 0, 0))) else (bif Nat.blt a 102 then (bif Nat.beq a 101 then (5, 18, 2, 4) else (0, 0, 0, 0)) else (bif Nat.beq a 102 then (6, 30, 2, 4) else (0, 0, 0, 0)))) else (bif Nat.blt a 105 then (bif Nat.blt a 104 then (bif Nat.beq a 103 then (4, 58, 2, 4) else (0, 0, 0, 0)) else (bif Nat.beq a 104 then (3, 50, 2, 4) else (0, 0, 0, 0))) else (bif Nat.blt a 106 then (bif Nat.beq a 105 then (7, 139, 2, 4) else (0, 0, 0, 0)) else (bif Nat.beq a 106 then (11, 93, 2, 4) else (0, 0, 0, 0)))))
noncomputable def kyF_h0_h5 (a : Nat) : Nat × Nat × Nat × Nat := (bif Nat.blt a 111 then (bif Nat.blt a 109 then (bif Nat.blt a 108 then (bif Nat.beq a 107 then (1, 196, 2, 4) else (0, 0, 0, 0)) else (bif Nat.beq a 108 then (3, 27, 2, 5) else (0, 0, 0, 0))) else (bif Nat.blt a 110 then (bif Nat.beq a 109 then (4, 61, 2, 5) else (0, 0, 0, 0)) else (bif Nat.beq a 110 then (11, 46, 2, 5) else (0, 0, 0, 0)))) else (bif Nat.blt a 113 then (bif Nat.blt a 112 then (bif Nat.beq a 111 then (7, 162, 2, 5) else (0, 0, 0, 0)) else (bif Nat.beq a 112 then (1, 212, 2, 5) else (0, 0, 0, 0))) else (bif Nat.blt a 114 then (bif Nat.beq a 113 then (4, 9, 2, 6) else (0, 0, 0, 0)) else (bif Nat.beq a 114 then (7, 148, 2, 6) else (0, 0, 0, 0)))))
noncomputable def kyF_h0_h6 (a : Nat) : Nat × Nat × Nat × Nat := (bif Nat.blt a 119 then (bif Nat.blt a 117 then (bif Nat.blt a 116 then (bif Nat.beq a 115 then (4, 15, 2, 7) else (0, 0, 0, 0)) else (bif Nat.beq a 116 then (7, 145, 2, 7) else (0, 0, 0, 0))) else (bif Nat.blt a 118 then (bif Nat.beq a 117 then (4, 18, 2, 8) else (0, 0, 0, 0)) else (bif Nat.beq a 118 then (7, 70, 2, 8) else (0, 0, 0, 0)))) else (bif Nat.blt a 121 then (bif Nat.blt a 120 then (bif Nat.beq a 119 then (1, 129, 2, 8) else (0, 0, 0, 0)) else (bif Nat.beq a 120 then (4, 21, 2, 9) else (0, 0, 0, 0))) else (bif Nat.blt a 122 then (bif Nat.beq a 121 then (7, 86, 2, 9) else (0, 0, 0, 0)) else (bif Nat.beq a 122 then (1, 139, 2, 9) else (0, 0, 0, 0)))))
noncomputable def kyF_h0_h7 (a : Nat) : Nat × Nat × Nat × Nat := (bif Nat.blt a 127 then (bif Nat.blt a 125 then (bif Nat.blt a 124 then (bif Nat.beq a 123 then (3, 94, 2, 9) else (0, 0, 0, 0)) else (bif Nat.beq a 124 then (4, 24, 2, 10) else (0, 0, 0, 0))) else (bif Nat.blt a 126 then (bif Nat.beq a 125 then (7, 110, 2, 10) else (0, 0, 0, 0)) else (bif Nat.beq a 126 then (1, 142, 2, 10) else (0, 0, 0, 0)))) else (bif Nat.blt a 129 then (bif Nat.blt a 128 then (bif Nat.beq a 127 then (11, 96, 2, 10) else (0, 0, 0, 0)) else (bif Nat.beq a 128 then (4, 27, 2, 11) else (0, 0, 0, 0))) else (bif Nat.blt a 130 then (bif Nat.beq a 129 then (7, 152, 2, 11) else (0, 0, 0, 0)) else (bif Nat.beq a 130 then (1, 261, 2, 11) else (0, 0, 0, 0)))))
noncomputable def kyF_h0 (a : Nat) : Nat × Nat × Nat × Nat := (bif Nat.blt a 99 then (bif Nat.blt a 83 then (bif Nat.blt a 48 then (kyF_h0_h0 a) else (kyF_h0_h1 a)) else (bif Nat.blt a 91 then (kyF_h0_h2 a) else (kyF_h0_h3 a))) else (bif Nat.blt a 115 then (bif Nat.blt a 107 then (kyF_h0_h4 a) else (kyF_h0_h5 a)) else (bif Nat.blt a 123 then (kyF_h0_h6 a) else (kyF_h0_h7 a))))
noncomputable def kyF_h1_h0 (a : Nat) : Nat × Nat × Nat × Nat := (bif Nat.blt a 135 then (bif Nat.blt a 133 then (bif Nat.blt a 132 then (bif Nat.beq a 131 then (4, 30, 2, 12) else (0, 0, 0, 0)) else (bif Nat.beq a 132 then (3, 57, 2, 12) else (0, 0, 0, 0))) else (bif Nat.blt a 134 then (bif Nat.beq a 133 then (7, 159, 2, 12) else (0, 0, 0, 0)) else (bif Nat.beq a 134 then (1, 268, 2, 12) else (0, 0, 0, 0)))) else (bif Nat.blt a 137 then (bif Nat.blt a 136 then (bif Nat.beq a 135 then (4, 33, 2, 13) else (0, 0, 0, 0)) else (bif Nat.beq a 136 then (3, 43, 2, 13) else (0, 0, 0, 0))) else (bif Nat.blt a 138 then (bif Nat.beq a 137 then (1, 154, 2, 13) else (0, 0, 0, 0)) else (bif Nat.beq a 138 then (4, 36, 2, 14) else (0, 0, 0, 0)))))
noncomputable def kyF_h1_h1 (a : Nat) : Nat × Nat × Nat × Nat := (bif Nat.blt a 143 then (bif Nat.blt a 141 then (bif Nat.blt a 140 then (bif Nat.beq a 139 then (3, 68, 2, 14) else (0, 0, 0, 0)) else (bif Nat.beq a 140 then (1, 157, 2, 14) else (0, 0, 0, 0))) else (bif Nat.blt a 142 then (bif Nat.beq a 141 then (4, 39, 2, 15) else (0, 0, 0, 0)) else (bif Nat.beq a 142 then (3, 74, 2, 15) else (0, 0, 0, 0)))) else (bif Nat.blt a 145 then (bif Nat.blt a 144 then (bif Nat.beq a 143 then (1, 160, 2, 15) else (0, 0, 0, 0)) else (bif Nat.beq a 144 then (4, 42, 2, 16) else (0, 0, 0, 0))) else (bif Nat.blt a 146 then (bif Nat.beq a 145 then (3, 30, 2, 16) else (0, 0, 0, 0)) else (bif Nat.beq a 146 then (11, 49, 2, 16) else (0, 0, 0, 0)))))
noncomputable def kyF_h1_h2 (a : Nat) : Nat × Nat × Nat × Nat := (bif Nat.blt a 206 then (bif Nat.blt a 191 then (bif Nat.blt a 190 then (bif Nat.beq a 147 then (1, 163, 2, 16) else (0, 0, 0, 0)) else (bif Nat.beq a 190 then (3, 9, 1, 0) else (0, 0, 0, 0))) else (bif Nat.blt a 192 then (bif Nat.beq a 191 then (3, 15, 1, 1) else (0, 0, 0, 0)) else (bif Nat.beq a 192 then (3, 18, 1, 2) else (0, 0, 0, 0)))) else (bif Nat.blt a 208 then (bif Nat.blt a 207 then (bif Nat.beq a 206 then (11, 9, 8, 0) else (0, 0, 0, 0)) else (bif Nat.beq a 207 then (11, 15, 8, 1) else (0, 0, 0, 0))) else (bif Nat.blt a 209 then (bif Nat.beq a 208 then (1, 173, 8, 1) else (0, 0, 0, 0)) else (bif Nat.beq a 209 then (11, 18, 8, 2) else (0, 0, 0, 0)))))
noncomputable def kyF_h1_h3 (a : Nat) : Nat × Nat × Nat × Nat := (bif Nat.blt a 229 then (bif Nat.blt a 212 then (bif Nat.blt a 211 then (bif Nat.beq a 210 then (1, 176, 8, 2) else (0, 0, 0, 0)) else (bif Nat.beq a 211 then (11, 21, 8, 3) else (0, 0, 0, 0))) else (bif Nat.blt a 228 then (bif Nat.beq a 212 then (1, 170, 8, 3) else (0, 0, 0, 0)) else (bif Nat.beq a 228 then (2, 9, 0, 0) else (0, 0, 0, 0)))) else (bif Nat.blt a 242 then (bif Nat.blt a 241 then (bif Nat.beq a 229 then (2, 15, 0, 1) else (0, 0, 0, 0)) else (bif Nat.beq a 241 then (10, 9, 7, 0) else (0, 0, 0, 0))) else (bif Nat.blt a 243 then (bif Nat.beq a 242 then (10, 15, 7, 1) else (0, 0, 0, 0)) else (bif Nat.beq a 243 then (10, 19, 7, 2) else (0, 0, 0, 0)))))
noncomputable def kyF_h1_h4 (a : Nat) : Nat × Nat × Nat × Nat := (bif Nat.blt a 275 then (bif Nat.blt a 260 then (bif Nat.blt a 259 then (bif Nat.beq a 258 then (9, 9, 6, 0) else (0, 0, 0, 0)) else (bif Nat.beq a 259 then (9, 15, 6, 1) else (0, 0, 0, 0))) else (bif Nat.blt a 261 then (bif Nat.beq a 260 then (9, 18, 6, 2) else (0, 0, 0, 0)) else (bif Nat.beq a 261 then (1, 284, 6, 2) else (0, 0, 0, 0)))) else (bif Nat.blt a 288 then (bif Nat.blt a 276 then (bif Nat.beq a 275 then (5, 9, 3, 0) else (0, 0, 0, 0)) else (bif Nat.beq a 276 then (5, 15, 3, 1) else (0, 0, 0, 0))) else (bif Nat.blt a 289 then (bif Nat.beq a 288 then (6, 9, 4, 0) else (0, 0, 0, 0)) else (bif Nat.beq a 289 then (1, 344, 4, 0) else (0, 0, 0, 0)))))
noncomputable def kyF_h1_h5 (a : Nat) : Nat × Nat × Nat × Nat := (bif Nat.blt a 300 then (bif Nat.blt a 298 then (bif Nat.blt a 297 then (bif Nat.beq a 290 then (6, 15, 4, 1) else (0, 0, 0, 0)) else (bif Nat.beq a 297 then (1, 12, 10, 0) else (0, 0, 0, 0))) else (bif Nat.blt a 299 then (bif Nat.beq a 298 then (1, 20, 10, 1) else (0, 0, 0, 0)) else (bif Nat.beq a 299 then (1, 24, 10, 2) else (0, 0, 0, 0)))) else (bif Nat.blt a 302 then (bif Nat.blt a 301 then (bif Nat.beq a 300 then (1, 28, 10, 3) else (0, 0, 0, 0)) else (bif Nat.beq a 301 then (1, 34, 10, 4) else (0, 0, 0, 0))) else (bif Nat.blt a 303 then (bif Nat.beq a 302 then (1, 41, 10, 5) else (0, 0, 0, 0)) else (bif Nat.beq a 303 then (1, 48, 10, 6) else (0, 0, 0, 0)))))
noncomputable def kyF_h1_h6 (a : Nat) : Nat × Nat × Nat × Nat := (bif Nat.blt a 308 then (bif Nat.blt a 306 then (bif Nat.blt a 305 then (bif Nat.beq a 304 then (1, 55, 10, 7) else (0, 0, 0, 0)) else (bif Nat.beq a 305 then (1, 62, 10, 8) else (0, 0, 0, 0))) else (bif Nat.blt a 307 then (bif Nat.beq a 306 then (1, 69, 10, 9) else (0, 0, 0, 0)) else (bif Nat.beq a 307 then (1, 76, 10, 10) else (0, 0, 0, 0)))) else (bif Nat.blt a 1207 then (bif Nat.blt a 309 then (bif Nat.beq a 308 then (1, 80, 10, 11) else (0, 0, 0, 0)) else (bif Nat.beq a 309 then (1, 383, 10, 12) else (0, 0, 0, 0))) else (bif Nat.blt a 1208 then (bif Nat.beq a 1207 then (13, 9, 11, 1) else (0, 0, 0, 0)) else (bif Nat.beq a 1208 then (13, 13, 11, 2) else (0, 0, 0, 0)))))
noncomputable def kyF_h1_h7 (a : Nat) : Nat × Nat × Nat × Nat := (bif Nat.blt a 1213 then (bif Nat.blt a 1211 then (bif Nat.blt a 1210 then (bif Nat.beq a 1209 then (13, 16, 11, 3) else (0, 0, 0, 0)) else (bif Nat.beq a 1210 then (13, 20, 11, 4) else (0, 0, 0, 0))) else (bif Nat.blt a 1212 then (bif Nat.beq a 1211 then (13, 97, 11, 5) else (0, 0, 0, 0)) else (bif Nat.beq a 1212 then (13, 24, 11, 6) else (0, 0, 0, 0)))) else (bif Nat.blt a 1215 then (bif Nat.blt a 1214 then (bif Nat.beq a 1213 then (13, 100, 11, 7) else (0, 0, 0, 0)) else (bif Nat.beq a 1214 then (13, 103, 11, 8) else (0, 0, 0, 0))) else (bif Nat.blt a 1216 then (bif Nat.beq a 1215 then (13, 109, 11, 9) else (0, 0, 0, 0)) else (bif Nat.beq a 1216 then (13, 112, 11, 10) else (0, 0, 0, 0)))))
noncomputable def kyF_h1 (a : Nat) : Nat × Nat × Nat × Nat := (bif Nat.blt a 258 then (bif Nat.blt a 147 then (bif Nat.blt a 139 then (kyF_h1_h0 a) else (kyF_h1_h1 a)) else (bif Nat.blt a 210 then (kyF_h1_h2 a) else (kyF_h1_h3 a))) else (bif Nat.blt a 304 then (bif Nat.blt a 290 then (kyF_h1_h4 a) else (kyF_h1_h5 a)) else (bif Nat.blt a 1209 then (kyF_h1_h6 a) else (kyF_h1_h7 a))))
noncomputable def kyF_h2_h0 (a : Nat) : Nat × Nat × Nat × Nat := (bif Nat.blt a 1221 then (bif Nat.blt a 1219 then (bif Nat.blt a 1218 then (bif Nat.beq a 1217 then (13, 123, 11, 11) else (0, 0, 0, 0)) else (bif Nat.beq a 1218 then (13, 133, 11, 12) else (0, 0, 0, 0))) else (bif Nat.blt a 1220 then (bif Nat.beq a 1219 then (13, 27, 11, 13) else (0, 0, 0, 0)) else (bif Nat.beq a 1220 then (13, 31, 11, 14) else (0, 0, 0, 0)))) else (bif Nat.blt a 1223 then (bif Nat.blt a 1222 then (bif Nat.beq a 1221 then (13, 34, 11, 15) else (0, 0, 0, 0)) else (bif Nat.beq a 1222 then (13, 37, 11, 16) else (0, 0, 0, 0))) else (bif Nat.blt a 1224 then (bif Nat.beq a 1223 then (13, 40, 11, 17) else (0, 0, 0, 0)) else (bif Nat.beq a 1224 then (13, 264, 11, 18) else (0, 0, 0, 0)))))
noncomputable def kyF_h2_h1 (a : Nat) : Nat × Nat × Nat × Nat := (bif Nat.blt a 1229 then (bif Nat.blt a 1227 then (bif Nat.blt a 1226 then (bif Nat.beq a 1225 then (13, 43, 11, 19) else (0, 0, 0, 0)) else (bif Nat.beq a 1226 then (13, 46, 11, 20) else (0, 0, 0, 0))) else (bif Nat.blt a 1228 then (bif Nat.beq a 1227 then (13, 261, 11, 21) else (0, 0, 0, 0)) else (bif Nat.beq a 1228 then (13, 49, 11, 22) else (0, 0, 0, 0)))) else (bif Nat.blt a 1231 then (bif Nat.blt a 1230 then (bif Nat.beq a 1229 then (13, 252, 11, 23) else (0, 0, 0, 0)) else (bif Nat.beq a 1230 then (13, 245, 11, 24) else (0, 0, 0, 0))) else (bif Nat.blt a 1232 then (bif Nat.beq a 1231 then (13, 233, 11, 25) else (0, 0, 0, 0)) else (bif Nat.beq a 1232 then (13, 52, 11, 26) else (0, 0, 0, 0)))))
noncomputable def kyF_h2_h2 (a : Nat) : Nat × Nat × Nat × Nat := (bif Nat.blt a 1237 then (bif Nat.blt a 1235 then (bif Nat.blt a 1234 then (bif Nat.beq a 1233 then (13, 55, 11, 27) else (0, 0, 0, 0)) else (bif Nat.beq a 1234 then (13, 58, 11, 28) else (0, 0, 0, 0))) else (bif Nat.blt a 1236 then (bif Nat.beq a 1235 then (13, 61, 11, 29) else (0, 0, 0, 0)) else (bif Nat.beq a 1236 then (13, 393, 11, 30) else (0, 0, 0, 0)))) else (bif Nat.blt a 1239 then (bif Nat.blt a 1238 then (bif Nat.beq a 1237 then (13, 64, 11, 31) else (0, 0, 0, 0)) else (bif Nat.beq a 1238 then (13, 67, 11, 32) else (0, 0, 0, 0))) else (bif Nat.blt a 1240 then (bif Nat.beq a 1239 then (13, 70, 11, 33) else (0, 0, 0, 0)) else (bif Nat.beq a 1240 then (13, 73, 11, 34) else (0, 0, 0, 0)))))
noncomputable def kyF_h2_h3 (a : Nat) : Nat × Nat × Nat × Nat := (bif Nat.beq a 1241 then (13, 77, 11, 35) else (0, 0, 0, 0))
noncomputable def kyF_h2 (a : Nat) : Nat × Nat × Nat × Nat := (bif Nat.blt a 1233 then (bif Nat.blt a 1225 then (kyF_h2_h0 a) else (kyF_h2_h1 a)) else (bif Nat.blt a 1241 then (kyF_h2_h2 a) else (kyF_h2_h3 a)))
noncomputable def kyF (a : Nat) : Nat × Nat × Nat × Nat := (bif Nat.blt a 131 then (kyF_h0 a) else (bif Nat.blt a 1217 then (kyF_h1 a) else (kyF_h2 a)))
noncomputable def kyM_h0_h0 (a : Nat) : Nat × Nat × Nat × Nat := (bif Nat.blt a 202 then (bif Nat.blt a 79 then (bif Nat.blt a 36 then (bif Nat.beq a 30 then (1, 11, 132, 0) else (0, 0, 0, 0)) else (bif Nat.beq a 36 then (7, 11, 184, 0) else (0, 0, 0, 0))) else (bif Nat.blt a 186 then (bif Nat.beq a 79 then (1, 23, 98, 0) else (0, 0, 0, 0)) else (bif Nat.beq a 186 then (1, 33, 84, 0) else (0, 0, 0, 0)))) else (bif Nat.blt a 237 then (bif Nat.blt a 224 then (bif Nat.beq a 202 then (1, 40, 172, 0) else (0, 0, 0, 0)) else (bif Nat.beq a 224 then (1, 47, 77, 0) else (0, 0, 0, 0))) else (bif Nat.blt a 254 then (bif Nat.beq a 237 then (1, 54, 159, 0) else (0, 0, 0, 0)) else (bif Nat.beq a 254 then (1, 61, 153, 0) else (0, 0, 0, 0)))))
noncomputable def kyM_h0_h1 (a : Nat) : Nat × Nat × Nat × Nat := (bif Nat.blt a 357 then (bif Nat.blt a 341 then (bif Nat.blt a 284 then (bif Nat.beq a 271 then (1, 68, 115, 0) else (0, 0, 0, 0)) else (bif Nat.beq a 284 then (1, 75, 124, 0) else (0, 0, 0, 0))) else (bif Nat.blt a 353 then (bif Nat.beq a 341 then (1, 90, 185, 0) else (0, 0, 0, 0)) else (bif Nat.beq a 353 then (1, 94, 133, 0) else (0, 0, 0, 0)))) else (bif Nat.blt a 364 then (bif Nat.blt a 361 then (bif Nat.beq a 357 then (7, 22, 99, 0) else (0, 0, 0, 0)) else (bif Nat.beq a 361 then (4, 64, 149, 0) else (0, 0, 0, 0))) else (bif Nat.blt a 368 then (bif Nat.beq a 364 then (7, 30, 187, 0) else (0, 0, 0, 0)) else (bif Nat.beq a 368 then (7, 33, 188, 0) else (0, 0, 0, 0)))))
noncomputable def kyM_h0_h2 (a : Nat) : Nat × Nat × Nat × Nat := (bif Nat.blt a 389 then (bif Nat.blt a 380 then (bif Nat.blt a 376 then (bif Nat.beq a 372 then (12, 31, 186, 0) else (0, 0, 0, 0)) else (bif Nat.beq a 376 then (12, 35, 189, 0) else (0, 0, 0, 0))) else (bif Nat.blt a 385 then (bif Nat.beq a 380 then (12, 39, 190, 0) else (0, 0, 0, 0)) else (bif Nat.beq a 385 then (7, 39, 134, 0) else (0, 0, 0, 0)))) else (bif Nat.blt a 398 then (bif Nat.blt a 394 then (bif Nat.beq a 389 then (7, 52, 135, 0) else (0, 0, 0, 0)) else (bif Nat.beq a 394 then (7, 57, 191, 0) else (0, 0, 0, 0))) else (bif Nat.blt a 402 then (bif Nat.beq a 398 then (12, 43, 345, 0) else (0, 0, 0, 0)) else (bif Nat.beq a 402 then (16, 335, 347, 0) else (0, 0, 0, 0)))))
noncomputable def kyM_h0_h3 (a : Nat) : Nat × Nat × Nat × Nat := (bif Nat.blt a 424 then (bif Nat.blt a 416 then (bif Nat.blt a 412 then (bif Nat.beq a 408 then (12, 49, 346, 0) else (0, 0, 0, 0)) else (bif Nat.beq a 412 then (16, 492, 348, 0) else (0, 0, 0, 0))) else (bif Nat.blt a 419 then (bif Nat.beq a 416 then (16, 495, 349, 0) else (0, 0, 0, 0)) else (bif Nat.beq a 419 then (17, 9, 350, 0) else (0, 0, 0, 0)))) else (bif Nat.blt a 451 then (bif Nat.blt a 446 then (bif Nat.beq a 424 then (16, 1059, 351, 0) else (0, 0, 0, 0)) else (bif Nat.beq a 446 then (7, 117, 146, 0) else (0, 0, 0, 0))) else (bif Nat.blt a 455 then (bif Nat.beq a 451 then (7, 125, 144, 0) else (0, 0, 0, 0)) else (bif Nat.beq a 455 then (7, 74, 141, 0) else (0, 0, 0, 0)))))
noncomputable def kyM_h0_h4 (a : Nat) : Nat × Nat × Nat × Nat := (bif Nat.blt a 480 then (bif Nat.blt a 470 then (bif Nat.blt a 466 then (bif Nat.beq a 459 then (7, 142, 143, 0) else (0, 0, 0, 0)) else (bif Nat.beq a 466 then (7, 61, 136, 0) else (0, 0, 0, 0))) else (bif Nat.blt a 474 then (bif Nat.beq a 470 then (7, 78, 148, 0) else (0, 0, 0, 0)) else (bif Nat.beq a 474 then (7, 66, 140, 0) else (0, 0, 0, 0)))) else (bif Nat.blt a 490 then (bif Nat.blt a 486 then (bif Nat.beq a 480 then (7, 91, 137, 0) else (0, 0, 0, 0)) else (bif Nat.beq a 486 then (7, 96, 138, 0) else (0, 0, 0, 0))) else (bif Nat.blt a 494 then (bif Nat.beq a 490 then (7, 106, 142, 0) else (0, 0, 0, 0)) else (bif Nat.beq a 494 then (7, 155, 106, 0) else (0, 0, 0, 0)))))
noncomputable def kyM_h0_h5 (a : Nat) : Nat × Nat × Nat × Nat := (bif Nat.blt a 512 then (bif Nat.blt a 506 then (bif Nat.blt a 502 then (bif Nat.beq a 498 then (7, 113, 147, 0) else (0, 0, 0, 0)) else (bif Nat.beq a 502 then (7, 101, 139, 0) else (0, 0, 0, 0))) else (bif Nat.blt a 510 then (bif Nat.beq a 506 then (7, 165, 112, 0) else (0, 0, 0, 0)) else (bif Nat.beq a 510 then (4, 89, 148, 0) else (0, 0, 0, 0)))) else (bif Nat.blt a 520 then (bif Nat.blt a 516 then (bif Nat.beq a 512 then (7, 43, 145, 0) else (0, 0, 0, 0)) else (bif Nat.beq a 516 then (7, 49, 111, 0) else (0, 0, 0, 0))) else (bif Nat.blt a 521 then (bif Nat.beq a 520 then (4, 82, 147, 0) else (0, 0, 0, 0)) else (bif Nat.beq a 521 then (1, 101, 100, 0) else (0, 0, 0, 0)))))
noncomputable def kyM_h0_h6 (a : Nat) : Nat × Nat × Nat × Nat := (bif Nat.blt a 537 then (bif Nat.blt a 532 then (bif Nat.blt a 528 then (bif Nat.beq a 525 then (4, 70, 150, 0) else (0, 0, 0, 0)) else (bif Nat.beq a 528 then (1, 104, 73, 0) else (0, 0, 0, 0))) else (bif Nat.blt a 536 then (bif Nat.beq a 532 then (1, 404, 85, 0) else (0, 0, 0, 0)) else (bif Nat.beq a 536 then (3, 33, 147, 0) else (0, 0, 0, 0)))) else (bif Nat.blt a 541 then (bif Nat.blt a 538 then (bif Nat.beq a 537 then (3, 39, 148, 0) else (0, 0, 0, 0)) else (bif Nat.beq a 538 then (3, 46, 86, 0) else (0, 0, 0, 0))) else (bif Nat.blt a 545 then (bif Nat.beq a 541 then (3, 53, 110, 0) else (0, 0, 0, 0)) else (bif Nat.beq a 545 then (4, 74, 102, 0) else (0, 0, 0, 0)))))
noncomputable def kyM_h0_h7 (a : Nat) : Nat × Nat × Nat × Nat := (bif Nat.blt a 562 then (bif Nat.blt a 557 then (bif Nat.blt a 553 then (bif Nat.beq a 549 then (4, 86, 103, 0) else (0, 0, 0, 0)) else (bif Nat.beq a 553 then (1, 407, 173, 0) else (0, 0, 0, 0))) else (bif Nat.blt a 558 then (bif Nat.beq a 557 then (11, 25, 149, 0) else (0, 0, 0, 0)) else (bif Nat.beq a 558 then (11, 31, 87, 0) else (0, 0, 0, 0)))) else (bif Nat.blt a 567 then (bif Nat.blt a 563 then (bif Nat.beq a 562 then (3, 60, 150, 0) else (0, 0, 0, 0)) else (bif Nat.beq a 563 then (3, 64, 108, 0) else (0, 0, 0, 0))) else (bif Nat.blt a 568 then (bif Nat.beq a 567 then (4, 78, 106, 0) else (0, 0, 0, 0)) else (bif Nat.beq a 568 then (11, 37, 175, 0) else (0, 0, 0, 0)))))
noncomputable def kyM_h0 (a : Nat) : Nat × Nat × Nat × Nat := (bif Nat.blt a 459 then (bif Nat.blt a 372 then (bif Nat.blt a 271 then (kyM_h0_h0 a) else (kyM_h0_h1 a)) else (bif Nat.blt a 408 then (kyM_h0_h2 a) else (kyM_h0_h3 a))) else (bif Nat.blt a 525 then (bif Nat.blt a 498 then (kyM_h0_h4 a) else (kyM_h0_h5 a)) else (bif Nat.blt a 549 then (kyM_h0_h6 a) else (kyM_h0_h7 a))))
noncomputable def kyM_h1_h0 (a : Nat) : Nat × Nat × Nat × Nat := (bif Nat.blt a 582 then (bif Nat.blt a 577 then (bif Nat.blt a 576 then (bif Nat.beq a 572 then (11, 79, 88, 0) else (0, 0, 0, 0)) else (bif Nat.beq a 576 then (11, 71, 148, 0) else (0, 0, 0, 0))) else (bif Nat.blt a 581 then (bif Nat.beq a 577 then (11, 52, 90, 0) else (0, 0, 0, 0)) else (bif Nat.beq a 581 then (11, 56, 147, 0) else (0, 0, 0, 0)))) else (bif Nat.blt a 590 then (bif Nat.blt a 586 then (bif Nat.beq a 582 then (11, 60, 174, 0) else (0, 0, 0, 0)) else (bif Nat.beq a 586 then (11, 64, 91, 0) else (0, 0, 0, 0))) else (bif Nat.blt a 591 then (bif Nat.beq a 590 then (3, 71, 88, 0) else (0, 0, 0, 0)) else (bif Nat.beq a 591 then (11, 68, 89, 0) else (0, 0, 0, 0)))))
noncomputable def kyM_h1_h1 (a : Nat) : Nat × Nat × Nat × Nat := (bif Nat.blt a 620 then (bif Nat.blt a 608 then (bif Nat.blt a 607 then (bif Nat.beq a 595 then (11, 75, 92, 0) else (0, 0, 0, 0)) else (bif Nat.beq a 607 then (1, 113, 102, 0) else (0, 0, 0, 0))) else (bif Nat.blt a 612 then (bif Nat.beq a 608 then (1, 117, 105, 0) else (0, 0, 0, 0)) else (bif Nat.beq a 612 then (1, 121, 107, 0) else (0, 0, 0, 0)))) else (bif Nat.blt a 630 then (bif Nat.blt a 625 then (bif Nat.beq a 620 then (1, 125, 106, 0) else (0, 0, 0, 0)) else (bif Nat.beq a 625 then (1, 133, 147, 0) else (0, 0, 0, 0))) else (bif Nat.blt a 631 then (bif Nat.beq a 630 then (1, 145, 103, 0) else (0, 0, 0, 0)) else (bif Nat.beq a 631 then (1, 148, 110, 0) else (0, 0, 0, 0)))))
noncomputable def kyM_h1_h2 (a : Nat) : Nat × Nat × Nat × Nat := (bif Nat.blt a 676 then (bif Nat.blt a 668 then (bif Nat.blt a 644 then (bif Nat.beq a 636 then (1, 151, 104, 0) else (0, 0, 0, 0)) else (bif Nat.beq a 644 then (1, 166, 176, 0) else (0, 0, 0, 0))) else (bif Nat.blt a 672 then (bif Nat.beq a 668 then (1, 179, 74, 0) else (0, 0, 0, 0)) else (bif Nat.beq a 672 then (1, 182, 178, 0) else (0, 0, 0, 0)))) else (bif Nat.blt a 681 then (bif Nat.blt a 680 then (bif Nat.beq a 676 then (11, 89, 177, 0) else (0, 0, 0, 0)) else (bif Nat.beq a 680 then (11, 83, 176, 0) else (0, 0, 0, 0))) else (bif Nat.blt a 682 then (bif Nat.beq a 681 then (11, 86, 108, 0) else (0, 0, 0, 0)) else (bif Nat.beq a 682 then (1, 186, 75, 0) else (0, 0, 0, 0)))))
noncomputable def kyM_h1_h3 (a : Nat) : Nat × Nat × Nat × Nat := (bif Nat.blt a 718 then (bif Nat.blt a 701 then (bif Nat.blt a 697 then (bif Nat.beq a 689 then (1, 189, 179, 0) else (0, 0, 0, 0)) else (bif Nat.beq a 697 then (1, 192, 180, 0) else (0, 0, 0, 0))) else (bif Nat.blt a 714 then (bif Nat.beq a 701 then (11, 99, 178, 0) else (0, 0, 0, 0)) else (bif Nat.beq a 714 then (1, 199, 181, 0) else (0, 0, 0, 0)))) else (bif Nat.blt a 736 then (bif Nat.blt a 732 then (bif Nat.beq a 718 then (11, 102, 344, 0) else (0, 0, 0, 0)) else (bif Nat.beq a 732 then (1, 202, 26, 0) else (0, 0, 0, 0))) else (bif Nat.blt a 757 then (bif Nat.beq a 736 then (1, 208, 177, 0) else (0, 0, 0, 0)) else (bif Nat.beq a 757 then (1, 215, 344, 0) else (0, 0, 0, 0)))))
noncomputable def kyM_h1_h4 (a : Nat) : Nat × Nat × Nat × Nat := (bif Nat.blt a 787 then (bif Nat.blt a 779 then (bif Nat.blt a 766 then (bif Nat.beq a 762 then (1, 220, 114, 0) else (0, 0, 0, 0)) else (bif Nat.beq a 766 then (4, 93, 107, 0) else (0, 0, 0, 0))) else (bif Nat.blt a 783 then (bif Nat.beq a 779 then (1, 223, 109, 0) else (0, 0, 0, 0)) else (bif Nat.beq a 783 then (1, 227, 78, 0) else (0, 0, 0, 0)))) else (bif Nat.blt a 789 then (bif Nat.blt a 788 then (bif Nat.beq a 787 then (2, 27, 176, 0) else (0, 0, 0, 0)) else (bif Nat.beq a 788 then (2, 33, 148, 0) else (0, 0, 0, 0))) else (bif Nat.blt a 790 then (bif Nat.beq a 789 then (2, 39, 147, 0) else (0, 0, 0, 0)) else (bif Nat.beq a 790 then (2, 43, 108, 0) else (0, 0, 0, 0)))))
noncomputable def kyM_h1_h5 (a : Nat) : Nat × Nat × Nat × Nat := (bif Nat.blt a 805 then (bif Nat.blt a 803 then (bif Nat.blt a 799 then (bif Nat.beq a 791 then (2, 47, 79, 0) else (0, 0, 0, 0)) else (bif Nat.beq a 799 then (1, 231, 80, 0) else (0, 0, 0, 0))) else (bif Nat.blt a 804 then (bif Nat.beq a 803 then (2, 51, 109, 0) else (0, 0, 0, 0)) else (bif Nat.beq a 804 then (2, 55, 344, 0) else (0, 0, 0, 0)))) else (bif Nat.blt a 817 then (bif Nat.blt a 806 then (bif Nat.beq a 805 then (2, 60, 78, 0) else (0, 0, 0, 0)) else (bif Nat.beq a 806 then (1, 234, 76, 0) else (0, 0, 0, 0))) else (bif Nat.blt a 821 then (bif Nat.beq a 817 then (1, 237, 101, 0) else (0, 0, 0, 0)) else (bif Nat.beq a 821 then (1, 241, 81, 0) else (0, 0, 0, 0)))))
noncomputable def kyM_h1_h6 (a : Nat) : Nat × Nat × Nat × Nat := (bif Nat.blt a 841 then (bif Nat.blt a 829 then (bif Nat.blt a 828 then (bif Nat.beq a 825 then (2, 64, 82, 0) else (0, 0, 0, 0)) else (bif Nat.beq a 828 then (2, 72, 177, 0) else (0, 0, 0, 0))) else (bif Nat.blt a 837 then (bif Nat.beq a 829 then (2, 68, 83, 0) else (0, 0, 0, 0)) else (bif Nat.beq a 837 then (1, 245, 113, 0) else (0, 0, 0, 0)))) else (bif Nat.blt a 846 then (bif Nat.blt a 845 then (bif Nat.beq a 841 then (1, 248, 93, 0) else (0, 0, 0, 0)) else (bif Nat.beq a 845 then (3, 77, 87, 0) else (0, 0, 0, 0))) else (bif Nat.blt a 847 then (bif Nat.beq a 846 then (3, 81, 90, 0) else (0, 0, 0, 0)) else (bif Nat.beq a 847 then (3, 84, 91, 0) else (0, 0, 0, 0)))))
noncomputable def kyM_h1_h7 (a : Nat) : Nat × Nat × Nat × Nat := (bif Nat.blt a 879 then (bif Nat.blt a 858 then (bif Nat.blt a 849 then (bif Nat.beq a 848 then (3, 88, 89, 0) else (0, 0, 0, 0)) else (bif Nat.beq a 849 then (3, 91, 92, 0) else (0, 0, 0, 0))) else (bif Nat.blt a 870 then (bif Nat.beq a 858 then (1, 251, 40, 0) else (0, 0, 0, 0)) else (bif Nat.beq a 870 then (1, 254, 112, 0) else (0, 0, 0, 0)))) else (bif Nat.blt a 896 then (bif Nat.blt a 888 then (bif Nat.beq a 879 then (1, 264, 148, 0) else (0, 0, 0, 0)) else (bif Nat.beq a 888 then (1, 271, 182, 0) else (0, 0, 0, 0))) else (bif Nat.blt a 900 then (bif Nat.beq a 896 then (1, 274, 183, 0) else (0, 0, 0, 0)) else (bif Nat.beq a 900 then (11, 107, 109, 0) else (0, 0, 0, 0)))))
noncomputable def kyM_h1 (a : Nat) : Nat × Nat × Nat × Nat := (bif Nat.blt a 762 then (bif Nat.blt a 636 then (bif Nat.blt a 595 then (kyM_h1_h0 a) else (kyM_h1_h1 a)) else (bif Nat.blt a 689 then (kyM_h1_h2 a) else (kyM_h1_h3 a))) else (bif Nat.blt a 825 then (bif Nat.blt a 791 then (kyM_h1_h4 a) else (kyM_h1_h5 a)) else (bif Nat.blt a 848 then (kyM_h1_h6 a) else (kyM_h1_h7 a))))
noncomputable def kyM_h2_h0 (a : Nat) : Nat × Nat × Nat × Nat := (bif Nat.blt a 922 then (bif Nat.blt a 914 then (bif Nat.blt a 910 then (bif Nat.beq a 901 then (11, 111, 182, 0) else (0, 0, 0, 0)) else (bif Nat.beq a 910 then (1, 277, 50, 0) else (0, 0, 0, 0))) else (bif Nat.blt a 918 then (bif Nat.beq a 914 then (1, 287, 160, 0) else (0, 0, 0, 0)) else (bif Nat.beq a 918 then (1, 290, 162, 0) else (0, 0, 0, 0)))) else (bif Nat.blt a 924 then (bif Nat.blt a 923 then (bif Nat.beq a 922 then (10, 26, 160, 0) else (0, 0, 0, 0)) else (bif Nat.beq a 923 then (10, 30, 147, 0) else (0, 0, 0, 0))) else (bif Nat.blt a 928 then (bif Nat.beq a 924 then (1, 293, 161, 0) else (0, 0, 0, 0)) else (bif Nat.beq a 928 then (10, 22, 162, 0) else (0, 0, 0, 0)))))
noncomputable def kyM_h2_h1 (a : Nat) : Nat × Nat × Nat × Nat := (bif Nat.blt a 944 then (bif Nat.blt a 937 then (bif Nat.blt a 933 then (bif Nat.beq a 929 then (1, 296, 170, 0) else (0, 0, 0, 0)) else (bif Nat.beq a 933 then (10, 51, 164, 0) else (0, 0, 0, 0))) else (bif Nat.blt a 941 then (bif Nat.beq a 937 then (1, 280, 154, 0) else (0, 0, 0, 0)) else (bif Nat.beq a 941 then (9, 21, 155, 0) else (0, 0, 0, 0)))) else (bif Nat.blt a 946 then (bif Nat.blt a 945 then (bif Nat.beq a 944 then (9, 31, 162, 0) else (0, 0, 0, 0)) else (bif Nat.beq a 945 then (9, 57, 164, 0) else (0, 0, 0, 0))) else (bif Nat.blt a 947 then (bif Nat.beq a 946 then (9, 25, 148, 0) else (0, 0, 0, 0)) else (bif Nat.beq a 947 then (9, 37, 342, 0) else (0, 0, 0, 0)))))
noncomputable def kyM_h2_h2 (a : Nat) : Nat × Nat × Nat × Nat := (bif Nat.blt a 962 then (bif Nat.blt a 957 then (bif Nat.blt a 953 then (bif Nat.beq a 950 then (9, 43, 341, 0) else (0, 0, 0, 0)) else (bif Nat.beq a 953 then (9, 46, 156, 0) else (0, 0, 0, 0))) else (bif Nat.blt a 961 then (bif Nat.beq a 957 then (9, 61, 157, 0) else (0, 0, 0, 0)) else (bif Nat.beq a 961 then (9, 49, 147, 0) else (0, 0, 0, 0)))) else (bif Nat.blt a 975 then (bif Nat.blt a 963 then (bif Nat.beq a 962 then (9, 65, 344, 0) else (0, 0, 0, 0)) else (bif Nat.beq a 963 then (9, 53, 158, 0) else (0, 0, 0, 0))) else (bif Nat.blt a 979 then (bif Nat.beq a 975 then (1, 300, 53, 0) else (0, 0, 0, 0)) else (bif Nat.beq a 979 then (1, 303, 116, 0) else (0, 0, 0, 0)))))
noncomputable def kyM_h2_h3 (a : Nat) : Nat × Nat × Nat × Nat := (bif Nat.blt a 989 then (bif Nat.blt a 987 then (bif Nat.blt a 986 then (bif Nat.beq a 983 then (5, 24, 117, 0) else (0, 0, 0, 0)) else (bif Nat.beq a 986 then (5, 28, 162, 0) else (0, 0, 0, 0))) else (bif Nat.blt a 988 then (bif Nat.beq a 987 then (5, 34, 106, 0) else (0, 0, 0, 0)) else (bif Nat.beq a 988 then (5, 37, 107, 0) else (0, 0, 0, 0)))) else (bif Nat.blt a 998 then (bif Nat.blt a 994 then (bif Nat.beq a 989 then (5, 41, 164, 0) else (0, 0, 0, 0)) else (bif Nat.beq a 994 then (1, 307, 118, 0) else (0, 0, 0, 0))) else (bif Nat.blt a 999 then (bif Nat.beq a 998 then (5, 45, 149, 0) else (0, 0, 0, 0)) else (bif Nat.beq a 999 then (5, 51, 148, 0) else (0, 0, 0, 0)))))
noncomputable def kyM_h2_h4 (a : Nat) : Nat × Nat × Nat × Nat := (bif Nat.blt a 1013 then (bif Nat.blt a 1004 then (bif Nat.blt a 1003 then (bif Nat.beq a 1000 then (5, 58, 119, 0) else (0, 0, 0, 0)) else (bif Nat.beq a 1003 then (5, 62, 147, 0) else (0, 0, 0, 0))) else (bif Nat.blt a 1009 then (bif Nat.beq a 1004 then (5, 66, 150, 0) else (0, 0, 0, 0)) else (bif Nat.beq a 1009 then (1, 314, 57, 0) else (0, 0, 0, 0)))) else (bif Nat.blt a 1022 then (bif Nat.blt a 1018 then (bif Nat.beq a 1013 then (1, 326, 120, 0) else (0, 0, 0, 0)) else (bif Nat.beq a 1018 then (1, 317, 121, 0) else (0, 0, 0, 0))) else (bif Nat.blt a 1027 then (bif Nat.beq a 1022 then (5, 72, 109, 0) else (0, 0, 0, 0)) else (bif Nat.beq a 1027 then (1, 320, 122, 0) else (0, 0, 0, 0)))))
noncomputable def kyM_h2_h5 (a : Nat) : Nat × Nat × Nat × Nat := (bif Nat.blt a 1046 then (bif Nat.blt a 1036 then (bif Nat.blt a 1032 then (bif Nat.beq a 1031 then (5, 76, 344, 0) else (0, 0, 0, 0)) else (bif Nat.beq a 1032 then (5, 81, 123, 0) else (0, 0, 0, 0))) else (bif Nat.blt a 1041 then (bif Nat.beq a 1036 then (5, 85, 341, 0) else (0, 0, 0, 0)) else (bif Nat.beq a 1041 then (1, 323, 123, 0) else (0, 0, 0, 0)))) else (bif Nat.blt a 1051 then (bif Nat.blt a 1050 then (bif Nat.beq a 1046 then (1, 330, 131, 0) else (0, 0, 0, 0)) else (bif Nat.beq a 1050 then (6, 69, 149, 0) else (0, 0, 0, 0))) else (bif Nat.blt a 1052 then (bif Nat.beq a 1051 then (6, 53, 147, 0) else (0, 0, 0, 0)) else (bif Nat.beq a 1052 then (6, 73, 343, 0) else (0, 0, 0, 0)))))
noncomputable def kyM_h2_h6 (a : Nat) : Nat × Nat × Nat × Nat := (bif Nat.blt a 1072 then (bif Nat.blt a 1068 then (bif Nat.blt a 1064 then (bif Nat.beq a 1055 then (6, 65, 148, 0) else (0, 0, 0, 0)) else (bif Nat.beq a 1064 then (1, 333, 125, 0) else (0, 0, 0, 0))) else (bif Nat.blt a 1071 then (bif Nat.beq a 1068 then (6, 24, 151, 0) else (0, 0, 0, 0)) else (bif Nat.beq a 1071 then (6, 33, 106, 0) else (0, 0, 0, 0)))) else (bif Nat.blt a 1077 then (bif Nat.blt a 1073 then (bif Nat.beq a 1072 then (6, 37, 342, 0) else (0, 0, 0, 0)) else (bif Nat.beq a 1073 then (6, 43, 126, 0) else (0, 0, 0, 0))) else (bif Nat.blt a 1078 then (bif Nat.beq a 1077 then (6, 50, 107, 0) else (0, 0, 0, 0)) else (bif Nat.beq a 1078 then (6, 47, 127, 0) else (0, 0, 0, 0)))))
noncomputable def kyM_h2_h7 (a : Nat) : Nat × Nat × Nat × Nat := (bif Nat.blt a 1102 then (bif Nat.blt a 1092 then (bif Nat.blt a 1088 then (bif Nat.beq a 1081 then (6, 57, 128, 0) else (0, 0, 0, 0)) else (bif Nat.beq a 1088 then (1, 336, 129, 0) else (0, 0, 0, 0))) else (bif Nat.blt a 1093 then (bif Nat.beq a 1092 then (6, 61, 125, 0) else (0, 0, 0, 0)) else (bif Nat.beq a 1093 then (1, 340, 130, 0) else (0, 0, 0, 0)))) else (bif Nat.blt a 1111 then (bif Nat.blt a 1107 then (bif Nat.beq a 1102 then (1, 349, 63, 0) else (0, 0, 0, 0)) else (bif Nat.beq a 1107 then (1, 354, 95, 0) else (0, 0, 0, 0))) else (bif Nat.blt a 1114 then (bif Nat.beq a 1111 then (3, 97, 96, 0) else (0, 0, 0, 0)) else (bif Nat.beq a 1114 then (3, 101, 94, 0) else (0, 0, 0, 0)))))
noncomputable def kyM_h2 (a : Nat) : Nat × Nat × Nat × Nat := (bif Nat.blt a 1000 then (bif Nat.blt a 950 then (bif Nat.blt a 929 then (kyM_h2_h0 a) else (kyM_h2_h1 a)) else (bif Nat.blt a 983 then (kyM_h2_h2 a) else (kyM_h2_h3 a))) else (bif Nat.blt a 1055 then (bif Nat.blt a 1031 then (kyM_h2_h4 a) else (kyM_h2_h5 a)) else (bif Nat.blt a 1081 then (kyM_h2_h6 a) else (kyM_h2_h7 a))))
noncomputable def kyM_h3_h0 (a : Nat) : Nat × Nat × Nat × Nat := (bif Nat.blt a 1141 then (bif Nat.blt a 1127 then (bif Nat.blt a 1119 then (bif Nat.beq a 1118 then (1, 358, 151, 0) else (0, 0, 0, 0)) else (bif Nat.beq a 1119 then (1, 362, 152, 0) else (0, 0, 0, 0))) else (bif Nat.blt a 1136 then (bif Nat.beq a 1127 then (1, 367, 97, 0) else (0, 0, 0, 0)) else (bif Nat.beq a 1136 then (1, 371, 88, 0) else (0, 0, 0, 0)))) else (bif Nat.blt a 1150 then (bif Nat.blt a 1146 then (bif Nat.beq a 1141 then (1, 373, 108, 0) else (0, 0, 0, 0)) else (bif Nat.beq a 1146 then (1, 376, 171, 0) else (0, 0, 0, 0))) else (bif Nat.blt a 1155 then (bif Nat.beq a 1150 then (10, 55, 161, 0) else (0, 0, 0, 0)) else (bif Nat.beq a 1155 then (1, 379, 69, 0) else (0, 0, 0, 0)))))
noncomputable def kyM_h3_h1 (a : Nat) : Nat × Nat × Nat × Nat := (bif Nat.blt a 1180 then (bif Nat.blt a 1172 then (bif Nat.blt a 1171 then (bif Nat.beq a 1167 then (1, 386, 165, 0) else (0, 0, 0, 0)) else (bif Nat.beq a 1171 then (10, 36, 148, 0) else (0, 0, 0, 0))) else (bif Nat.blt a 1176 then (bif Nat.beq a 1172 then (10, 40, 166, 0) else (0, 0, 0, 0)) else (bif Nat.beq a 1176 then (10, 44, 163, 0) else (0, 0, 0, 0)))) else (bif Nat.blt a 1192 then (bif Nat.blt a 1187 then (bif Nat.beq a 1180 then (10, 47, 167, 0) else (0, 0, 0, 0)) else (bif Nat.beq a 1187 then (1, 390, 166, 0) else (0, 0, 0, 0))) else (bif Nat.blt a 1193 then (bif Nat.beq a 1192 then (1, 394, 163, 0) else (0, 0, 0, 0)) else (bif Nat.beq a 1193 then (1, 397, 168, 0) else (0, 0, 0, 0)))))
noncomputable def kyM_h3_h2 (a : Nat) : Nat × Nat × Nat × Nat := (bif Nat.blt a 1357 then (bif Nat.blt a 1344 then (bif Nat.blt a 1321 then (bif Nat.beq a 1197 then (1, 400, 169, 0) else (0, 0, 0, 0)) else (bif Nat.beq a 1321 then (13, 85, 193, 0) else (0, 0, 0, 0))) else (bif Nat.blt a 1348 then (bif Nat.beq a 1344 then (13, 154, 213, 0) else (0, 0, 0, 0)) else (bif Nat.beq a 1348 then (13, 106, 212, 0) else (0, 0, 0, 0)))) else (bif Nat.blt a 1362 then (bif Nat.blt a 1358 then (bif Nat.beq a 1357 then (13, 127, 342, 0) else (0, 0, 0, 0)) else (bif Nat.beq a 1358 then (13, 136, 214, 0) else (0, 0, 0, 0))) else (bif Nat.blt a 1366 then (bif Nat.beq a 1362 then (13, 228, 232, 0) else (0, 0, 0, 0)) else (bif Nat.beq a 1366 then (13, 222, 225, 0) else (0, 0, 0, 0)))))
noncomputable def kyM_h3_h3 (a : Nat) : Nat × Nat × Nat × Nat := (bif Nat.blt a 1384 then (bif Nat.blt a 1379 then (bif Nat.blt a 1375 then (bif Nat.beq a 1371 then (13, 164, 218, 0) else (0, 0, 0, 0)) else (bif Nat.beq a 1375 then (13, 157, 217, 0) else (0, 0, 0, 0))) else (bif Nat.blt a 1383 then (bif Nat.beq a 1379 then (13, 150, 216, 0) else (0, 0, 0, 0)) else (bif Nat.beq a 1383 then (13, 140, 345, 0) else (0, 0, 0, 0)))) else (bif Nat.blt a 1390 then (bif Nat.blt a 1385 then (bif Nat.beq a 1384 then (13, 146, 346, 0) else (0, 0, 0, 0)) else (bif Nat.beq a 1385 then (13, 160, 215, 0) else (0, 0, 0, 0))) else (bif Nat.blt a 1394 then (bif Nat.beq a 1390 then (13, 178, 220, 0) else (0, 0, 0, 0)) else (bif Nat.beq a 1394 then (13, 168, 219, 0) else (0, 0, 0, 0)))))
noncomputable def kyM_h3_h4 (a : Nat) : Nat × Nat × Nat × Nat := (bif Nat.blt a 1424 then (bif Nat.blt a 1415 then (bif Nat.blt a 1411 then (bif Nat.beq a 1400 then (13, 225, 231, 0) else (0, 0, 0, 0)) else (bif Nat.beq a 1411 then (13, 210, 226, 0) else (0, 0, 0, 0))) else (bif Nat.blt a 1419 then (bif Nat.beq a 1415 then (13, 171, 222, 0) else (0, 0, 0, 0)) else (bif Nat.beq a 1419 then (13, 213, 228, 0) else (0, 0, 0, 0)))) else (bif Nat.blt a 1432 then (bif Nat.blt a 1428 then (bif Nat.beq a 1424 then (13, 187, 224, 0) else (0, 0, 0, 0)) else (bif Nat.beq a 1428 then (13, 216, 229, 0) else (0, 0, 0, 0))) else (bif Nat.blt a 1436 then (bif Nat.beq a 1432 then (13, 190, 223, 0) else (0, 0, 0, 0)) else (bif Nat.beq a 1436 then (13, 193, 227, 0) else (0, 0, 0, 0)))))
noncomputable def kyM_h3_h5 (a : Nat) : Nat × Nat × Nat × Nat := (bif Nat.blt a 1472 then (bif Nat.blt a 1452 then (bif Nat.blt a 1448 then (bif Nat.beq a 1440 then (13, 219, 230, 0) else (0, 0, 0, 0)) else (bif Nat.beq a 1448 then (13, 89, 199, 0) else (0, 0, 0, 0))) else (bif Nat.blt a 1456 then (bif Nat.beq a 1452 then (13, 93, 204, 0) else (0, 0, 0, 0)) else (bif Nat.beq a 1456 then (13, 290, 205, 0) else (0, 0, 0, 0)))) else (bif Nat.blt a 1484 then (bif Nat.blt a 1476 then (bif Nat.beq a 1472 then (13, 293, 201, 0) else (0, 0, 0, 0)) else (bif Nat.beq a 1476 then (13, 267, 207, 0) else (0, 0, 0, 0))) else (bif Nat.blt a 1489 then (bif Nat.beq a 1484 then (13, 296, 202, 0) else (0, 0, 0, 0)) else (bif Nat.beq a 1489 then (13, 258, 208, 0) else (0, 0, 0, 0)))))
noncomputable def kyM_h3_h6 (a : Nat) : Nat × Nat × Nat × Nat := (bif Nat.blt a 1517 then (bif Nat.blt a 1509 then (bif Nat.blt a 1505 then (bif Nat.beq a 1497 then (13, 274, 206, 0) else (0, 0, 0, 0)) else (bif Nat.beq a 1505 then (13, 301, 238, 0) else (0, 0, 0, 0))) else (bif Nat.blt a 1513 then (bif Nat.beq a 1509 then (13, 279, 237, 0) else (0, 0, 0, 0)) else (bif Nat.beq a 1513 then (13, 277, 236, 0) else (0, 0, 0, 0)))) else (bif Nat.blt a 1524 then (bif Nat.blt a 1520 then (bif Nat.beq a 1517 then (13, 255, 195, 0) else (0, 0, 0, 0)) else (bif Nat.beq a 1520 then (13, 270, 235, 0) else (0, 0, 0, 0))) else (bif Nat.blt a 1533 then (bif Nat.beq a 1524 then (13, 249, 234, 0) else (0, 0, 0, 0)) else (bif Nat.beq a 1533 then (13, 282, 239, 0) else (0, 0, 0, 0)))))
noncomputable def kyM_h3_h7 (a : Nat) : Nat × Nat × Nat × Nat := (bif Nat.blt a 1577 then (bif Nat.blt a 1561 then (bif Nat.blt a 1557 then (bif Nat.beq a 1553 then (13, 304, 200, 0) else (0, 0, 0, 0)) else (bif Nat.beq a 1557 then (13, 307, 253, 0) else (0, 0, 0, 0))) else (bif Nat.blt a 1569 then (bif Nat.beq a 1561 then (13, 286, 241, 0) else (0, 0, 0, 0)) else (bif Nat.beq a 1569 then (13, 310, 255, 0) else (0, 0, 0, 0)))) else (bif Nat.blt a 1598 then (bif Nat.blt a 1594 then (bif Nat.beq a 1577 then (13, 314, 257, 0) else (0, 0, 0, 0)) else (bif Nat.beq a 1594 then (13, 320, 261, 0) else (0, 0, 0, 0))) else (bif Nat.blt a 1609 then (bif Nat.beq a 1598 then (13, 317, 194, 0) else (0, 0, 0, 0)) else (bif Nat.beq a 1609 then (13, 326, 265, 0) else (0, 0, 0, 0)))))
noncomputable def kyM_h3 (a : Nat) : Nat × Nat × Nat × Nat := (bif Nat.blt a 1400 then (bif Nat.blt a 1197 then (bif Nat.blt a 1167 then (kyM_h3_h0 a) else (kyM_h3_h1 a)) else (bif Nat.blt a 1371 then (kyM_h3_h2 a) else (kyM_h3_h3 a))) else (bif Nat.blt a 1497 then (bif Nat.blt a 1440 then (kyM_h3_h4 a) else (kyM_h3_h5 a)) else (bif Nat.blt a 1553 then (kyM_h3_h6 a) else (kyM_h3_h7 a))))
noncomputable def kyM_h4_h0 (a : Nat) : Nat × Nat × Nat × Nat := (bif Nat.blt a 1665 then (bif Nat.blt a 1657 then (bif Nat.blt a 1641 then (bif Nat.beq a 1613 then (13, 323, 264, 0) else (0, 0, 0, 0)) else (bif Nat.beq a 1641 then (13, 329, 272, 0) else (0, 0, 0, 0))) else (bif Nat.blt a 1661 then (bif Nat.beq a 1657 then (13, 338, 209, 0) else (0, 0, 0, 0)) else (bif Nat.beq a 1661 then (13, 341, 277, 0) else (0, 0, 0, 0)))) else (bif Nat.blt a 1677 then (bif Nat.blt a 1669 then (bif Nat.beq a 1665 then (13, 335, 276, 0) else (0, 0, 0, 0)) else (bif Nat.beq a 1669 then (13, 332, 240, 0) else (0, 0, 0, 0))) else (bif Nat.blt a 1689 then (bif Nat.beq a 1677 then (13, 344, 279, 0) else (0, 0, 0, 0)) else (bif Nat.beq a 1689 then (13, 350, 198, 0) else (0, 0, 0, 0)))))
noncomputable def kyM_h4_h1 (a : Nat) : Nat × Nat × Nat × Nat := (bif Nat.blt a 1721 then (bif Nat.blt a 1705 then (bif Nat.blt a 1697 then (bif Nat.beq a 1693 then (13, 353, 282, 0) else (0, 0, 0, 0)) else (bif Nat.beq a 1697 then (13, 347, 242, 0) else (0, 0, 0, 0))) else (bif Nat.blt a 1709 then (bif Nat.beq a 1705 then (13, 356, 284, 0) else (0, 0, 0, 0)) else (bif Nat.beq a 1709 then (13, 359, 285, 0) else (0, 0, 0, 0)))) else (bif Nat.blt a 1757 then (bif Nat.blt a 1749 then (bif Nat.beq a 1721 then (13, 362, 288, 0) else (0, 0, 0, 0)) else (bif Nat.beq a 1749 then (13, 365, 295, 0) else (0, 0, 0, 0))) else (bif Nat.blt a 1769 then (bif Nat.beq a 1757 then (13, 368, 297, 0) else (0, 0, 0, 0)) else (bif Nat.beq a 1769 then (13, 382, 301, 0) else (0, 0, 0, 0)))))
noncomputable def kyM_h4_h2 (a : Nat) : Nat × Nat × Nat × Nat := (bif Nat.blt a 1798 then (bif Nat.blt a 1782 then (bif Nat.blt a 1777 then (bif Nat.beq a 1773 then (13, 371, 336, 0) else (0, 0, 0, 0)) else (bif Nat.beq a 1777 then (13, 376, 300, 0) else (0, 0, 0, 0))) else (bif Nat.blt a 1794 then (bif Nat.beq a 1782 then (13, 385, 302, 0) else (0, 0, 0, 0)) else (bif Nat.beq a 1794 then (13, 396, 305, 0) else (0, 0, 0, 0)))) else (bif Nat.blt a 1806 then (bif Nat.blt a 1802 then (bif Nat.beq a 1798 then (13, 389, 203, 0) else (0, 0, 0, 0)) else (bif Nat.beq a 1802 then (13, 400, 306, 0) else (0, 0, 0, 0))) else (bif Nat.blt a 1814 then (bif Nat.beq a 1806 then (13, 403, 307, 0) else (0, 0, 0, 0)) else (bif Nat.beq a 1814 then (13, 406, 309, 0) else (0, 0, 0, 0)))))
noncomputable def kyM_h4_h3 (a : Nat) : Nat × Nat × Nat × Nat := (bif Nat.blt a 1843 then (bif Nat.blt a 1831 then (bif Nat.blt a 1826 then (bif Nat.beq a 1818 then (13, 409, 310, 0) else (0, 0, 0, 0)) else (bif Nat.beq a 1826 then (13, 418, 312, 0) else (0, 0, 0, 0))) else (bif Nat.blt a 1835 then (bif Nat.beq a 1831 then (13, 421, 314, 0) else (0, 0, 0, 0)) else (bif Nat.beq a 1835 then (13, 415, 313, 0) else (0, 0, 0, 0)))) else (bif Nat.blt a 1851 then (bif Nat.blt a 1847 then (bif Nat.beq a 1843 then (13, 430, 317, 0) else (0, 0, 0, 0)) else (bif Nat.beq a 1847 then (13, 427, 316, 0) else (0, 0, 0, 0))) else (bif Nat.blt a 1860 then (bif Nat.beq a 1851 then (13, 424, 341, 0) else (0, 0, 0, 0)) else (bif Nat.beq a 1860 then (13, 436, 320, 0) else (0, 0, 0, 0)))))
noncomputable def kyM_h4_h4 (a : Nat) : Nat × Nat × Nat × Nat := (bif Nat.blt a 1895 then (bif Nat.blt a 1877 then (bif Nat.blt a 1873 then (bif Nat.beq a 1864 then (13, 433, 343, 0) else (0, 0, 0, 0)) else (bif Nat.beq a 1873 then (13, 442, 324, 0) else (0, 0, 0, 0))) else (bif Nat.blt a 1890 then (bif Nat.beq a 1877 then (13, 439, 323, 0) else (0, 0, 0, 0)) else (bif Nat.beq a 1890 then (13, 447, 327, 0) else (0, 0, 0, 0)))) else (bif Nat.blt a 1906 then (bif Nat.blt a 1899 then (bif Nat.beq a 1895 then (13, 452, 329, 0) else (0, 0, 0, 0)) else (bif Nat.beq a 1899 then (13, 456, 328, 0) else (0, 0, 0, 0))) else (bif Nat.blt a 1910 then (bif Nat.beq a 1906 then (13, 462, 332, 0) else (0, 0, 0, 0)) else (bif Nat.beq a 1910 then (13, 465, 331, 0) else (0, 0, 0, 0)))))
noncomputable def kyM_h4_h5 (a : Nat) : Nat × Nat × Nat × Nat := (bif Nat.beq a 1931 then (13, 471, 337, 0) else (0, 0, 0, 0))
noncomputable def kyM_h4 (a : Nat) : Nat × Nat × Nat × Nat := (bif Nat.blt a 1818 then (bif Nat.blt a 1693 then (kyM_h4_h0 a) else (bif Nat.blt a 1773 then (kyM_h4_h1 a) else (kyM_h4_h2 a))) else (bif Nat.blt a 1864 then (kyM_h4_h3 a) else (bif Nat.blt a 1931 then (kyM_h4_h4 a) else (kyM_h4_h5 a))))
noncomputable def kyM (a : Nat) : Nat × Nat × Nat × Nat := (bif Nat.blt a 901 then (bif Nat.blt a 572 then (kyM_h0 a) else (kyM_h1 a)) else (bif Nat.blt a 1118 then (kyM_h2 a) else (bif Nat.blt a 1613 then (kyM_h3 a) else (kyM_h4 a))))
noncomputable def kyI (w : Nat × Nat × Nat × Nat) (o x y z : Nat) : Bool := match w with
  | (o1, x1, y1, z1) => Nat.beq o1 (o + 1) && Nat.beq x1 x && Nat.beq y1 y && Nat.beq z1 z
noncomputable def kyFB (a o x y z : Nat) : Bool := match vwCl[y]? with
  | some (C, T, N) => Nat.blt z N && decide ((T z).1 = C) && wAt (a : Int) (Cond.fieldLink (kyC o) x C (T z).2.1 (T z).2.2.1)
  | none => false
noncomputable def kyMB (a o x y : Nat) : Bool := wAt (a : Int) (Cond.methodLink (kyC o) x (mY y))
noncomputable def kyFC (a : Nat) : Bool := match kyF a with
  | (o1, x, y, z) => bif Nat.beq o1 0 then true else kyFB a (o1 - 1) x y z
noncomputable def kyMC (a : Nat) : Bool := match kyM a with
  | (o1, x, y, _) => bif Nat.beq o1 0 then true else kyMB a (o1 - 1) x y
set_option maxRecDepth 100000 in
theorem kyFC_all : (List.range 2160).all kyFC = true := by decide +kernel
set_option maxRecDepth 100000 in
theorem kyMC_all : (List.range 2160).all kyMC = true := by decide +kernel
set_option maxRecDepth 100000 in
theorem kyO_all : (List.range 352).all (fun k => decide (mOwn k = kyC (kyO k))) = true := by decide +kernel
theorem ky_sz (o : Nat) : Nat.beq (o + 1) 0 = false := by
  cases hb : Nat.beq (o + 1) 0 with
  | false => rfl
  | true => exact absurd (Nat.eq_of_beq_eq_true hb) (Nat.succ_ne_zero o)
theorem kyI_eq {w : Nat × Nat × Nat × Nat} {o x y z : Nat} (h : kyI w o x y z = true) : w = (o + 1, x, y, z) := by
  obtain ⟨o1, x1, y1, z1⟩ := w
  have h : (Nat.beq o1 (o + 1) && Nat.beq x1 x && Nat.beq y1 y && Nat.beq z1 z) = true := h
  simp only [Bool.and_eq_true] at h
  obtain ⟨⟨⟨h1, h2⟩, h3⟩, h4⟩ := h
  rw [Nat.eq_of_beq_eq_true h1, Nat.eq_of_beq_eq_true h2, Nat.eq_of_beq_eq_true h3, Nat.eq_of_beq_eq_true h4]
theorem kyF_ok {a o x y z : Nat} (hb : Nat.blt a 2160 = true) (h : kyI (kyF a) o x y z = true) : kyFB a o x y z = true := by
  have t := List.all_eq_true.mp kyFC_all a (List.mem_range.mpr (Nat.blt_eq.mp hb))
  unfold kyFC at t
  rw [kyI_eq h] at t
  have t : (bif Nat.beq (o + 1) 0 then true else kyFB a (o + 1 - 1) x y z) = true := t
  rw [ky_sz, cond_false, Nat.add_sub_cancel] at t
  exact t
theorem kyM_ok {a o x y : Nat} (hb : Nat.blt a 2160 = true) (h : kyI (kyM a) o x y 0 = true) : kyMB a o x y = true := by
  have t := List.all_eq_true.mp kyMC_all a (List.mem_range.mpr (Nat.blt_eq.mp hb))
  unfold kyMC at t
  rw [kyI_eq h] at t
  have t : (bif Nat.beq (o + 1) 0 then true else kyMB a (o + 1 - 1) x y) = true := t
  rw [ky_sz, cond_false, Nat.add_sub_cancel] at t
  exact t
theorem kyO_eq {k : Nat} (h : k < 352) : mOwn k = kyC (kyO k) := of_decide_eq_true (List.all_eq_true.mp kyO_all k (List.mem_range.mpr h))
theorem kyA_nat {a : Int} {w : Cond} (h : wAt (a.toNat : Int) w = true) : wAt a w = true := by
  have e : ((a.toNat : Nat) : Int).toNat = a.toNat := Int.toNat_natCast _
  unfold wAt at h ⊢
  rw [e] at h
  exact h
noncomputable def kyR (k pc : Nat) : List UInt8 := (mCode k).data.toList.drop pc
theorem ky_dec {k pc n : Nat} {i : Instr} {bs : List Nat} (he : encI i = some bs) (hl : Nat.beq bs.length n = true) (h : pfU bs (kyR k pc) = true) : dec k pc i n = true := by
  unfold dec decF
  rw [he]
  show (bif Nat.beq bs.length n then pfU bs ((mCode k).data.toList.drop pc) else false) = true
  rw [hl, cond_true]
  exact h
theorem en_bp {a : Int} (h : okS 128 a = true) : encI (.bipush a) = some [16, bS 256 a] := by
  show (bif okS 128 a then some [16, bS 256 a] else none) = _
  rw [h, cond_true]
theorem en_sp {a : Int} (h : okS 32768 a = true) : encI (.sipush a) = some [17, bS 65536 a / 256, bS 65536 a % 256] := by
  show (bif okS 32768 a then some [17, bS 65536 a / 256, bS 65536 a % 256] else none) = _
  rw [h, cond_true]
theorem en_go {a : Int} (h : okS 32768 a = true) : encI (.goto a) = some [167, bS 65536 a / 256, bS 65536 a % 256] := by
  show (bif okS 32768 a then some [167, bS 65536 a / 256, bS 65536 a % 256] else none) = _
  rw [h, cond_true]
theorem en_ii {x : Nat} {a : Int} (h : okS 128 a = true) : encI (.iinc x a) = some [132, x, bS 256 a] := by
  show (bif okS 128 a then some [132, x, bS 256 a] else none) = _
  rw [h, cond_true]
theorem en_ic {a : Int} (h1 : decide (-1 ≤ a) = true) (h2 : decide (a ≤ 5) = true) : encI (.iconst a) = some [(a + 3).toNat] := by
  show (bif decide (-1 ≤ a) then bif decide (a ≤ 5) then some [(a + 3).toNat] else none else none) = _
  rw [h1, cond_true, h2, cond_true]
noncomputable def icB (c : Jvm.ClassFile.Cond) : Nat := match c with
  | .eq => 0
  | .ne => 1
  | .lt => 2
  | .ge => 3
  | .gt => 4
  | .le => 5
theorem en_if {c : Jvm.ClassFile.Cond} {a : Int} (h : okS 32768 a = true) : encI (.ifCond c a) = some [153 + icB c, bS 65536 a / 256, bS 65536 a % 256] := by
  have e : encI (.ifCond c a) = (bif okS 32768 a then some [153 + icB c, bS 65536 a / 256, bS 65536 a % 256] else none) := by cases c <;> rfl
  rw [e, h, cond_true]
theorem en_ifi {c : Jvm.ClassFile.Cond} {a : Int} (h : okS 32768 a = true) : encI (.if_icmp c a) = some [159 + icB c, bS 65536 a / 256, bS 65536 a % 256] := by
  have e : encI (.if_icmp c a) = (bif okS 32768 a then some [159 + icB c, bS 65536 a / 256, bS 65536 a % 256] else none) := by cases c <;> rfl
  rw [e, h, cond_true]
noncomputable def okF1 (bs : List UInt8) (k pc : Nat) (a : Int) (x y z : Nat) : Bool := bif Nat.beq x 0 then i32 a && (decide (-1 ≤ a) && (decide (a ≤ 5) && pfU [(a + 3).toNat] bs))
  else bif Nat.beq x 1 then i32 a && (okS 128 a && pfU [16, bS 256 a] bs && decide ((Int8.ofInt a).toInt32 = Int32.ofInt a))
  else bif Nat.beq x 2 then i32 a && (okS 32768 a && pfU [17, bS 65536 a / 256, bS 65536 a % 256] bs && decide ((Int16.ofInt a).toInt32 = Int32.ofInt a))
  else ok1 k pc a x y z
noncomputable def okF3 (bs : List UInt8) (x y : Nat) : Bool := bif Nat.beq y 0 then Nat.blt x 4 && pfU [26 + (f4 x).val] bs else pfU [21, x] bs
noncomputable def okF5 (bs : List UInt8) (x y : Nat) : Bool := bif Nat.beq y 0 then Nat.blt x 4 && pfU [42 + (f4 x).val] bs else pfU [25, x] bs
noncomputable def okF6 (bs : List UInt8) (k x y : Nat) : Bool := Nat.blt x (mML k) && (bif Nat.beq y 0 then Nat.blt x 4 && pfU [59 + (f4 x).val] bs else pfU [54, x] bs)
noncomputable def okF9 (bs : List UInt8) (k : Nat) (a : Int) (x : Nat) : Bool := Nat.blt x (mML k) && i32 a && (okS 128 a && pfU [132, x, bS 256 a] bs)
noncomputable def okF14 (bs : List UInt8) (pc : Nat) (a : Int) (x y : Nat) : Bool := (okS 32768 a && pfU [153 + icB (cnd x), bS 65536 a / 256, bS 65536 a % 256] bs) && decide ((pc : Int) + a = (y : Int)) && Nat.blt x 6
noncomputable def okF15 (bs : List UInt8) (pc : Nat) (a : Int) (x y : Nat) : Bool := (okS 32768 a && pfU [159 + icB (cnd x), bS 65536 a / 256, bS 65536 a % 256] bs) && decide ((pc : Int) + a = (y : Int)) && Nat.blt x 6
noncomputable def okF16 (bs : List UInt8) (pc : Nat) (a : Int) (y : Nat) : Bool := (okS 32768 a && pfU [167, bS 65536 a / 256, bS 65536 a % 256] bs) && decide ((pc : Int) + a = (y : Int))
noncomputable def okF17 (bs : List UInt8) (k : Nat) (a : Int) (x y z : Nat) : Bool := Nat.blt a.toNat 2160 && kyI (kyF a.toNat) (kyO k) x y z && pfU [180, x / 256, x % 256] bs
noncomputable def okF18 (bs : List UInt8) (k : Nat) (a : Int) (x y z : Nat) : Bool := Nat.blt a.toNat 2160 && kyI (kyF a.toNat) (kyO k) x y z && pfU [181, x / 256, x % 256] bs
noncomputable def okF26 (bs : List UInt8) (k : Nat) (a : Int) (x y z : Nat) : Bool := Nat.beq (mKind y) z && (Nat.blt a.toNat 2160 && kyI (kyM a.toNat) (kyO k) x y 0) && (bif Nat.beq z 0 then pfU [182, x / 256, x % 256] bs else bif Nat.beq z 1 then pfU [184, x / 256, x % 256] bs else pfU [183, x / 256, x % 256] bs)
noncomputable def okF27 (bs : List UInt8) (k pc : Nat) (a : Int) (x y z : Nat) : Bool := bif Nat.beq x 0 then pfU [172] bs && (decide (mRet k = some .int) || decide (mRet k = some .boolean)) else ok27 k pc a x y z
noncomputable def okG (bs : List UInt8) (k pc op : Nat) (a : Int) (x y z : Nat) : Bool :=
    bif Nat.beq op 0 then true
    else bif Nat.beq op 3 then okF3 bs x y
    else bif Nat.beq op 5 then okF5 bs x y
    else bif Nat.beq op 1 then okF1 bs k pc a x y z
    else bif Nat.beq op 26 then okF26 bs k a x y z
    else bif Nat.beq op 17 then okF17 bs k a x y z
    else bif Nat.beq op 27 then okF27 bs k pc a x y z
    else bif Nat.beq op 6 then okF6 bs k x y
    else bif Nat.beq op 14 then okF14 bs pc a x y
    else bif Nat.beq op 15 then okF15 bs pc a x y
    else bif Nat.beq op 16 then okF16 bs pc a y
    else bif Nat.beq op 9 then okF9 bs k a x
    else bif Nat.beq op 18 then okF18 bs k a x y z
    else okB k pc (op, a, x, y, z)
noncomputable def okF (bs : List UInt8) (k pc : Nat) (xi : XI) : Bool := okG bs k pc xi.1 xi.2.1 xi.2.2.1 xi.2.2.2.1 xi.2.2.2.2
theorem okF1_ok {k pc : Nat} {a : Int} {x y z : Nat} (h : okF1 (kyR k pc) k pc a x y z = true) : ok1 k pc a x y z = true := by
  unfold okF1 at h
  cases h0 : Nat.beq x 0 with
  | true =>
    rw [h0, cond_true, Bool.and_eq_true, Bool.and_eq_true, Bool.and_eq_true] at h
    unfold ok1
    rw [h0, cond_true, Bool.and_eq_true]
    exact ⟨h.1, ky_dec (en_ic h.2.1 h.2.2.1) rfl h.2.2.2⟩
  | false =>
    rw [h0, cond_false] at h
    cases h1 : Nat.beq x 1 with
    | true =>
      rw [h1, cond_true, Bool.and_eq_true, Bool.and_eq_true, Bool.and_eq_true] at h
      unfold ok1
      rw [h0, cond_false, h1, cond_true, Bool.and_eq_true, Bool.and_eq_true]
      exact ⟨h.1, ky_dec (en_bp h.2.1.1) rfl h.2.1.2, h.2.2⟩
    | false =>
      rw [h1, cond_false] at h
      cases h2 : Nat.beq x 2 with
      | true =>
        rw [h2, cond_true, Bool.and_eq_true, Bool.and_eq_true, Bool.and_eq_true] at h
        unfold ok1
        rw [h0, cond_false, h1, cond_false, h2, cond_true, Bool.and_eq_true, Bool.and_eq_true]
        exact ⟨h.1, ky_dec (en_sp h.2.1.1) rfl h.2.1.2, h.2.2⟩
      | false =>
        rw [h2, cond_false] at h
        exact h
theorem okF3_ok {k pc : Nat} {a : Int} {x y z : Nat} (h : okF3 (kyR k pc) x y = true) : ok3 k pc a x y z = true := by
  unfold okF3 at h
  unfold ok3
  cases hy : Nat.beq y 0 with
  | true =>
    rw [hy, cond_true, Bool.and_eq_true] at h
    rw [cond_true, Bool.and_eq_true]
    exact ⟨h.1, ky_dec (bs := [26 + (f4 x).val]) rfl rfl h.2⟩
  | false =>
    rw [hy, cond_false] at h
    rw [cond_false]
    exact ky_dec (bs := [21, x]) rfl rfl h
theorem okF5_ok {k pc : Nat} {a : Int} {x y z : Nat} (h : okF5 (kyR k pc) x y = true) : ok5 k pc a x y z = true := by
  unfold okF5 at h
  unfold ok5
  cases hy : Nat.beq y 0 with
  | true =>
    rw [hy, cond_true, Bool.and_eq_true] at h
    rw [cond_true, Bool.and_eq_true]
    exact ⟨h.1, ky_dec (bs := [42 + (f4 x).val]) rfl rfl h.2⟩
  | false =>
    rw [hy, cond_false] at h
    rw [cond_false]
    exact ky_dec (bs := [25, x]) rfl rfl h
theorem okF6_ok {k pc : Nat} {a : Int} {x y z : Nat} (h : okF6 (kyR k pc) k x y = true) : ok6 k pc a x y z = true := by
  unfold okF6 at h
  rw [Bool.and_eq_true] at h
  unfold ok6
  rw [Bool.and_eq_true]
  refine ⟨h.1, ?_⟩
  have h := h.2
  cases hy : Nat.beq y 0 with
  | true =>
    rw [hy, cond_true, Bool.and_eq_true] at h
    rw [cond_true, Bool.and_eq_true]
    exact ⟨h.1, ky_dec (bs := [59 + (f4 x).val]) rfl rfl h.2⟩
  | false =>
    rw [hy, cond_false] at h
    rw [cond_false]
    exact ky_dec (bs := [54, x]) rfl rfl h
theorem okF9_ok {k pc : Nat} {a : Int} {x y z : Nat} (h : okF9 (kyR k pc) k a x = true) : ok9 k pc a x y z = true := by
  unfold okF9 at h
  rw [Bool.and_eq_true, Bool.and_eq_true, Bool.and_eq_true] at h
  unfold ok9
  rw [Bool.and_eq_true, Bool.and_eq_true]
  exact ⟨h.1, ky_dec (en_ii h.2.1) rfl h.2.2⟩
theorem okF14_ok {k pc : Nat} {a : Int} {x y z : Nat} (h : okF14 (kyR k pc) pc a x y = true) : ok14 k pc a x y z = true := by
  unfold okF14 at h
  rw [Bool.and_eq_true, Bool.and_eq_true, Bool.and_eq_true] at h
  unfold ok14
  rw [Bool.and_eq_true, Bool.and_eq_true]
  exact ⟨⟨ky_dec (en_if h.1.1.1) rfl h.1.1.2, h.1.2⟩, h.2⟩
theorem okF15_ok {k pc : Nat} {a : Int} {x y z : Nat} (h : okF15 (kyR k pc) pc a x y = true) : ok15 k pc a x y z = true := by
  unfold okF15 at h
  rw [Bool.and_eq_true, Bool.and_eq_true, Bool.and_eq_true] at h
  unfold ok15
  rw [Bool.and_eq_true, Bool.and_eq_true]
  exact ⟨⟨ky_dec (en_ifi h.1.1.1) rfl h.1.1.2, h.1.2⟩, h.2⟩
theorem okF16_ok {k pc : Nat} {a : Int} {x y z : Nat} (h : okF16 (kyR k pc) pc a y = true) : ok16 k pc a x y z = true := by
  unfold okF16 at h
  rw [Bool.and_eq_true, Bool.and_eq_true] at h
  unfold ok16
  rw [Bool.and_eq_true]
  exact ⟨ky_dec (en_go h.1.1) rfl h.1.2, h.2⟩
theorem okF17_ok {k pc : Nat} (hk : k < 352) {a : Int} {x y z : Nat} (h : okF17 (kyR k pc) k a x y z = true) : ok17 k pc a x y z = true := by
  unfold okF17 at h
  simp only [Bool.and_eq_true] at h
  obtain ⟨⟨h1, h2⟩, h3⟩ := h
  have h3 : dec k pc (.getfield x) 3 = true := ky_dec (bs := [180, x / 256, x % 256]) rfl rfl h3
  have t := kyF_ok h1 h2
  unfold kyFB at t
  rw [← kyO_eq hk] at t
  unfold ok17
  cases hc : vwCl[y]? with
  | none => rw [hc] at t; exact t
  | some q =>
    obtain ⟨C, T, N⟩ := q
    rw [hc] at t
    have t : (Nat.blt z N && decide ((T z).1 = C) && wAt (a.toNat : Int) (Cond.fieldLink (mOwn k) x C (T z).2.1 (T z).2.2.1)) = true := t
    show (Nat.blt z N && decide ((T z).1 = C) && dec k pc (.getfield x) 3 && wAt a (Cond.fieldLink (mOwn k) x C (T z).2.1 (T z).2.2.1)) = true
    rw [Bool.and_eq_true, Bool.and_eq_true] at t
    rw [Bool.and_eq_true, Bool.and_eq_true, Bool.and_eq_true]
    exact ⟨⟨t.1, h3⟩, kyA_nat t.2⟩
theorem okF18_ok {k pc : Nat} (hk : k < 352) {a : Int} {x y z : Nat} (h : okF18 (kyR k pc) k a x y z = true) : ok18 k pc a x y z = true := by
  unfold okF18 at h
  simp only [Bool.and_eq_true] at h
  obtain ⟨⟨h1, h2⟩, h3⟩ := h
  have h3 : dec k pc (.putfield x) 3 = true := ky_dec (bs := [181, x / 256, x % 256]) rfl rfl h3
  have t := kyF_ok h1 h2
  unfold kyFB at t
  rw [← kyO_eq hk] at t
  unfold ok18
  cases hc : vwCl[y]? with
  | none => rw [hc] at t; exact t
  | some q =>
    obtain ⟨C, T, N⟩ := q
    rw [hc] at t
    have t : (Nat.blt z N && decide ((T z).1 = C) && wAt (a.toNat : Int) (Cond.fieldLink (mOwn k) x C (T z).2.1 (T z).2.2.1)) = true := t
    show (Nat.blt z N && decide ((T z).1 = C) && dec k pc (.putfield x) 3 && wAt a (Cond.fieldLink (mOwn k) x C (T z).2.1 (T z).2.2.1)) = true
    rw [Bool.and_eq_true, Bool.and_eq_true] at t
    rw [Bool.and_eq_true, Bool.and_eq_true, Bool.and_eq_true]
    exact ⟨⟨t.1, h3⟩, kyA_nat t.2⟩
theorem okF26_ok {k pc : Nat} (hk : k < 352) {a : Int} {x y z : Nat} (h : okF26 (kyR k pc) k a x y z = true) : ok26 k pc a x y z = true := by
  unfold okF26 at h
  rw [Bool.and_eq_true, Bool.and_eq_true, Bool.and_eq_true] at h
  have t := kyM_ok h.1.2.1 h.1.2.2
  unfold kyMB at t
  rw [← kyO_eq hk] at t
  unfold ok26
  rw [Bool.and_eq_true, Bool.and_eq_true]
  refine ⟨⟨h.1.1, kyA_nat t⟩, ?_⟩
  have h := h.2
  cases h0 : Nat.beq z 0 with
  | true =>
    rw [h0, cond_true] at h
    rw [cond_true]
    exact ky_dec (bs := [182, x / 256, x % 256]) rfl rfl h
  | false =>
    rw [h0, cond_false] at h
    rw [cond_false]
    cases h1 : Nat.beq z 1 with
    | true =>
      rw [h1, cond_true] at h
      rw [cond_true]
      exact ky_dec (bs := [184, x / 256, x % 256]) rfl rfl h
    | false =>
      rw [h1, cond_false] at h
      rw [cond_false]
      exact ky_dec (bs := [183, x / 256, x % 256]) rfl rfl h
theorem okF27_ok {k pc : Nat} {a : Int} {x y z : Nat} (h : okF27 (kyR k pc) k pc a x y z = true) : ok27 k pc a x y z = true := by
  unfold okF27 at h
  cases h0 : Nat.beq x 0 with
  | true =>
    rw [h0, cond_true, Bool.and_eq_true] at h
    unfold ok27
    rw [h0, cond_true, Bool.and_eq_true]
    exact ⟨ky_dec (bs := [172]) rfl rfl h.1, h.2⟩
  | false =>
    rw [h0, cond_false] at h
    exact h
theorem ky_br {b : Bool} {X Y : Bool} {P : Prop} (h : (bif b then X else Y) = true) (h1 : b = true → X = true → P) (h2 : Y = true → P) : P := by
  cases b with
  | true => exact h1 rfl h
  | false => exact h2 h
theorem okF_ok {k pc : Nat} (hk : k < 352) : ∀ {xi : XI}, okF (kyR k pc) k pc xi = true → okB k pc xi = true := by
  intro xi h
  obtain ⟨op, a, x, y, z⟩ := xi
  have h : okG (kyR k pc) k pc op a x y z = true := h
  unfold okG at h
  refine ky_br h (fun e _ => by rw [Nat.eq_of_beq_eq_true e]; rfl) (fun h => ?_)
  refine ky_br h (fun e h => by rw [Nat.eq_of_beq_eq_true e]; exact okF3_ok (a := a) (x := x) (y := y) (z := z) h) (fun h => ?_)
  refine ky_br h (fun e h => by rw [Nat.eq_of_beq_eq_true e]; exact okF5_ok (a := a) (x := x) (y := y) (z := z) h) (fun h => ?_)
  refine ky_br h (fun e h => by rw [Nat.eq_of_beq_eq_true e]; exact okF1_ok (a := a) (x := x) (y := y) (z := z) h) (fun h => ?_)
  refine ky_br h (fun e h => by rw [Nat.eq_of_beq_eq_true e]; exact okF26_ok hk (a := a) (x := x) (y := y) (z := z) h) (fun h => ?_)
  refine ky_br h (fun e h => by rw [Nat.eq_of_beq_eq_true e]; exact okF17_ok hk (a := a) (x := x) (y := y) (z := z) h) (fun h => ?_)
  refine ky_br h (fun e h => by rw [Nat.eq_of_beq_eq_true e]; exact okF27_ok (a := a) (x := x) (y := y) (z := z) h) (fun h => ?_)
  refine ky_br h (fun e h => by rw [Nat.eq_of_beq_eq_true e]; exact okF6_ok (a := a) (x := x) (y := y) (z := z) h) (fun h => ?_)
  refine ky_br h (fun e h => by rw [Nat.eq_of_beq_eq_true e]; exact okF14_ok (a := a) (x := x) (y := y) (z := z) h) (fun h => ?_)
  refine ky_br h (fun e h => by rw [Nat.eq_of_beq_eq_true e]; exact okF15_ok (a := a) (x := x) (y := y) (z := z) h) (fun h => ?_)
  refine ky_br h (fun e h => by rw [Nat.eq_of_beq_eq_true e]; exact okF16_ok (a := a) (x := x) (y := y) (z := z) h) (fun h => ?_)
  refine ky_br h (fun e h => by rw [Nat.eq_of_beq_eq_true e]; exact okF9_ok (a := a) (x := x) (y := y) (z := z) h) (fun h => ?_)
  exact ky_br h (fun e h => by rw [Nat.eq_of_beq_eq_true e]; exact okF18_ok hk (a := a) (x := x) (y := y) (z := z) h) (fun h => h)
noncomputable def kyW (k : Nat) : Nat → Nat → List UInt8 → Bool
  | 0, _, _ => true
  | n + 1, pc, bs => okF bs k pc (mI k pc) && kyW k n (pc + 1) bs.tail
theorem kyW_ok {k : Nat} : ∀ {n pc : Nat}, kyW k n pc (kyR k pc) = true → ∀ j, j < n → okF (kyR k (pc + j)) k (pc + j) (mI k (pc + j)) = true
  | 0, _, _, j, hj => by omega
  | n + 1, pc, h, j, hj => by
    have h : (okF (kyR k pc) k pc (mI k pc) && kyW k n (pc + 1) (kyR k pc).tail) = true := h
    rw [Bool.and_eq_true] at h
    have e : (kyR k pc).tail = kyR k (pc + 1) := by unfold kyR; rw [List.tail_drop]
    rw [e] at h
    cases j with
    | zero => exact h.1
    | succ j =>
      have q := kyW_ok h.2 j (by omega)
      rw [show pc + 1 + j = pc + (j + 1) by omega] at q
      exact q
noncomputable def chkM (k : Nat) : Bool := kyW k (mLen k) 0 (mCode k).data.toList
theorem chkM_ok {k pc : Nat} (h : chkM k = true) (hp : pc < mLen k) : okF (kyR k pc) k pc (mI k pc) = true := by
  have h : kyW k (mLen k) 0 (kyR k 0) = true := h
  have q := kyW_ok h pc hp
  rw [Nat.zero_add] at q
  exact q
