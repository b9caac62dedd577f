-- ===== PART A: goes FIRST, ahead of the names: the tables' words, and 'selects' of the private methods out of them =====
/-- a private method of a class that the tables say can be made, by its rows of tables_1 -/
noncomputable def lw_okq (q : MethodName × Nat) : Prop := (q.1.cls ≠ "java/lang/invoke/MethodHandle" ∧ q.1.cls ≠ "java/lang/invoke/VarHandle") ∧ Cond.instantiable q.1.cls q.2 ∈ tables_1 ∧ Cond.privateMethod q.1 ∈ tables_1 ∧ Cond.instanceMethod q.1 ∈ tables_1
theorem lw_p0 : lw_okq (⟨"HalvedNames$Tape", "runEnd", "(III)I"⟩, 6) := ⟨⟨by decide +kernel, by decide +kernel⟩, List.mem_of_getElem? (i := 35) (by decide +kernel), List.mem_of_getElem? (i := 377) (by decide +kernel), List.mem_of_getElem? (i := 378) (by decide +kernel)⟩
theorem lw_p1 : lw_okq (⟨"HalvedNames$Tape", "numberUpTo", "(I)I"⟩, 6) := ⟨⟨by decide +kernel, by decide +kernel⟩, List.mem_of_getElem? (i := 35) (by decide +kernel), List.mem_of_getElem? (i := 381) (by decide +kernel), List.mem_of_getElem? (i := 382) (by decide +kernel)⟩
theorem lw_p2 : lw_okq (⟨"HalvedNames$Reader", "readLine", "(LHalvedNames$Hill;)V"⟩, 3) := ⟨⟨by decide +kernel, by decide +kernel⟩, List.mem_of_getElem? (i := 29) (by decide +kernel), List.mem_of_getElem? (i := 386) (by decide +kernel), List.mem_of_getElem? (i := 387) (by decide +kernel)⟩
theorem lw_p3 : lw_okq (⟨"HalvedNames$Reader", "readHill", "(LHalvedNames$Hill;)V"⟩, 3) := ⟨⟨by decide +kernel, by decide +kernel⟩, List.mem_of_getElem? (i := 29) (by decide +kernel), List.mem_of_getElem? (i := 390) (by decide +kernel), List.mem_of_getElem? (i := 391) (by decide +kernel)⟩
theorem lw_p4 : lw_okq (⟨"HalvedNames$Reader", "fail", "(I)V"⟩, 3) := ⟨⟨by decide +kernel, by decide +kernel⟩, List.mem_of_getElem? (i := 29) (by decide +kernel), List.mem_of_getElem? (i := 447) (by decide +kernel), List.mem_of_getElem? (i := 448) (by decide +kernel)⟩
theorem lw_p5 : lw_okq (⟨"HalvedNames$Reader", "expectWord", "(Ljava/lang/String;)V"⟩, 3) := ⟨⟨by decide +kernel, by decide +kernel⟩, List.mem_of_getElem? (i := 29) (by decide +kernel), List.mem_of_getElem? (i := 452) (by decide +kernel), List.mem_of_getElem? (i := 453) (by decide +kernel)⟩
theorem lw_p6 : lw_okq (⟨"HalvedNames$Reader", "expectNumber", "(II)I"⟩, 3) := ⟨⟨by decide +kernel, by decide +kernel⟩, List.mem_of_getElem? (i := 29) (by decide +kernel), List.mem_of_getElem? (i := 456) (by decide +kernel), List.mem_of_getElem? (i := 457) (by decide +kernel)⟩
theorem lw_p7 : lw_okq (⟨"HalvedNames$Reader", "numberHere", "(II)I"⟩, 3) := ⟨⟨by decide +kernel, by decide +kernel⟩, List.mem_of_getElem? (i := 29) (by decide +kernel), List.mem_of_getElem? (i := 460) (by decide +kernel), List.mem_of_getElem? (i := 461) (by decide +kernel)⟩
theorem lw_p8 : lw_okq (⟨"HalvedNames$Reader", "readName", "(LHalvedNames$Hill;)V"⟩, 3) := ⟨⟨by decide +kernel, by decide +kernel⟩, List.mem_of_getElem? (i := 29) (by decide +kernel), List.mem_of_getElem? (i := 467) (by decide +kernel), List.mem_of_getElem? (i := 468) (by decide +kernel)⟩
theorem lw_p9 : lw_okq (⟨"HalvedNames$Reader", "expectFolk", "(LHalvedNames$Hill;)I"⟩, 3) := ⟨⟨by decide +kernel, by decide +kernel⟩, List.mem_of_getElem? (i := 29) (by decide +kernel), List.mem_of_getElem? (i := 475) (by decide +kernel), List.mem_of_getElem? (i := 476) (by decide +kernel)⟩
theorem lw_p10 : lw_okq (⟨"HalvedNames$Reader", "readGoes", "(LHalvedNames$Hill;)V"⟩, 3) := ⟨⟨by decide +kernel, by decide +kernel⟩, List.mem_of_getElem? (i := 29) (by decide +kernel), List.mem_of_getElem? (i := 481) (by decide +kernel), List.mem_of_getElem? (i := 482) (by decide +kernel)⟩
theorem lw_p11 : lw_okq (⟨"HalvedNames$Reader", "readKnows", "(LHalvedNames$Hill;)V"⟩, 3) := ⟨⟨by decide +kernel, by decide +kernel⟩, List.mem_of_getElem? (i := 29) (by decide +kernel), List.mem_of_getElem? (i := 487) (by decide +kernel), List.mem_of_getElem? (i := 488) (by decide +kernel)⟩
theorem lw_p12 : lw_okq (⟨"HalvedNames$Reader", "refuseAlike", "(II)V"⟩, 3) := ⟨⟨by decide +kernel, by decide +kernel⟩, List.mem_of_getElem? (i := 29) (by decide +kernel), List.mem_of_getElem? (i := 491) (by decide +kernel), List.mem_of_getElem? (i := 492) (by decide +kernel)⟩
theorem lw_p13 : lw_okq (⟨"HalvedNames$Reader", "readSays", "(LHalvedNames$Hill;)V"⟩, 3) := ⟨⟨by decide +kernel, by decide +kernel⟩, List.mem_of_getElem? (i := 29) (by decide +kernel), List.mem_of_getElem? (i := 503) (by decide +kernel), List.mem_of_getElem? (i := 504) (by decide +kernel)⟩
theorem lw_p14 : lw_okq (⟨"HalvedNames$Reader", "expectSign", "()V"⟩, 3) := ⟨⟨by decide +kernel, by decide +kernel⟩, List.mem_of_getElem? (i := 29) (by decide +kernel), List.mem_of_getElem? (i := 513) (by decide +kernel), List.mem_of_getElem? (i := 514) (by decide +kernel)⟩
theorem lw_p15 : lw_okq (⟨"HalvedNames", "settle", "()V"⟩, 13) := ⟨⟨by decide +kernel, by decide +kernel⟩, List.mem_of_getElem? (i := 21) (by decide +kernel), List.mem_of_getElem? (i := 529) (by decide +kernel), List.mem_of_getElem? (i := 530) (by decide +kernel)⟩
noncomputable def lw_privs_1 : List (MethodName × Nat) := [(⟨"HalvedNames$Tape", "runEnd", "(III)I"⟩, 6), (⟨"HalvedNames$Tape", "numberUpTo", "(I)I"⟩, 6), (⟨"HalvedNames$Reader", "readLine", "(LHalvedNames$Hill;)V"⟩, 3), (⟨"HalvedNames$Reader", "readHill", "(LHalvedNames$Hill;)V"⟩, 3), (⟨"HalvedNames$Reader", "fail", "(I)V"⟩, 3), (⟨"HalvedNames$Reader", "expectWord", "(Ljava/lang/String;)V"⟩, 3), (⟨"HalvedNames$Reader", "expectNumber", "(II)I"⟩, 3), (⟨"HalvedNames$Reader", "numberHere", "(II)I"⟩, 3), (⟨"HalvedNames$Reader", "readName", "(LHalvedNames$Hill;)V"⟩, 3), (⟨"HalvedNames$Reader", "expectFolk", "(LHalvedNames$Hill;)I"⟩, 3), (⟨"HalvedNames$Reader", "readGoes", "(LHalvedNames$Hill;)V"⟩, 3), (⟨"HalvedNames$Reader", "readKnows", "(LHalvedNames$Hill;)V"⟩, 3), (⟨"HalvedNames$Reader", "refuseAlike", "(II)V"⟩, 3), (⟨"HalvedNames$Reader", "readSays", "(LHalvedNames$Hill;)V"⟩, 3), (⟨"HalvedNames$Reader", "expectSign", "()V"⟩, 3), (⟨"HalvedNames", "settle", "()V"⟩, 13)]
theorem lw_r1 : ∀ q ∈ lw_privs_1, lw_okq q := List.forall_mem_cons.mpr ⟨lw_p0, List.forall_mem_cons.mpr ⟨lw_p1, List.forall_mem_cons.mpr ⟨lw_p2, List.forall_mem_cons.mpr ⟨lw_p3, List.forall_mem_cons.mpr ⟨lw_p4, List.forall_mem_cons.mpr ⟨lw_p5, List.forall_mem_cons.mpr ⟨lw_p6, List.forall_mem_cons.mpr ⟨lw_p7, List.forall_mem_cons.mpr ⟨lw_p8, List.forall_mem_cons.mpr ⟨lw_p9, List.forall_mem_cons.mpr ⟨lw_p10, List.forall_mem_cons.mpr ⟨lw_p11, List.forall_mem_cons.mpr ⟨lw_p12, List.forall_mem_cons.mpr ⟨lw_p13, List.forall_mem_cons.mpr ⟨lw_p14, List.forall_mem_cons.mpr ⟨lw_p15, fun _ h => absurd h List.not_mem_nil⟩⟩⟩⟩⟩⟩⟩⟩⟩⟩⟩⟩⟩⟩⟩⟩
theorem lw_p16 : lw_okq (⟨"HalvedNames$Story", "keep", "(LHalvedNames$Course;I)V"⟩, 4) := ⟨⟨by decide +kernel, by decide +kernel⟩, List.mem_of_getElem? (i := 201) (by decide +kernel), List.mem_of_getElem? (i := 569) (by decide +kernel), List.mem_of_getElem? (i := 570) (by decide +kernel)⟩
theorem lw_p17 : lw_okq (⟨"HalvedNames$Story", "tellOne", "(LHalvedNames$Hill;LHalvedNames$Course;I)V"⟩, 4) := ⟨⟨by decide +kernel, by decide +kernel⟩, List.mem_of_getElem? (i := 201) (by decide +kernel), List.mem_of_getElem? (i := 583) (by decide +kernel), List.mem_of_getElem? (i := 584) (by decide +kernel)⟩
theorem lw_p18 : lw_okq (⟨"HalvedNames", "areTwo", "(II)Z"⟩, 13) := ⟨⟨by decide +kernel, by decide +kernel⟩, List.mem_of_getElem? (i := 21) (by decide +kernel), List.mem_of_getElem? (i := 669) (by decide +kernel), List.mem_of_getElem? (i := 670) (by decide +kernel)⟩
theorem lw_p19 : lw_okq (⟨"HalvedNames", "lastOfCall", "(III)I"⟩, 13) := ⟨⟨by decide +kernel, by decide +kernel⟩, List.mem_of_getElem? (i := 21) (by decide +kernel), List.mem_of_getElem? (i := 733) (by decide +kernel), List.mem_of_getElem? (i := 734) (by decide +kernel)⟩
theorem lw_p20 : lw_okq (⟨"HalvedNames$Bidding", "gather", "(LHalvedNames$Hill;LHalvedNames$Story;I)V"⟩, 2) := ⟨⟨by decide +kernel, by decide +kernel⟩, List.mem_of_getElem? (i := 223) (by decide +kernel), List.mem_of_getElem? (i := 792) (by decide +kernel), List.mem_of_getElem? (i := 793) (by decide +kernel)⟩
theorem lw_p21 : lw_okq (⟨"HalvedNames$Bidding", "further", "(LHalvedNames$Hill;I)I"⟩, 2) := ⟨⟨by decide +kernel, by decide +kernel⟩, List.mem_of_getElem? (i := 223) (by decide +kernel), List.mem_of_getElem? (i := 830) (by decide +kernel), List.mem_of_getElem? (i := 831) (by decide +kernel)⟩
theorem lw_p22 : lw_okq (⟨"HalvedNames", "fewestHushed", "(II)I"⟩, 13) := ⟨⟨by decide +kernel, by decide +kernel⟩, List.mem_of_getElem? (i := 21) (by decide +kernel), List.mem_of_getElem? (i := 859) (by decide +kernel), List.mem_of_getElem? (i := 860) (by decide +kernel)⟩
theorem lw_p23 : lw_okq (⟨"HalvedNames", "wrongGiving", "(III)I"⟩, 13) := ⟨⟨by decide +kernel, by decide +kernel⟩, List.mem_of_getElem? (i := 21) (by decide +kernel), List.mem_of_getElem? (i := 911) (by decide +kernel), List.mem_of_getElem? (i := 912) (by decide +kernel)⟩
theorem lw_p24 : lw_okq (⟨"HalvedNames$Sharing", "fewestFor", "(II)I"⟩, 3) := ⟨⟨by decide +kernel, by decide +kernel⟩, List.mem_of_getElem? (i := 253) (by decide +kernel), List.mem_of_getElem? (i := 954) (by decide +kernel), List.mem_of_getElem? (i := 955) (by decide +kernel)⟩
theorem lw_p25 : lw_okq (⟨"HalvedNames$Sharing", "piecesWith", "(III)I"⟩, 3) := ⟨⟨by decide +kernel, by decide +kernel⟩, List.mem_of_getElem? (i := 253) (by decide +kernel), List.mem_of_getElem? (i := 958) (by decide +kernel), List.mem_of_getElem? (i := 959) (by decide +kernel)⟩
theorem lw_p26 : lw_okq (⟨"HalvedNames$Sharing", "chooseShares", "(II)V"⟩, 3) := ⟨⟨by decide +kernel, by decide +kernel⟩, List.mem_of_getElem? (i := 253) (by decide +kernel), List.mem_of_getElem? (i := 964) (by decide +kernel), List.mem_of_getElem? (i := 965) (by decide +kernel)⟩
theorem lw_p27 : lw_okq (⟨"HalvedNames", "wrongFragment", "(I)I"⟩, 13) := ⟨⟨by decide +kernel, by decide +kernel⟩, List.mem_of_getElem? (i := 21) (by decide +kernel), List.mem_of_getElem? (i := 976) (by decide +kernel), List.mem_of_getElem? (i := 977) (by decide +kernel)⟩
theorem lw_p28 : lw_okq (⟨"HalvedNames", "wrongClues", "(I)I"⟩, 13) := ⟨⟨by decide +kernel, by decide +kernel⟩, List.mem_of_getElem? (i := 21) (by decide +kernel), List.mem_of_getElem? (i := 1010) (by decide +kernel), List.mem_of_getElem? (i := 1011) (by decide +kernel)⟩
theorem lw_p29 : lw_okq (⟨"HalvedNames$Naming", "isSpelt", "(LHalvedNames$Hill;II)Z"⟩, 2) := ⟨⟨by decide +kernel, by decide +kernel⟩, List.mem_of_getElem? (i := 283) (by decide +kernel), List.mem_of_getElem? (i := 1074) (by decide +kernel), List.mem_of_getElem? (i := 1075) (by decide +kernel)⟩
theorem lw_p30 : lw_okq (⟨"HalvedNames", "tellingsTo", "(I)I"⟩, 13) := ⟨⟨by decide +kernel, by decide +kernel⟩, List.mem_of_getElem? (i := 21) (by decide +kernel), List.mem_of_getElem? (i := 1103) (by decide +kernel), List.mem_of_getElem? (i := 1104) (by decide +kernel)⟩
theorem lw_p31 : lw_okq (⟨"HalvedNames$Course", "isWholeMissing", "(LHalvedNames$Hill;III)Z"⟩, 3) := ⟨⟨by decide +kernel, by decide +kernel⟩, List.mem_of_getElem? (i := 185) (by decide +kernel), List.mem_of_getElem? (i := 1115) (by decide +kernel), List.mem_of_getElem? (i := 1116) (by decide +kernel)⟩
noncomputable def lw_privs_2 : List (MethodName × Nat) := [(⟨"HalvedNames$Story", "keep", "(LHalvedNames$Course;I)V"⟩, 4), (⟨"HalvedNames$Story", "tellOne", "(LHalvedNames$Hill;LHalvedNames$Course;I)V"⟩, 4), (⟨"HalvedNames", "areTwo", "(II)Z"⟩, 13), (⟨"HalvedNames", "lastOfCall", "(III)I"⟩, 13), (⟨"HalvedNames$Bidding", "gather", "(LHalvedNames$Hill;LHalvedNames$Story;I)V"⟩, 2), (⟨"HalvedNames$Bidding", "further", "(LHalvedNames$Hill;I)I"⟩, 2), (⟨"HalvedNames", "fewestHushed", "(II)I"⟩, 13), (⟨"HalvedNames", "wrongGiving", "(III)I"⟩, 13), (⟨"HalvedNames$Sharing", "fewestFor", "(II)I"⟩, 3), (⟨"HalvedNames$Sharing", "piecesWith", "(III)I"⟩, 3), (⟨"HalvedNames$Sharing", "chooseShares", "(II)V"⟩, 3), (⟨"HalvedNames", "wrongFragment", "(I)I"⟩, 13), (⟨"HalvedNames", "wrongClues", "(I)I"⟩, 13), (⟨"HalvedNames$Naming", "isSpelt", "(LHalvedNames$Hill;II)Z"⟩, 2), (⟨"HalvedNames", "tellingsTo", "(I)I"⟩, 13), (⟨"HalvedNames$Course", "isWholeMissing", "(LHalvedNames$Hill;III)Z"⟩, 3)]
theorem lw_r2 : ∀ q ∈ lw_privs_2, lw_okq q := List.forall_mem_cons.mpr ⟨lw_p16, List.forall_mem_cons.mpr ⟨lw_p17, List.forall_mem_cons.mpr ⟨lw_p18, List.forall_mem_cons.mpr ⟨lw_p19, List.forall_mem_cons.mpr ⟨lw_p20, List.forall_mem_cons.mpr ⟨lw_p21, List.forall_mem_cons.mpr ⟨lw_p22, List.forall_mem_cons.mpr ⟨lw_p23, List.forall_mem_cons.mpr ⟨lw_p24, List.forall_mem_cons.mpr ⟨lw_p25, List.forall_mem_cons.mpr ⟨lw_p26, List.forall_mem_cons.mpr ⟨lw_p27, List.forall_mem_cons.mpr ⟨lw_p28, List.forall_mem_cons.mpr ⟨lw_p29, List.forall_mem_cons.mpr ⟨lw_p30, List.forall_mem_cons.mpr ⟨lw_p31, fun _ h => absurd h List.not_mem_nil⟩⟩⟩⟩⟩⟩⟩⟩⟩⟩⟩⟩⟩⟩⟩⟩
theorem lw_p32 : lw_okq (⟨"HalvedNames", "imageAt", "(I)LHalvedNames$Hill;"⟩, 13) := ⟨⟨by decide +kernel, by decide +kernel⟩, List.mem_of_getElem? (i := 21) (by decide +kernel), List.mem_of_getElem? (i := 1156) (by decide +kernel), List.mem_of_getElem? (i := 1157) (by decide +kernel)⟩
theorem lw_p33 : lw_okq (⟨"HalvedNamesModel", "advance", "()V"⟩, 36) := ⟨⟨by decide +kernel, by decide +kernel⟩, List.mem_of_getElem? (i := 1202) (by decide +kernel), List.mem_of_getElem? (i := 1345) (by decide +kernel), List.mem_of_getElem? (i := 1346) (by decide +kernel)⟩
theorem lw_p34 : lw_okq (⟨"HalvedNamesModel", "see", "(I)I"⟩, 36) := ⟨⟨by decide +kernel, by decide +kernel⟩, List.mem_of_getElem? (i := 1202) (by decide +kernel), List.mem_of_getElem? (i := 1349) (by decide +kernel), List.mem_of_getElem? (i := 1350) (by decide +kernel)⟩
theorem lw_p35 : lw_okq (⟨"HalvedNamesModel", "good", "()Z"⟩, 36) := ⟨⟨by decide +kernel, by decide +kernel⟩, List.mem_of_getElem? (i := 1202) (by decide +kernel), List.mem_of_getElem? (i := 1359) (by decide +kernel), List.mem_of_getElem? (i := 1360) (by decide +kernel)⟩
theorem lw_p36 : lw_okq (⟨"HalvedNamesModel", "readLine", "()V"⟩, 36) := ⟨⟨by decide +kernel, by decide +kernel⟩, List.mem_of_getElem? (i := 1202) (by decide +kernel), List.mem_of_getElem? (i := 1363) (by decide +kernel), List.mem_of_getElem? (i := 1364) (by decide +kernel)⟩
theorem lw_p37 : lw_okq (⟨"HalvedNamesModel", "readFirst", "()V"⟩, 36) := ⟨⟨by decide +kernel, by decide +kernel⟩, List.mem_of_getElem? (i := 1202) (by decide +kernel), List.mem_of_getElem? (i := 1367) (by decide +kernel), List.mem_of_getElem? (i := 1368) (by decide +kernel)⟩
theorem lw_p38 : lw_okq (⟨"HalvedNamesModel", "needs", "(Ljava/lang/String;)V"⟩, 36) := ⟨⟨by decide +kernel, by decide +kernel⟩, List.mem_of_getElem? (i := 1202) (by decide +kernel), List.mem_of_getElem? (i := 1372) (by decide +kernel), List.mem_of_getElem? (i := 1373) (by decide +kernel)⟩
theorem lw_p39 : lw_okq (⟨"HalvedNamesModel", "takes", "(Ljava/lang/String;)Z"⟩, 36) := ⟨⟨by decide +kernel, by decide +kernel⟩, List.mem_of_getElem? (i := 1202) (by decide +kernel), List.mem_of_getElem? (i := 1376) (by decide +kernel), List.mem_of_getElem? (i := 1377) (by decide +kernel)⟩
theorem lw_p40 : lw_okq (⟨"HalvedNamesModel", "is", "(Ljava/lang/String;)Z"⟩, 36) := ⟨⟨by decide +kernel, by decide +kernel⟩, List.mem_of_getElem? (i := 1202) (by decide +kernel), List.mem_of_getElem? (i := 1380) (by decide +kernel), List.mem_of_getElem? (i := 1381) (by decide +kernel)⟩
theorem lw_p41 : lw_okq (⟨"HalvedNamesModel", "errs", "(I)V"⟩, 36) := ⟨⟨by decide +kernel, by decide +kernel⟩, List.mem_of_getElem? (i := 1202) (by decide +kernel), List.mem_of_getElem? (i := 1386) (by decide +kernel), List.mem_of_getElem? (i := 1387) (by decide +kernel)⟩
theorem lw_p42 : lw_okq (⟨"HalvedNamesModel", "told", "(Ljava/lang/String;II)I"⟩, 36) := ⟨⟨by decide +kernel, by decide +kernel⟩, List.mem_of_getElem? (i := 1202) (by decide +kernel), List.mem_of_getElem? (i := 1391) (by decide +kernel), List.mem_of_getElem? (i := 1392) (by decide +kernel)⟩
theorem lw_p43 : lw_okq (⟨"HalvedNamesModel", "number", "(II)I"⟩, 36) := ⟨⟨by decide +kernel, by decide +kernel⟩, List.mem_of_getElem? (i := 1202) (by decide +kernel), List.mem_of_getElem? (i := 1395) (by decide +kernel), List.mem_of_getElem? (i := 1396) (by decide +kernel)⟩
theorem lw_p44 : lw_okq (⟨"HalvedNamesModel", "readNext", "()V"⟩, 36) := ⟨⟨by decide +kernel, by decide +kernel⟩, List.mem_of_getElem? (i := 1202) (by decide +kernel), List.mem_of_getElem? (i := 1401) (by decide +kernel), List.mem_of_getElem? (i := 1402) (by decide +kernel)⟩
theorem lw_p45 : lw_okq (⟨"HalvedNamesModel", "readName", "()V"⟩, 36) := ⟨⟨by decide +kernel, by decide +kernel⟩, List.mem_of_getElem? (i := 1202) (by decide +kernel), List.mem_of_getElem? (i := 1412) (by decide +kernel), List.mem_of_getElem? (i := 1413) (by decide +kernel)⟩
theorem lw_p46 : lw_okq (⟨"HalvedNamesModel", "freshFolk", "()I"⟩, 36) := ⟨⟨by decide +kernel, by decide +kernel⟩, List.mem_of_getElem? (i := 1202) (by decide +kernel), List.mem_of_getElem? (i := 1416) (by decide +kernel), List.mem_of_getElem? (i := 1417) (by decide +kernel)⟩
theorem lw_p47 : lw_okq (⟨"HalvedNamesModel", "readGoes", "()V"⟩, 36) := ⟨⟨by decide +kernel, by decide +kernel⟩, List.mem_of_getElem? (i := 1202) (by decide +kernel), List.mem_of_getElem? (i := 1420) (by decide +kernel), List.mem_of_getElem? (i := 1421) (by decide +kernel)⟩
noncomputable def lw_privs_3 : List (MethodName × Nat) := [(⟨"HalvedNames", "imageAt", "(I)LHalvedNames$Hill;"⟩, 13), (⟨"HalvedNamesModel", "advance", "()V"⟩, 36), (⟨"HalvedNamesModel", "see", "(I)I"⟩, 36), (⟨"HalvedNamesModel", "good", "()Z"⟩, 36), (⟨"HalvedNamesModel", "readLine", "()V"⟩, 36), (⟨"HalvedNamesModel", "readFirst", "()V"⟩, 36), (⟨"HalvedNamesModel", "needs", "(Ljava/lang/String;)V"⟩, 36), (⟨"HalvedNamesModel", "takes", "(Ljava/lang/String;)Z"⟩, 36), (⟨"HalvedNamesModel", "is", "(Ljava/lang/String;)Z"⟩, 36), (⟨"HalvedNamesModel", "errs", "(I)V"⟩, 36), (⟨"HalvedNamesModel", "told", "(Ljava/lang/String;II)I"⟩, 36), (⟨"HalvedNamesModel", "number", "(II)I"⟩, 36), (⟨"HalvedNamesModel", "readNext", "()V"⟩, 36), (⟨"HalvedNamesModel", "readName", "()V"⟩, 36), (⟨"HalvedNamesModel", "freshFolk", "()I"⟩, 36), (⟨"HalvedNamesModel", "readGoes", "()V"⟩, 36)]
theorem lw_r3 : ∀ q ∈ lw_privs_3, lw_okq q := List.forall_mem_cons.mpr ⟨lw_p32, List.forall_mem_cons.mpr ⟨lw_p33, List.forall_mem_cons.mpr ⟨lw_p34, List.forall_mem_cons.mpr ⟨lw_p35, List.forall_mem_cons.mpr ⟨lw_p36, List.forall_mem_cons.mpr ⟨lw_p37, List.forall_mem_cons.mpr ⟨lw_p38, List.forall_mem_cons.mpr ⟨lw_p39, List.forall_mem_cons.mpr ⟨lw_p40, List.forall_mem_cons.mpr ⟨lw_p41, List.forall_mem_cons.mpr ⟨lw_p42, List.forall_mem_cons.mpr ⟨lw_p43, List.forall_mem_cons.mpr ⟨lw_p44, List.forall_mem_cons.mpr ⟨lw_p45, List.forall_mem_cons.mpr ⟨lw_p46, List.forall_mem_cons.mpr ⟨lw_p47, fun _ h => absurd h List.not_mem_nil⟩⟩⟩⟩⟩⟩⟩⟩⟩⟩⟩⟩⟩⟩⟩⟩
theorem lw_p48 : lw_okq (⟨"HalvedNamesModel", "freshHour", "()I"⟩, 36) := ⟨⟨by decide +kernel, by decide +kernel⟩, List.mem_of_getElem? (i := 1202) (by decide +kernel), List.mem_of_getElem? (i := 1425) (by decide +kernel), List.mem_of_getElem? (i := 1426) (by decide +kernel)⟩
theorem lw_p49 : lw_okq (⟨"HalvedNamesModel", "readKnows", "()V"⟩, 36) := ⟨⟨by decide +kernel, by decide +kernel⟩, List.mem_of_getElem? (i := 1202) (by decide +kernel), List.mem_of_getElem? (i := 1429) (by decide +kernel), List.mem_of_getElem? (i := 1430) (by decide +kernel)⟩
theorem lw_p50 : lw_okq (⟨"HalvedNamesModel", "freshOther", "(I)I"⟩, 36) := ⟨⟨by decide +kernel, by decide +kernel⟩, List.mem_of_getElem? (i := 1202) (by decide +kernel), List.mem_of_getElem? (i := 1433) (by decide +kernel), List.mem_of_getElem? (i := 1434) (by decide +kernel)⟩
theorem lw_p51 : lw_okq (⟨"HalvedNamesModel", "freshWhich", "(I)I"⟩, 36) := ⟨⟨by decide +kernel, by decide +kernel⟩, List.mem_of_getElem? (i := 1202) (by decide +kernel), List.mem_of_getElem? (i := 1437) (by decide +kernel), List.mem_of_getElem? (i := 1438) (by decide +kernel)⟩
theorem lw_p52 : lw_okq (⟨"HalvedNamesModel", "readSays", "()V"⟩, 36) := ⟨⟨by decide +kernel, by decide +kernel⟩, List.mem_of_getElem? (i := 1202) (by decide +kernel), List.mem_of_getElem? (i := 1441) (by decide +kernel), List.mem_of_getElem? (i := 1442) (by decide +kernel)⟩
theorem lw_p53 : lw_okq (⟨"HalvedNamesModel", "isFolk", "(I)Z"⟩, 36) := ⟨⟨by decide +kernel, by decide +kernel⟩, List.mem_of_getElem? (i := 1202) (by decide +kernel), List.mem_of_getElem? (i := 1449) (by decide +kernel), List.mem_of_getElem? (i := 1450) (by decide +kernel)⟩
theorem lw_p54 : lw_okq (⟨"HalvedNamesModel", "lengthOf", "(I)I"⟩, 36) := ⟨⟨by decide +kernel, by decide +kernel⟩, List.mem_of_getElem? (i := 1202) (by decide +kernel), List.mem_of_getElem? (i := 1453) (by decide +kernel), List.mem_of_getElem? (i := 1454) (by decide +kernel)⟩
theorem lw_p55 : lw_okq (⟨"HalvedNamesModel", "syllableOf", "(II)I"⟩, 36) := ⟨⟨by decide +kernel, by decide +kernel⟩, List.mem_of_getElem? (i := 1202) (by decide +kernel), List.mem_of_getElem? (i := 1457) (by decide +kernel), List.mem_of_getElem? (i := 1458) (by decide +kernel)⟩
theorem lw_p56 : lw_okq (⟨"HalvedNamesModel", "isHour", "(I)Z"⟩, 36) := ⟨⟨by decide +kernel, by decide +kernel⟩, List.mem_of_getElem? (i := 1202) (by decide +kernel), List.mem_of_getElem? (i := 1473) (by decide +kernel), List.mem_of_getElem? (i := 1474) (by decide +kernel)⟩
theorem lw_p57 : lw_okq (⟨"HalvedNamesModel", "placeOf", "(II)I"⟩, 36) := ⟨⟨by decide +kernel, by decide +kernel⟩, List.mem_of_getElem? (i := 1202) (by decide +kernel), List.mem_of_getElem? (i := 1477) (by decide +kernel), List.mem_of_getElem? (i := 1478) (by decide +kernel)⟩
theorem lw_p58 : lw_okq (⟨"HalvedNamesModel", "isSaying", "(I)Z"⟩, 36) := ⟨⟨by decide +kernel, by decide +kernel⟩, List.mem_of_getElem? (i := 1202) (by decide +kernel), List.mem_of_getElem? (i := 1485) (by decide +kernel), List.mem_of_getElem? (i := 1486) (by decide +kernel)⟩
theorem lw_p59 : lw_okq (⟨"HalvedNamesModel", "ofSaying", "(II)I"⟩, 36) := ⟨⟨by decide +kernel, by decide +kernel⟩, List.mem_of_getElem? (i := 1202) (by decide +kernel), List.mem_of_getElem? (i := 1490) (by decide +kernel), List.mem_of_getElem? (i := 1491) (by decide +kernel)⟩
theorem lw_p60 : lw_okq (⟨"HalvedNamesModel", "wholeOf", "(I)I"⟩, 36) := ⟨⟨by decide +kernel, by decide +kernel⟩, List.mem_of_getElem? (i := 1202) (by decide +kernel), List.mem_of_getElem? (i := 1498) (by decide +kernel), List.mem_of_getElem? (i := 1499) (by decide +kernel)⟩
theorem lw_p61 : lw_okq (⟨"HalvedNamesModel", "goAsTold", "()V"⟩, 36) := ⟨⟨by decide +kernel, by decide +kernel⟩, List.mem_of_getElem? (i := 1202) (by decide +kernel), List.mem_of_getElem? (i := 1506) (by decide +kernel), List.mem_of_getElem? (i := 1507) (by decide +kernel)⟩
theorem lw_p62 : lw_okq (⟨"HalvedNamesModel", "goOn", "()V"⟩, 36) := ⟨⟨by decide +kernel, by decide +kernel⟩, List.mem_of_getElem? (i := 1202) (by decide +kernel), List.mem_of_getElem? (i := 1510) (by decide +kernel), List.mem_of_getElem? (i := 1511) (by decide +kernel)⟩
theorem lw_p63 : lw_okq (⟨"HalvedNamesModel", "says", "(I)V"⟩, 36) := ⟨⟨by decide +kernel, by decide +kernel⟩, List.mem_of_getElem? (i := 1202) (by decide +kernel), List.mem_of_getElem? (i := 1514) (by decide +kernel), List.mem_of_getElem? (i := 1515) (by decide +kernel)⟩
noncomputable def lw_privs_4 : List (MethodName × Nat) := [(⟨"HalvedNamesModel", "freshHour", "()I"⟩, 36), (⟨"HalvedNamesModel", "readKnows", "()V"⟩, 36), (⟨"HalvedNamesModel", "freshOther", "(I)I"⟩, 36), (⟨"HalvedNamesModel", "freshWhich", "(I)I"⟩, 36), (⟨"HalvedNamesModel", "readSays", "()V"⟩, 36), (⟨"HalvedNamesModel", "isFolk", "(I)Z"⟩, 36), (⟨"HalvedNamesModel", "lengthOf", "(I)I"⟩, 36), (⟨"HalvedNamesModel", "syllableOf", "(II)I"⟩, 36), (⟨"HalvedNamesModel", "isHour", "(I)Z"⟩, 36), (⟨"HalvedNamesModel", "placeOf", "(II)I"⟩, 36), (⟨"HalvedNamesModel", "isSaying", "(I)Z"⟩, 36), (⟨"HalvedNamesModel", "ofSaying", "(II)I"⟩, 36), (⟨"HalvedNamesModel", "wholeOf", "(I)I"⟩, 36), (⟨"HalvedNamesModel", "goAsTold", "()V"⟩, 36), (⟨"HalvedNamesModel", "goOn", "()V"⟩, 36), (⟨"HalvedNamesModel", "says", "(I)V"⟩, 36)]
theorem lw_r4 : ∀ q ∈ lw_privs_4, lw_okq q := List.forall_mem_cons.mpr ⟨lw_p48, List.forall_mem_cons.mpr ⟨lw_p49, List.forall_mem_cons.mpr ⟨lw_p50, List.forall_mem_cons.mpr ⟨lw_p51, List.forall_mem_cons.mpr ⟨lw_p52, List.forall_mem_cons.mpr ⟨lw_p53, List.forall_mem_cons.mpr ⟨lw_p54, List.forall_mem_cons.mpr ⟨lw_p55, List.forall_mem_cons.mpr ⟨lw_p56, List.forall_mem_cons.mpr ⟨lw_p57, List.forall_mem_cons.mpr ⟨lw_p58, List.forall_mem_cons.mpr ⟨lw_p59, List.forall_mem_cons.mpr ⟨lw_p60, List.forall_mem_cons.mpr ⟨lw_p61, List.forall_mem_cons.mpr ⟨lw_p62, List.forall_mem_cons.mpr ⟨lw_p63, fun _ h => absurd h List.not_mem_nil⟩⟩⟩⟩⟩⟩⟩⟩⟩⟩⟩⟩⟩⟩⟩⟩
theorem lw_p64 : lw_okq (⟨"HalvedNamesModel", "hears", "(II)Z"⟩, 36) := ⟨⟨by decide +kernel, by decide +kernel⟩, List.mem_of_getElem? (i := 1202) (by decide +kernel), List.mem_of_getElem? (i := 1521) (by decide +kernel), List.mem_of_getElem? (i := 1522) (by decide +kernel)⟩
theorem lw_p65 : lw_okq (⟨"HalvedNamesModel", "draw", "()I"⟩, 36) := ⟨⟨by decide +kernel, by decide +kernel⟩, List.mem_of_getElem? (i := 1202) (by decide +kernel), List.mem_of_getElem? (i := 1525) (by decide +kernel), List.mem_of_getElem? (i := 1526) (by decide +kernel)⟩
theorem lw_p66 : lw_okq (⟨"HalvedNamesModel", "knownAhead", "(III)I"⟩, 36) := ⟨⟨by decide +kernel, by decide +kernel⟩, List.mem_of_getElem? (i := 1202) (by decide +kernel), List.mem_of_getElem? (i := 1534) (by decide +kernel), List.mem_of_getElem? (i := 1535) (by decide +kernel)⟩
theorem lw_p67 : lw_okq (⟨"HalvedNamesModel", "areTwo", "(II)Z"⟩, 36) := ⟨⟨by decide +kernel, by decide +kernel⟩, List.mem_of_getElem? (i := 1202) (by decide +kernel), List.mem_of_getElem? (i := 1554) (by decide +kernel), List.mem_of_getElem? (i := 1555) (by decide +kernel)⟩
theorem lw_p68 : lw_okq (⟨"HalvedNamesModel", "wholeAt", "(II)I"⟩, 36) := ⟨⟨by decide +kernel, by decide +kernel⟩, List.mem_of_getElem? (i := 1202) (by decide +kernel), List.mem_of_getElem? (i := 1558) (by decide +kernel), List.mem_of_getElem? (i := 1559) (by decide +kernel)⟩
theorem lw_p69 : lw_okq (⟨"HalvedNamesModel", "isWhole", "(III)Z"⟩, 36) := ⟨⟨by decide +kernel, by decide +kernel⟩, List.mem_of_getElem? (i := 1202) (by decide +kernel), List.mem_of_getElem? (i := 1562) (by decide +kernel), List.mem_of_getElem? (i := 1563) (by decide +kernel)⟩
theorem lw_p70 : lw_okq (⟨"HalvedNamesModel", "biddersBehind", "(II)I"⟩, 36) := ⟨⟨by decide +kernel, by decide +kernel⟩, List.mem_of_getElem? (i := 1202) (by decide +kernel), List.mem_of_getElem? (i := 1570) (by decide +kernel), List.mem_of_getElem? (i := 1571) (by decide +kernel)⟩
theorem lw_p71 : lw_okq (⟨"HalvedNamesModel", "firstFoe", "(I)I"⟩, 36) := ⟨⟨by decide +kernel, by decide +kernel⟩, List.mem_of_getElem? (i := 1202) (by decide +kernel), List.mem_of_getElem? (i := 1578) (by decide +kernel), List.mem_of_getElem? (i := 1579) (by decide +kernel)⟩
theorem lw_p72 : lw_okq (⟨"HalvedNamesModel", "loreOf", "(II)I"⟩, 36) := ⟨⟨by decide +kernel, by decide +kernel⟩, List.mem_of_getElem? (i := 1202) (by decide +kernel), List.mem_of_getElem? (i := 1595) (by decide +kernel), List.mem_of_getElem? (i := 1596) (by decide +kernel)⟩
theorem lw_p73 : lw_okq (⟨"HalvedNamesModel", "callFrom", "(III)I"⟩, 36) := ⟨⟨by decide +kernel, by decide +kernel⟩, List.mem_of_getElem? (i := 1202) (by decide +kernel), List.mem_of_getElem? (i := 1610) (by decide +kernel), List.mem_of_getElem? (i := 1611) (by decide +kernel)⟩
theorem lw_p74 : lw_okq (⟨"HalvedNamesModel", "areMet", "(III)Z"⟩, 36) := ⟨⟨by decide +kernel, by decide +kernel⟩, List.mem_of_getElem? (i := 1202) (by decide +kernel), List.mem_of_getElem? (i := 1614) (by decide +kernel), List.mem_of_getElem? (i := 1615) (by decide +kernel)⟩
theorem lw_p75 : lw_okq (⟨"HalvedNamesModel", "begins", "(II)Z"⟩, 36) := ⟨⟨by decide +kernel, by decide +kernel⟩, List.mem_of_getElem? (i := 1202) (by decide +kernel), List.mem_of_getElem? (i := 1642) (by decide +kernel), List.mem_of_getElem? (i := 1643) (by decide +kernel)⟩
theorem lw_p76 : lw_okq (⟨"HalvedNamesModel", "allFolk", "()I"⟩, 36) := ⟨⟨by decide +kernel, by decide +kernel⟩, List.mem_of_getElem? (i := 1202) (by decide +kernel), List.mem_of_getElem? (i := 1658) (by decide +kernel), List.mem_of_getElem? (i := 1659) (by decide +kernel)⟩
theorem lw_p77 : lw_okq (⟨"HalvedNamesModel", "bringsUnder", "(II)I"⟩, 36) := ⟨⟨by decide +kernel, by decide +kernel⟩, List.mem_of_getElem? (i := 1202) (by decide +kernel), List.mem_of_getElem? (i := 1662) (by decide +kernel), List.mem_of_getElem? (i := 1663) (by decide +kernel)⟩
theorem lw_p78 : lw_okq (⟨"HalvedNamesModel", "knowTogether", "(II)Z"⟩, 36) := ⟨⟨by decide +kernel, by decide +kernel⟩, List.mem_of_getElem? (i := 1202) (by decide +kernel), List.mem_of_getElem? (i := 1666) (by decide +kernel), List.mem_of_getElem? (i := 1667) (by decide +kernel)⟩
theorem lw_p79 : lw_okq (⟨"HalvedNamesModel", "inTheEnd", "(II)I"⟩, 36) := ⟨⟨by decide +kernel, by decide +kernel⟩, List.mem_of_getElem? (i := 1202) (by decide +kernel), List.mem_of_getElem? (i := 1670) (by decide +kernel), List.mem_of_getElem? (i := 1671) (by decide +kernel)⟩
noncomputable def lw_privs_5 : List (MethodName × Nat) := [(⟨"HalvedNamesModel", "hears", "(II)Z"⟩, 36), (⟨"HalvedNamesModel", "draw", "()I"⟩, 36), (⟨"HalvedNamesModel", "knownAhead", "(III)I"⟩, 36), (⟨"HalvedNamesModel", "areTwo", "(II)Z"⟩, 36), (⟨"HalvedNamesModel", "wholeAt", "(II)I"⟩, 36), (⟨"HalvedNamesModel", "isWhole", "(III)Z"⟩, 36), (⟨"HalvedNamesModel", "biddersBehind", "(II)I"⟩, 36), (⟨"HalvedNamesModel", "firstFoe", "(I)I"⟩, 36), (⟨"HalvedNamesModel", "loreOf", "(II)I"⟩, 36), (⟨"HalvedNamesModel", "callFrom", "(III)I"⟩, 36), (⟨"HalvedNamesModel", "areMet", "(III)Z"⟩, 36), (⟨"HalvedNamesModel", "begins", "(II)Z"⟩, 36), (⟨"HalvedNamesModel", "allFolk", "()I"⟩, 36), (⟨"HalvedNamesModel", "bringsUnder", "(II)I"⟩, 36), (⟨"HalvedNamesModel", "knowTogether", "(II)Z"⟩, 36), (⟨"HalvedNamesModel", "inTheEnd", "(II)I"⟩, 36)]
theorem lw_r5 : ∀ q ∈ lw_privs_5, lw_okq q := List.forall_mem_cons.mpr ⟨lw_p64, List.forall_mem_cons.mpr ⟨lw_p65, List.forall_mem_cons.mpr ⟨lw_p66, List.forall_mem_cons.mpr ⟨lw_p67, List.forall_mem_cons.mpr ⟨lw_p68, List.forall_mem_cons.mpr ⟨lw_p69, List.forall_mem_cons.mpr ⟨lw_p70, List.forall_mem_cons.mpr ⟨lw_p71, List.forall_mem_cons.mpr ⟨lw_p72, List.forall_mem_cons.mpr ⟨lw_p73, List.forall_mem_cons.mpr ⟨lw_p74, List.forall_mem_cons.mpr ⟨lw_p75, List.forall_mem_cons.mpr ⟨lw_p76, List.forall_mem_cons.mpr ⟨lw_p77, List.forall_mem_cons.mpr ⟨lw_p78, List.forall_mem_cons.mpr ⟨lw_p79, fun _ h => absurd h List.not_mem_nil⟩⟩⟩⟩⟩⟩⟩⟩⟩⟩⟩⟩⟩⟩⟩⟩
theorem lw_p80 : lw_okq (⟨"HalvedNamesModel", "viaOf", "(II)I"⟩, 36) := ⟨⟨by decide +kernel, by decide +kernel⟩, List.mem_of_getElem? (i := 1202) (by decide +kernel), List.mem_of_getElem? (i := 1678) (by decide +kernel), List.mem_of_getElem? (i := 1679) (by decide +kernel)⟩
theorem lw_p81 : lw_okq (⟨"HalvedNamesModel", "isHill", "()Z"⟩, 36) := ⟨⟨by decide +kernel, by decide +kernel⟩, List.mem_of_getElem? (i := 1202) (by decide +kernel), List.mem_of_getElem? (i := 1690) (by decide +kernel), List.mem_of_getElem? (i := 1691) (by decide +kernel)⟩
theorem lw_p82 : lw_okq (⟨"HalvedNamesModel", "knowsWhole", "(I)I"⟩, 36) := ⟨⟨by decide +kernel, by decide +kernel⟩, List.mem_of_getElem? (i := 1202) (by decide +kernel), List.mem_of_getElem? (i := 1694) (by decide +kernel), List.mem_of_getElem? (i := 1695) (by decide +kernel)⟩
theorem lw_p83 : lw_okq (⟨"HalvedNamesModel", "isWholeInTheEnd", "(II)Z"⟩, 36) := ⟨⟨by decide +kernel, by decide +kernel⟩, List.mem_of_getElem? (i := 1202) (by decide +kernel), List.mem_of_getElem? (i := 1698) (by decide +kernel), List.mem_of_getElem? (i := 1699) (by decide +kernel)⟩
theorem lw_p84 : lw_okq (⟨"HalvedNamesModel", "isWholeHushed", "(III)Z"⟩, 36) := ⟨⟨by decide +kernel, by decide +kernel⟩, List.mem_of_getElem? (i := 1202) (by decide +kernel), List.mem_of_getElem? (i := 1706) (by decide +kernel), List.mem_of_getElem? (i := 1707) (by decide +kernel)⟩
theorem lw_p85 : lw_okq (⟨"HalvedNamesModel", "sayingsOf", "(I)I"⟩, 36) := ⟨⟨by decide +kernel, by decide +kernel⟩, List.mem_of_getElem? (i := 1202) (by decide +kernel), List.mem_of_getElem? (i := 1710) (by decide +kernel), List.mem_of_getElem? (i := 1711) (by decide +kernel)⟩
theorem lw_p86 : lw_okq (⟨"HalvedNamesModel", "fewestHushed", "(II)I"⟩, 36) := ⟨⟨by decide +kernel, by decide +kernel⟩, List.mem_of_getElem? (i := 1202) (by decide +kernel), List.mem_of_getElem? (i := 1722) (by decide +kernel), List.mem_of_getElem? (i := 1723) (by decide +kernel)⟩
theorem lw_p87 : lw_okq (⟨"HalvedNamesModel", "haveTogether", "(III)Z"⟩, 36) := ⟨⟨by decide +kernel, by decide +kernel⟩, List.mem_of_getElem? (i := 1202) (by decide +kernel), List.mem_of_getElem? (i := 1750) (by decide +kernel), List.mem_of_getElem? (i := 1751) (by decide +kernel)⟩
theorem lw_p88 : lw_okq (⟨"HalvedNamesModel", "teamOf", "(II)I"⟩, 36) := ⟨⟨by decide +kernel, by decide +kernel⟩, List.mem_of_getElem? (i := 1202) (by decide +kernel), List.mem_of_getElem? (i := 1758) (by decide +kernel), List.mem_of_getElem? (i := 1759) (by decide +kernel)⟩
theorem lw_p89 : lw_okq (⟨"HalvedNamesModel", "asksGive", "(III)I"⟩, 36) := ⟨⟨by decide +kernel, by decide +kernel⟩, List.mem_of_getElem? (i := 1202) (by decide +kernel), List.mem_of_getElem? (i := 1770) (by decide +kernel), List.mem_of_getElem? (i := 1771) (by decide +kernel)⟩
theorem lw_p90 : lw_okq (⟨"HalvedNamesModel", "numberAt", "(II)J"⟩, 36) := ⟨⟨by decide +kernel, by decide +kernel⟩, List.mem_of_getElem? (i := 1202) (by decide +kernel), List.mem_of_getElem? (i := 1778) (by decide +kernel), List.mem_of_getElem? (i := 1779) (by decide +kernel)⟩
theorem lw_p91 : lw_okq (⟨"HalvedNamesModel", "fillGive", "(III)V"⟩, 36) := ⟨⟨by decide +kernel, by decide +kernel⟩, List.mem_of_getElem? (i := 1202) (by decide +kernel), List.mem_of_getElem? (i := 1783) (by decide +kernel), List.mem_of_getElem? (i := 1784) (by decide +kernel)⟩
theorem lw_p92 : lw_okq (⟨"HalvedNamesModel", "asksHeard", "(IZ)I"⟩, 36) := ⟨⟨by decide +kernel, by decide +kernel⟩, List.mem_of_getElem? (i := 1202) (by decide +kernel), List.mem_of_getElem? (i := 1795) (by decide +kernel), List.mem_of_getElem? (i := 1796) (by decide +kernel)⟩
theorem lw_p93 : lw_okq (⟨"HalvedNamesModel", "isSyllable", "(J)Z"⟩, 36) := ⟨⟨by decide +kernel, by decide +kernel⟩, List.mem_of_getElem? (i := 1202) (by decide +kernel), List.mem_of_getElem? (i := 1799) (by decide +kernel), List.mem_of_getElem? (i := 1800) (by decide +kernel)⟩
theorem lw_p94 : lw_okq (⟨"HalvedNamesModel", "spell", "(I)V"⟩, 36) := ⟨⟨by decide +kernel, by decide +kernel⟩, List.mem_of_getElem? (i := 1202) (by decide +kernel), List.mem_of_getElem? (i := 1803) (by decide +kernel), List.mem_of_getElem? (i := 1804) (by decide +kernel)⟩
theorem lw_p95 : lw_okq (⟨"HalvedNamesModel", "standsIn", "(I)Z"⟩, 36) := ⟨⟨by decide +kernel, by decide +kernel⟩, List.mem_of_getElem? (i := 1202) (by decide +kernel), List.mem_of_getElem? (i := 1807) (by decide +kernel), List.mem_of_getElem? (i := 1808) (by decide +kernel)⟩
noncomputable def lw_privs_6 : List (MethodName × Nat) := [(⟨"HalvedNamesModel", "viaOf", "(II)I"⟩, 36), (⟨"HalvedNamesModel", "isHill", "()Z"⟩, 36), (⟨"HalvedNamesModel", "knowsWhole", "(I)I"⟩, 36), (⟨"HalvedNamesModel", "isWholeInTheEnd", "(II)Z"⟩, 36), (⟨"HalvedNamesModel", "isWholeHushed", "(III)Z"⟩, 36), (⟨"HalvedNamesModel", "sayingsOf", "(I)I"⟩, 36), (⟨"HalvedNamesModel", "fewestHushed", "(II)I"⟩, 36), (⟨"HalvedNamesModel", "haveTogether", "(III)Z"⟩, 36), (⟨"HalvedNamesModel", "teamOf", "(II)I"⟩, 36), (⟨"HalvedNamesModel", "asksGive", "(III)I"⟩, 36), (⟨"HalvedNamesModel", "numberAt", "(II)J"⟩, 36), (⟨"HalvedNamesModel", "fillGive", "(III)V"⟩, 36), (⟨"HalvedNamesModel", "asksHeard", "(IZ)I"⟩, 36), (⟨"HalvedNamesModel", "isSyllable", "(J)Z"⟩, 36), (⟨"HalvedNamesModel", "spell", "(I)V"⟩, 36), (⟨"HalvedNamesModel", "standsIn", "(I)Z"⟩, 36)]
theorem lw_r6 : ∀ q ∈ lw_privs_6, lw_okq q := List.forall_mem_cons.mpr ⟨lw_p80, List.forall_mem_cons.mpr ⟨lw_p81, List.forall_mem_cons.mpr ⟨lw_p82, List.forall_mem_cons.mpr ⟨lw_p83, List.forall_mem_cons.mpr ⟨lw_p84, List.forall_mem_cons.mpr ⟨lw_p85, List.forall_mem_cons.mpr ⟨lw_p86, List.forall_mem_cons.mpr ⟨lw_p87, List.forall_mem_cons.mpr ⟨lw_p88, List.forall_mem_cons.mpr ⟨lw_p89, List.forall_mem_cons.mpr ⟨lw_p90, List.forall_mem_cons.mpr ⟨lw_p91, List.forall_mem_cons.mpr ⟨lw_p92, List.forall_mem_cons.mpr ⟨lw_p93, List.forall_mem_cons.mpr ⟨lw_p94, List.forall_mem_cons.mpr ⟨lw_p95, fun _ h => absurd h List.not_mem_nil⟩⟩⟩⟩⟩⟩⟩⟩⟩⟩⟩⟩⟩⟩⟩⟩
theorem lw_p96 : lw_okq (⟨"HalvedNamesModel", "namesOf", "(I)I"⟩, 36) := ⟨⟨by decide +kernel, by decide +kernel⟩, List.mem_of_getElem? (i := 1202) (by decide +kernel), List.mem_of_getElem? (i := 1815) (by decide +kernel), List.mem_of_getElem? (i := 1816) (by decide +kernel)⟩
theorem lw_p97 : lw_okq (⟨"HalvedNamesModel", "spellCode", "(II)V"⟩, 36) := ⟨⟨by decide +kernel, by decide +kernel⟩, List.mem_of_getElem? (i := 1202) (by decide +kernel), List.mem_of_getElem? (i := 1819) (by decide +kernel), List.mem_of_getElem? (i := 1820) (by decide +kernel)⟩
theorem lw_p98 : lw_okq (⟨"HalvedNamesModel", "asksGuess", "(I)I"⟩, 36) := ⟨⟨by decide +kernel, by decide +kernel⟩, List.mem_of_getElem? (i := 1202) (by decide +kernel), List.mem_of_getElem? (i := 1827) (by decide +kernel), List.mem_of_getElem? (i := 1828) (by decide +kernel)⟩
theorem lw_p99 : lw_okq (⟨"HalvedNamesModel", "guessedBy", "(I)I"⟩, 36) := ⟨⟨by decide +kernel, by decide +kernel⟩, List.mem_of_getElem? (i := 1202) (by decide +kernel), List.mem_of_getElem? (i := 1832) (by decide +kernel), List.mem_of_getElem? (i := 1833) (by decide +kernel)⟩
theorem lw_p100 : lw_okq (⟨"HalvedNamesModel", "isGuessed", "(II)Z"⟩, 36) := ⟨⟨by decide +kernel, by decide +kernel⟩, List.mem_of_getElem? (i := 1202) (by decide +kernel), List.mem_of_getElem? (i := 1836) (by decide +kernel), List.mem_of_getElem? (i := 1837) (by decide +kernel)⟩
theorem lw_p101 : lw_okq (⟨"HalvedNamesModel", "listenOf", "(I)I"⟩, 36) := ⟨⟨by decide +kernel, by decide +kernel⟩, List.mem_of_getElem? (i := 1202) (by decide +kernel), List.mem_of_getElem? (i := 1844) (by decide +kernel), List.mem_of_getElem? (i := 1845) (by decide +kernel)⟩
theorem lw_p102 : lw_okq (⟨"HalvedNamesModel", "greatestGroup", "(II)I"⟩, 36) := ⟨⟨by decide +kernel, by decide +kernel⟩, List.mem_of_getElem? (i := 1202) (by decide +kernel), List.mem_of_getElem? (i := 1848) (by decide +kernel), List.mem_of_getElem? (i := 1849) (by decide +kernel)⟩
theorem lw_p103 : lw_okq (⟨"HalvedNamesModel", "loveBy", "(III)I"⟩, 36) := ⟨⟨by decide +kernel, by decide +kernel⟩, List.mem_of_getElem? (i := 1202) (by decide +kernel), List.mem_of_getElem? (i := 1861) (by decide +kernel), List.mem_of_getElem? (i := 1862) (by decide +kernel)⟩
theorem lw_p104 : lw_okq (⟨"HalvedNamesModel", "isFree", "()Z"⟩, 36) := ⟨⟨by decide +kernel, by decide +kernel⟩, List.mem_of_getElem? (i := 1202) (by decide +kernel), List.mem_of_getElem? (i := 1874) (by decide +kernel), List.mem_of_getElem? (i := 1875) (by decide +kernel)⟩
theorem lw_p105 : lw_okq (⟨"HalvedNamesModel", "isFreeOf", "(I)Z"⟩, 36) := ⟨⟨by decide +kernel, by decide +kernel⟩, List.mem_of_getElem? (i := 1202) (by decide +kernel), List.mem_of_getElem? (i := 1878) (by decide +kernel), List.mem_of_getElem? (i := 1879) (by decide +kernel)⟩
theorem lw_p106 : lw_okq (⟨"HalvedNamesModel", "newTo", "(I)I"⟩, 36) := ⟨⟨by decide +kernel, by decide +kernel⟩, List.mem_of_getElem? (i := 1202) (by decide +kernel), List.mem_of_getElem? (i := 1891) (by decide +kernel), List.mem_of_getElem? (i := 1892) (by decide +kernel)⟩
theorem lw_p107 : lw_okq (⟨"HalvedNamesModel", "chanceOf", "(III)J"⟩, 36) := ⟨⟨by decide +kernel, by decide +kernel⟩, List.mem_of_getElem? (i := 1202) (by decide +kernel), List.mem_of_getElem? (i := 1896) (by decide +kernel), List.mem_of_getElem? (i := 1897) (by decide +kernel)⟩
theorem lw_p108 : lw_okq (⟨"HalvedNamesModel", "goDrawn", "(J)V"⟩, 36) := ⟨⟨by decide +kernel, by decide +kernel⟩, List.mem_of_getElem? (i := 1202) (by decide +kernel), List.mem_of_getElem? (i := 1911) (by decide +kernel), List.mem_of_getElem? (i := 1912) (by decide +kernel)⟩
noncomputable def lw_privs_7 : List (MethodName × Nat) := [(⟨"HalvedNamesModel", "namesOf", "(I)I"⟩, 36), (⟨"HalvedNamesModel", "spellCode", "(II)V"⟩, 36), (⟨"HalvedNamesModel", "asksGuess", "(I)I"⟩, 36), (⟨"HalvedNamesModel", "guessedBy", "(I)I"⟩, 36), (⟨"HalvedNamesModel", "isGuessed", "(II)Z"⟩, 36), (⟨"HalvedNamesModel", "listenOf", "(I)I"⟩, 36), (⟨"HalvedNamesModel", "greatestGroup", "(II)I"⟩, 36), (⟨"HalvedNamesModel", "loveBy", "(III)I"⟩, 36), (⟨"HalvedNamesModel", "isFree", "()Z"⟩, 36), (⟨"HalvedNamesModel", "isFreeOf", "(I)Z"⟩, 36), (⟨"HalvedNamesModel", "newTo", "(I)I"⟩, 36), (⟨"HalvedNamesModel", "chanceOf", "(III)J"⟩, 36), (⟨"HalvedNamesModel", "goDrawn", "(J)V"⟩, 36)]
theorem lw_r7 : ∀ q ∈ lw_privs_7, lw_okq q := List.forall_mem_cons.mpr ⟨lw_p96, List.forall_mem_cons.mpr ⟨lw_p97, List.forall_mem_cons.mpr ⟨lw_p98, List.forall_mem_cons.mpr ⟨lw_p99, List.forall_mem_cons.mpr ⟨lw_p100, List.forall_mem_cons.mpr ⟨lw_p101, List.forall_mem_cons.mpr ⟨lw_p102, List.forall_mem_cons.mpr ⟨lw_p103, List.forall_mem_cons.mpr ⟨lw_p104, List.forall_mem_cons.mpr ⟨lw_p105, List.forall_mem_cons.mpr ⟨lw_p106, List.forall_mem_cons.mpr ⟨lw_p107, List.forall_mem_cons.mpr ⟨lw_p108, fun _ h => absurd h List.not_mem_nil⟩⟩⟩⟩⟩⟩⟩⟩⟩⟩⟩⟩⟩
noncomputable def lw_privs : List (MethodName × Nat) := lw_privs_1 ++ (lw_privs_2 ++ (lw_privs_3 ++ (lw_privs_4 ++ (lw_privs_5 ++ (lw_privs_6 ++ (lw_privs_7))))))
noncomputable def lw_tbl : List Cond := k2_sels lw_privs ++ tables_1
theorem lw_privs_ok : ∀ q ∈ lw_privs, lw_okq q := by
  show ∀ q ∈ lw_privs_1 ++ (lw_privs_2 ++ (lw_privs_3 ++ (lw_privs_4 ++ (lw_privs_5 ++ (lw_privs_6 ++ (lw_privs_7)))))), lw_okq q
  exact List.forall_mem_append.mpr ⟨lw_r1, List.forall_mem_append.mpr ⟨lw_r2, List.forall_mem_append.mpr ⟨lw_r3, List.forall_mem_append.mpr ⟨lw_r4, List.forall_mem_append.mpr ⟨lw_r5, List.forall_mem_append.mpr ⟨lw_r6, lw_r7⟩⟩⟩⟩⟩⟩
noncomputable def RX0 : String := "HalvedNames$Bidding"
noncomputable def TX0 : u_T := fun k => match k with
  | 0 => ("HalvedNames$Bidding", "gathered", "[I", true)
  | _ => ("HalvedNames$Bidding", "reached", "[I", true)
noncomputable def tyX0 : Nat → FieldType := fun k => match k with
  | 0 => .array .int
  | _ => .array .int
noncomputable abbrev wsX00 : List Cond := u_ws RX0 TX0 2
theorem nmX0 : ∀ a, a < 2 → ∀ b, b < 2 → a ≠ b → (TX0 a).2.1 ≠ (TX0 b).2.1 := by decide +kernel
theorem tyX0_ok : ∀ k, k < 2 → parseFieldDescriptor (TX0 k).2.2.1 = some (tyX0 k) := by decide +kernel
noncomputable def RX1 : String := "HalvedNames$Course"
noncomputable def TX1 : u_T := fun k => match k with
  | 0 => ("HalvedNames$Course", "order", "[I", true)
  | 1 => ("HalvedNames$Course", "present", "[I", true)
  | _ => ("HalvedNames$Course", "known", "[I", true)
noncomputable def tyX1 : Nat → FieldType := fun k => match k with
  | 0 => .array .int
  | 1 => .array .int
  | _ => .array .int
noncomputable abbrev wsX10 : List Cond := u_ws RX1 TX1 3
theorem nmX1 : ∀ a, a < 3 → ∀ b, b < 3 → a ≠ b → (TX1 a).2.1 ≠ (TX1 b).2.1 := by decide +kernel
theorem tyX1_ok : ∀ k, k < 3 → parseFieldDescriptor (TX1 k).2.2.1 = some (tyX1 k) := by decide +kernel
noncomputable def RX2 : String := "HalvedNames$Hill"
noncomputable def TX2 : u_T := fun k => match k with
  | 0 => ("HalvedNames$Hill", "lines", "I", false)
  | 1 => ("HalvedNames$Hill", "syllables", "I", false)
  | 2 => ("HalvedNames$Hill", "places", "I", false)
  | 3 => ("HalvedNames$Hill", "hours", "I", false)
  | 4 => ("HalvedNames$Hill", "people", "I", false)
  | 5 => ("HalvedNames$Hill", "sayings", "I", false)
  | 6 => ("HalvedNames$Hill", "lengths", "[I", true)
  | 7 => ("HalvedNames$Hill", "names", "[I", true)
  | 8 => ("HalvedNames$Hill", "stammering", "[I", true)
  | 9 => ("HalvedNames$Hill", "deafness", "[I", true)
  | 10 => ("HalvedNames$Hill", "foes", "[I", true)
  | 11 => ("HalvedNames$Hill", "stays", "[I", true)
  | 12 => ("HalvedNames$Hill", "told", "[I", true)
  | 13 => ("HalvedNames$Hill", "who", "[I", true)
  | 14 => ("HalvedNames$Hill", "whose", "[I", true)
  | 15 => ("HalvedNames$Hill", "which", "[I", true)
  | _ => ("HalvedNames$Hill", "when", "[I", true)
noncomputable def tyX2 : Nat → FieldType := fun k => match k with
  | 0 => .int
  | 1 => .int
  | 2 => .int
  | 3 => .int
  | 4 => .int
  | 5 => .int
  | 6 => .array .int
  | 7 => .array .int
  | 8 => .array .int
  | 9 => .array .int
  | 10 => .array .int
  | 11 => .array .int
  | 12 => .array .int
  | 13 => .array .int
  | 14 => .array .int
  | 15 => .array .int
  | _ => .array .int
noncomputable abbrev wsX20 : List Cond := u_ws RX2 TX2 17
theorem nmX2 : ∀ a, a < 17 → ∀ b, b < 17 → a ≠ b → (TX2 a).2.1 ≠ (TX2 b).2.1 := by decide +kernel
theorem tyX2_ok : ∀ k, k < 17 → parseFieldDescriptor (TX2 k).2.2.1 = some (tyX2 k) := by decide +kernel
noncomputable def RX3 : String := "HalvedNames$Listening"
noncomputable def TX3 : u_T := fun k => match k with
  | 0 => ("HalvedNames$Listening", "ways", "[I", true)
  | _ => ("HalvedNames$Listening", "waysOn", "[I", true)
noncomputable def tyX3 : Nat → FieldType := fun k => match k with
  | 0 => .array .int
  | _ => .array .int
noncomputable abbrev wsX30 : List Cond := u_ws RX3 TX3 2
theorem nmX3 : ∀ a, a < 2 → ∀ b, b < 2 → a ≠ b → (TX3 a).2.1 ≠ (TX3 b).2.1 := by decide +kernel
theorem tyX3_ok : ∀ k, k < 2 → parseFieldDescriptor (TX3 k).2.2.1 = some (tyX3 k) := by decide +kernel
noncomputable def RX4 : String := "HalvedNames$Naming"
noncomputable def TX4 : u_T := fun k => match k with
  | 0 => ("HalvedNames$Naming", "spelt", "[I", true)
  | _ => ("HalvedNames$Naming", "orders", "[I", true)
noncomputable def tyX4 : Nat → FieldType := fun k => match k with
  | 0 => .array .int
  | _ => .array .int
noncomputable abbrev wsX40 : List Cond := u_ws RX4 TX4 2
theorem nmX4 : ∀ a, a < 2 → ∀ b, b < 2 → a ≠ b → (TX4 a).2.1 ≠ (TX4 b).2.1 := by decide +kernel
theorem tyX4_ok : ∀ k, k < 2 → parseFieldDescriptor (TX4 k).2.2.1 = some (tyX4 k) := by decide +kernel
noncomputable def RX5 : String := "HalvedNames$Reader"
noncomputable def TX5 : u_T := fun k => match k with
  | 0 => ("HalvedNames$Reader", "tape", "LHalvedNames$Tape;", true)
  | 1 => ("HalvedNames$Reader", "fault", "I", false)
  | _ => ("HalvedNames$Reader", "place", "I", false)
noncomputable def tyX5 : Nat → FieldType := fun k => match k with
  | 0 => .object "HalvedNames$Tape"
  | 1 => .int
  | _ => .int
noncomputable abbrev wsX50 : List Cond := u_ws RX5 TX5 3
theorem nmX5 : ∀ a, a < 3 → ∀ b, b < 3 → a ≠ b → (TX5 a).2.1 ≠ (TX5 b).2.1 := by decide +kernel
theorem tyX5_ok : ∀ k, k < 3 → parseFieldDescriptor (TX5 k).2.2.1 = some (tyX5 k) := by decide +kernel
noncomputable def RX7 : String := "HalvedNames$Sharing"
noncomputable def TX7 : u_T := fun k => match k with
  | 0 => ("HalvedNames$Sharing", "spared", "[I", true)
  | 1 => ("HalvedNames$Sharing", "fewest", "[I", true)
  | _ => ("HalvedNames$Sharing", "shares", "[I", true)
noncomputable def tyX7 : Nat → FieldType := fun k => match k with
  | 0 => .array .int
  | 1 => .array .int
  | _ => .array .int
noncomputable abbrev wsX70 : List Cond := u_ws RX7 TX7 3
theorem nmX7 : ∀ a, a < 3 → ∀ b, b < 3 → a ≠ b → (TX7 a).2.1 ≠ (TX7 b).2.1 := by decide +kernel
theorem tyX7_ok : ∀ k, k < 3 → parseFieldDescriptor (TX7 k).2.2.1 = some (tyX7 k) := by decide +kernel
noncomputable def RX8 : String := "HalvedNames$Slots"
noncomputable def TX8 : u_T := fun k => match k with
  | 0 => ("HalvedNames$Slots", "numbers", "[J", true)
  | 1 => ("HalvedNames$Slots", "widths", "[I", true)
  | _ => ("HalvedNames$Slots", "sizes", "[I", true)
noncomputable def tyX8 : Nat → FieldType := fun k => match k with
  | 0 => .array .long
  | 1 => .array .int
  | _ => .array .int
noncomputable abbrev wsX80 : List Cond := u_ws RX8 TX8 3
theorem nmX8 : ∀ a, a < 3 → ∀ b, b < 3 → a ≠ b → (TX8 a).2.1 ≠ (TX8 b).2.1 := by decide +kernel
theorem tyX8_ok : ∀ k, k < 3 → parseFieldDescriptor (TX8 k).2.2.1 = some (tyX8 k) := by decide +kernel
noncomputable def RX9 : String := "HalvedNames$Story"
noncomputable def TX9 : u_T := fun k => match k with
  | 0 => ("HalvedNames$Story", "known", "[I", true)
  | 1 => ("HalvedNames$Story", "hearers", "[I", true)
  | 2 => ("HalvedNames$Story", "learners", "[I", true)
  | _ => ("HalvedNames$Story", "uttered", "I", false)
noncomputable def tyX9 : Nat → FieldType := fun k => match k with
  | 0 => .array .int
  | 1 => .array .int
  | 2 => .array .int
  | _ => .int
noncomputable abbrev wsX90 : List Cond := u_ws RX9 TX9 4
theorem nmX9 : ∀ a, a < 4 → ∀ b, b < 4 → a ≠ b → (TX9 a).2.1 ≠ (TX9 b).2.1 := by decide +kernel
theorem tyX9_ok : ∀ k, k < 4 → parseFieldDescriptor (TX9 k).2.2.1 = some (tyX9 k) := by decide +kernel
noncomputable def RX10 : String := "HalvedNames$Tape"
noncomputable def TX10 : u_T := fun k => match k with
  | 0 => ("HalvedNames$Tape", "bytes", "[B", true)
  | 1 => ("HalvedNames$Tape", "size", "I", false)
  | 2 => ("HalvedNames$Tape", "kind", "I", false)
  | 3 => ("HalvedNames$Tape", "start", "I", false)
  | 4 => ("HalvedNames$Tape", "stop", "I", false)
  | _ => ("HalvedNames$Tape", "number", "I", false)
noncomputable def tyX10 : Nat → FieldType := fun k => match k with
  | 0 => .array .byte
  | 1 => .int
  | 2 => .int
  | 3 => .int
  | 4 => .int
  | _ => .int
noncomputable abbrev wsX100 : List Cond := u_ws RX10 TX10 6
theorem nmX10 : ∀ a, a < 6 → ∀ b, b < 6 → a ≠ b → (TX10 a).2.1 ≠ (TX10 b).2.1 := by decide +kernel
theorem tyX10_ok : ∀ k, k < 6 → parseFieldDescriptor (TX10 k).2.2.1 = some (tyX10 k) := by decide +kernel
noncomputable def RX11 : String := "HalvedNames"
noncomputable def TX11 : u_T := fun k => match k with
  | 0 => ("HalvedNames", "reader", "LHalvedNames$Reader;", true)
  | 1 => ("HalvedNames", "tape", "LHalvedNames$Tape;", true)
  | 2 => ("HalvedNames", "hill", "LHalvedNames$Hill;", true)
  | 3 => ("HalvedNames", "draft", "LHalvedNames$Hill;", true)
  | 4 => ("HalvedNames", "course", "LHalvedNames$Course;", true)
  | 5 => ("HalvedNames", "story", "LHalvedNames$Story;", true)
  | 6 => ("HalvedNames", "bidding", "LHalvedNames$Bidding;", true)
  | 7 => ("HalvedNames", "slots", "LHalvedNames$Slots;", true)
  | 8 => ("HalvedNames", "sharing", "LHalvedNames$Sharing;", true)
  | 9 => ("HalvedNames", "listening", "LHalvedNames$Listening;", true)
  | 10 => ("HalvedNames", "naming", "LHalvedNames$Naming;", true)
  | 11 => ("HalvedNames", "images", "[LHalvedNames$Hill;", true)
  | _ => ("HalvedNames", "kept", "I", false)
noncomputable def tyX11 : Nat → FieldType := fun k => match k with
  | 0 => .object "HalvedNames$Reader"
  | 1 => .object "HalvedNames$Tape"
  | 2 => .object "HalvedNames$Hill"
  | 3 => .object "HalvedNames$Hill"
  | 4 => .object "HalvedNames$Course"
  | 5 => .object "HalvedNames$Story"
  | 6 => .object "HalvedNames$Bidding"
  | 7 => .object "HalvedNames$Slots"
  | 8 => .object "HalvedNames$Sharing"
  | 9 => .object "HalvedNames$Listening"
  | 10 => .object "HalvedNames$Naming"
  | 11 => .array (.object "HalvedNames$Hill")
  | _ => .int
noncomputable abbrev wsX110 : List Cond := u_ws RX11 TX11 13
theorem nmX11 : ∀ a, a < 13 → ∀ b, b < 13 → a ≠ b → (TX11 a).2.1 ≠ (TX11 b).2.1 := by decide +kernel
theorem tyX11_ok : ∀ k, k < 13 → parseFieldDescriptor (TX11 k).2.2.1 = some (tyX11 k) := by decide +kernel
noncomputable def RX12 : String := "HalvedNamesModel"
noncomputable def TX12 : u_T := fun k => match k with
  | 0 => ("HalvedNamesModel", "thrown", "I", false)
  | 1 => ("HalvedNamesModel", "world", "[I", true)
  | 2 => ("HalvedNamesModel", "images", "[I", true)
  | 3 => ("HalvedNamesModel", "hasImage", "[Z", true)
  | 4 => ("HalvedNamesModel", "tape", "[B", true)
  | 5 => ("HalvedNamesModel", "taped", "I", false)
  | 6 => ("HalvedNamesModel", "five", "[I", true)
  | 7 => ("HalvedNamesModel", "size", "I", false)
  | 8 => ("HalvedNamesModel", "at", "I", false)
  | 9 => ("HalvedNamesModel", "from", "I", false)
  | 10 => ("HalvedNamesModel", "token", "I", false)
  | 11 => ("HalvedNamesModel", "value", "I", false)
  | 12 => ("HalvedNamesModel", "faultKind", "I", false)
  | 13 => ("HalvedNamesModel", "faultPlace", "I", false)
  | 14 => ("HalvedNamesModel", "fresh", "[I", true)
  | 15 => ("HalvedNamesModel", "toldPlace", "[I", true)
  | 16 => ("HalvedNamesModel", "known", "[I", true)
  | 17 => ("HalvedNamesModel", "now", "[I", true)
  | 18 => ("HalvedNamesModel", "saidSet", "I", false)
  | 19 => ("HalvedNamesModel", "heardBy", "[I", true)
  | 20 => ("HalvedNamesModel", "learntBy", "[I", true)
  | 21 => ("HalvedNamesModel", "hushedNow", "I", false)
  | 22 => ("HalvedNamesModel", "deafOne", "I", false)
  | 23 => ("HalvedNamesModel", "misheard", "I", false)
  | 24 => ("HalvedNamesModel", "isDrawn", "Z", false)
  | 25 => ("HalvedNamesModel", "drawn", "J", false)
  | 26 => ("HalvedNamesModel", "isGift", "[Z", true)
  | 27 => ("HalvedNamesModel", "lacks", "[I", true)
  | 28 => ("HalvedNamesModel", "pieces", "[I", true)
  | 29 => ("HalvedNamesModel", "spelled", "[I", true)
  | 30 => ("HalvedNamesModel", "spelledMany", "I", false)
  | 31 => ("HalvedNamesModel", "orders", "[I", true)
  | 32 => ("HalvedNamesModel", "many", "[I", true)
  | 33 => ("HalvedNamesModel", "width", "[I", true)
  | 34 => ("HalvedNamesModel", "numbers", "[J", true)
  | _ => ("HalvedNamesModel", "moving", "[J", true)
noncomputable def tyX12 : Nat → FieldType := fun k => match k with
  | 0 => .int
  | 1 => .array .int
  | 2 => .array .int
  | 3 => .array .boolean
  | 4 => .array .byte
  | 5 => .int
  | 6 => .array .int
  | 7 => .int
  | 8 => .int
  | 9 => .int
  | 10 => .int
  | 11 => .int
  | 12 => .int
  | 13 => .int
  | 14 => .array .int
  | 15 => .array .int
  | 16 => .array .int
  | 17 => .array .int
  | 18 => .int
  | 19 => .array .int
  | 20 => .array .int
  | 21 => .int
  | 22 => .int
  | 23 => .int
  | 24 => .boolean
  | 25 => .long
  | 26 => .array .boolean
  | 27 => .array .int
  | 28 => .array .int
  | 29 => .array .int
  | 30 => .int
  | 31 => .array .int
  | 32 => .array .int
  | 33 => .array .int
  | 34 => .array .long
  | _ => .array .long
noncomputable abbrev wsX120 : List Cond := u_ws RX12 TX12 36
theorem nmX12 : ∀ a, a < 36 → ∀ b, b < 36 → a ≠ b → (TX12 a).2.1 ≠ (TX12 b).2.1 := by decide +kernel
theorem tyX12_ok : ∀ k, k < 36 → parseFieldDescriptor (TX12 k).2.2.1 = some (tyX12 k) := by decide +kernel
noncomputable abbrev vwCl : List vw_C := [(RX0, TX0, 2), (RX1, TX1, 3), (RX2, TX2, 17), (RX3, TX3, 2), (RX4, TX4, 2), (RX5, TX5, 3), (RX7, TX7, 3), (RX8, TX8, 3), (RX9, TX9, 4), (RX10, TX10, 6), (RX11, TX11, 13), (RX12, TX12, 36)]
noncomputable def gtb : List Cond := lw_tbl.filter goodWord
noncomputable def tch (i : Nat) : List Cond := bif Nat.blt i 240 then tables_1_1 else (bif Nat.blt i 480 then tables_1_2 else (bif Nat.blt i 720 then tables_1_3 else (bif Nat.blt i 960 then tables_1_4 else (bif Nat.blt i 1200 then tables_1_5 else (bif Nat.blt i 1440 then tables_1_6 else (bif Nat.blt i 1680 then tables_1_7 else (bif Nat.blt i 1920 then tables_1_8 else (tables_1_9))))))))
theorem tbl_in {w : Cond} (h : w ∈ tables_1) : w ∈ lw_tbl := by unfold lw_tbl; exact List.mem_append_right _ h
theorem tch_in {i : Nat} {w : Cond} (h : w ∈ tch i) : w ∈ tables_1 := by
  unfold tch at h
  unfold tables_1
  cases h1 : Nat.blt i 240 with
  | true => rw [h1, cond_true] at h; simp [h]
  | false =>
  rw [h1, cond_false] at h
  cases h2 : Nat.blt i 480 with
  | true => rw [h2, cond_true] at h; simp [h]
  | false =>
  rw [h2, cond_false] at h
  cases h3 : Nat.blt i 720 with
  | true => rw [h3, cond_true] at h; simp [h]
  | false =>
  rw [h3, cond_false] at h
  cases h4 : Nat.blt i 960 with
  | true => rw [h4, cond_true] at h; simp [h]
  | false =>
  rw [h4, cond_false] at h
  cases h5 : Nat.blt i 1200 with
  | true => rw [h5, cond_true] at h; simp [h]
  | false =>
  rw [h5, cond_false] at h
  cases h6 : Nat.blt i 1440 with
  | true => rw [h6, cond_true] at h; simp [h]
  | false =>
  rw [h6, cond_false] at h
  cases h7 : Nat.blt i 1680 with
  | true => rw [h7, cond_true] at h; simp [h]
  | false =>
  rw [h7, cond_false] at h
  cases h8 : Nat.blt i 1920 with
  | true => rw [h8, cond_true] at h; simp [h]
  | false =>
  rw [h8, cond_false] at h
  simp [h]
noncomputable def ixA : List Cond → List Nat → Bool
  | [], _ => true
  | w :: t, ix => match ix with
    | [] => false
    | i :: r => decide ((tch i)[i % 240]? = some w) && ixA t r
theorem ixA_ok : ∀ {ws : List Cond} {ix : List Nat}, ixA ws ix = true → ∀ w ∈ ws, w ∈ lw_tbl
  | [], _, _, w, hw => by cases hw
  | v :: t, [], h, w, hw => by cases h
  | v :: t, i :: r, h, w, hw => by
    have h : (decide ((tch i)[i % 240]? = some v) && ixA t r) = true := h
    rw [Bool.and_eq_true] at h
    rcases List.mem_cons.mp hw with e | hw
    · rw [e]
      exact tbl_in (tch_in (List.mem_of_getElem? (of_decide_eq_true h.1)))
    · exact ixA_ok h.2 w hw
set_option maxRecDepth 100000 in
theorem im_X0 : ∀ w ∈ wsX00, w ∈ lw_tbl := ixA_ok (ix := [230, 232]) (by decide +kernel)
theorem ig_X0 : wsX00.all goodWord = true := by decide +kernel
theorem in_X0 : ∀ w ∈ wsX00, w ∈ gtb := fun w h => List.mem_filter.mpr ⟨im_X0 w h, List.all_eq_true.mp ig_X0 w h⟩
set_option maxRecDepth 100000 in
theorem im_X1 : ∀ w ∈ wsX10, w ∈ lw_tbl := ixA_ok (ix := [193, 195, 197]) (by decide +kernel)
theorem ig_X1 : wsX10.all goodWord = true := by decide +kernel
theorem in_X1 : ∀ w ∈ wsX10, w ∈ gtb := fun w h => List.mem_filter.mpr ⟨im_X1 w h, List.all_eq_true.mp ig_X1 w h⟩
set_option maxRecDepth 100000 in
theorem im_X2 : ∀ w ∈ wsX20, w ∈ lw_tbl := ixA_ok (ix := [148, 150, 152, 154, 156, 158, 160, 162, 164, 166, 168, 170, 172, 174, 176, 178, 180]) (by decide +kernel)
theorem ig_X2 : wsX20.all goodWord = true := by decide +kernel
theorem in_X2 : ∀ w ∈ wsX20, w ∈ gtb := fun w h => List.mem_filter.mpr ⟨im_X2 w h, List.all_eq_true.mp ig_X2 w h⟩
set_option maxRecDepth 100000 in
theorem im_X3 : ∀ w ∈ wsX30, w ∈ lw_tbl := ixA_ok (ix := [277, 279]) (by decide +kernel)
theorem ig_X3 : wsX30.all goodWord = true := by decide +kernel
theorem in_X3 : ∀ w ∈ wsX30, w ∈ gtb := fun w h => List.mem_filter.mpr ⟨im_X3 w h, List.all_eq_true.mp ig_X3 w h⟩
set_option maxRecDepth 100000 in
theorem im_X4 : ∀ w ∈ wsX40, w ∈ lw_tbl := ixA_ok (ix := [291, 293]) (by decide +kernel)
theorem ig_X4 : wsX40.all goodWord = true := by decide +kernel
theorem in_X4 : ∀ w ∈ wsX40, w ∈ gtb := fun w h => List.mem_filter.mpr ⟨im_X4 w h, List.all_eq_true.mp ig_X4 w h⟩
set_option maxRecDepth 100000 in
theorem im_X5 : ∀ w ∈ wsX50, w ∈ lw_tbl := ixA_ok (ix := [70, 72, 74]) (by decide +kernel)
theorem ig_X5 : wsX50.all goodWord = true := by decide +kernel
theorem in_X5 : ∀ w ∈ wsX50, w ∈ gtb := fun w h => List.mem_filter.mpr ⟨im_X5 w h, List.all_eq_true.mp ig_X5 w h⟩
set_option maxRecDepth 100000 in
theorem im_X7 : ∀ w ∈ wsX70, w ∈ lw_tbl := ixA_ok (ix := [262, 264, 266]) (by decide +kernel)
theorem ig_X7 : wsX70.all goodWord = true := by decide +kernel
theorem in_X7 : ∀ w ∈ wsX70, w ∈ gtb := fun w h => List.mem_filter.mpr ⟨im_X7 w h, List.all_eq_true.mp ig_X7 w h⟩
set_option maxRecDepth 100000 in
theorem im_X8 : ∀ w ∈ wsX80, w ∈ lw_tbl := ixA_ok (ix := [244, 246, 248]) (by decide +kernel)
theorem ig_X8 : wsX80.all goodWord = true := by decide +kernel
theorem in_X8 : ∀ w ∈ wsX80, w ∈ gtb := fun w h => List.mem_filter.mpr ⟨im_X8 w h, List.all_eq_true.mp ig_X8 w h⟩
set_option maxRecDepth 100000 in
theorem im_X9 : ∀ w ∈ wsX90, w ∈ lw_tbl := ixA_ok (ix := [213, 215, 217, 219]) (by decide +kernel)
theorem ig_X9 : wsX90.all goodWord = true := by decide +kernel
theorem in_X9 : ∀ w ∈ wsX90, w ∈ gtb := fun w h => List.mem_filter.mpr ⟨im_X9 w h, List.all_eq_true.mp ig_X9 w h⟩
set_option maxRecDepth 100000 in
theorem im_X10 : ∀ w ∈ wsX100, w ∈ lw_tbl := ixA_ok (ix := [50, 52, 54, 56, 58, 60]) (by decide +kernel)
theorem ig_X10 : wsX100.all goodWord = true := by decide +kernel
theorem in_X10 : ∀ w ∈ wsX100, w ∈ gtb := fun w h => List.mem_filter.mpr ⟨im_X10 w h, List.all_eq_true.mp ig_X10 w h⟩
set_option maxRecDepth 100000 in
theorem im_X11 : ∀ w ∈ wsX110, w ∈ lw_tbl := ixA_ok (ix := [310, 312, 314, 316, 318, 320, 322, 324, 326, 328, 330, 332, 334]) (by decide +kernel)
theorem ig_X11 : wsX110.all goodWord = true := by decide +kernel
theorem in_X11 : ∀ w ∈ wsX110, w ∈ gtb := fun w h => List.mem_filter.mpr ⟨im_X11 w h, List.all_eq_true.mp ig_X11 w h⟩
set_option maxRecDepth 100000 in
theorem im_X12 : ∀ w ∈ wsX120, w ∈ lw_tbl := ixA_ok (ix := [1242, 1244, 1246, 1248, 1250, 1252, 1254, 1256, 1258, 1260, 1262, 1264, 1266, 1268, 1270, 1272, 1274, 1276, 1278, 1280, 1282, 1284, 1286, 1288, 1290, 1292, 1294, 1296, 1298, 1300, 1302, 1304, 1306, 1308, 1310, 1312]) (by decide +kernel)
theorem ig_X12 : wsX120.all goodWord = true := by decide +kernel
theorem in_X12 : ∀ w ∈ wsX120, w ∈ gtb := fun w h => List.mem_filter.mpr ⟨im_X12 w h, List.all_eq_true.mp ig_X12 w h⟩

theorem cls_ok : ∀ (ci : Nat) (C : String) (T : u_T) (N : Nat), vwCl[ci]? = some (C, T, N) → (∀ w ∈ u_ws C T N, w ∈ gtb) ∧ (∃ ty : Nat → FieldType, ∀ k, k < N → parseFieldDescriptor (T k).2.2.1 = some (ty k)) ∧ (∀ a, a < N → ∀ b, b < N → a ≠ b → (T a).2.1 ≠ (T b).2.1) := by
  intro ci C T N h
  match ci, h with
  | 0, h => cases h; exact ⟨in_X0, ⟨tyX0, tyX0_ok⟩, nmX0⟩
  | 1, h => cases h; exact ⟨in_X1, ⟨tyX1, tyX1_ok⟩, nmX1⟩
  | 2, h => cases h; exact ⟨in_X2, ⟨tyX2, tyX2_ok⟩, nmX2⟩
  | 3, h => cases h; exact ⟨in_X3, ⟨tyX3, tyX3_ok⟩, nmX3⟩
  | 4, h => cases h; exact ⟨in_X4, ⟨tyX4, tyX4_ok⟩, nmX4⟩
  | 5, h => cases h; exact ⟨in_X5, ⟨tyX5, tyX5_ok⟩, nmX5⟩
  | 6, h => cases h; exact ⟨in_X7, ⟨tyX7, tyX7_ok⟩, nmX7⟩
  | 7, h => cases h; exact ⟨in_X8, ⟨tyX8, tyX8_ok⟩, nmX8⟩
  | 8, h => cases h; exact ⟨in_X9, ⟨tyX9, tyX9_ok⟩, nmX9⟩
  | 9, h => cases h; exact ⟨in_X10, ⟨tyX10, tyX10_ok⟩, nmX10⟩
  | 10, h => cases h; exact ⟨in_X11, ⟨tyX11, tyX11_ok⟩, nmX11⟩
  | 11, h => cases h; exact ⟨in_X12, ⟨tyX12, tyX12_ok⟩, nmX12⟩
  | n + 12, h => simp [vwCl] at h
