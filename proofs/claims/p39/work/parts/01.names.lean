noncomputable def bqT {α : Type} (c : Bool) (x y : α) : α := Bool.rec (motive := fun _ => α) y x c
theorem bqT_t {α : Type} (x y : α) : bqT true x y = x := rfl
theorem bqT_f {α : Type} (x y : α) : bqT false x y = y := rfl
noncomputable def tch (i : Nat) : List Cond := bif Nat.blt i 240 then tables_1_1 else (bif Nat.blt i 480 then tables_1_2 else (bif Nat.blt i 720 then tables_1_3 else (bif Nat.blt i 960 then tables_1_4 else (bif Nat.blt i 1200 then tables_1_5 else (bif Nat.blt i 1440 then tables_1_6 else (bif Nat.blt i 1680 then tables_1_7 else (bif Nat.blt i 1920 then tables_1_8 else (tables_1_9))))))))
theorem tch_in {i : Nat} {w : Cond} (h : w ∈ tch i) : w ∈ tables_1 := by
  unfold tch at h
  unfold tables_1
  cases h1 : Nat.blt i 240 with
  | true => rw [h1, cond_true] at h; simp [h]
  | false =>
  rw [h1, cond_false] at h
  cases h2 : Nat.blt i 480 with
  | true => rw [h2, cond_true] at h; simp [h]
  | false =>
  rw [h2, cond_false] at h
  cases h3 : Nat.blt i 720 with
  | true => rw [h3, cond_true] at h; simp [h]
  | false =>
  rw [h3, cond_false] at h
  cases h4 : Nat.blt i 960 with
  | true => rw [h4, cond_true] at h; simp [h]
  | false =>
  rw [h4, cond_false] at h
  cases h5 : Nat.blt i 1200 with
  | true => rw [h5, cond_true] at h; simp [h]
  | false =>
  rw [h5, cond_false] at h
  cases h6 : Nat.blt i 1440 with
  | true => rw [h6, cond_true] at h; simp [h]
  | false =>
  rw [h6, cond_false] at h
  cases h7 : Nat.blt i 1680 with
  | true => rw [h7, cond_true] at h; simp [h]
  | false =>
  rw [h7, cond_false] at h
  cases h8 : Nat.blt i 1920 with
  | true => rw [h8, cond_true] at h; simp [h]
  | false =>
  rw [h8, cond_false] at h
  simp [h]
noncomputable def eqIM (o : Option Cond) (m : MethodName) : Bool := match o with
  | some (.instanceMethod x) => decide (x = m)
  | _ => false
noncomputable def eqST (o : Option Cond) (m : MethodName) : Bool := match o with
  | some (.static x) => decide (x = m)
  | _ => false
noncomputable def eqSE (o : Option Cond) (m : MethodName) : Bool := match o with
  | some (.selects c x y) => decide (c = m.cls) && (decide (x = m) && decide (y = m))
  | _ => false
theorem eqIM_ok {o : Option Cond} {m : MethodName} (h : eqIM o m = true) : o = some (.instanceMethod m) := by
  unfold eqIM at h
  split at h
  · rw [of_decide_eq_true h]
  · cases h
theorem eqST_ok {o : Option Cond} {m : MethodName} (h : eqST o m = true) : o = some (.static m) := by
  unfold eqST at h
  split at h
  · rw [of_decide_eq_true h]
  · cases h
theorem eqSE_ok {o : Option Cond} {m : MethodName} (h : eqSE o m = true) : o = some (.selects m.cls m m) := by
  unfold eqSE at h
  split at h
  · rw [Bool.and_eq_true, Bool.and_eq_true] at h
    rw [of_decide_eq_true h.1, of_decide_eq_true h.2.1, of_decide_eq_true h.2.2]
  · cases h
noncomputable def eqIN (o : Option Cond) (c : String) (n : Nat) : Bool := match o with
  | some (.instantiable x k) => decide (x = c) && Nat.beq k n
  | _ => false
noncomputable def eqPM (o : Option Cond) (m : MethodName) : Bool := match o with
  | some (.privateMethod x) => decide (x = m)
  | _ => false
theorem eqIN_ok {o : Option Cond} {c : String} {n : Nat} (h : eqIN o c n = true) : o = some (.instantiable c n) := by
  unfold eqIN at h
  split at h
  · rw [Bool.and_eq_true] at h
    rw [of_decide_eq_true h.1, Nat.eq_of_beq_eq_true h.2]
  · cases h
theorem eqPM_ok {o : Option Cond} {m : MethodName} (h : eqPM o m = true) : o = some (.privateMethod m) := by
  unfold eqPM at h
  split at h
  · rw [of_decide_eq_true h]
  · cases h
-- ===== PART A: goes FIRST, ahead of the names: the tables' words, and 'selects' of the private methods out of them =====
/-- a private method of a class that the tables say can be made, by its rows of tables_1 -/
noncomputable def lw_okq (q : MethodName × Nat) : Prop := (q.1.cls ≠ "java/lang/invoke/MethodHandle" ∧ q.1.cls ≠ "java/lang/invoke/VarHandle") ∧ Cond.instantiable q.1.cls q.2 ∈ tables_1 ∧ Cond.privateMethod q.1 ∈ tables_1 ∧ Cond.instanceMethod q.1 ∈ tables_1
noncomputable def pvB (q : MethodName × Nat) (i : Nat × Nat × Nat) : Bool := decide (q.1.cls ≠ "java/lang/invoke/MethodHandle") && (decide (q.1.cls ≠ "java/lang/invoke/VarHandle") && (eqIN ((tch i.1)[i.1 % 240]?) q.1.cls q.2 && (eqPM ((tch i.2.1)[i.2.1 % 240]?) q.1 && eqIM ((tch i.2.2)[i.2.2 % 240]?) q.1)))
theorem pvB_ok {q : MethodName × Nat} {i : Nat × Nat × Nat} (h : pvB q i = true) : lw_okq q := by
  unfold pvB at h
  rw [Bool.and_eq_true, Bool.and_eq_true, Bool.and_eq_true, Bool.and_eq_true] at h
  exact ⟨⟨of_decide_eq_true h.1, of_decide_eq_true h.2.1⟩, tch_in (List.mem_of_getElem? (eqIN_ok h.2.2.1)), tch_in (List.mem_of_getElem? (eqPM_ok h.2.2.2.1)), tch_in (List.mem_of_getElem? (eqIM_ok h.2.2.2.2))⟩
noncomputable def pvL : List (MethodName × Nat) → List (Nat × Nat × Nat) → Bool
  | [], _ => true
  | q :: t, ix => match ix with
    | [] => false
    | i :: r => pvB q i && pvL t r
theorem pvL_ok : ∀ {l : List (MethodName × Nat)} {ix : List (Nat × Nat × Nat)}, pvL l ix = true → ∀ q ∈ l, lw_okq q
  | [], _, _, q, hq => by cases hq
  | v :: t, [], h, q, hq => by cases h
  | v :: t, i :: r, h, q, hq => by
    have h : (pvB v i && pvL t r) = true := h
    rw [Bool.and_eq_true] at h
    rcases List.mem_cons.mp hq with e | hq
    · rw [e]
      exact pvB_ok h.1
    · exact pvL_ok h.2 q hq
noncomputable def lw_privs_1 : List (MethodName × Nat) := [(⟨"HalvedNames$Tape", "runEnd", "(III)I"⟩, 6), (⟨"HalvedNames$Tape", "numberUpTo", "(I)I"⟩, 6), (⟨"HalvedNames$Reader", "readLine", "(LHalvedNames$Hill;)V"⟩, 3), (⟨"HalvedNames$Reader", "readHill", "(LHalvedNames$Hill;)V"⟩, 3), (⟨"HalvedNames$Reader", "fail", "(I)V"⟩, 3), (⟨"HalvedNames$Reader", "expectWord", "(Ljava/lang/String;)V"⟩, 3), (⟨"HalvedNames$Reader", "expectNumber", "(II)I"⟩, 3), (⟨"HalvedNames$Reader", "numberHere", "(II)I"⟩, 3), (⟨"HalvedNames$Reader", "readName", "(LHalvedNames$Hill;)V"⟩, 3), (⟨"HalvedNames$Reader", "expectFolk", "(LHalvedNames$Hill;)I"⟩, 3), (⟨"HalvedNames$Reader", "readGoes", "(LHalvedNames$Hill;)V"⟩, 3), (⟨"HalvedNames$Reader", "readKnows", "(LHalvedNames$Hill;)V"⟩, 3), (⟨"HalvedNames$Reader", "refuseAlike", "(II)V"⟩, 3), (⟨"HalvedNames$Reader", "readSays", "(LHalvedNames$Hill;)V"⟩, 3), (⟨"HalvedNames$Reader", "expectSign", "()V"⟩, 3), (⟨"HalvedNames", "settle", "()V"⟩, 13)]
set_option maxRecDepth 100000 in
theorem lw_r1 : ∀ q ∈ lw_privs_1, lw_okq q := pvL_ok (ix := [(35, 377, 378), (35, 381, 382), (29, 386, 387), (29, 390, 391), (29, 447, 448), (29, 452, 453), (29, 456, 457), (29, 460, 461), (29, 467, 468), (29, 475, 476), (29, 481, 482), (29, 487, 488), (29, 491, 492), (29, 503, 504), (29, 513, 514), (21, 529, 530)]) (by decide +kernel)
noncomputable def lw_privs_2 : List (MethodName × Nat) := [(⟨"HalvedNames$Story", "keep", "(LHalvedNames$Course;I)V"⟩, 4), (⟨"HalvedNames$Story", "tellOne", "(LHalvedNames$Hill;LHalvedNames$Course;I)V"⟩, 4), (⟨"HalvedNames", "areTwo", "(II)Z"⟩, 13), (⟨"HalvedNames", "lastOfCall", "(III)I"⟩, 13), (⟨"HalvedNames$Bidding", "gather", "(LHalvedNames$Hill;LHalvedNames$Story;I)V"⟩, 2), (⟨"HalvedNames$Bidding", "further", "(LHalvedNames$Hill;I)I"⟩, 2), (⟨"HalvedNames", "fewestHushed", "(II)I"⟩, 13), (⟨"HalvedNames", "wrongGiving", "(III)I"⟩, 13), (⟨"HalvedNames$Sharing", "fewestFor", "(II)I"⟩, 3), (⟨"HalvedNames$Sharing", "piecesWith", "(III)I"⟩, 3), (⟨"HalvedNames$Sharing", "chooseShares", "(II)V"⟩, 3), (⟨"HalvedNames", "wrongFragment", "(I)I"⟩, 13), (⟨"HalvedNames", "wrongClues", "(I)I"⟩, 13), (⟨"HalvedNames$Naming", "isSpelt", "(LHalvedNames$Hill;II)Z"⟩, 2), (⟨"HalvedNames", "tellingsTo", "(I)I"⟩, 13), (⟨"HalvedNames$Course", "isWholeMissing", "(LHalvedNames$Hill;III)Z"⟩, 3)]
set_option maxRecDepth 100000 in
theorem lw_r2 : ∀ q ∈ lw_privs_2, lw_okq q := pvL_ok (ix := [(201, 569, 570), (201, 583, 584), (21, 669, 670), (21, 733, 734), (223, 792, 793), (223, 830, 831), (21, 859, 860), (21, 911, 912), (253, 954, 955), (253, 958, 959), (253, 964, 965), (21, 976, 977), (21, 1010, 1011), (283, 1074, 1075), (21, 1103, 1104), (185, 1115, 1116)]) (by decide +kernel)
noncomputable def lw_privs_3 : List (MethodName × Nat) := [(⟨"HalvedNames", "imageAt", "(I)LHalvedNames$Hill;"⟩, 13), (⟨"HalvedNamesModel", "advance", "()V"⟩, 36), (⟨"HalvedNamesModel", "see", "(I)I"⟩, 36), (⟨"HalvedNamesModel", "good", "()Z"⟩, 36), (⟨"HalvedNamesModel", "readLine", "()V"⟩, 36), (⟨"HalvedNamesModel", "readFirst", "()V"⟩, 36), (⟨"HalvedNamesModel", "needs", "(Ljava/lang/String;)V"⟩, 36), (⟨"HalvedNamesModel", "takes", "(Ljava/lang/String;)Z"⟩, 36), (⟨"HalvedNamesModel", "is", "(Ljava/lang/String;)Z"⟩, 36), (⟨"HalvedNamesModel", "errs", "(I)V"⟩, 36), (⟨"HalvedNamesModel", "told", "(Ljava/lang/String;II)I"⟩, 36), (⟨"HalvedNamesModel", "number", "(II)I"⟩, 36), (⟨"HalvedNamesModel", "readNext", "()V"⟩, 36), (⟨"HalvedNamesModel", "readName", "()V"⟩, 36), (⟨"HalvedNamesModel", "freshFolk", "()I"⟩, 36), (⟨"HalvedNamesModel", "readGoes", "()V"⟩, 36)]
set_option maxRecDepth 100000 in
theorem lw_r3 : ∀ q ∈ lw_privs_3, lw_okq q := pvL_ok (ix := [(21, 1156, 1157), (1202, 1345, 1346), (1202, 1349, 1350), (1202, 1359, 1360), (1202, 1363, 1364), (1202, 1367, 1368), (1202, 1372, 1373), (1202, 1376, 1377), (1202, 1380, 1381), (1202, 1386, 1387), (1202, 1391, 1392), (1202, 1395, 1396), (1202, 1401, 1402), (1202, 1412, 1413), (1202, 1416, 1417), (1202, 1420, 1421)]) (by decide +kernel)
noncomputable def lw_privs_4 : List (MethodName × Nat) := [(⟨"HalvedNamesModel", "freshHour", "()I"⟩, 36), (⟨"HalvedNamesModel", "readKnows", "()V"⟩, 36), (⟨"HalvedNamesModel", "freshOther", "(I)I"⟩, 36), (⟨"HalvedNamesModel", "freshWhich", "(I)I"⟩, 36), (⟨"HalvedNamesModel", "readSays", "()V"⟩, 36), (⟨"HalvedNamesModel", "isFolk", "(I)Z"⟩, 36), (⟨"HalvedNamesModel", "lengthOf", "(I)I"⟩, 36), (⟨"HalvedNamesModel", "syllableOf", "(II)I"⟩, 36), (⟨"HalvedNamesModel", "isHour", "(I)Z"⟩, 36), (⟨"HalvedNamesModel", "placeOf", "(II)I"⟩, 36), (⟨"HalvedNamesModel", "isSaying", "(I)Z"⟩, 36), (⟨"HalvedNamesModel", "ofSaying", "(II)I"⟩, 36), (⟨"HalvedNamesModel", "wholeOf", "(I)I"⟩, 36), (⟨"HalvedNamesModel", "goAsTold", "()V"⟩, 36), (⟨"HalvedNamesModel", "goOn", "()V"⟩, 36), (⟨"HalvedNamesModel", "says", "(I)V"⟩, 36)]
set_option maxRecDepth 100000 in
theorem lw_r4 : ∀ q ∈ lw_privs_4, lw_okq q := pvL_ok (ix := [(1202, 1425, 1426), (1202, 1429, 1430), (1202, 1433, 1434), (1202, 1437, 1438), (1202, 1441, 1442), (1202, 1449, 1450), (1202, 1453, 1454), (1202, 1457, 1458), (1202, 1473, 1474), (1202, 1477, 1478), (1202, 1485, 1486), (1202, 1490, 1491), (1202, 1498, 1499), (1202, 1506, 1507), (1202, 1510, 1511), (1202, 1514, 1515)]) (by decide +kernel)
noncomputable def lw_privs_5 : List (MethodName × Nat) := [(⟨"HalvedNamesModel", "hears", "(II)Z"⟩, 36), (⟨"HalvedNamesModel", "draw", "()I"⟩, 36), (⟨"HalvedNamesModel", "knownAhead", "(III)I"⟩, 36), (⟨"HalvedNamesModel", "areTwo", "(II)Z"⟩, 36), (⟨"HalvedNamesModel", "wholeAt", "(II)I"⟩, 36), (⟨"HalvedNamesModel", "isWhole", "(III)Z"⟩, 36), (⟨"HalvedNamesModel", "biddersBehind", "(II)I"⟩, 36), (⟨"HalvedNamesModel", "firstFoe", "(I)I"⟩, 36), (⟨"HalvedNamesModel", "loreOf", "(II)I"⟩, 36), (⟨"HalvedNamesModel", "callFrom", "(III)I"⟩, 36), (⟨"HalvedNamesModel", "areMet", "(III)Z"⟩, 36), (⟨"HalvedNamesModel", "begins", "(II)Z"⟩, 36), (⟨"HalvedNamesModel", "allFolk", "()I"⟩, 36), (⟨"HalvedNamesModel", "bringsUnder", "(II)I"⟩, 36), (⟨"HalvedNamesModel", "knowTogether", "(II)Z"⟩, 36), (⟨"HalvedNamesModel", "inTheEnd", "(II)I"⟩, 36)]
set_option maxRecDepth 100000 in
theorem lw_r5 : ∀ q ∈ lw_privs_5, lw_okq q := pvL_ok (ix := [(1202, 1521, 1522), (1202, 1525, 1526), (1202, 1534, 1535), (1202, 1554, 1555), (1202, 1558, 1559), (1202, 1562, 1563), (1202, 1570, 1571), (1202, 1578, 1579), (1202, 1595, 1596), (1202, 1610, 1611), (1202, 1614, 1615), (1202, 1642, 1643), (1202, 1658, 1659), (1202, 1662, 1663), (1202, 1666, 1667), (1202, 1670, 1671)]) (by decide +kernel)
noncomputable def lw_privs_6 : List (MethodName × Nat) := [(⟨"HalvedNamesModel", "viaOf", "(II)I"⟩, 36), (⟨"HalvedNamesModel", "isHill", "()Z"⟩, 36), (⟨"HalvedNamesModel", "knowsWhole", "(I)I"⟩, 36), (⟨"HalvedNamesModel", "isWholeInTheEnd", "(II)Z"⟩, 36), (⟨"HalvedNamesModel", "isWholeHushed", "(III)Z"⟩, 36), (⟨"HalvedNamesModel", "sayingsOf", "(I)I"⟩, 36), (⟨"HalvedNamesModel", "fewestHushed", "(II)I"⟩, 36), (⟨"HalvedNamesModel", "haveTogether", "(III)Z"⟩, 36), (⟨"HalvedNamesModel", "teamOf", "(II)I"⟩, 36), (⟨"HalvedNamesModel", "asksGive", "(III)I"⟩, 36), (⟨"HalvedNamesModel", "numberAt", "(II)J"⟩, 36), (⟨"HalvedNamesModel", "fillGive", "(III)V"⟩, 36), (⟨"HalvedNamesModel", "asksHeard", "(IZ)I"⟩, 36), (⟨"HalvedNamesModel", "isSyllable", "(J)Z"⟩, 36), (⟨"HalvedNamesModel", "spell", "(I)V"⟩, 36), (⟨"HalvedNamesModel", "standsIn", "(I)Z"⟩, 36)]
set_option maxRecDepth 100000 in
theorem lw_r6 : ∀ q ∈ lw_privs_6, lw_okq q := pvL_ok (ix := [(1202, 1678, 1679), (1202, 1690, 1691), (1202, 1694, 1695), (1202, 1698, 1699), (1202, 1706, 1707), (1202, 1710, 1711), (1202, 1722, 1723), (1202, 1750, 1751), (1202, 1758, 1759), (1202, 1770, 1771), (1202, 1778, 1779), (1202, 1783, 1784), (1202, 1795, 1796), (1202, 1799, 1800), (1202, 1803, 1804), (1202, 1807, 1808)]) (by decide +kernel)
noncomputable def lw_privs_7 : List (MethodName × Nat) := [(⟨"HalvedNamesModel", "namesOf", "(I)I"⟩, 36), (⟨"HalvedNamesModel", "spellCode", "(II)V"⟩, 36), (⟨"HalvedNamesModel", "asksGuess", "(I)I"⟩, 36), (⟨"HalvedNamesModel", "guessedBy", "(I)I"⟩, 36), (⟨"HalvedNamesModel", "isGuessed", "(II)Z"⟩, 36), (⟨"HalvedNamesModel", "listenOf", "(I)I"⟩, 36), (⟨"HalvedNamesModel", "greatestGroup", "(II)I"⟩, 36), (⟨"HalvedNamesModel", "loveBy", "(III)I"⟩, 36), (⟨"HalvedNamesModel", "isFree", "()Z"⟩, 36), (⟨"HalvedNamesModel", "isFreeOf", "(I)Z"⟩, 36), (⟨"HalvedNamesModel", "newTo", "(I)I"⟩, 36), (⟨"HalvedNamesModel", "chanceOf", "(III)J"⟩, 36), (⟨"HalvedNamesModel", "goDrawn", "(J)V"⟩, 36)]
set_option maxRecDepth 100000 in
theorem lw_r7 : ∀ q ∈ lw_privs_7, lw_okq q := pvL_ok (ix := [(1202, 1815, 1816), (1202, 1819, 1820), (1202, 1827, 1828), (1202, 1832, 1833), (1202, 1836, 1837), (1202, 1844, 1845), (1202, 1848, 1849), (1202, 1861, 1862), (1202, 1874, 1875), (1202, 1878, 1879), (1202, 1891, 1892), (1202, 1896, 1897), (1202, 1911, 1912)]) (by decide +kernel)
noncomputable def lw_privs : List (MethodName × Nat) := lw_privs_1 ++ (lw_privs_2 ++ (lw_privs_3 ++ (lw_privs_4 ++ (lw_privs_5 ++ (lw_privs_6 ++ (lw_privs_7))))))
noncomputable def lw_tbl : List Cond := k2_sels lw_privs ++ tables_1
theorem lw_privs_ok : ∀ q ∈ lw_privs, lw_okq q := by
  show ∀ q ∈ lw_privs_1 ++ (lw_privs_2 ++ (lw_privs_3 ++ (lw_privs_4 ++ (lw_privs_5 ++ (lw_privs_6 ++ (lw_privs_7)))))), lw_okq q
  exact List.forall_mem_append.mpr ⟨lw_r1, List.forall_mem_append.mpr ⟨lw_r2, List.forall_mem_append.mpr ⟨lw_r3, List.forall_mem_append.mpr ⟨lw_r4, List.forall_mem_append.mpr ⟨lw_r5, List.forall_mem_append.mpr ⟨lw_r6, lw_r7⟩⟩⟩⟩⟩⟩
