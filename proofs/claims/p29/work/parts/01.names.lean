section
noncomputable def bqT {α : Type} (c : Bool) (x y : α) : α := Bool.rec (motive := fun _ => α) y x c
theorem bqT_t {α : Type} (x y : α) : bqT true x y = x := rfl
theorem bqT_f {α : Type} (x y : α) : bqT false x y = y := rfl
noncomputable def tch (i : Nat) : List Cond := bif Nat.blt i 240 then tables_1_1 else (bif Nat.blt i 480 then tables_1_2 else (bif Nat.blt i 720 then tables_1_3 else (bif Nat.blt i 960 then tables_1_4 else (bif Nat.blt i 1200 then tables_1_5 else (bif Nat.blt i 1440 then tables_1_6 else (bif Nat.blt i 1680 then tables_1_7 else (bif Nat.blt i 1920 then tables_1_8 else (tables_1_9))))))))
theorem tch_in {i : Nat} {w : Cond} (h : w ∈ tch i) : w ∈ tables_1 := by
  unfold tch at h
  unfold tables_1
  cases h1 : Nat.blt i 240 with
  | true => rw [h1, cond_true] at h; simp [h]
  | false =>
  rw [h1, cond_false] at h
  cases h2 : Nat.blt i 480 with
  | true => rw [h2, cond_true] at h; simp [h]
  | false =>
  rw [h2, cond_false] at h
  cases h3 : Nat.blt i 720 with
  | true => rw [h3, cond_true] at h; simp [h]
  | false =>
  rw [h3, cond_false] at h
  cases h4 : Nat.blt i 960 with
  | true => rw [h4, cond_true] at h; simp [h]
  | false =>
  rw [h4, cond_false] at h
  cases h5 : Nat.blt i 1200 with
  | true => rw [h5, cond_true] at h; simp [h]
  | false =>
  rw [h5, cond_false] at h
  cases h6 : Nat.blt i 1440 with
  | true => rw [h6, cond_true] at h; simp [h]
  | false =>
  rw [h6, cond_false] at h
  cases h7 : Nat.blt i 1680 with
  | true => rw [h7, cond_true] at h; simp [h]
  | false =>
  rw [h7, cond_false] at h
  cases h8 : Nat.blt i 1920 with
  | true => rw [h8, cond_true] at h; simp [h]
  | false =>
  rw [h8, cond_false] at h
  simp [h]
noncomputable def eqIM (o : Option Cond) (m : MethodName) : Bool := match o with
  | some (.instanceMethod x) => decide (x = m)
  | _ => false
noncomputable def eqST (o : Option Cond) (m : MethodName) : Bool := match o with
  | some (.static x) => decide (x = m)
  | _ => false
noncomputable def eqSE (o : Option Cond) (m : MethodName) : Bool := match o with
  | some (.selects c x y) => decide (c = m.cls) && (decide (x = m) && decide (y = m))
  | _ => false
theorem eqIM_ok {o : Option Cond} {m : MethodName} (h : eqIM o m = true) : o = some (.instanceMethod m) := by
  unfold eqIM at h
  split at h
  · rw [of_decide_eq_true h]
  · cases h
theorem eqST_ok {o : Option Cond} {m : MethodName} (h : eqST o m = true) : o = some (.static m) := by
  unfold eqST at h
  split at h
  · rw [of_decide_eq_true h]
  · cases h
theorem eqSE_ok {o : Option Cond} {m : MethodName} (h : eqSE o m = true) : o = some (.selects m.cls m m) := by
  unfold eqSE at h
  split at h
  · rw [Bool.and_eq_true, Bool.and_eq_true] at h
    rw [of_decide_eq_true h.1, of_decide_eq_true h.2.1, of_decide_eq_true h.2.2]
  · cases h
noncomputable def eqIN (o : Option Cond) (c : String) (n : Nat) : Bool := match o with
  | some (.instantiable x k) => decide (x = c) && Nat.beq k n
  | _ => false
noncomputable def eqPM (o : Option Cond) (m : MethodName) : Bool := match o with
  | some (.privateMethod x) => decide (x = m)
  | _ => false
theorem eqIN_ok {o : Option Cond} {c : String} {n : Nat} (h : eqIN o c n = true) : o = some (.instantiable c n) := by
  unfold eqIN at h
  split at h
  · rw [Bool.and_eq_true] at h
    rw [of_decide_eq_true h.1, Nat.eq_of_beq_eq_true h.2]
  · cases h
theorem eqPM_ok {o : Option Cond} {m : MethodName} (h : eqPM o m = true) : o = some (.privateMethod m) := by
  unfold eqPM at h
  split at h
  · rw [of_decide_eq_true h]
  · cases h
-- ===== PART A: goes FIRST, ahead of the names: the tables' words, and 'selects' of the private methods out of them =====
/-- a private method of a class that the tables say can be made, by its rows of tables_1 -/
noncomputable def lw_okq (q : MethodName × Nat) : Prop := (q.1.cls ≠ "java/lang/invoke/MethodHandle" ∧ q.1.cls ≠ "java/lang/invoke/VarHandle") ∧ Cond.instantiable q.1.cls q.2 ∈ tables_1 ∧ Cond.privateMethod q.1 ∈ tables_1 ∧ Cond.instanceMethod q.1 ∈ tables_1
noncomputable def pvB (q : MethodName × Nat) (i : Nat × Nat × Nat) : Bool := decide (q.1.cls ≠ "java/lang/invoke/MethodHandle") && (decide (q.1.cls ≠ "java/lang/invoke/VarHandle") && (eqIN ((tch i.1)[i.1 % 240]?) q.1.cls q.2 && (eqPM ((tch i.2.1)[i.2.1 % 240]?) q.1 && eqIM ((tch i.2.2)[i.2.2 % 240]?) q.1)))
theorem pvB_ok {q : MethodName × Nat} {i : Nat × Nat × Nat} (h : pvB q i = true) : lw_okq q := by
  unfold pvB at h
  rw [Bool.and_eq_true, Bool.and_eq_true, Bool.and_eq_true, Bool.and_eq_true] at h
  exact ⟨⟨of_decide_eq_true h.1, of_decide_eq_true h.2.1⟩, tch_in (List.mem_of_getElem? (eqIN_ok h.2.2.1)), tch_in (List.mem_of_getElem? (eqPM_ok h.2.2.2.1)), tch_in (List.mem_of_getElem? (eqIM_ok h.2.2.2.2))⟩
noncomputable def pvL : List (MethodName × Nat) → List (Nat × Nat × Nat) → Bool
  | [], _ => true
  | q :: t, ix => match ix with
    | [] => false
    | i :: r => pvB q i && pvL t r
theorem pvL_ok : ∀ {l : List (MethodName × Nat)} {ix : List (Nat × Nat × Nat)}, pvL l ix = true → ∀ q ∈ l, lw_okq q
  | [], _, _, q, hq => by cases hq
  | v :: t, [], h, q, hq => by cases h
  | v :: t, i :: r, h, q, hq => by
    have h : (pvB v i && pvL t r) = true := h
    rw [Bool.and_eq_true] at h
    rcases List.mem_cons.mp hq with e | hq
    · rw [e]
      exact pvB_ok h.1
    · exact pvL_ok h.2 q hq
noncomputable def lw_privs_1 : List (MethodName × Nat) := [(⟨"HalvedNames$Tape", "runEnd", "(III)I"⟩, 6), (⟨"HalvedNames$Tape", "numberUpTo", "(I)I"⟩, 6), (⟨"HalvedNames$Reader", "readLine", "(LHalvedNames$Hill;)V"⟩, 3), (⟨"HalvedNames$Reader", "readHill", "(LHalvedNames$Hill;)V"⟩, 3), (⟨"HalvedNames$Reader", "fail", "(I)V"⟩, 3), (⟨"HalvedNames$Reader", "expectWord", "(Ljava/lang/String;)V"⟩, 3), (⟨"HalvedNames$Reader", "expectNumber", "(II)I"⟩, 3), (⟨"HalvedNames$Reader", "numberHere", "(II)I"⟩, 3), (⟨"HalvedNames$Reader", "readName", "(LHalvedNames$Hill;)V"⟩, 3), (⟨"HalvedNames$Reader", "expectFolk", "(LHalvedNames$Hill;)I"⟩, 3), (⟨"HalvedNames$Reader", "readGoes", "(LHalvedNames$Hill;)V"⟩, 3), (⟨"HalvedNames$Reader", "readKnows", "(LHalvedNames$Hill;)V"⟩, 3), (⟨"HalvedNames$Reader", "refuseAlike", "(II)V"⟩, 3), (⟨"HalvedNames$Reader", "readSays", "(LHalvedNames$Hill;)V"⟩, 3), (⟨"HalvedNames$Reader", "expectSign", "()V"⟩, 3), (⟨"HalvedNames", "settle", "()V"⟩, 13)]
set_option maxRecDepth 100000 in
theorem lw_r1 : ∀ q ∈ lw_privs_1, lw_okq q := pvL_ok (ix := [(35, 377, 378), (35, 381, 382), (29, 386, 387), (29, 390, 391), (29, 447, 448), (29, 452, 453), (29, 456, 457), (29, 460, 461), (29, 467, 468), (29, 475, 476), (29, 481, 482), (29, 487, 488), (29, 491, 492), (29, 503, 504), (29, 513, 514), (21, 529, 530)]) (by decide +kernel)
noncomputable def lw_privs_2 : List (MethodName × Nat) := [(⟨"HalvedNames$Story", "keep", "(LHalvedNames$Course;I)V"⟩, 4), (⟨"HalvedNames$Story", "tellOne", "(LHalvedNames$Hill;LHalvedNames$Course;I)V"⟩, 4), (⟨"HalvedNames", "areTwo", "(II)Z"⟩, 13), (⟨"HalvedNames", "lastOfCall", "(III)I"⟩, 13), (⟨"HalvedNames$Bidding", "gather", "(LHalvedNames$Hill;LHalvedNames$Story;I)V"⟩, 2), (⟨"HalvedNames$Bidding", "further", "(LHalvedNames$Hill;I)I"⟩, 2), (⟨"HalvedNames", "fewestHushed", "(II)I"⟩, 13), (⟨"HalvedNames", "wrongGiving", "(III)I"⟩, 13), (⟨"HalvedNames$Sharing", "fewestFor", "(II)I"⟩, 3), (⟨"HalvedNames$Sharing", "piecesWith", "(III)I"⟩, 3), (⟨"HalvedNames$Sharing", "chooseShares", "(II)V"⟩, 3), (⟨"HalvedNames", "wrongFragment", "(I)I"⟩, 13), (⟨"HalvedNames", "wrongClues", "(I)I"⟩, 13), (⟨"HalvedNames$Naming", "isSpelt", "(LHalvedNames$Hill;II)Z"⟩, 2), (⟨"HalvedNames", "tellingsTo", "(I)I"⟩, 13), (⟨"HalvedNames$Course", "isWholeMissing", "(LHalvedNames$Hill;III)Z"⟩, 3)]
set_option maxRecDepth 100000 in
theorem lw_r2 : ∀ q ∈ lw_privs_2, lw_okq q := pvL_ok (ix := [(201, 569, 570), (201, 583, 584), (21, 669, 670), (21, 733, 734), (223, 792, 793), (223, 830, 831), (21, 859, 860), (21, 911, 912), (253, 954, 955), (253, 958, 959), (253, 964, 965), (21, 976, 977), (21, 1010, 1011), (283, 1074, 1075), (21, 1103, 1104), (185, 1115, 1116)]) (by decide +kernel)
noncomputable def lw_privs_3 : List (MethodName × Nat) := [(⟨"HalvedNames", "imageAt", "(I)LHalvedNames$Hill;"⟩, 13), (⟨"HalvedNamesModel", "advance", "()V"⟩, 36), (⟨"HalvedNamesModel", "see", "(I)I"⟩, 36), (⟨"HalvedNamesModel", "good", "()Z"⟩, 36), (⟨"HalvedNamesModel", "readLine", "()V"⟩, 36), (⟨"HalvedNamesModel", "readFirst", "()V"⟩, 36), (⟨"HalvedNamesModel", "needs", "(Ljava/lang/String;)V"⟩, 36), (⟨"HalvedNamesModel", "takes", "(Ljava/lang/String;)Z"⟩, 36), (⟨"HalvedNamesModel", "is", "(Ljava/lang/String;)Z"⟩, 36), (⟨"HalvedNamesModel", "errs", "(I)V"⟩, 36), (⟨"HalvedNamesModel", "told", "(Ljava/lang/String;II)I"⟩, 36), (⟨"HalvedNamesModel", "number", "(II)I"⟩, 36), (⟨"HalvedNamesModel", "readNext", "()V"⟩, 36), (⟨"HalvedNamesModel", "readName", "()V"⟩, 36), (⟨"HalvedNamesModel", "freshFolk", "()I"⟩, 36), (⟨"HalvedNamesModel", "readGoes", "()V"⟩, 36)]
set_option maxRecDepth 100000 in
theorem lw_r3 : ∀ q ∈ lw_privs_3, lw_okq q := pvL_ok (ix := [(21, 1156, 1157), (1202, 1345, 1346), (1202, 1349, 1350), (1202, 1359, 1360), (1202, 1363, 1364), (1202, 1367, 1368), (1202, 1372, 1373), (1202, 1376, 1377), (1202, 1380, 1381), (1202, 1386, 1387), (1202, 1391, 1392), (1202, 1395, 1396), (1202, 1401, 1402), (1202, 1412, 1413), (1202, 1416, 1417), (1202, 1420, 1421)]) (by decide +kernel)
noncomputable def lw_privs_4 : List (MethodName × Nat) := [(⟨"HalvedNamesModel", "freshHour", "()I"⟩, 36), (⟨"HalvedNamesModel", "readKnows", "()V"⟩, 36), (⟨"HalvedNamesModel", "freshOther", "(I)I"⟩, 36), (⟨"HalvedNamesModel", "freshWhich", "(I)I"⟩, 36), (⟨"HalvedNamesModel", "readSays", "()V"⟩, 36), (⟨"HalvedNamesModel", "isFolk", "(I)Z"⟩, 36), (⟨"HalvedNamesModel", "lengthOf", "(I)I"⟩, 36), (⟨"HalvedNamesModel", "syllableOf", "(II)I"⟩, 36), (⟨"HalvedNamesModel", "isHour", "(I)Z"⟩, 36), (⟨"HalvedNamesModel", "placeOf", "(II)I"⟩, 36), (⟨"HalvedNamesModel", "isSaying", "(I)Z"⟩, 36), (⟨"HalvedNamesModel", "ofSaying", "(II)I"⟩, 36), (⟨"HalvedNamesModel", "wholeOf", "(I)I"⟩, 36), (⟨"HalvedNamesModel", "goAsTold", "()V"⟩, 36), (⟨"HalvedNamesModel", "goOn", "()V"⟩, 36), (⟨"HalvedNamesModel", "says", "(I)V"⟩, 36)]
set_option maxRecDepth 100000 in
theorem lw_r4 : ∀ q ∈ lw_privs_4, lw_okq q := pvL_ok (ix := [(1202, 1425, 1426), (1202, 1429, 1430), (1202, 1433, 1434), (1202, 1437, 1438), (1202, 1441, 1442), (1202, 1449, 1450), (1202, 1453, 1454), (1202, 1457, 1458), (1202, 1473, 1474), (1202, 1477, 1478), (1202, 1485, 1486), (1202, 1490, 1491), (1202, 1498, 1499), (1202, 1506, 1507), (1202, 1510, 1511), (1202, 1514, 1515)]) (by decide +kernel)
noncomputable def lw_privs_5 : List (MethodName × Nat) := [(⟨"HalvedNamesModel", "hears", "(II)Z"⟩, 36), (⟨"HalvedNamesModel", "draw", "()I"⟩, 36), (⟨"HalvedNamesModel", "knownAhead", "(III)I"⟩, 36), (⟨"HalvedNamesModel", "areTwo", "(II)Z"⟩, 36), (⟨"HalvedNamesModel", "wholeAt", "(II)I"⟩, 36), (⟨"HalvedNamesModel", "isWhole", "(III)Z"⟩, 36), (⟨"HalvedNamesModel", "biddersBehind", "(II)I"⟩, 36), (⟨"HalvedNamesModel", "firstFoe", "(I)I"⟩, 36), (⟨"HalvedNamesModel", "loreOf", "(II)I"⟩, 36), (⟨"HalvedNamesModel", "callFrom", "(III)I"⟩, 36), (⟨"HalvedNamesModel", "areMet", "(III)Z"⟩, 36), (⟨"HalvedNamesModel", "begins", "(II)Z"⟩, 36), (⟨"HalvedNamesModel", "allFolk", "()I"⟩, 36), (⟨"HalvedNamesModel", "bringsUnder", "(II)I"⟩, 36), (⟨"HalvedNamesModel", "knowTogether", "(II)Z"⟩, 36), (⟨"HalvedNamesModel", "inTheEnd", "(II)I"⟩, 36)]
set_option maxRecDepth 100000 in
theorem lw_r5 : ∀ q ∈ lw_privs_5, lw_okq q := pvL_ok (ix := [(1202, 1521, 1522), (1202, 1525, 1526), (1202, 1534, 1535), (1202, 1554, 1555), (1202, 1558, 1559), (1202, 1562, 1563), (1202, 1570, 1571), (1202, 1578, 1579), (1202, 1595, 1596), (1202, 1610, 1611), (1202, 1614, 1615), (1202, 1642, 1643), (1202, 1658, 1659), (1202, 1662, 1663), (1202, 1666, 1667), (1202, 1670, 1671)]) (by decide +kernel)
noncomputable def lw_privs_6 : List (MethodName × Nat) := [(⟨"HalvedNamesModel", "viaOf", "(II)I"⟩, 36), (⟨"HalvedNamesModel", "isHill", "()Z"⟩, 36), (⟨"HalvedNamesModel", "knowsWhole", "(I)I"⟩, 36), (⟨"HalvedNamesModel", "isWholeInTheEnd", "(II)Z"⟩, 36), (⟨"HalvedNamesModel", "isWholeHushed", "(III)Z"⟩, 36), (⟨"HalvedNamesModel", "sayingsOf", "(I)I"⟩, 36), (⟨"HalvedNamesModel", "fewestHushed", "(II)I"⟩, 36), (⟨"HalvedNamesModel", "haveTogether", "(III)Z"⟩, 36), (⟨"HalvedNamesModel", "teamOf", "(II)I"⟩, 36), (⟨"HalvedNamesModel", "asksGive", "(III)I"⟩, 36), (⟨"HalvedNamesModel", "numberAt", "(II)J"⟩, 36), (⟨"HalvedNamesModel", "fillGive", "(III)V"⟩, 36), (⟨"HalvedNamesModel", "asksHeard", "(IZ)I"⟩, 36), (⟨"HalvedNamesModel", "isSyllable", "(J)Z"⟩, 36), (⟨"HalvedNamesModel", "spell", "(I)V"⟩, 36), (⟨"HalvedNamesModel", "standsIn", "(I)Z"⟩, 36)]
set_option maxRecDepth 100000 in
theorem lw_r6 : ∀ q ∈ lw_privs_6, lw_okq q := pvL_ok (ix := [(1202, 1678, 1679), (1202, 1690, 1691), (1202, 1694, 1695), (1202, 1698, 1699), (1202, 1706, 1707), (1202, 1710, 1711), (1202, 1722, 1723), (1202, 1750, 1751), (1202, 1758, 1759), (1202, 1770, 1771), (1202, 1778, 1779), (1202, 1783, 1784), (1202, 1795, 1796), (1202, 1799, 1800), (1202, 1803, 1804), (1202, 1807, 1808)]) (by decide +kernel)
noncomputable def lw_privs_7 : List (MethodName × Nat) := [(⟨"HalvedNamesModel", "namesOf", "(I)I"⟩, 36), (⟨"HalvedNamesModel", "spellCode", "(II)V"⟩, 36), (⟨"HalvedNamesModel", "asksGuess", "(I)I"⟩, 36), (⟨"HalvedNamesModel", "guessedBy", "(I)I"⟩, 36), (⟨"HalvedNamesModel", "isGuessed", "(II)Z"⟩, 36), (⟨"HalvedNamesModel", "listenOf", "(I)I"⟩, 36), (⟨"HalvedNamesModel", "greatestGroup", "(II)I"⟩, 36), (⟨"HalvedNamesModel", "loveBy", "(III)I"⟩, 36), (⟨"HalvedNamesModel", "isFree", "()Z"⟩, 36), (⟨"HalvedNamesModel", "isFreeOf", "(I)Z"⟩, 36), (⟨"HalvedNamesModel", "newTo", "(I)I"⟩, 36), (⟨"HalvedNamesModel", "chanceOf", "(III)J"⟩, 36), (⟨"HalvedNamesModel", "goDrawn", "(J)V"⟩, 36)]
set_option maxRecDepth 100000 in
theorem lw_r7 : ∀ q ∈ lw_privs_7, lw_okq q := pvL_ok (ix := [(1202, 1815, 1816), (1202, 1819, 1820), (1202, 1827, 1828), (1202, 1832, 1833), (1202, 1836, 1837), (1202, 1844, 1845), (1202, 1848, 1849), (1202, 1861, 1862), (1202, 1874, 1875), (1202, 1878, 1879), (1202, 1891, 1892), (1202, 1896, 1897), (1202, 1911, 1912)]) (by decide +kernel)
noncomputable def lw_privs : List (MethodName × Nat) := lw_privs_1 ++ (lw_privs_2 ++ (lw_privs_3 ++ (lw_privs_4 ++ (lw_privs_5 ++ (lw_privs_6 ++ (lw_privs_7))))))
noncomputable def lw_tbl : List Cond := k2_sels lw_privs ++ tables_1
theorem lw_privs_ok : ∀ q ∈ lw_privs, lw_okq q := by
  show ∀ q ∈ lw_privs_1 ++ (lw_privs_2 ++ (lw_privs_3 ++ (lw_privs_4 ++ (lw_privs_5 ++ (lw_privs_6 ++ (lw_privs_7)))))), lw_okq q
  exact List.forall_mem_append.mpr ⟨lw_r1, List.forall_mem_append.mpr ⟨lw_r2, List.forall_mem_append.mpr ⟨lw_r3, List.forall_mem_append.mpr ⟨lw_r4, List.forall_mem_append.mpr ⟨lw_r5, List.forall_mem_append.mpr ⟨lw_r6, lw_r7⟩⟩⟩⟩⟩⟩
end
section
noncomputable def ky8 (s : String) : Nat := s.toByteArray.data.toList.foldl (fun h b => h * 256 + b.toNat) 1
noncomputable def ndN : List Nat → Bool
  | [] => true
  | a :: t => t.all (fun b => !(Nat.beq a b)) && ndN t
theorem ndN_ok : ∀ {l : List Nat}, ndN l = true → ∀ {a b x : Nat}, l[a]? = some x → l[b]? = some x → a = b
  | [], _, a, b, x, ha, _ => by simp at ha
  | c :: t, h, a, b, x, ha, hb => by
    have h : (t.all (fun b => !(Nat.beq c b)) && ndN t) = true := h
    rw [Bool.and_eq_true] at h
    have far : ∀ j : Nat, t[j]? = some c → False := fun j hj => by
      have q : (!(Nat.beq c c)) = true := List.all_eq_true.mp h.1 c (List.mem_of_getElem? hj)
      rw [Nat.beq_refl] at q
      cases q
    cases a with
    | zero =>
      cases b with
      | zero => rfl
      | succ b =>
        rw [List.getElem?_cons_zero] at ha
        rw [List.getElem?_cons_succ] at hb
        cases ha
        exact (far b hb).elim
    | succ a =>
      cases b with
      | zero =>
        rw [List.getElem?_cons_zero] at hb
        rw [List.getElem?_cons_succ] at ha
        cases hb
        exact (far a ha).elim
      | succ b =>
        rw [List.getElem?_cons_succ] at ha hb
        rw [ndN_ok h.2 ha hb]
theorem nm_of {T : u_T} {N : Nat} {K : List Nat} (h : (List.range N).map (fun k => ky8 (T k).2.1) = K) (hd : ndN K = true) : ∀ a, a < N → ∀ b, b < N → a ≠ b → (T a).2.1 ≠ (T b).2.1 := by
  intro a ha b hb hab e
  have q : ∀ j, j < N → K[j]? = some (ky8 (T j).2.1) := fun j hj => by
    rw [← h, List.getElem?_map, List.getElem?_range hj]
    all_goals rfl
  have qa := q a ha
  rw [e] at qa
  exact hab (ndN_ok hd qa (q b hb))
noncomputable def RX0 : String := "HalvedNames$Bidding"
noncomputable def TX0 : u_T := fun k => match k with
  | 0 => ("HalvedNames$Bidding", "gathered", "[I", true)
  | _ => ("HalvedNames$Bidding", "reached", "[I", true)
noncomputable def tyX0 : Nat → FieldType := fun k => match k with
  | 0 => .array .int
  | _ => .array .int
noncomputable abbrev wsX00 : List Cond := u_ws RX0 TX0 2
theorem nmX0 : ∀ a, a < 2 → ∀ b, b < 2 → a ≠ b → (TX0 a).2.1 ≠ (TX0 b).2.1 := nm_of (K := [25896107324084479332, 104257210336961892]) (by decide +kernel) (by decide +kernel)
theorem tyX0_ok : ∀ k, k < 2 → parseFieldDescriptor (TX0 k).2.2.1 = some (tyX0 k) := by decide +kernel
noncomputable def RX1 : String := "HalvedNames$Course"
noncomputable def TX1 : u_T := fun k => match k with
  | 0 => ("HalvedNames$Course", "order", "[I", true)
  | 1 => ("HalvedNames$Course", "present", "[I", true)
  | _ => ("HalvedNames$Course", "known", "[I", true)
noncomputable def tyX1 : Nat → FieldType := fun k => match k with
  | 0 => .array .int
  | 1 => .array .int
  | _ => .array .int
noncomputable abbrev wsX10 : List Cond := u_ws RX1 TX1 3
theorem nmX1 : ∀ a, a < 3 → ∀ b, b < 3 → a ≠ b → (TX1 a).2.1 ≠ (TX1 b).2.1 := nm_of (K := [1578172179826, 103708571482812020, 1560925927278]) (by decide +kernel) (by decide +kernel)
theorem tyX1_ok : ∀ k, k < 3 → parseFieldDescriptor (TX1 k).2.2.1 = some (tyX1 k) := by decide +kernel
noncomputable def RX2 : String := "HalvedNames$Hill"
noncomputable def TX2 : u_T := fun k => match k with
  | 0 => ("HalvedNames$Hill", "lines", "I", false)
  | 1 => ("HalvedNames$Hill", "syllables", "I", false)
  | 2 => ("HalvedNames$Hill", "places", "I", false)
  | 3 => ("HalvedNames$Hill", "hours", "I", false)
  | 4 => ("HalvedNames$Hill", "people", "I", false)
  | 5 => ("HalvedNames$Hill", "sayings", "I", false)
  | 6 => ("HalvedNames$Hill", "lengths", "[I", true)
  | 7 => ("HalvedNames$Hill", "names", "[I", true)
  | 8 => ("HalvedNames$Hill", "stammering", "[I", true)
  | 9 => ("HalvedNames$Hill", "deafness", "[I", true)
  | 10 => ("HalvedNames$Hill", "foes", "[I", true)
  | 11 => ("HalvedNames$Hill", "stays", "[I", true)
  | 12 => ("HalvedNames$Hill", "told", "[I", true)
  | 13 => ("HalvedNames$Hill", "who", "[I", true)
  | 14 => ("HalvedNames$Hill", "whose", "[I", true)
  | 15 => ("HalvedNames$Hill", "which", "[I", true)
  | _ => ("HalvedNames$Hill", "when", "[I", true)
noncomputable def tyX2 : Nat → FieldType := fun k => match k with
  | 0 => .int
  | 1 => .int
  | 2 => .int
  | 3 => .int
  | 4 => .int
  | 5 => .int
  | 6 => .array .int
  | 7 => .array .int
  | 8 => .array .int
  | 9 => .array .int
  | 10 => .array .int
  | 11 => .array .int
  | 12 => .array .int
  | 13 => .array .int
  | 14 => .array .int
  | 15 => .array .int
  | _ => .array .int
noncomputable abbrev wsX20 : List Cond := u_ws RX2 TX2 17
theorem nmX2 : ∀ a, a < 17 → ∀ b, b < 17 → a ≠ b → (TX2 a).2.1 ≠ (TX2 b).2.1 := nm_of (K := [1565136938355, 6852491538687836579187, 405085769393523, 1548058194547, 405055940357221, 104534390447433587, 102568416379168883, 1573592589683, 1754144807844865301376615, 25681039542716822387, 6013543795, 1595385411955, 6248426596, 24602735, 1612364870501, 1612364473192, 6298297710]) (by decide +kernel) (by decide +kernel)
theorem tyX2_ok : ∀ k, k < 17 → parseFieldDescriptor (TX2 k).2.2.1 = some (tyX2 k) := by decide +kernel
noncomputable def RX3 : String := "HalvedNames$Listening"
noncomputable def TX3 : u_T := fun k => match k with
  | 0 => ("HalvedNames$Listening", "ways", "[I", true)
  | _ => ("HalvedNames$Listening", "waysOn", "[I", true)
noncomputable def tyX3 : Nat → FieldType := fun k => match k with
  | 0 => .array .int
  | _ => .array .int
noncomputable abbrev wsX30 : List Cond := u_ws RX3 TX3 2
theorem nmX3 : ∀ a, a < 2 → ∀ b, b < 2 → a ≠ b → (TX3 a).2.1 ≠ (TX3 b).2.1 := nm_of (K := [6297844083, 412735509843822]) (by decide +kernel) (by decide +kernel)
theorem tyX3_ok : ∀ k, k < 2 → parseFieldDescriptor (TX3 k).2.2.1 = some (tyX3 k) := by decide +kernel
noncomputable def RX4 : String := "HalvedNames$Naming"
noncomputable def TX4 : u_T := fun k => match k with
  | 0 => ("HalvedNames$Naming", "spelt", "[I", true)
  | _ => ("HalvedNames$Naming", "orders", "[I", true)
noncomputable def tyX4 : Nat → FieldType := fun k => match k with
  | 0 => .array .int
  | _ => .array .int
noncomputable abbrev wsX40 : List Cond := u_ws RX4 TX4 2
theorem nmX4 : ∀ a, a < 2 → ∀ b, b < 2 → a ≠ b → (TX4 a).2.1 ≠ (TX4 b).2.1 := nm_of (K := [1595318561908, 404012078035571]) (by decide +kernel) (by decide +kernel)
theorem tyX4_ok : ∀ k, k < 2 → parseFieldDescriptor (TX4 k).2.2.1 = some (tyX4 k) := by decide +kernel
noncomputable def RX5 : String := "HalvedNames$Reader"
noncomputable def TX5 : u_T := fun k => match k with
  | 0 => ("HalvedNames$Reader", "tape", "LHalvedNames$Tape;", true)
  | 1 => ("HalvedNames$Reader", "fault", "I", false)
  | _ => ("HalvedNames$Reader", "place", "I", false)
noncomputable def tyX5 : Nat → FieldType := fun k => match k with
  | 0 => .object "HalvedNames$Tape"
  | 1 => .int
  | _ => .int
noncomputable abbrev wsX50 : List Cond := u_ws RX5 TX5 3
theorem nmX5 : ∀ a, a < 3 → ∀ b, b < 3 → a ≠ b → (TX5 a).2.1 ≠ (TX5 b).2.1 := nm_of (K := [6247510117, 1539233377396, 1582366286693]) (by decide +kernel) (by decide +kernel)
theorem tyX5_ok : ∀ k, k < 3 → parseFieldDescriptor (TX5 k).2.2.1 = some (tyX5 k) := by decide +kernel
noncomputable def RX7 : String := "HalvedNames$Sharing"
noncomputable def TX7 : u_T := fun k => match k with
  | 0 => ("HalvedNames$Sharing", "spared", "[I", true)
  | 1 => ("HalvedNames$Sharing", "fewest", "[I", true)
  | _ => ("HalvedNames$Sharing", "shares", "[I", true)
noncomputable def tyX7 : Nat → FieldType := fun k => match k with
  | 0 => .array .int
  | 1 => .array .int
  | _ => .array .int
noncomputable abbrev wsX70 : List Cond := u_ws RX7 TX7 3
theorem nmX7 : ∀ a, a < 3 → ∀ b, b < 3 → a ≠ b → (TX7 a).2.1 ≠ (TX7 b).2.1 := nm_of (K := [408401485129060, 394060957578100, 408367125390707]) (by decide +kernel) (by decide +kernel)
theorem tyX7_ok : ∀ k, k < 3 → parseFieldDescriptor (TX7 k).2.2.1 = some (tyX7 k) := by decide +kernel
noncomputable def RX8 : String := "HalvedNames$Slots"
noncomputable def TX8 : u_T := fun k => match k with
  | 0 => ("HalvedNames$Slots", "numbers", "[J", true)
  | 1 => ("HalvedNames$Slots", "widths", "[I", true)
  | _ => ("HalvedNames$Slots", "sizes", "[I", true)
noncomputable def tyX8 : Nat → FieldType := fun k => match k with
  | 0 => .array .long
  | 1 => .array .int
  | _ => .array .int
noncomputable abbrev wsX80 : List Cond := u_ws RX8 TX8 3
theorem nmX8 : ∀ a, a < 3 → ∀ b, b < 3 → a ≠ b → (TX8 a).2.1 ≠ (TX8 b).2.1 := nm_of (K := [103148954138800755, 412769517332595, 1595202495859]) (by decide +kernel) (by decide +kernel)
theorem tyX8_ok : ∀ k, k < 3 → parseFieldDescriptor (TX8 k).2.2.1 = some (tyX8 k) := by decide +kernel
noncomputable def RX9 : String := "HalvedNames$Story"
noncomputable def TX9 : u_T := fun k => match k with
  | 0 => ("HalvedNames$Story", "known", "[I", true)
  | 1 => ("HalvedNames$Story", "hearers", "[I", true)
  | 2 => ("HalvedNames$Story", "learners", "[I", true)
  | _ => ("HalvedNames$Story", "uttered", "I", false)
noncomputable def tyX9 : Nat → FieldType := fun k => match k with
  | 0 => .array .int
  | 1 => .array .int
  | 2 => .array .int
  | _ => .int
noncomputable abbrev wsX90 : List Cond := u_ws RX9 TX9 4
theorem nmX9 : ∀ a, a < 4 → ∀ b, b < 4 → a ≠ b → (TX9 a).2.1 ≠ (TX9 b).2.1 := nm_of (K := [1560925927278, 101442460821320307, 26257500346559853171, 105118209580098916]) (by decide +kernel) (by decide +kernel)
theorem tyX9_ok : ∀ k, k < 4 → parseFieldDescriptor (TX9 k).2.2.1 = some (tyX9 k) := by decide +kernel
noncomputable def RX10 : String := "HalvedNames$Tape"
noncomputable def TX10 : u_T := fun k => match k with
  | 0 => ("HalvedNames$Tape", "bytes", "[B", true)
  | 1 => ("HalvedNames$Tape", "size", "I", false)
  | 2 => ("HalvedNames$Tape", "kind", "I", false)
  | 3 => ("HalvedNames$Tape", "start", "I", false)
  | 4 => ("HalvedNames$Tape", "stop", "I", false)
  | _ => ("HalvedNames$Tape", "number", "I", false)
noncomputable def tyX10 : Nat → FieldType := fun k => match k with
  | 0 => .array .byte
  | 1 => .int
  | 2 => .int
  | 3 => .int
  | 4 => .int
  | _ => .int
noncomputable abbrev wsX100 : List Cond := u_ws RX10 TX10 6
theorem nmX10 : ∀ a, a < 6 → ∀ b, b < 6 → a ≠ b → (TX10 a).2.1 ≠ (TX10 b).2.1 := nm_of (K := [1522456094067, 6231259749, 6097038948, 1595385410164, 6231977840, 402925602104690]) (by decide +kernel) (by decide +kernel)
theorem tyX10_ok : ∀ k, k < 6 → parseFieldDescriptor (TX10 k).2.2.1 = some (tyX10 k) := by decide +kernel
noncomputable def RX11 : String := "HalvedNames"
noncomputable def TX11 : u_T := fun k => match k with
  | 0 => ("HalvedNames", "reader", "LHalvedNames$Reader;", true)
  | 1 => ("HalvedNames", "tape", "LHalvedNames$Tape;", true)
  | 2 => ("HalvedNames", "hill", "LHalvedNames$Hill;", true)
  | 3 => ("HalvedNames", "draft", "LHalvedNames$Hill;", true)
  | 4 => ("HalvedNames", "course", "LHalvedNames$Course;", true)
  | 5 => ("HalvedNames", "story", "LHalvedNames$Story;", true)
  | 6 => ("HalvedNames", "bidding", "LHalvedNames$Bidding;", true)
  | 7 => ("HalvedNames", "slots", "LHalvedNames$Slots;", true)
  | 8 => ("HalvedNames", "sharing", "LHalvedNames$Sharing;", true)
  | 9 => ("HalvedNames", "listening", "LHalvedNames$Listening;", true)
  | 10 => ("HalvedNames", "naming", "LHalvedNames$Naming;", true)
  | 11 => ("HalvedNames", "images", "[LHalvedNames$Hill;", true)
  | _ => ("HalvedNames", "kept", "I", false)
noncomputable def tyX11 : Nat → FieldType := fun k => match k with
  | 0 => .object "HalvedNames$Reader"
  | 1 => .object "HalvedNames$Tape"
  | 2 => .object "HalvedNames$Hill"
  | 3 => .object "HalvedNames$Hill"
  | 4 => .object "HalvedNames$Course"
  | 5 => .object "HalvedNames$Story"
  | 6 => .object "HalvedNames$Bidding"
  | 7 => .object "HalvedNames$Slots"
  | 8 => .object "HalvedNames$Sharing"
  | 9 => .object "HalvedNames$Listening"
  | 10 => .object "HalvedNames$Naming"
  | 11 => .array (.object "HalvedNames$Hill")
  | _ => .int
noncomputable abbrev wsX110 : List Cond := u_ws RX11 TX11 13
theorem nmX11 : ∀ a, a < 13 → ∀ b, b < 13 → a ≠ b → (TX11 a).2.1 ≠ (TX11 b).2.1 := nm_of (K := [407254727943538, 6247510117, 6046706796, 1530927343220, 390805339665253, 1595386327673, 99758021657849447, 1595252110451, 104541984100281959, 6722213387805573869159, 402839703219815, 397393483228531, 6096777332]) (by decide +kernel) (by decide +kernel)
theorem tyX11_ok : ∀ k, k < 13 → parseFieldDescriptor (TX11 k).2.2.1 = some (tyX11 k) := by decide +kernel
noncomputable def RX12 : String := "HalvedNamesModel"
noncomputable def TX12 : u_T := fun k => match k with
  | 0 => ("HalvedNamesModel", "thrown", "I", false)
  | 1 => ("HalvedNamesModel", "world", "[I", true)
  | 2 => ("HalvedNamesModel", "images", "[I", true)
  | 3 => ("HalvedNamesModel", "hasImage", "[Z", true)
  | 4 => ("HalvedNamesModel", "tape", "[B", true)
  | 5 => ("HalvedNamesModel", "taped", "I", false)
  | 6 => ("HalvedNamesModel", "five", "[I", true)
  | 7 => ("HalvedNamesModel", "size", "I", false)
  | 8 => ("HalvedNamesModel", "at", "I", false)
  | 9 => ("HalvedNamesModel", "from", "I", false)
  | 10 => ("HalvedNamesModel", "token", "I", false)
  | 11 => ("HalvedNamesModel", "value", "I", false)
  | 12 => ("HalvedNamesModel", "faultKind", "I", false)
  | 13 => ("HalvedNamesModel", "faultPlace", "I", false)
  | 14 => ("HalvedNamesModel", "fresh", "[I", true)
  | 15 => ("HalvedNamesModel", "toldPlace", "[I", true)
  | 16 => ("HalvedNamesModel", "known", "[I", true)
  | 17 => ("HalvedNamesModel", "now", "[I", true)
  | 18 => ("HalvedNamesModel", "saidSet", "I", false)
  | 19 => ("HalvedNamesModel", "heardBy", "[I", true)
  | 20 => ("HalvedNamesModel", "learntBy", "[I", true)
  | 21 => ("HalvedNamesModel", "hushedNow", "I", false)
  | 22 => ("HalvedNamesModel", "deafOne", "I", false)
  | 23 => ("HalvedNamesModel", "misheard", "I", false)
  | 24 => ("HalvedNamesModel", "isDrawn", "Z", false)
  | 25 => ("HalvedNamesModel", "drawn", "J", false)
  | 26 => ("HalvedNamesModel", "isGift", "[Z", true)
  | 27 => ("HalvedNamesModel", "lacks", "[I", true)
  | 28 => ("HalvedNamesModel", "pieces", "[I", true)
  | 29 => ("HalvedNamesModel", "spelled", "[I", true)
  | 30 => ("HalvedNamesModel", "spelledMany", "I", false)
  | 31 => ("HalvedNamesModel", "orders", "[I", true)
  | 32 => ("HalvedNamesModel", "many", "[I", true)
  | 33 => ("HalvedNamesModel", "width", "[I", true)
  | 34 => ("HalvedNamesModel", "numbers", "[J", true)
  | _ => ("HalvedNamesModel", "moving", "[J", true)
noncomputable def tyX12 : Nat → FieldType := fun k => match k with
  | 0 => .int
  | 1 => .array .int
  | 2 => .array .int
  | 3 => .array .boolean
  | 4 => .array .byte
  | 5 => .int
  | 6 => .array .int
  | 7 => .int
  | 8 => .int
  | 9 => .int
  | 10 => .int
  | 11 => .int
  | 12 => .int
  | 13 => .int
  | 14 => .array .int
  | 15 => .array .int
  | 16 => .array .int
  | 17 => .array .int
  | 18 => .int
  | 19 => .array .int
  | 20 => .array .int
  | 21 => .int
  | 22 => .int
  | 23 => .int
  | 24 => .boolean
  | 25 => .long
  | 26 => .array .boolean
  | 27 => .array .int
  | 28 => .array .int
  | 29 => .array .int
  | 30 => .int
  | 31 => .array .int
  | 32 => .array .int
  | 33 => .array .int
  | 34 => .array .long
  | _ => .array .long
noncomputable abbrev wsX120 : List Cond := u_ws RX12 TX12 36
theorem nmX12 : ∀ a, a < 36 → ∀ b, b < 36 → a ≠ b → (TX12 a).2.1 ≠ (TX12 b).2.1 := nm_of (K := [409466922039150, 1612482505828, 397393483228531, 25968163685599897445, 6247510117, 1599362590052, 6013154917, 6231259749, 90484, 6013742957, 1599597143406, 1607952266597, 6610957016828710841956, 1692404996308171499856741, 1539517543272, 6870217697952226435941, 1560925927278, 24014711, 104534321642300788, 101442460821242489, 26257500346560823929, 6649291089444881723255, 100316560711708261, 26330703588612993636, 101739204406507374, 1530927347566, 397418816956020, 1565002001267, 405072951600499, 104550797272704356, 449042255056991203794972281, 404012078035571, 6130069113, 1612380927080, 103148954138800755, 401800472129127]) (by decide +kernel) (by decide +kernel)
theorem tyX12_ok : ∀ k, k < 36 → parseFieldDescriptor (TX12 k).2.2.1 = some (tyX12 k) := by decide +kernel
end
section
noncomputable abbrev vwCl : List vw_C := [(RX0, TX0, 2), (RX1, TX1, 3), (RX2, TX2, 17), (RX3, TX3, 2), (RX4, TX4, 2), (RX5, TX5, 3), (RX7, TX7, 3), (RX8, TX8, 3), (RX9, TX9, 4), (RX10, TX10, 6), (RX11, TX11, 13), (RX12, TX12, 36)]
noncomputable def gtb : List Cond := lw_tbl.filter goodWord
theorem tbl_in {w : Cond} (h : w ∈ tables_1) : w ∈ lw_tbl := by unfold lw_tbl; exact List.mem_append_right _ h
noncomputable def ixA : List Cond → List Nat → Bool
  | [], _ => true
  | w :: t, ix => match ix with
    | [] => false
    | i :: r => decide ((tch i)[i % 240]? = some w) && ixA t r
theorem ixA_ok : ∀ {ws : List Cond} {ix : List Nat}, ixA ws ix = true → ∀ w ∈ ws, w ∈ lw_tbl
  | [], _, _, w, hw => by cases hw
  | v :: t, [], h, w, hw => by cases h
  | v :: t, i :: r, h, w, hw => by
    have h : (decide ((tch i)[i % 240]? = some v) && ixA t r) = true := h
    rw [Bool.and_eq_true] at h
    rcases List.mem_cons.mp hw with e | hw
    · rw [e]
      exact tbl_in (tch_in (List.mem_of_getElem? (of_decide_eq_true h.1)))
    · exact ixA_ok h.2 w hw
set_option maxRecDepth 100000 in
theorem im_X0 : ∀ w ∈ wsX00, w ∈ lw_tbl := ixA_ok (ix := [230, 232]) (by decide +kernel)
theorem ig_X0 : wsX00.all goodWord = true := by decide +kernel
theorem in_X0 : ∀ w ∈ wsX00, w ∈ gtb := fun w h => List.mem_filter.mpr ⟨im_X0 w h, List.all_eq_true.mp ig_X0 w h⟩
set_option maxRecDepth 100000 in
theorem im_X1 : ∀ w ∈ wsX10, w ∈ lw_tbl := ixA_ok (ix := [193, 195, 197]) (by decide +kernel)
theorem ig_X1 : wsX10.all goodWord = true := by decide +kernel
theorem in_X1 : ∀ w ∈ wsX10, w ∈ gtb := fun w h => List.mem_filter.mpr ⟨im_X1 w h, List.all_eq_true.mp ig_X1 w h⟩
set_option maxRecDepth 100000 in
theorem im_X2 : ∀ w ∈ wsX20, w ∈ lw_tbl := ixA_ok (ix := [148, 150, 152, 154, 156, 158, 160, 162, 164, 166, 168, 170, 172, 174, 176, 178, 180]) (by decide +kernel)
theorem ig_X2 : wsX20.all goodWord = true := by decide +kernel
theorem in_X2 : ∀ w ∈ wsX20, w ∈ gtb := fun w h => List.mem_filter.mpr ⟨im_X2 w h, List.all_eq_true.mp ig_X2 w h⟩
set_option maxRecDepth 100000 in
theorem im_X3 : ∀ w ∈ wsX30, w ∈ lw_tbl := ixA_ok (ix := [277, 279]) (by decide +kernel)
theorem ig_X3 : wsX30.all goodWord = true := by decide +kernel
theorem in_X3 : ∀ w ∈ wsX30, w ∈ gtb := fun w h => List.mem_filter.mpr ⟨im_X3 w h, List.all_eq_true.mp ig_X3 w h⟩
set_option maxRecDepth 100000 in
theorem im_X4 : ∀ w ∈ wsX40, w ∈ lw_tbl := ixA_ok (ix := [291, 293]) (by decide +kernel)
theorem ig_X4 : wsX40.all goodWord = true := by decide +kernel
theorem in_X4 : ∀ w ∈ wsX40, w ∈ gtb := fun w h => List.mem_filter.mpr ⟨im_X4 w h, List.all_eq_true.mp ig_X4 w h⟩
set_option maxRecDepth 100000 in
theorem im_X5 : ∀ w ∈ wsX50, w ∈ lw_tbl := ixA_ok (ix := [70, 72, 74]) (by decide +kernel)
theorem ig_X5 : wsX50.all goodWord = true := by decide +kernel
theorem in_X5 : ∀ w ∈ wsX50, w ∈ gtb := fun w h => List.mem_filter.mpr ⟨im_X5 w h, List.all_eq_true.mp ig_X5 w h⟩
set_option maxRecDepth 100000 in
theorem im_X7 : ∀ w ∈ wsX70, w ∈ lw_tbl := ixA_ok (ix := [262, 264, 266]) (by decide +kernel)
theorem ig_X7 : wsX70.all goodWord = true := by decide +kernel
theorem in_X7 : ∀ w ∈ wsX70, w ∈ gtb := fun w h => List.mem_filter.mpr ⟨im_X7 w h, List.all_eq_true.mp ig_X7 w h⟩
set_option maxRecDepth 100000 in
theorem im_X8 : ∀ w ∈ wsX80, w ∈ lw_tbl := ixA_ok (ix := [244, 246, 248]) (by decide +kernel)
theorem ig_X8 : wsX80.all goodWord = true := by decide +kernel
theorem in_X8 : ∀ w ∈ wsX80, w ∈ gtb := fun w h => List.mem_filter.mpr ⟨im_X8 w h, List.all_eq_true.mp ig_X8 w h⟩
set_option maxRecDepth 100000 in
theorem im_X9 : ∀ w ∈ wsX90, w ∈ lw_tbl := ixA_ok (ix := [213, 215, 217, 219]) (by decide +kernel)
theorem ig_X9 : wsX90.all goodWord = true := by decide +kernel
theorem in_X9 : ∀ w ∈ wsX90, w ∈ gtb := fun w h => List.mem_filter.mpr ⟨im_X9 w h, List.all_eq_true.mp ig_X9 w h⟩
set_option maxRecDepth 100000 in
theorem im_X10 : ∀ w ∈ wsX100, w ∈ lw_tbl := ixA_ok (ix := [50, 52, 54, 56, 58, 60]) (by decide +kernel)
theorem ig_X10 : wsX100.all goodWord = true := by decide +kernel
theorem in_X10 : ∀ w ∈ wsX100, w ∈ gtb := fun w h => List.mem_filter.mpr ⟨im_X10 w h, List.all_eq_true.mp ig_X10 w h⟩
set_option maxRecDepth 100000 in
theorem im_X11 : ∀ w ∈ wsX110, w ∈ lw_tbl := ixA_ok (ix := [310, 312, 314, 316, 318, 320, 322, 324, 326, 328, 330, 332, 334]) (by decide +kernel)
theorem ig_X11 : wsX110.all goodWord = true := by decide +kernel
theorem in_X11 : ∀ w ∈ wsX110, w ∈ gtb := fun w h => List.mem_filter.mpr ⟨im_X11 w h, List.all_eq_true.mp ig_X11 w h⟩
set_option maxRecDepth 100000 in
theorem im_X12 : ∀ w ∈ wsX120, w ∈ lw_tbl := ixA_ok (ix := [1242, 1244, 1246, 1248, 1250, 1252, 1254, 1256, 1258, 1260, 1262, 1264, 1266, 1268, 1270, 1272, 1274, 1276, 1278, 1280, 1282, 1284, 1286, 1288, 1290, 1292, 1294, 1296, 1298, 1300, 1302, 1304, 1306, 1308, 1310, 1312]) (by decide +kernel)
theorem ig_X12 : wsX120.all goodWord = true := by decide +kernel
theorem in_X12 : ∀ w ∈ wsX120, w ∈ gtb := fun w h => List.mem_filter.mpr ⟨im_X12 w h, List.all_eq_true.mp ig_X12 w h⟩

theorem cls_ok : ∀ (ci : Nat) (C : String) (T : u_T) (N : Nat), vwCl[ci]? = some (C, T, N) → (∀ w ∈ u_ws C T N, w ∈ gtb) ∧ (∃ ty : Nat → FieldType, ∀ k, k < N → parseFieldDescriptor (T k).2.2.1 = some (ty k)) ∧ (∀ a, a < N → ∀ b, b < N → a ≠ b → (T a).2.1 ≠ (T b).2.1) := by
  intro ci C T N h
  match ci, h with
  | 0, h => cases h; exact ⟨in_X0, ⟨tyX0, tyX0_ok⟩, nmX0⟩
  | 1, h => cases h; exact ⟨in_X1, ⟨tyX1, tyX1_ok⟩, nmX1⟩
  | 2, h => cases h; exact ⟨in_X2, ⟨tyX2, tyX2_ok⟩, nmX2⟩
  | 3, h => cases h; exact ⟨in_X3, ⟨tyX3, tyX3_ok⟩, nmX3⟩
  | 4, h => cases h; exact ⟨in_X4, ⟨tyX4, tyX4_ok⟩, nmX4⟩
  | 5, h => cases h; exact ⟨in_X5, ⟨tyX5, tyX5_ok⟩, nmX5⟩
  | 6, h => cases h; exact ⟨in_X7, ⟨tyX7, tyX7_ok⟩, nmX7⟩
  | 7, h => cases h; exact ⟨in_X8, ⟨tyX8, tyX8_ok⟩, nmX8⟩
  | 8, h => cases h; exact ⟨in_X9, ⟨tyX9, tyX9_ok⟩, nmX9⟩
  | 9, h => cases h; exact ⟨in_X10, ⟨tyX10, tyX10_ok⟩, nmX10⟩
  | 10, h => cases h; exact ⟨in_X11, ⟨tyX11, tyX11_ok⟩, nmX11⟩
  | 11, h => cases h; exact ⟨in_X12, ⟨tyX12, tyX12_ok⟩, nmX12⟩
  | n + 12, h => simp [vwCl] at h
end
