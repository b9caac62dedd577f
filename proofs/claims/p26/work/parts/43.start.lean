theorem dk_16 : decode code 16 = .ok (.iconst 0, 1) := decG_ok (a := 0) (r := 16) lC_0 (by decide +kernel)
theorem dk_17 : decode code 17 = .ok (.istore_n 3, 1) := decG_ok (a := 0) (r := 17) lC_0 (by decide +kernel)
theorem dk_18 : decode code 18 = .ok (.iload_n 3, 1) := decG_ok (a := 0) (r := 18) lC_0 (by decide +kernel)
theorem dk_19 : decode code 19 = .ok (.aload_n 0, 1) := decG_ok (a := 0) (r := 19) lC_0 (by decide +kernel)
theorem dk_20 : decode code 20 = .ok (.arraylength, 1) := decG_ok (a := 0) (r := 20) lC_0 (by decide +kernel)
theorem dk_21 : decode code 21 = .ok (.bipush 6, 2) := decG_ok (a := 0) (r := 21) lC_0 (by decide +kernel)
theorem dk_23 : decode code 23 = .ok (.isub, 1) := decG_ok (a := 0) (r := 23) lC_0 (by decide +kernel)
theorem dk_24 : decode code 24 = .ok (.if_icmp .gt 2405, 3) := decG_ok (a := 0) (r := 24) lC_0 (by decide +kernel)
theorem dk_27 : decode code 27 = .ok (.aload_n 0, 1) := decG_ok (a := 0) (r := 27) lC_0 (by decide +kernel)
theorem dk_28 : decode code 28 = .ok (.iload_n 3, 1) := decG_ok (a := 0) (r := 28) lC_0 (by decide +kernel)
theorem dk_29 : decode code 29 = .ok (.iaload, 1) := decG_ok (a := 0) (r := 29) lC_0 (by decide +kernel)
theorem dk_30 : decode code 30 = .ok (.bipush 127, 2) := decG_ok (a := 0) (r := 30) lC_0 (by decide +kernel)
theorem dk_32 : decode code 32 = .ok (.iand, 1) := decG_ok (a := 0) (r := 32) lC_0 (by decide +kernel)
noncomputable def swO : Array Int := #[275, 338, 361, 374, 397, 430, 453, 486, 519, 552, 585, 628, 651, 674, 697, 730, 763, 786, 809, 832, 865, 888, 931, 964, 997, 1030, 1063, 1086, 1109, 1132, 1155, 1188, 1221, 1234, 1267, 1300, 1333, 1366, 1419, 1432, 1475, 1518, 1551, 1584, 1627, 1680, 1703, 1736, 1759, 1782, 1805, 1848, 1881, 1904, 1927, 1950, 1993, 2036, 2089, 2142, 2165, 2188, 2211, 2254, 2327]
noncomputable def swTs : List Nat := [308, 371, 394, 407, 430, 463, 486, 519, 552, 585, 618, 661, 684, 707, 730, 763, 796, 819, 842, 865, 898, 921, 964, 997, 1030, 1063, 1096, 1119, 1142, 1165, 1188, 1221, 1254, 1267, 1300, 1333, 1366, 1399, 1452, 1465, 1508, 1551, 1584, 1617, 1660, 1713, 1736, 1769, 1792, 1815, 1838, 1881, 1914, 1937, 1960, 1983, 2026, 2069, 2122, 2175, 2198, 2221, 2244, 2287, 2360]
theorem dk_33 : decode code 33 = .ok (.tableswitch 2390 0 64 swO, 275) := decF_ok (by decide +kernel)
theorem dk_2423 : decode code 2423 = .ok (.iinc 3 6, 3) := decG_ok (a := 2368) (r := 55) lC_37 (by decide +kernel)
theorem dk_2426 : decode code 2426 = .ok (.goto (-2408), 3) := decG_ok (a := 2368) (r := 58) lC_37 (by decide +kernel)
theorem dk_2429 : decode code 2429 = .ok (.iconst 1, 1) := decG_ok (a := 2368) (r := 61) lC_37 (by decide +kernel)
theorem dk_2430 : decode code 2430 = .ok (.ireturn, 1) := decG_ok (a := 2368) (r := 62) lC_37 (by decide +kernel)
theorem sw_eq : swO.toList.map (fun q => ((33 : Nat) : Int) + q) = swTs.map (fun t : Nat => (t : Int)) := by decide +kernel
section LAWE
variable {p : Program} {l : Launch} {e : Env} {R : Room} {s : State} {m : MethodId} {args : Array Value} {below : List Frame} {meth : Method} {c : Code} {Q : State → Prop} {D : va_G} {tys : List (ClassId × FieldType)} {A : Nat → Prop}
variable {cells slots : Nat} {ws : va_W}
theorem cases_all {b L : Nat} {xs : Nat → Int32} {ad : Nat → Nat} {i : Int32} (F : LFix D tys A p R s m args c) (hX : va_X b L xs s s.heap) (hbl : b < s.heap.size) (hbA : ¬ A b) (hin : ∀ k : Nat, k < 6 → vp_in (i + Int32.ofInt k) L) (hm : cells ≤ R.cells ∧ slots ≤ R.slots) (hAD : ∀ i : Nat, ad (1000 + i) = D.2 1000 i) (hG : GOK ad tys GG ws) (hR : RELW ws) (kk : ∀ w2 : va_W, GOK ad tys GG w2 → RELW w2 → LV p l e R s m args below meth c Q D A cells slots 2423 [(3, .int i), (2, .ref (ad 90)), (1, .ref (ad 0)), (0, .ref b)] [] w2) : ∀ t ∈ swTs, LV p l e R s m args below meth c Q D A cells slots t [(3, .int i), (2, .ref (ad 90)), (1, .ref (ad 0)), (0, .ref b)] [] ws := by
  refine List.forall_mem_cons.mpr ⟨case_0 F hX hbl hbA hin hm hAD hG hR kk, ?_⟩
  refine List.forall_mem_cons.mpr ⟨case_1 F hX hbl hbA hin hm hAD hG hR kk, ?_⟩
  refine List.forall_mem_cons.mpr ⟨case_2 F hX hbl hbA hin hm hAD hG hR kk, ?_⟩
  refine List.forall_mem_cons.mpr ⟨case_3 F hX hbl hbA hin hm hAD hG hR kk, ?_⟩
  refine List.forall_mem_cons.mpr ⟨case_4 F hX hbl hbA hin hm hAD hG hR kk, ?_⟩
  refine List.forall_mem_cons.mpr ⟨case_5 F hX hbl hbA hin hm hAD hG hR kk, ?_⟩
  refine List.forall_mem_cons.mpr ⟨case_6 F hX hbl hbA hin hm hAD hG hR kk, ?_⟩
  refine List.forall_mem_cons.mpr ⟨case_7 F hX hbl hbA hin hm hAD hG hR kk, ?_⟩
  refine List.forall_mem_cons.mpr ⟨case_8 F hX hbl hbA hin hm hAD hG hR kk, ?_⟩
  refine List.forall_mem_cons.mpr ⟨case_9 F hX hbl hbA hin hm hAD hG hR kk, ?_⟩
  refine List.forall_mem_cons.mpr ⟨case_10 F hX hbl hbA hin hm hAD hG hR kk, ?_⟩
  refine List.forall_mem_cons.mpr ⟨case_11 F hX hbl hbA hin hm hAD hG hR kk, ?_⟩
  refine List.forall_mem_cons.mpr ⟨case_12 F hX hbl hbA hin hm hAD hG hR kk, ?_⟩
  refine List.forall_mem_cons.mpr ⟨case_13 F hX hbl hbA hin hm hAD hG hR kk, ?_⟩
  refine List.forall_mem_cons.mpr ⟨case_14 F hX hbl hbA hin hm hAD hG hR kk, ?_⟩
  refine List.forall_mem_cons.mpr ⟨case_15 F hX hbl hbA hin hm hAD hG hR kk, ?_⟩
  refine List.forall_mem_cons.mpr ⟨case_16 F hX hbl hbA hin hm hAD hG hR kk, ?_⟩
  refine List.forall_mem_cons.mpr ⟨case_17 F hX hbl hbA hin hm hAD hG hR kk, ?_⟩
  refine List.forall_mem_cons.mpr ⟨case_18 F hX hbl hbA hin hm hAD hG hR kk, ?_⟩
  refine List.forall_mem_cons.mpr ⟨case_19 F hX hbl hbA hin hm hAD hG hR kk, ?_⟩
  refine List.forall_mem_cons.mpr ⟨case_20 F hX hbl hbA hin hm hAD hG hR kk, ?_⟩
  refine List.forall_mem_cons.mpr ⟨case_21 F hX hbl hbA hin hm hAD hG hR kk, ?_⟩
  refine List.forall_mem_cons.mpr ⟨case_22 F hX hbl hbA hin hm hAD hG hR kk, ?_⟩
  refine List.forall_mem_cons.mpr ⟨case_23 F hX hbl hbA hin hm hAD hG hR kk, ?_⟩
  refine List.forall_mem_cons.mpr ⟨case_24 F hX hbl hbA hin hm hAD hG hR kk, ?_⟩
  refine List.forall_mem_cons.mpr ⟨case_25 F hX hbl hbA hin hm hAD hG hR kk, ?_⟩
  refine List.forall_mem_cons.mpr ⟨case_26 F hX hbl hbA hin hm hAD hG hR kk, ?_⟩
  refine List.forall_mem_cons.mpr ⟨case_27 F hX hbl hbA hin hm hAD hG hR kk, ?_⟩
  refine List.forall_mem_cons.mpr ⟨case_28 F hX hbl hbA hin hm hAD hG hR kk, ?_⟩
  refine List.forall_mem_cons.mpr ⟨case_29 F hX hbl hbA hin hm hAD hG hR kk, ?_⟩
  refine List.forall_mem_cons.mpr ⟨case_30 F hX hbl hbA hin hm hAD hG hR kk, ?_⟩
  refine List.forall_mem_cons.mpr ⟨case_31 F hX hbl hbA hin hm hAD hG hR kk, ?_⟩
  refine List.forall_mem_cons.mpr ⟨case_32 F hX hbl hbA hin hm hAD hG hR kk, ?_⟩
  refine List.forall_mem_cons.mpr ⟨case_33 F hX hbl hbA hin hm hAD hG hR kk, ?_⟩
  refine List.forall_mem_cons.mpr ⟨case_34 F hX hbl hbA hin hm hAD hG hR kk, ?_⟩
  refine List.forall_mem_cons.mpr ⟨case_35 F hX hbl hbA hin hm hAD hG hR kk, ?_⟩
  refine List.forall_mem_cons.mpr ⟨case_36 F hX hbl hbA hin hm hAD hG hR kk, ?_⟩
  refine List.forall_mem_cons.mpr ⟨case_37 F hX hbl hbA hin hm hAD hG hR kk, ?_⟩
  refine List.forall_mem_cons.mpr ⟨case_38 F hX hbl hbA hin hm hAD hG hR kk, ?_⟩
  refine List.forall_mem_cons.mpr ⟨case_39 F hX hbl hbA hin hm hAD hG hR kk, ?_⟩
  refine List.forall_mem_cons.mpr ⟨case_40 F hX hbl hbA hin hm hAD hG hR kk, ?_⟩
  refine List.forall_mem_cons.mpr ⟨case_41 F hX hbl hbA hin hm hAD hG hR kk, ?_⟩
  refine List.forall_mem_cons.mpr ⟨case_42 F hX hbl hbA hin hm hAD hG hR kk, ?_⟩
  refine List.forall_mem_cons.mpr ⟨case_43 F hX hbl hbA hin hm hAD hG hR kk, ?_⟩
  refine List.forall_mem_cons.mpr ⟨case_44 F hX hbl hbA hin hm hAD hG hR kk, ?_⟩
  refine List.forall_mem_cons.mpr ⟨case_45 F hX hbl hbA hin hm hAD hG hR kk, ?_⟩
  refine List.forall_mem_cons.mpr ⟨case_46 F hX hbl hbA hin hm hAD hG hR kk, ?_⟩
  refine List.forall_mem_cons.mpr ⟨case_47 F hX hbl hbA hin hm hAD hG hR kk, ?_⟩
  refine List.forall_mem_cons.mpr ⟨case_48 F hX hbl hbA hin hm hAD hG hR kk, ?_⟩
  refine List.forall_mem_cons.mpr ⟨case_49 F hX hbl hbA hin hm hAD hG hR kk, ?_⟩
  refine List.forall_mem_cons.mpr ⟨case_50 F hX hbl hbA hin hm hAD hG hR kk, ?_⟩
  refine List.forall_mem_cons.mpr ⟨case_51 F hX hbl hbA hin hm hAD hG hR kk, ?_⟩
  refine List.forall_mem_cons.mpr ⟨case_52 F hX hbl hbA hin hm hAD hG hR kk, ?_⟩
  refine List.forall_mem_cons.mpr ⟨case_53 F hX hbl hbA hin hm hAD hG hR kk, ?_⟩
  refine List.forall_mem_cons.mpr ⟨case_54 F hX hbl hbA hin hm hAD hG hR kk, ?_⟩
  refine List.forall_mem_cons.mpr ⟨case_55 F hX hbl hbA hin hm hAD hG hR kk, ?_⟩
  refine List.forall_mem_cons.mpr ⟨case_56 F hX hbl hbA hin hm hAD hG hR kk, ?_⟩
  refine List.forall_mem_cons.mpr ⟨case_57 F hX hbl hbA hin hm hAD hG hR kk, ?_⟩
  refine List.forall_mem_cons.mpr ⟨case_58 F hX hbl hbA hin hm hAD hG hR kk, ?_⟩
  refine List.forall_mem_cons.mpr ⟨case_59 F hX hbl hbA hin hm hAD hG hR kk, ?_⟩
  refine List.forall_mem_cons.mpr ⟨case_60 F hX hbl hbA hin hm hAD hG hR kk, ?_⟩
  refine List.forall_mem_cons.mpr ⟨case_61 F hX hbl hbA hin hm hAD hG hR kk, ?_⟩
  refine List.forall_mem_cons.mpr ⟨case_62 F hX hbl hbA hin hm hAD hG hR kk, ?_⟩
  refine List.forall_mem_cons.mpr ⟨case_63 F hX hbl hbA hin hm hAD hG hR kk, ?_⟩
  refine List.forall_mem_cons.mpr ⟨case_64 F hX hbl hbA hin hm hAD hG hR kk, ?_⟩
  intro t ht
  cases ht
variable {lv : List (Nat × Value)}
theorem L_head {b L : Nat} {xs : Nat → Int32} {i : Int32} (F : LFix D tys A p R s m args c) (hX : va_X b L xs s s.heap) (hbl : b < s.heap.size) (hbA : ¬ A b) (h0 : (0, Value.ref b) ∈ lv) (h3 : (3, Value.int i) ∈ lv) (k1 : Int32.ofNat L - 6 < i → LV p l e R s m args below meth c Q D A cells slots 2429 lv [] ws) (k2 : ¬ Int32.ofNat L - 6 < i → LV p l e R s m args below meth c Q D A cells slots 27 lv [] ws) : LV p l e R s m args below meth c Q D A cells slots 18 lv [] ws := by
  refine L_il (i := 3) F dk_18 rfl h3 ?_
  refine L_al (i := 0) F dk_19 rfl h0 ?_
  refine L_len F hX hbl hbA dk_20 ?_
  refine L_bp (v := 6) F dk_21 (by decide) ?_
  refine L_isub F dk_23 ?_
  exact L_gt F dk_24 rfl k1 k2
theorem L_body {b L : Nat} {xs : Nat → Int32} {i : Int32} (F : LFix D tys A p R s m args c) (hX : va_X b L xs s s.heap) (hbl : b < s.heap.size) (hbA : ¬ A b) (hin : vp_in i L) (h0 : (0, Value.ref b) ∈ lv) (h3 : (3, Value.int i) ∈ lv) (k0 : LV p l e R s m args below meth c Q D A cells slots 2423 lv [] ws) (kk : ∀ t ∈ swTs, LV p l e R s m args below meth c Q D A cells slots t lv [] ws) : LV p l e R s m args below meth c Q D A cells slots 27 lv [] ws := by
  refine L_al (i := 0) F dk_27 rfl h0 ?_
  refine L_il (i := 3) F dk_28 rfl h3 ?_
  refine L_ald F hX hbl hbA hin dk_29 ?_
  refine L_bp (v := 127) F dk_30 (by decide) ?_
  refine L_iand F dk_32 ?_
  exact L_sw (ts := swTs) F dk_33 rfl sw_eq rfl k0 kk
end LAWE
theorem nat_i32 {n : Nat} (h : n < 100000) : (Int32.ofNat n).toInt = (n : Int) := Int32.toInt_ofInt_of_le (n := (n : Int)) (by omega) (by omega)
theorem sub6 {L : Nat} (h : L < 100000) : (Int32.ofNat L - 6).toInt = (L : Int) - 6 := by
  have e : Int32.ofNat L - 6 = Int32.ofInt ((L : Int) - 6) := by rw [Int32.ofInt_sub]; rfl
  rw [e, Int32.toInt_ofInt_of_le (by omega) (by omega)]
theorem lt6 {L n : Nat} (h : L < 100000) (hn : n < 100000) : Int32.ofNat L - 6 < Int32.ofNat n ↔ (L : Int) - 6 < n := by
  rw [Int32.lt_iff_toInt_lt, sub6 h, nat_i32 hn]
theorem inK {L n : Nat} (h : L < 90000) (hn : n + 6 ≤ L) : ∀ k : Nat, k < 6 → vp_in (Int32.ofNat n + Int32.ofInt k) L := by
  intro k hk
  have e : Int32.ofNat n + Int32.ofInt k = Int32.ofInt ((n : Int) + k) := by rw [Int32.ofInt_add]; rfl
  rw [e]
  exact vp_in_iff.mpr (by rw [Int32.toInt_ofInt_of_le (by omega) (by omega)]; omega)
theorem L_end {p : Program} {l : Launch} {e : Env} {s : State} {m : MethodId} {below : List Frame} {meth : Method} {c : Code} {b : Nat} {D : va_G} {tys : List (ClassId × FieldType)} {lv : List (Nat × Value)} {ws : va_W} (F : LFix D tys (fun q => s.heap.size ≤ q) p room_1 s m #[Value.ref b] c) (hr : meth.sig.returnType = ret) (hlocks : meth.locks = false) : LV p l e room_1 s m #[Value.ref b] below meth c (lw_Z below #[Value.ref b] s) D (fun q => s.heap.size ≤ q) 111 12403 2429 lv [] ws := by
  refine L_ic (v := 1) F dk_2429 rfl ?_
  intro H locs ls hl hH
  refine va_forget (fun q hq => hH.2.2.2.2 q hq) ?_
  refine W.widen (k := 600000) (n := 7302250) (by omega) (by omega) ?_
  exact lw_ret F.1 F.2.1 hr hlocks dk_2430
theorem law_loop {p : Program} {l : Launch} {e : Env} {s : State} {m : MethodId} {below : List Frame} {meth : Method} {c : Code} {b L : Nat} {xs : Nat → Int32} {D : va_G} {tys : List (ClassId × FieldType)} {ad : Nat → Nat} (F : LFix D tys (fun q => s.heap.size ≤ q) p room_1 s m #[Value.ref b] c) (hr : meth.sig.returnType = ret) (hlocks : meth.locks = false) (hXx : va_X b L xs s s.heap) (hbl : b < s.heap.size) (hL : L ≤ 3072) (hAD : ∀ i : Nat, ad (1000 + i) = D.2 1000 i) : ∀ (n j : Nat) (ws : va_W), L < n + 6 * j → 6 * j ≤ L → GOK ad tys GG ws → RELW ws → LV p l e room_1 s m #[Value.ref b] below meth c (lw_Z below #[Value.ref b] s) D (fun q => s.heap.size ≤ q) 111 12403 18 [(3, Value.int (Int32.ofNat (6 * j))), (2, .ref (ad 90)), (1, .ref (ad 0)), (0, .ref b)] [] ws
  | 0, j, ws, h1, h2, _, _ => by omega
  | n + 1, j, ws, h1, h2, hG, hR => by
    have hbA : ¬ (s.heap.size ≤ b) := Nat.not_le.mpr hbl
    refine L_head F hXx hbl hbA (List.Mem.tail _ (List.Mem.tail _ (List.Mem.tail _ (List.Mem.head _)))) (List.Mem.head _) (fun _ => L_end F hr hlocks) (fun h6 => ?_)
    have h6 : ¬ ((L : Int) - 6 < (6 * j : Nat)) := fun q => h6 ((lt6 (by omega) (by omega)).mpr q)
    have hin := inK (L := L) (n := 6 * j) (by omega) (by omega)
    have hk : ∀ w2 : va_W, GOK ad tys GG w2 → RELW w2 → LV p l e room_1 s m #[Value.ref b] below meth c (lw_Z below #[Value.ref b] s) D (fun q => s.heap.size ≤ q) 111 12403 2423 [(3, Value.int (Int32.ofNat (6 * j))), (2, .ref (ad 90)), (1, .ref (ad 0)), (0, .ref b)] [] w2 := by
      intro w2 hG2 hR2
      refine L_iinc (i := 3) F dk_2423 (by omega) (List.Mem.head _) ?_
      refine L_goto F dk_2426 (t := 18) rfl ?_
      rw [show stL 3 (.int (Int32.ofNat (6 * j) + Int32.ofInt 6)) [(3, Value.int (Int32.ofNat (6 * j))), (2, .ref (ad 90)), (1, .ref (ad 0)), (0, .ref b)] = [(3, Value.int (Int32.ofNat (6 * j) + Int32.ofInt 6)), (2, .ref (ad 90)), (1, .ref (ad 0)), (0, .ref b)] from rfl]
      rw [show Int32.ofNat (6 * j) + Int32.ofInt 6 = Int32.ofNat (6 * (j + 1)) by
        show Int32.ofInt ((6 * j : Nat) : Int) + Int32.ofInt 6 = Int32.ofInt ((6 * (j + 1) : Nat) : Int)
        rw [← Int32.ofInt_add]
        congr 1]
      exact law_loop F hr hlocks hXx hbl hL hAD n (j + 1) w2 (by omega) (by omega) hG2 hR2
    refine L_body F hXx hbl hbA (by have q := hin 0 (by omega); rw [show Int32.ofNat (6 * j) + Int32.ofInt ((0 : Nat) : Int) = Int32.ofNat (6 * j) by rw [show Int32.ofInt ((0 : Nat) : Int) = 0 from rfl, Int32.add_zero]] at q; exact q) (List.Mem.tail _ (List.Mem.tail _ (List.Mem.tail _ (List.Mem.head _)))) (List.Mem.head _) (hk ws hG hR) (cases_all F hXx hbl hbA hin ⟨show (111 : Nat) ≤ 600000 by omega, show (12403 : Nat) ≤ 7302250 by omega⟩ hAD hG hR hk)
noncomputable def relA : List ((Nat × Nat) × SP3) := [((2, 1), (0, 0, 0)), ((90, 5), (0, 0, 0)), ((1, 1), (0, 0, 0)), ((1, 2), (0, -1, -1)), ((90, 12), (0, 0, 0)), ((90, 13), (0, -1, -1)), ((0, 12), (0, 0, 0)), ((93, 0), (0, 0, 0)), ((93, 1), (0, 0, 0)), ((93, 2), (0, 0, 0)), ((90, 22), (0, -1, -1)), ((90, 24), (0, 0, 0)), ((32, 3), (0, 0, 0))]
noncomputable def relF : List ((Nat × Nat) × SP3) := relA ++ ((List.range 294).map (fun j => ((4 + hxC j, hxI j), (0, 0, 0))) ++ (List.range 294).map (fun j => ((91, j), (0, 0, 0))))
noncomputable def relG : List ((Nat × Nat) × SP3) := relF ++ ((List.range 12).map (fun j => ((34, j), (0, 0, 0))) ++ (List.range 12).map (fun j => ((35, j), (0, 0, 0))))
theorem fr_rel : relG.all (preB hM) = true := by decide +kernel
theorem pre_eq {ad : Nat → Nat} {F : List ((Nat × Nat) × SP3)} {ws : va_W} {c j : Nat} {v : Int} (h : preOK ad F ws) (hm : ((c, j), (0, v, v)) ∈ F) : rd ws c j = some (.int (Int32.ofInt v)) := by
  obtain ⟨u, h1, z, rfl, z1, z2⟩ := h _ hm
  have z1 : v ≤ z := z1
  have z2 : z ≤ v := z2
  rw [h1, show z = v by omega]
theorem rels_start {ad : Nat → Nat} {ws : va_W} (h : preOK ad relF ws) : RELH ws := by
  have hA : preOK ad relA ws := fun q hq => h q (List.mem_append_left _ hq)
  have hX : ∀ j, j < 294 → rd ws (4 + hxC j) (hxI j) = some (.int (Int32.ofInt 0)) := fun j hj => pre_eq h (List.mem_append_right _ (List.mem_append_left _ (List.mem_map.mpr ⟨j, List.mem_range.mpr hj, rfl⟩)))
  have hW : ∀ j, j < 294 → rd ws 91 j = some (.int (Int32.ofInt 0)) := fun j hj => pre_eq h (List.mem_append_right _ (List.mem_append_right _ (List.mem_map.mpr ⟨j, List.mem_range.mpr hj, rfl⟩)))
  refine ⟨⟨⟨0, fun _ => 0, by omega, ⟨pre_eq hA (by decide +kernel), fun k hk => absurd hk (by omega)⟩, pre_eq hA (by decide +kernel), fun k hk => absurd hk (by omega)⟩, 0, -1, ⟨pre_eq hA (by decide +kernel), pre_eq hA (by decide +kernel)⟩, pre_eq hA (by decide +kernel), pre_eq hA (by decide +kernel)⟩, ⟨fun _ => 0, fun _ _ => (show I32 0 from ⟨by omega, by omega⟩), hX, hW⟩, 0, by omega, pre_eq hA (by decide +kernel), fun q q3 => ⟨?_, fun hb => absurd hb (by rw [Nat.zero_testBit]; exact Bool.false_ne_true)⟩⟩
  rw [Nat.zero_testBit]
  rcases (show q = 0 ∨ q = 1 ∨ q = 2 by omega) with rfl | rfl | rfl
  · exact pre_eq hA (by decide +kernel)
  · exact pre_eq hA (by decide +kernel)
  · exact pre_eq hA (by decide +kernel)
theorem relw_start {ad : Nat → Nat} {ws : va_W} (h : preOK ad relG ws) : RELW ws := by
  have hF : preOK ad relF ws := fun q hq => h q (List.mem_append_left _ hq)
  have hA : preOK ad relA ws := fun q hq => hF q (List.mem_append_left _ hq)
  have hX : ∀ j, j < 294 → rd ws (4 + hxC j) (hxI j) = some (.int (Int32.ofInt 0)) := fun j hj => pre_eq hF (List.mem_append_right _ (List.mem_append_left _ (List.mem_map.mpr ⟨j, List.mem_range.mpr hj, rfl⟩)))
  have h34 : ∀ j, j < 12 → rd ws 34 j = some (.int (Int32.ofInt 0)) := fun j hj => pre_eq h (List.mem_append_right _ (List.mem_append_left _ (List.mem_map.mpr ⟨j, List.mem_range.mpr hj, rfl⟩)))
  have h35 : ∀ j, j < 12 → rd ws 35 j = some (.int (Int32.ofInt 0)) := fun j hj => pre_eq h (List.mem_append_right _ (List.mem_append_right _ (List.mem_map.mpr ⟨j, List.mem_range.mpr hj, rfl⟩)))
  have o0 : ∀ j, j < 294 → hlO ws j = 0 := fun j hj => by
    unfold hlO
    rw [hX j hj]
    exact Int32.toInt_ofInt_of_le (by omega) (by omega)
  have t0 : tellT (hlO ws) (hlO ws 2).toNat = iniT (hlO ws) := by
    rw [o0 2 (by omega)]
    rfl
  refine ⟨rels_start hF, fun _ _ _ => ⟨fun s hs => ?_, fun s hs => ?_, fun t ht j hj hp => ?_, ?_, fun i hi => ?_, fun i hi => ?_⟩, fun s hs => ?_, fun q q3 e => ?_, pre_eq hA (by decide +kernel), pre_eq hA (by decide +kernel)⟩
  · rw [o0 4 (by omega)] at hs
    exact absurd hs (by omega)
  · rw [o0 4 (by omega)] at hs
    exact absurd hs (by omega)
  · rw [o0 3 (by omega)] at hp
    exact absurd hp (by omega)
  · rw [t0]
    exact pre_eq hA (by decide +kernel)
  · rw [t0]
    exact h34 i hi
  · rw [t0]
    exact h35 i hi
  · rw [o0 4 (by omega)] at hs
    exact absurd hs (by omega)
  · have e0 : rd ws 93 q = some (.int (Int32.ofInt 0)) := by
      rcases (show q = 0 ∨ q = 1 ∨ q = 2 by omega) with rfl | rfl | rfl
      · exact pre_eq hA (by decide +kernel)
      · exact pre_eq hA (by decide +kernel)
      · exact pre_eq hA (by decide +kernel)
    rw [e0] at e
    exact absurd e (by decide)
theorem wf_M : wfW hM.length [] [] hM = true := by rw [lM]; exact fr_all.2.2.2.1
theorem len_M : hM.length = 111 := lM
theorem whole_start {p : Program} {e : Env} {s : State} {m : MethodId} {below : List Frame} {meth : Method} {c : Code} (l : Launch) (hflags : l.flags = flags0) {b L : Nat} {xs : Nat → Int32} (hL : L ≤ 3072) (C0 : lw_At p s m meth c b L xs) : W p l e room_1 s m #[Value.ref b] below meth c s.heap [] 0 0 (lw_Z below #[Value.ref b] s) (entryFrame m ([Value.ref b] : List Value).toArray 4) := by
  obtain ⟨hx, hb, hr, hml, hown, hts0, hXx, hbl, hlocks, hgv⟩ := C0
  have hts : ∀ w ∈ gtb, w.before #[Value.ref b] s = true := fun w hw => hts0 w (List.mem_filter.mp hw).1
  obtain ⟨D, tys, hK, HT⟩ := kk_start (A := fun q => s.heap.size ≤ q) (fun a ha => Nat.not_le.mpr ha) hgv hts0 hts
  have F : LFix D tys (fun q => s.heap.size ≤ q) p room_1 s m #[Value.ref b] c := ⟨hx, hb, hml, hown, hts, hK, (by show (14 : Nat) ≤ room_1.frames; decide), (by show (528 : Nat) ≤ room_1.locals; decide), fun q h => h⟩
  rw [lg_entry_eq]
  refine L_start (below := below) (meth := meth) (wX := hX) (wM := hM) F (fun q => ctX HT q) (fun ad q => ctM HT ad q) ⟨Nat.le_refl _, Nat.le_refl _⟩ (fun ad0 => ?_) s.heap [] _ (lv_entry [.ref b] (show (1 : Nat) ≤ 4 by omega)) ⟨fun k q h => by simp at h, ⟨fun i j p q h => by simp at h, fun k q h => by simp at h⟩, va_S.rf⟩
  have e0 : ∃ ad : Nat → Nat, (∀ i : Nat, ad (1000 + i) = D.2 1000 i) ∧ ad 0 = ad0 0 ∧ ad 90 = ad0 90 ∧ cwF tys ad 0 hM = cwF tys ad0 0 hM := by
    have ⟨ad1, c1, c2⟩ : ∃ ad1 : Nat → Nat, (∀ i, i < 1000 → ad0 i = ad1 i) ∧ ∀ i, ad1 (1000 + i) = D.2 1000 i := by
      refine ⟨fun i => if i < 1000 then ad0 i else D.2 1000 (i - 1000), fun i hi => ?_, fun i => ?_⟩
      · exact (if_pos hi).symm
      · show (if 1000 + i < 1000 then ad0 (1000 + i) else D.2 1000 (1000 + i - 1000)) = _
        rw [if_neg (by omega), show 1000 + i - 1000 = i by omega]
    exact ⟨ad1, c2, (c1 0 (by omega)).symm, (c1 90 (by omega)).symm, (wfW_eq wf_M (fun i hi => (c1 i (by rw [len_M] at hi; omega)).symm)).2.2⟩
  obtain ⟨ad, hAD, a0, a90, ew⟩ := e0
  have hG := gok_of (ad := ad) HT fr_gok
  have hR : RELW (cwF tys ad 0 hM) := relw_start (preB_ok fr_rel)
  rw [← a0, ← a90, ← ew]
  revert hG hR
  generalize cwF tys ad 0 hM = ws
  intro hG hR
  refine L_ic (v := 0) F dk_16 rfl ?_
  refine L_ist (i := 3) F dk_17 rfl ?_
  rw [show stL 3 (.int 0) [(2, .ref (ad 90)), (1, .ref (ad 0)), (0, .ref b)] = [(3, Value.int (Int32.ofNat (6 * 0))), (2, .ref (ad 90)), (1, .ref (ad 0)), (0, .ref b)] from rfl]
  exact law_loop F hr hlocks hXx hbl hL hAD (L + 1) 0 ws (by omega) (by omega) hG hR
