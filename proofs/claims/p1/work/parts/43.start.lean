theorem dk_16 : decode code 16 = .ok (.iconst 0, 1) := by decide +kernel
theorem dk_17 : decode code 17 = .ok (.istore_n 3, 1) := by decide +kernel
theorem dk_18 : decode code 18 = .ok (.iload_n 3, 1) := by decide +kernel
theorem dk_19 : decode code 19 = .ok (.aload_n 0, 1) := by decide +kernel
theorem dk_20 : decode code 20 = .ok (.arraylength, 1) := by decide +kernel
theorem dk_21 : decode code 21 = .ok (.bipush 6, 2) := by decide +kernel
theorem dk_23 : decode code 23 = .ok (.isub, 1) := by decide +kernel
theorem dk_24 : decode code 24 = .ok (.if_icmp .gt 2406, 3) := by decide +kernel
theorem dk_27 : decode code 27 = .ok (.aload_n 0, 1) := by decide +kernel
theorem dk_28 : decode code 28 = .ok (.iload_n 3, 1) := by decide +kernel
theorem dk_29 : decode code 29 = .ok (.iaload, 1) := by decide +kernel
theorem dk_30 : decode code 30 = .ok (.bipush 127, 2) := by decide +kernel
theorem dk_32 : decode code 32 = .ok (.iand, 1) := by decide +kernel
def swO : Array Int := #[275, 338, 361, 374, 397, 430, 453, 486, 519, 552, 585, 628, 651, 674, 697, 730, 763, 786, 809, 832, 865, 888, 931, 964, 997, 1030, 1063, 1086, 1109, 1132, 1155, 1188, 1221, 1234, 1267, 1300, 1333, 1366, 1419, 1432, 1475, 1518, 1551, 1584, 1627, 1680, 1703, 1736, 1759, 1782, 1805, 1848, 1881, 1904, 1927, 1950, 1994, 2037, 2090, 2143, 2166, 2189, 2212, 2255, 2328]
def swTs : List Nat := [308, 371, 394, 407, 430, 463, 486, 519, 552, 585, 618, 661, 684, 707, 730, 763, 796, 819, 842, 865, 898, 921, 964, 997, 1030, 1063, 1096, 1119, 1142, 1165, 1188, 1221, 1254, 1267, 1300, 1333, 1366, 1399, 1452, 1465, 1508, 1551, 1584, 1617, 1660, 1713, 1736, 1769, 1792, 1815, 1838, 1881, 1914, 1937, 1960, 1983, 2027, 2070, 2123, 2176, 2199, 2222, 2245, 2288, 2361]
theorem dk_33 : decode code 33 = .ok (.tableswitch 2391 0 64 swO, 275) := by decide +kernel
theorem dk_2424 : decode code 2424 = .ok (.iinc 3 6, 3) := by decide +kernel
theorem dk_2427 : decode code 2427 = .ok (.goto (-2409), 3) := by decide +kernel
theorem dk_2430 : decode code 2430 = .ok (.iconst 1, 1) := by decide +kernel
theorem dk_2431 : decode code 2431 = .ok (.ireturn, 1) := by decide +kernel
theorem sw_eq : swO.toList.map (fun q => ((33 : Nat) : Int) + q) = swTs.map (fun t : Nat => (t : Int)) := by decide +kernel
section LAWE
variable {p : Program} {l : Launch} {e : Env} {R : Room} {s : State} {m : MethodId} {args : Array Value} {below : List Frame} {meth : Method} {c : Code} {Q : State → Prop} {D : va_G} {tys : List (ClassId × FieldType)} {A : Nat → Prop}
variable {cells slots : Nat} {ws : va_W}
theorem cases_all {b L : Nat} {xs : Nat → Int32} {ad : Nat → Nat} (F : LFix D tys A p R s m args c) (hX : va_X b L xs s s.heap) (hbl : b < s.heap.size) (hbA : ¬ A b) (hin : ∀ k : Nat, k < 6 → vp_in (0 + Int32.ofInt k) L) (hm : cells ≤ R.cells ∧ slots ≤ R.slots) (hG : GOK ad tys GG ws) (hP1 : preOK ad FX ws) (hP2 : preOK ad FM ws) (kk : ∀ w2 : va_W, LV p l e R s m args below meth c Q D A cells slots 2424 [(3, .int 0), (2, .ref (ad 90)), (1, .ref (ad 0)), (0, .ref b)] [] w2) : ∀ t ∈ swTs, LV p l e R s m args below meth c Q D A cells slots t [(3, .int 0), (2, .ref (ad 90)), (1, .ref (ad 0)), (0, .ref b)] [] ws := by
  refine List.forall_mem_cons.mpr ⟨case_0 F hX hbl hbA hin hm hG hP1 hP2 kk, ?_⟩
  refine List.forall_mem_cons.mpr ⟨case_1 F hX hbl hbA hin hm hG hP1 hP2 kk, ?_⟩
  refine List.forall_mem_cons.mpr ⟨case_2 F hX hbl hbA hin hm hG hP1 hP2 kk, ?_⟩
  refine List.forall_mem_cons.mpr ⟨case_3 F hX hbl hbA hin hm hG hP1 hP2 kk, ?_⟩
  refine List.forall_mem_cons.mpr ⟨case_4 F hX hbl hbA hin hm hG hP1 hP2 kk, ?_⟩
  refine List.forall_mem_cons.mpr ⟨case_5 F hX hbl hbA hin hm hG hP1 hP2 kk, ?_⟩
  refine List.forall_mem_cons.mpr ⟨case_6 F hX hbl hbA hin hm hG hP1 hP2 kk, ?_⟩
  refine List.forall_mem_cons.mpr ⟨case_7 F hX hbl hbA hin hm hG hP1 hP2 kk, ?_⟩
  refine List.forall_mem_cons.mpr ⟨case_8 F hX hbl hbA hin hm hG hP1 hP2 kk, ?_⟩
  refine List.forall_mem_cons.mpr ⟨case_9 F hX hbl hbA hin hm hG hP1 hP2 kk, ?_⟩
  refine List.forall_mem_cons.mpr ⟨case_10 F hX hbl hbA hin hm hG hP1 hP2 kk, ?_⟩
  refine List.forall_mem_cons.mpr ⟨case_11 F hX hbl hbA hin hm hG hP1 hP2 kk, ?_⟩
  refine List.forall_mem_cons.mpr ⟨case_12 F hX hbl hbA hin hm hG hP1 hP2 kk, ?_⟩
  refine List.forall_mem_cons.mpr ⟨case_13 F hX hbl hbA hin hm hG hP1 hP2 kk, ?_⟩
  refine List.forall_mem_cons.mpr ⟨case_14 F hX hbl hbA hin hm hG hP1 hP2 kk, ?_⟩
  refine List.forall_mem_cons.mpr ⟨case_15 F hX hbl hbA hin hm hG hP1 hP2 kk, ?_⟩
  refine List.forall_mem_cons.mpr ⟨case_16 F hX hbl hbA hin hm hG hP1 hP2 kk, ?_⟩
  refine List.forall_mem_cons.mpr ⟨case_17 F hX hbl hbA hin hm hG hP1 hP2 kk, ?_⟩
  refine List.forall_mem_cons.mpr ⟨case_18 F hX hbl hbA hin hm hG hP1 hP2 kk, ?_⟩
  refine List.forall_mem_cons.mpr ⟨case_19 F hX hbl hbA hin hm hG hP1 hP2 kk, ?_⟩
  refine List.forall_mem_cons.mpr ⟨case_20 F hX hbl hbA hin hm hG hP1 hP2 kk, ?_⟩
  refine List.forall_mem_cons.mpr ⟨case_21 F hX hbl hbA hin hm hG hP1 hP2 kk, ?_⟩
  refine List.forall_mem_cons.mpr ⟨case_22 F hX hbl hbA hin hm hG hP1 hP2 kk, ?_⟩
  refine List.forall_mem_cons.mpr ⟨case_23 F hX hbl hbA hin hm hG hP1 hP2 kk, ?_⟩
  refine List.forall_mem_cons.mpr ⟨case_24 F hX hbl hbA hin hm hG hP1 hP2 kk, ?_⟩
  refine List.forall_mem_cons.mpr ⟨case_25 F hX hbl hbA hin hm hG hP1 hP2 kk, ?_⟩
  refine List.forall_mem_cons.mpr ⟨case_26 F hX hbl hbA hin hm hG hP1 hP2 kk, ?_⟩
  refine List.forall_mem_cons.mpr ⟨case_27 F hX hbl hbA hin hm hG hP1 hP2 kk, ?_⟩
  refine List.forall_mem_cons.mpr ⟨case_28 F hX hbl hbA hin hm hG hP1 hP2 kk, ?_⟩
  refine List.forall_mem_cons.mpr ⟨case_29 F hX hbl hbA hin hm hG hP1 hP2 kk, ?_⟩
  refine List.forall_mem_cons.mpr ⟨case_30 F hX hbl hbA hin hm hG hP1 hP2 kk, ?_⟩
  refine List.forall_mem_cons.mpr ⟨case_31 F hX hbl hbA hin hm hG hP1 hP2 kk, ?_⟩
  refine List.forall_mem_cons.mpr ⟨case_32 F hX hbl hbA hin hm hG hP1 hP2 kk, ?_⟩
  refine List.forall_mem_cons.mpr ⟨case_33 F hX hbl hbA hin hm hG hP1 hP2 kk, ?_⟩
  refine List.forall_mem_cons.mpr ⟨case_34 F hX hbl hbA hin hm hG hP1 hP2 kk, ?_⟩
  refine List.forall_mem_cons.mpr ⟨case_35 F hX hbl hbA hin hm hG hP1 hP2 kk, ?_⟩
  refine List.forall_mem_cons.mpr ⟨case_36 F hX hbl hbA hin hm hG hP1 hP2 kk, ?_⟩
  refine List.forall_mem_cons.mpr ⟨case_37 F hX hbl hbA hin hm hG hP1 hP2 kk, ?_⟩
  refine List.forall_mem_cons.mpr ⟨case_38 F hX hbl hbA hin hm hG hP1 hP2 kk, ?_⟩
  refine List.forall_mem_cons.mpr ⟨case_39 F hX hbl hbA hin hm hG hP1 hP2 kk, ?_⟩
  refine List.forall_mem_cons.mpr ⟨case_40 F hX hbl hbA hin hm hG hP1 hP2 kk, ?_⟩
  refine List.forall_mem_cons.mpr ⟨case_41 F hX hbl hbA hin hm hG hP1 hP2 kk, ?_⟩
  refine List.forall_mem_cons.mpr ⟨case_42 F hX hbl hbA hin hm hG hP1 hP2 kk, ?_⟩
  refine List.forall_mem_cons.mpr ⟨case_43 F hX hbl hbA hin hm hG hP1 hP2 kk, ?_⟩
  refine List.forall_mem_cons.mpr ⟨case_44 F hX hbl hbA hin hm hG hP1 hP2 kk, ?_⟩
  refine List.forall_mem_cons.mpr ⟨case_45 F hX hbl hbA hin hm hG hP1 hP2 kk, ?_⟩
  refine List.forall_mem_cons.mpr ⟨case_46 F hX hbl hbA hin hm hG hP1 hP2 kk, ?_⟩
  refine List.forall_mem_cons.mpr ⟨case_47 F hX hbl hbA hin hm hG hP1 hP2 kk, ?_⟩
  refine List.forall_mem_cons.mpr ⟨case_48 F hX hbl hbA hin hm hG hP1 hP2 kk, ?_⟩
  refine List.forall_mem_cons.mpr ⟨case_49 F hX hbl hbA hin hm hG hP1 hP2 kk, ?_⟩
  refine List.forall_mem_cons.mpr ⟨case_50 F hX hbl hbA hin hm hG hP1 hP2 kk, ?_⟩
  refine List.forall_mem_cons.mpr ⟨case_51 F hX hbl hbA hin hm hG hP1 hP2 kk, ?_⟩
  refine List.forall_mem_cons.mpr ⟨case_52 F hX hbl hbA hin hm hG hP1 hP2 kk, ?_⟩
  refine List.forall_mem_cons.mpr ⟨case_53 F hX hbl hbA hin hm hG hP1 hP2 kk, ?_⟩
  refine List.forall_mem_cons.mpr ⟨case_54 F hX hbl hbA hin hm hG hP1 hP2 kk, ?_⟩
  refine List.forall_mem_cons.mpr ⟨case_55 F hX hbl hbA hin hm hG hP1 hP2 kk, ?_⟩
  refine List.forall_mem_cons.mpr ⟨case_56 F hX hbl hbA hin hm hG hP1 hP2 kk, ?_⟩
  refine List.forall_mem_cons.mpr ⟨case_57 F hX hbl hbA hin hm hG hP1 hP2 kk, ?_⟩
  refine List.forall_mem_cons.mpr ⟨case_58 F hX hbl hbA hin hm hG hP1 hP2 kk, ?_⟩
  refine List.forall_mem_cons.mpr ⟨case_59 F hX hbl hbA hin hm hG hP1 hP2 kk, ?_⟩
  refine List.forall_mem_cons.mpr ⟨case_60 F hX hbl hbA hin hm hG hP1 hP2 kk, ?_⟩
  refine List.forall_mem_cons.mpr ⟨case_61 F hX hbl hbA hin hm hG hP1 hP2 kk, ?_⟩
  refine List.forall_mem_cons.mpr ⟨case_62 F hX hbl hbA hin hm hG hP1 hP2 kk, ?_⟩
  refine List.forall_mem_cons.mpr ⟨case_63 F hX hbl hbA hin hm hG hP1 hP2 kk, ?_⟩
  refine List.forall_mem_cons.mpr ⟨case_64 F hX hbl hbA hin hm hG hP1 hP2 kk, ?_⟩
  intro t ht
  cases ht
variable {lv : List (Nat × Value)}
theorem L_head {b L : Nat} {xs : Nat → Int32} {i : Int32} (F : LFix D tys A p R s m args c) (hX : va_X b L xs s s.heap) (hbl : b < s.heap.size) (hbA : ¬ A b) (h0 : (0, Value.ref b) ∈ lv) (h3 : (3, Value.int i) ∈ lv) (k1 : Int32.ofNat L - 6 < i → LV p l e R s m args below meth c Q D A cells slots 2430 lv [] ws) (k2 : ¬ Int32.ofNat L - 6 < i → LV p l e R s m args below meth c Q D A cells slots 27 lv [] ws) : LV p l e R s m args below meth c Q D A cells slots 18 lv [] ws := by
  refine L_il (i := 3) F dk_18 rfl h3 ?_
  refine L_al (i := 0) F dk_19 rfl h0 ?_
  refine L_len F hX hbl hbA dk_20 ?_
  refine L_bp (v := 6) F dk_21 (by decide) ?_
  refine L_isub F dk_23 ?_
  exact L_gt F dk_24 rfl k1 k2
theorem L_body {b L : Nat} {xs : Nat → Int32} (F : LFix D tys A p R s m args c) (hX : va_X b L xs s s.heap) (hbl : b < s.heap.size) (hbA : ¬ A b) (hin : vp_in 0 L) (h0 : (0, Value.ref b) ∈ lv) (h3 : (3, Value.int 0) ∈ lv) (k0 : LV p l e R s m args below meth c Q D A cells slots 2424 lv [] ws) (kk : ∀ t ∈ swTs, LV p l e R s m args below meth c Q D A cells slots t lv [] ws) : LV p l e R s m args below meth c Q D A cells slots 27 lv [] ws := by
  refine L_al (i := 0) F dk_27 rfl h0 ?_
  refine L_il (i := 3) F dk_28 rfl h3 ?_
  refine L_ald F hX hbl hbA hin dk_29 ?_
  refine L_bp (v := 127) F dk_30 (by decide) ?_
  refine L_iand F dk_32 ?_
  exact L_sw (ts := swTs) F dk_33 rfl sw_eq rfl k0 kk
end LAWE
theorem len6 {L : Nat} (h : L ≤ 6) (h6 : ¬ Int32.ofNat L - 6 < 0) : L = 6 := by
  match L, h, h6 with
  | 0, _, h6 => exact absurd (by decide +kernel) h6
  | 1, _, h6 => exact absurd (by decide +kernel) h6
  | 2, _, h6 => exact absurd (by decide +kernel) h6
  | 3, _, h6 => exact absurd (by decide +kernel) h6
  | 4, _, h6 => exact absurd (by decide +kernel) h6
  | 5, _, h6 => exact absurd (by decide +kernel) h6
  | 6, _, _ => rfl
  | L + 7, h, _ => omega
theorem in6 : ∀ k : Nat, k < 6 → vp_in (0 + Int32.ofInt k) 6 := by
  intro k hk
  unfold vp_in
  match k, hk with
  | 0, _ => decide +kernel
  | 1, _ => decide +kernel
  | 2, _ => decide +kernel
  | 3, _ => decide +kernel
  | 4, _ => decide +kernel
  | 5, _ => decide +kernel
  | k + 6, hk => omega
theorem L_end {p : Program} {l : Launch} {e : Env} {s : State} {m : MethodId} {below : List Frame} {meth : Method} {c : Code} {b : Nat} {D : va_G} {tys : List (ClassId × FieldType)} {lv : List (Nat × Value)} {ws : va_W} (F : LFix D tys (fun q => s.heap.size ≤ q) p room_1 s m #[Value.ref b] c) (hr : meth.sig.returnType = ret) (hlocks : meth.locks = false) : LV p l e room_1 s m #[Value.ref b] below meth c (lw_Z below #[Value.ref b] s) D (fun q => s.heap.size ≤ q) 111 12403 2430 lv [] ws := by
  refine L_ic (v := 1) F dk_2430 rfl ?_
  intro H locs ls hl hH
  refine va_forget (fun q hq => hH.2.2.2.2 q hq) ?_
  refine W.widen (k := 600000) (n := 7302250) (by omega) (by omega) ?_
  exact lw_ret F.1 F.2.1 hr hlocks dk_2431
theorem whole_start {p : Program} {e : Env} {s : State} {m : MethodId} {below : List Frame} {meth : Method} {c : Code} (l : Launch) (hflags : l.flags = flags0) {b L : Nat} {xs : Nat → Int32} (hL : L ≤ 6) (C0 : lw_At p s m meth c b L xs) : W p l e room_1 s m #[Value.ref b] below meth c s.heap [] 0 0 (lw_Z below #[Value.ref b] s) (entryFrame m ([Value.ref b] : List Value).toArray 4) := by
  obtain ⟨hx, hb, hr, hml, hown, hts0, hXx, hbl, hlocks, -⟩ := C0
  have hts : ∀ w ∈ gtb, w.before #[Value.ref b] s = true := fun w hw => hts0 w (List.mem_filter.mp hw).1
  obtain ⟨D, tys, hK, HT⟩ := kk_start hts0 hts
  have F : LFix D tys (fun q => s.heap.size ≤ q) p room_1 s m #[Value.ref b] c := ⟨hx, hb, hml, hown, hts, hK, Nat.le_refl _, Nat.le_refl _, fun q h => h⟩
  have hbA : ¬ (s.heap.size ≤ b) := Nat.not_le.mpr hbl
  rw [lg_entry_eq]
  refine L_start (below := below) (meth := meth) (wX := hX) (wM := hM) F (fun q => ctX HT q) (fun ad q => ctM HT ad q) ⟨Nat.le_refl _, Nat.le_refl _⟩ (fun ad => ?_) s.heap [] _ (lv_entry [.ref b] (show (1 : Nat) ≤ 4 by omega)) ⟨fun k q h => by simp at h, ⟨fun i j p q h => by simp at h, fun k q h => by simp at h⟩, va_S.rf⟩
  have hG := gok_of (ad := ad) HT fr_gok
  have hP1 := preB_ok (tys := tys) (ad := ad) fr_FX
  have hP2 := preB_ok (tys := tys) (ad := ad) fr_FM
  revert hG hP1 hP2
  generalize cwF tys ad 0 hM = ws
  intro hG hP1 hP2
  refine L_ic (v := 0) F dk_16 rfl ?_
  refine L_ist (i := 3) F dk_17 rfl ?_
  rw [show stL 3 (.int 0) [(2, .ref (ad 90)), (1, .ref (ad 0)), (0, .ref b)] = [(3, Value.int 0), (2, .ref (ad 90)), (1, .ref (ad 0)), (0, .ref b)] from rfl]
  refine L_head F hXx hbl hbA (List.Mem.tail _ (List.Mem.tail _ (List.Mem.tail _ (List.Mem.head _)))) (List.Mem.head _) (fun _ => L_end F hr hlocks) (fun h6 => ?_)
  have e6 := len6 hL h6
  subst e6
  have hk : ∀ w2 : va_W, LV p l e room_1 s m #[Value.ref b] below meth c (lw_Z below #[Value.ref b] s) D (fun q => s.heap.size ≤ q) 111 12403 2424 [(3, Value.int 0), (2, .ref (ad 90)), (1, .ref (ad 0)), (0, .ref b)] [] w2 := by
    intro w2
    refine L_iinc (i := 3) F dk_2424 (by omega) (List.Mem.head _) ?_
    refine L_goto F dk_2427 (t := 18) rfl ?_
    rw [show stL 3 (.int (0 + Int32.ofInt 6)) [(3, Value.int 0), (2, .ref (ad 90)), (1, .ref (ad 0)), (0, .ref b)] = [(3, Value.int (0 + Int32.ofInt 6)), (2, .ref (ad 90)), (1, .ref (ad 0)), (0, .ref b)] from rfl]
    exact L_head F hXx hbl hbA (List.Mem.tail _ (List.Mem.tail _ (List.Mem.tail _ (List.Mem.head _)))) (List.Mem.head _) (fun _ => L_end F hr hlocks) (fun h => absurd (by decide +kernel) h)
  exact L_body F hXx hbl hbA (in6 0 (by omega)) (List.Mem.tail _ (List.Mem.tail _ (List.Mem.tail _ (List.Mem.head _)))) (List.Mem.head _) (hk ws) (cases_all F hXx hbl hbA in6 ⟨show (111 : Nat) ≤ 600000 by omega, show (12403 : Nat) ≤ 7302250 by omega⟩ hG hP1 hP2 hk)
