section LAW4
variable {p : Program} {l : Launch} {e : Env} {R : Room} {s : State} {m : MethodId} {args : Array Value} {below : List Frame} {meth : Method} {c : Code} {Q : State → Prop} {D : va_G} {tys : List (ClassId × FieldType)} {A : Nat → Prop}
variable {cells slots pc : Nat} {lv : List (Nat × Value)} {st : List Value} {ws : va_W}
theorem L_i2l {v : Int32} (F : LFix D tys A p R s m args c) (hd : decode code pc = .ok (.i2l, 1)) (kk : LV p l e R s m args below meth c Q D A cells slots (pc + 1) lv (.long v.toInt64 :: st) ws) : LV p l e R s m args below meth c Q D A cells slots pc lv (.int v :: st) ws := by
  intro H locs ls hl hH
  exact lv_i2l F.1 F.2.1 hd rfl (kk H locs ls hl hH)
theorem L_bp {v : Int32} {n : Int} (F : LFix D tys A p R s m args c) (hd : decode code pc = .ok (.bipush n, 2)) (hv : (Int8.ofInt n).toInt32 = v) (kk : LV p l e R s m args below meth c Q D A cells slots (pc + 2) lv (.int v :: st) ws) : LV p l e R s m args below meth c Q D A cells slots pc lv st ws := by
  intro H locs ls hl hH
  exact lv_bipush F.1 F.2.1 hd hv (kk H locs ls hl hH)
theorem L_ic {v : Int32} {n : Int} (F : LFix D tys A p R s m args c) (hd : decode code pc = .ok (.iconst n, 1)) (hv : Int32.ofInt n = v) (kk : LV p l e R s m args below meth c Q D A cells slots (pc + 1) lv (.int v :: st) ws) : LV p l e R s m args below meth c Q D A cells slots pc lv st ws := by
  intro H locs ls hl hH
  exact lv_iconst F.1 F.2.1 hd hv (kk H locs ls hl hH)
theorem L_lshl {x : Int64} {y : Int32} (F : LFix D tys A p R s m args c) (hd : decode code pc = .ok (.lshl, 1)) (kk : LV p l e R s m args below meth c Q D A cells slots (pc + 1) lv (.long (x <<< (y.toInt64 &&& 63)) :: st) ws) : LV p l e R s m args below meth c Q D A cells slots pc lv (.int y :: .long x :: st) ws := by
  intro H locs ls hl hH
  exact lv_lshl F.1 F.2.1 hd rfl (kk H locs ls hl hH)
theorem L_land {x y : Int64} (F : LFix D tys A p R s m args c) (hd : decode code pc = .ok (.land, 1)) (kk : LV p l e R s m args below meth c Q D A cells slots (pc + 1) lv (.long (x &&& y) :: st) ws) : LV p l e R s m args below meth c Q D A cells slots pc lv (.long y :: .long x :: st) ws := by
  intro H locs ls hl hH
  exact lv_land F.1 F.2.1 hd (kk H locs ls hl hH)
theorem L_lor {x y : Int64} (F : LFix D tys A p R s m args c) (hd : decode code pc = .ok (.lor, 1)) (kk : LV p l e R s m args below meth c Q D A cells slots (pc + 1) lv (.long (x ||| y) :: st) ws) : LV p l e R s m args below meth c Q D A cells slots pc lv (.long y :: .long x :: st) ws := by
  intro H locs ls hl hH
  exact lv_lor F.1 F.2.1 hd (kk H locs ls hl hH)
theorem L_ldc2 {v : Int64} {index : Nat} {w : Int} (F : LFix D tys A p R s m args c) (hw : wAt w (Cond.constantLong "HalvedNamesLaw" index v) = true) (hd : decode code pc = .ok (.ldc2_w index, 3)) (kk : LV p l e R s m args below meth c Q D A cells slots (pc + 3) lv (.long v :: st) ws) : LV p l e R s m args below meth c Q D A cells slots pc lv st ws := by
  intro H locs ls hl hH
  exact lv_ldc2 F.1 F.2.1 F.2.2.2.1 (F.2.2.2.2.1 _ (wAt_in hw)) hd (kk H locs ls hl hH)
theorem L_isub {x y : Int32} (F : LFix D tys A p R s m args c) (hd : decode code pc = .ok (.isub, 1)) (kk : LV p l e R s m args below meth c Q D A cells slots (pc + 1) lv (.int (x - y) :: st) ws) : LV p l e R s m args below meth c Q D A cells slots pc lv (.int y :: .int x :: st) ws := by
  intro H locs ls hl hH
  exact lv_isub F.1 F.2.1 hd (kk H locs ls hl hH)
theorem L_iand {x y : Int32} (F : LFix D tys A p R s m args c) (hd : decode code pc = .ok (.iand, 1)) (kk : LV p l e R s m args below meth c Q D A cells slots (pc + 1) lv (.int (x &&& y) :: st) ws) : LV p l e R s m args below meth c Q D A cells slots pc lv (.int y :: .int x :: st) ws := by
  intro H locs ls hl hH
  exact lv_iand F.1 F.2.1 hd (kk H locs ls hl hH)
theorem L_gt {x y : Int32} {off : Int} {t : Nat} (F : LFix D tys A p R s m args c) (hd : decode code pc = .ok (.if_icmp .gt off, 3)) (ho : (pc : Int) + off = (t : Int)) (k1 : y < x → LV p l e R s m args below meth c Q D A cells slots t lv st ws) (k2 : ¬ y < x → LV p l e R s m args below meth c Q D A cells slots (pc + 3) lv st ws) : LV p l e R s m args below meth c Q D A cells slots pc lv (.int y :: .int x :: st) ws := by
  intro H locs ls hl hH
  exact lv_icmp_gt F.1 F.2.1 hd ho (fun h => k1 h H locs ls hl hH) (fun h => k2 h H locs ls hl hH)
theorem L_goto {off : Int} {t : Nat} (F : LFix D tys A p R s m args c) (hd : decode code pc = .ok (.goto off, 3)) (ho : (pc : Int) + off = (t : Int)) (kk : LV p l e R s m args below meth c Q D A cells slots t lv st ws) : LV p l e R s m args below meth c Q D A cells slots pc lv st ws := by
  intro H locs ls hl hH
  exact lv_goto F.1 F.2.1 hd ho (kk H locs ls hl hH)
theorem L_iinc {v : Int32} {i : Nat} {n : Int} (F : LFix D tys A p R s m args c) (hd : decode code pc = .ok (.iinc i n, 3)) (hi : i < 4) (hv : (i, Value.int v) ∈ lv) (kk : LV p l e R s m args below meth c Q D A cells slots (pc + 3) (stL i (.int (v + Int32.ofInt n)) lv) st ws) : LV p l e R s m args below meth c Q D A cells slots pc lv st ws := by
  intro H locs ls hl hH
  obtain ⟨j, hj⟩ := List.getElem?_of_mem hv
  exact lv_iinc F.1 F.2.1 hd hl hj rfl hi rfl (fun ls' hl' => kk H locs ls' hl' hH)
theorem L_len {b L : Nat} {xs : Nat → Int32} (F : LFix D tys A p R s m args c) (hX : va_X b L xs s s.heap) (hbl : b < s.heap.size) (hbA : ¬ A b) (hd : decode code pc = .ok (.arraylength, 1)) (kk : LV p l e R s m args below meth c Q D A cells slots (pc + 1) lv (.int (Int32.ofNat L) :: st) ws) : LV p l e R s m args below meth c Q D A cells slots pc lv (.ref b :: st) ws := by
  intro H locs ls hl hH
  exact va_slen F.1 F.2.1 hX hbl hbA hH.2.2 hd (kk H locs ls hl hH)
theorem L_ald {b L : Nat} {xs : Nat → Int32} {i : Int32} (F : LFix D tys A p R s m args c) (hX : va_X b L xs s s.heap) (hbl : b < s.heap.size) (hbA : ¬ A b) (hin : vp_in i L) (hd : decode code pc = .ok (.iaload, 1)) (kk : LV p l e R s m args below meth c Q D A cells slots (pc + 1) lv (.int (xs i.toNatClampNeg) :: st) ws) : LV p l e R s m args below meth c Q D A cells slots pc lv (.int i :: .ref b :: st) ws := by
  intro H locs ls hl hH
  exact va_sld F.1 F.2.1 hX hbl hbA hH.2.2 hin hd (kk H locs ls hl hH)
/-- the switch, by a list of targets -/
theorem L_sw {u : Int32} {doff lo hi : Int} {offs : Array Int} {ts : List Nat} {n d0 : Nat} (F : LFix D tys A p R s m args c) (hd : decode code pc = .ok (.tableswitch doff lo hi offs, n)) (h0 : (pc : Int) + doff = (d0 : Int)) (hts : offs.toList.map (fun q => (pc : Int) + q) = ts.map (fun t : Nat => (t : Int))) (hn : hi - lo + 1 = (ts.length : Int)) (k0 : LV p l e R s m args below meth c Q D A cells slots d0 lv st ws) (kk : ∀ t ∈ ts, LV p l e R s m args below meth c Q D A cells slots t lv st ws) : LV p l e R s m args below meth c Q D A cells slots pc lv (.int u :: st) ws := by
  intro H locs ls hl hH
  by_cases hc : u.toInt < lo ∨ hi < u.toInt
  · exact lv_tableOut F.1 F.2.1 hd hc h0 (k0 H locs ls hl hH)
  · have hlt : (u.toInt - lo).toNat < ts.length := by omega
    have e1 : (offs.toList.map (fun q => (pc : Int) + q))[(u.toInt - lo).toNat]? = some ((ts[(u.toInt - lo).toNat] : Nat) : Int) := by
      rw [hts, List.getElem?_map, List.getElem?_eq_getElem hlt]
      rfl
    rw [List.getElem?_map] at e1
    cases e2 : offs.toList[(u.toInt - lo).toNat]? with
    | none => rw [e2] at e1; cases e1
    | some off =>
      rw [e2] at e1
      have e1 : (pc : Int) + off = ((ts[(u.toInt - lo).toNat] : Nat) : Int) := Option.some.inj e1
      exact lv_tableIn F.1 F.2.1 hd (by omega) (by omega) (by rw [← Array.getElem?_toList]; exact e2) e1 (kk _ (List.getElem_mem hlt) H locs ls hl hH)
theorem ok_long {ad : Nat → Nat} {lo hi : Int} {v : Int64} (h1 : lo ≤ v.toInt) (h2 : v.toInt ≤ hi) : okv ad (1, lo, hi) (.long v) := ⟨v.toInt, by rw [Int64.ofInt_toInt], h1, h2⟩
theorem ok_fullL {ad : Nat → Nat} {v : Int64} : okv ad (1, -9223372036854775808, 9223372036854775807) (.long v) := ok_long (by have := Int64.le_toInt v; omega) (by have := Int64.toInt_lt v; omega)
end LAW4
