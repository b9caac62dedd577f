section LAW3
variable {p : Program} {l : Launch} {e : Env} {R : Room} {s : State} {m : MethodId} {args : Array Value} {below : List Frame} {meth : Method} {c : Code} {Q : State → Prop} {D : va_G} {tys : List (ClassId × FieldType)} {A : Nat → Prop}
variable {cells slots pc : Nat} {lv : List (Nat × Value)} {st : List Value} {ws : va_W}
theorem rt_int {ad : Nat → Nat} {z : Int} {r : Option Value} (h : rtOK ad (some (0, z, z)) r) : r = some (.int (Int32.ofInt z)) := by
  cases r with
  | none => cases h
  | some v =>
    obtain ⟨y, rfl, y1, y2⟩ := h
    have y1 : z ≤ y := y1
    have y2 : y ≤ z := y2
    rw [show y = z by omega]
theorem rt_long {ad : Nat → Nat} {z : Int} {r : Option Value} (h : rtOK ad (some (1, z, z)) r) : r = some (.long (Int64.ofInt z)) := by
  cases r with
  | none => cases h
  | some v =>
    obtain ⟨y, rfl, y1, y2⟩ := h
    have y1 : z ≤ y := y1
    have y2 : y ≤ z := y2
    rw [show y = z by omega]
theorem ok_int {ad : Nat → Nat} {lo hi : Int} {v : Int32} (h1 : lo ≤ v.toInt) (h2 : v.toInt ≤ hi) : okv ad (0, lo, hi) (.int v) := ⟨v.toInt, by rw [Int32.ofInt_toInt], h1, h2⟩
theorem ok_full {ad : Nat → Nat} {v : Int32} : okv ad (0, -2147483648, 2147483647) (.int v) := ok_int (by have := Int32.le_toInt v; omega) (by have := Int32.toInt_lt v; omega)
theorem pre_keep {ad : Nat → Nat} {F : List ((Nat × Nat) × SP3)} {mods : List Nat} {w0 ws : va_W} (hf : FRm mods w0 ws) (hm : F.all (fun q => !(memN q.1.1 mods)) = true) (h : preOK ad F w0) : preOK ad F ws := by
  intro q hq
  obtain ⟨v, h1, h2⟩ := h q hq
  have hn := List.all_eq_true.mp hm q hq
  refine ⟨v, ?_, h2⟩
  rw [hf.1 q.1.1 (memN_not (by simpa using hn))]
  exact h1
theorem L_eq {z : Int32} {off : Int} (F : LFix D tys A p R s m args c) (hd : decode code pc = .ok (.if_icmp .eq off, 3)) (ho : (pc : Int) + off = ((2424 : Nat) : Int)) (kk : LV p l e R s m args below meth c Q D A cells slots 2424 lv st ws) : LV p l e R s m args below meth c Q D A cells slots pc lv (.int z :: .int z :: st) ws := by
  intro H locs ls hl hH
  exact lv_icmp_eq F.1 F.2.1 hd ho (fun _ => kk H locs ls hl hH) (fun h => absurd rfl h)
theorem L_leq {z : Int64} {off : Int} (F : LFix D tys A p R s m args c) (hd1 : decode code pc = .ok (.lcmp, 1)) (hd : decode code (pc + 1) = .ok (.ifCond .eq off, 3)) (ho : ((pc + 1 : Nat) : Int) + off = ((2424 : Nat) : Int)) (kk : LV p l e R s m args below meth c Q D A cells slots 2424 lv st ws) : LV p l e R s m args below meth c Q D A cells slots pc lv (.long z :: .long z :: st) ws := by
  intro H locs ls hl hH
  have hz : lg_cmp z z = 0 := by simp [lg_cmp]
  refine W.lcmp F.1 F.2.1 hd1 ?_
  rw [hz]
  exact lv_if_eq F.1 F.2.1 hd ho (fun _ => kk H locs ls hl hH) (fun h => absurd rfl h)
end LAW3
