section CASES0
variable {p : Program} {l : Launch} {e : Env} {R : Room} {s : State} {m : MethodId} {args : Array Value} {below : List Frame} {meth : Method} {c : Code} {Q : State → Prop} {D : va_G} {tys : List (ClassId × FieldType)} {A : Nat → Prop}
variable {cells slots : Nat} {ws : va_W}
theorem case_0 {b L : Nat} {xs : Nat → Int32} {ad : Nat → Nat} (F : LFix D tys A p R s m args c) (hX : va_X b L xs s s.heap) (hbl : b < s.heap.size) (hbA : ¬ A b) (hin : ∀ k : Nat, k < 6 → vp_in (0 + Int32.ofInt k) L) (hm : cells ≤ R.cells ∧ slots ≤ R.slots) (hG : GOK ad tys GG ws) (hP1 : preOK ad FX ws) (hP2 : preOK ad FM ws) (kk : ∀ w2 : va_W, LV p l e R s m args below meth c Q D A cells slots 2424 [(3, .int 0), (2, .ref (ad 90)), (1, .ref (ad 0)), (0, .ref b)] [] w2) : LV p l e R s m args below meth c Q D A cells slots 308 [(3, .int 0), (2, .ref (ad 90)), (1, .ref (ad 0)), (0, .ref b)] [] ws := by
  refine L_al (i := 1) F dk_308 rfl (List.Mem.tail _ (List.Mem.tail _ (List.Mem.head _))) ?_
  refine L_arg F hX hbl hbA (List.Mem.tail _ (List.Mem.tail _ (List.Mem.tail _ (List.Mem.head _)))) (List.Mem.head _) dk_309 dk_310 dk_311 dk_312 dk_313 (hin 1 (by omega)) ?_
  refine L_arg F hX hbl hbA (List.Mem.tail _ (List.Mem.tail _ (List.Mem.tail _ (List.Mem.head _)))) (List.Mem.head _) dk_314 dk_315 dk_316 dk_317 dk_318 (hin 2 (by omega)) ?_
  refine L_arg F hX hbl hbA (List.Mem.tail _ (List.Mem.tail _ (List.Mem.tail _ (List.Mem.head _)))) (List.Mem.head _) dk_319 dk_320 dk_321 dk_322 dk_323 (hin 3 (by omega)) ?_
  refine L_arg F hX hbl hbA (List.Mem.tail _ (List.Mem.tail _ (List.Mem.tail _ (List.Mem.head _)))) (List.Mem.head _) dk_324 dk_325 dk_326 dk_327 dk_328 (hin 4 (by omega)) ?_
  refine L_arg F hX hbl hbA (List.Mem.tail _ (List.Mem.tail _ (List.Mem.tail _ (List.Mem.head _)))) (List.Mem.head _) dk_329 dk_330 dk_331 dk_332 dk_333 (hin 5 (by omega)) ?_
  · refine L_cr (As := [.int (xs (0 + Int32.ofInt 1).toNatClampNeg), .int (xs (0 + Int32.ofInt 2).toNatClampNeg), .int (xs (0 + Int32.ofInt 3).toNatClampNeg), .int (xs (0 + Int32.ofInt 4).toNatClampNeg), .int (xs (0 + Int32.ofInt 5).toNatClampNeg)]) (k := kX0_0) (q0 := 0) F rX0_0 (show 1 < 341 by omega) (show mKind 1 = 0 by decide +kernel) (w := 337) (show wAt 337 (Cond.methodLink "HalvedNamesLaw" 13 (mY 1)) = true by decide +kernel) dk_334 (show 5 = mN 1 by decide +kernel) (show GG[0]? = some _ from rfl) rfl ⟨_, _, rfl⟩ (by decide) hm hG hP1 ⟨rfl, ok_full, ok_full, ok_full, ok_full, ok_full, trivial⟩ (fun r1 w1 z1 => ?_)
    rw [rt_int z1.2.2.1]
    refine L_al (i := 2) F dk_337 rfl (List.Mem.tail _ (List.Mem.head _)) ?_
    refine L_arg F hX hbl hbA (List.Mem.tail _ (List.Mem.tail _ (List.Mem.tail _ (List.Mem.head _)))) (List.Mem.head _) dk_338 dk_339 dk_340 dk_341 dk_342 (hin 1 (by omega)) ?_
    refine L_arg F hX hbl hbA (List.Mem.tail _ (List.Mem.tail _ (List.Mem.tail _ (List.Mem.head _)))) (List.Mem.head _) dk_343 dk_344 dk_345 dk_346 dk_347 (hin 2 (by omega)) ?_
    refine L_arg F hX hbl hbA (List.Mem.tail _ (List.Mem.tail _ (List.Mem.tail _ (List.Mem.head _)))) (List.Mem.head _) dk_348 dk_349 dk_350 dk_351 dk_352 (hin 3 (by omega)) ?_
    refine L_arg F hX hbl hbA (List.Mem.tail _ (List.Mem.tail _ (List.Mem.tail _ (List.Mem.head _)))) (List.Mem.head _) dk_353 dk_354 dk_355 dk_356 dk_357 (hin 4 (by omega)) ?_
    refine L_arg F hX hbl hbA (List.Mem.tail _ (List.Mem.tail _ (List.Mem.tail _ (List.Mem.head _)))) (List.Mem.head _) dk_358 dk_359 dk_360 dk_361 dk_362 (hin 5 (by omega)) ?_
    refine L_cr (As := [.int (xs (0 + Int32.ofInt 1).toNatClampNeg), .int (xs (0 + Int32.ofInt 2).toNatClampNeg), .int (xs (0 + Int32.ofInt 3).toNatClampNeg), .int (xs (0 + Int32.ofInt 4).toNatClampNeg), .int (xs (0 + Int32.ofInt 5).toNatClampNeg)]) (k := kM0_0) (q0 := 90) F rM0_0 (show 210 < 341 by omega) (show mKind 210 = 0 by decide +kernel) (w := 1328) (show wAt 1328 (Cond.methodLink "HalvedNamesLaw" 17 (mY 210)) = true by decide +kernel) dk_363 (show 5 = mN 210 by decide +kernel) (show GG[90]? = some _ from rfl) rfl ⟨_, _, rfl⟩ (by simp) hm z1.1 (pre_keep z1.2.1 (by decide +kernel) hP2) ⟨rfl, ok_full, ok_full, ok_full, ok_full, ok_full, trivial⟩ (fun r2 w2 z2 => ?_)
    rw [rt_int z2.2.2.1]
    exact L_eq F dk_366 rfl (kk w2)
theorem case_1 {b L : Nat} {xs : Nat → Int32} {ad : Nat → Nat} (F : LFix D tys A p R s m args c) (hX : va_X b L xs s s.heap) (hbl : b < s.heap.size) (hbA : ¬ A b) (hin : ∀ k : Nat, k < 6 → vp_in (0 + Int32.ofInt k) L) (hm : cells ≤ R.cells ∧ slots ≤ R.slots) (hG : GOK ad tys GG ws) (hP1 : preOK ad FX ws) (hP2 : preOK ad FM ws) (kk : ∀ w2 : va_W, LV p l e R s m args below meth c Q D A cells slots 2424 [(3, .int 0), (2, .ref (ad 90)), (1, .ref (ad 0)), (0, .ref b)] [] w2) : LV p l e R s m args below meth c Q D A cells slots 371 [(3, .int 0), (2, .ref (ad 90)), (1, .ref (ad 0)), (0, .ref b)] [] ws := by
  refine L_al (i := 1) F dk_371 rfl (List.Mem.tail _ (List.Mem.tail _ (List.Mem.head _))) ?_
  refine L_arg F hX hbl hbA (List.Mem.tail _ (List.Mem.tail _ (List.Mem.tail _ (List.Mem.head _)))) (List.Mem.head _) dk_372 dk_373 dk_374 dk_375 dk_376 (hin 1 (by omega)) ?_
  have l1 := Int32.le_toInt (xs (0 + Int32.ofInt 1).toNatClampNeg)
  have u1 := Int32.toInt_lt (xs (0 + Int32.ofInt 1).toNatClampNeg)
  have hb : (((-2147483648) ≤ (xs (0 + Int32.ofInt 1).toNatClampNeg).toInt ∧ (xs (0 + Int32.ofInt 1).toNatClampNeg).toInt ≤ (-1))) ∨ ((0 ≤ (xs (0 + Int32.ofInt 1).toNatClampNeg).toInt ∧ (xs (0 + Int32.ofInt 1).toNatClampNeg).toInt ≤ 0)) ∨ ((1 ≤ (xs (0 + Int32.ofInt 1).toNatClampNeg).toInt ∧ (xs (0 + Int32.ofInt 1).toNatClampNeg).toInt ≤ 2147483647)) := by omega
  rcases hb with ⟨⟨a1, b1⟩⟩ | ⟨⟨a1, b1⟩⟩ | ⟨⟨a1, b1⟩⟩
  · refine L_cr (As := [.int (xs (0 + Int32.ofInt 1).toNatClampNeg)]) (k := kX1_0) (q0 := 0) F rX1_0 (show 2 < 341 by omega) (show mKind 2 = 0 by decide +kernel) (w := 345) (show wAt 345 (Cond.methodLink "HalvedNamesLaw" 18 (mY 2)) = true by decide +kernel) dk_377 (show 1 = mN 2 by decide +kernel) (show GG[0]? = some _ from rfl) rfl ⟨_, _, rfl⟩ (by decide) hm hG hP1 ⟨rfl, ok_int a1 b1, trivial⟩ (fun r1 w1 z1 => ?_)
    rw [rt_int z1.2.2.1]
    refine L_al (i := 2) F dk_380 rfl (List.Mem.tail _ (List.Mem.head _)) ?_
    refine L_arg F hX hbl hbA (List.Mem.tail _ (List.Mem.tail _ (List.Mem.tail _ (List.Mem.head _)))) (List.Mem.head _) dk_381 dk_382 dk_383 dk_384 dk_385 (hin 1 (by omega)) ?_
    refine L_cr (As := [.int (xs (0 + Int32.ofInt 1).toNatClampNeg)]) (k := kM1_0) (q0 := 90) F rM1_0 (show 211 < 341 by omega) (show mKind 211 = 0 by decide +kernel) (w := 1332) (show wAt 1332 (Cond.methodLink "HalvedNamesLaw" 22 (mY 211)) = true by decide +kernel) dk_386 (show 1 = mN 211 by decide +kernel) (show GG[90]? = some _ from rfl) rfl ⟨_, _, rfl⟩ (by simp) hm z1.1 (pre_keep z1.2.1 (by decide +kernel) hP2) ⟨rfl, ok_int a1 b1, trivial⟩ (fun r2 w2 z2 => ?_)
    rw [rt_int z2.2.2.1]
    exact L_eq F dk_389 rfl (kk w2)
  · refine L_cr (As := [.int (xs (0 + Int32.ofInt 1).toNatClampNeg)]) (k := kX1_1) (q0 := 0) F rX1_1 (show 2 < 341 by omega) (show mKind 2 = 0 by decide +kernel) (w := 345) (show wAt 345 (Cond.methodLink "HalvedNamesLaw" 18 (mY 2)) = true by decide +kernel) dk_377 (show 1 = mN 2 by decide +kernel) (show GG[0]? = some _ from rfl) rfl ⟨_, _, rfl⟩ (by decide) hm hG hP1 ⟨rfl, ok_int a1 b1, trivial⟩ (fun r1 w1 z1 => ?_)
    rw [rt_int z1.2.2.1]
    refine L_al (i := 2) F dk_380 rfl (List.Mem.tail _ (List.Mem.head _)) ?_
    refine L_arg F hX hbl hbA (List.Mem.tail _ (List.Mem.tail _ (List.Mem.tail _ (List.Mem.head _)))) (List.Mem.head _) dk_381 dk_382 dk_383 dk_384 dk_385 (hin 1 (by omega)) ?_
    refine L_cr (As := [.int (xs (0 + Int32.ofInt 1).toNatClampNeg)]) (k := kM1_1) (q0 := 90) F rM1_1 (show 211 < 341 by omega) (show mKind 211 = 0 by decide +kernel) (w := 1332) (show wAt 1332 (Cond.methodLink "HalvedNamesLaw" 22 (mY 211)) = true by decide +kernel) dk_386 (show 1 = mN 211 by decide +kernel) (show GG[90]? = some _ from rfl) rfl ⟨_, _, rfl⟩ (by simp) hm z1.1 (pre_keep z1.2.1 (by decide +kernel) hP2) ⟨rfl, ok_int a1 b1, trivial⟩ (fun r2 w2 z2 => ?_)
    rw [rt_int z2.2.2.1]
    exact L_eq F dk_389 rfl (kk w2)
  · refine L_cr (As := [.int (xs (0 + Int32.ofInt 1).toNatClampNeg)]) (k := kX1_2) (q0 := 0) F rX1_2 (show 2 < 341 by omega) (show mKind 2 = 0 by decide +kernel) (w := 345) (show wAt 345 (Cond.methodLink "HalvedNamesLaw" 18 (mY 2)) = true by decide +kernel) dk_377 (show 1 = mN 2 by decide +kernel) (show GG[0]? = some _ from rfl) rfl ⟨_, _, rfl⟩ (by decide) hm hG hP1 ⟨rfl, ok_int a1 b1, trivial⟩ (fun r1 w1 z1 => ?_)
    rw [rt_int z1.2.2.1]
    refine L_al (i := 2) F dk_380 rfl (List.Mem.tail _ (List.Mem.head _)) ?_
    refine L_arg F hX hbl hbA (List.Mem.tail _ (List.Mem.tail _ (List.Mem.tail _ (List.Mem.head _)))) (List.Mem.head _) dk_381 dk_382 dk_383 dk_384 dk_385 (hin 1 (by omega)) ?_
    refine L_cr (As := [.int (xs (0 + Int32.ofInt 1).toNatClampNeg)]) (k := kM1_2) (q0 := 90) F rM1_2 (show 211 < 341 by omega) (show mKind 211 = 0 by decide +kernel) (w := 1332) (show wAt 1332 (Cond.methodLink "HalvedNamesLaw" 22 (mY 211)) = true by decide +kernel) dk_386 (show 1 = mN 211 by decide +kernel) (show GG[90]? = some _ from rfl) rfl ⟨_, _, rfl⟩ (by simp) hm z1.1 (pre_keep z1.2.1 (by decide +kernel) hP2) ⟨rfl, ok_int a1 b1, trivial⟩ (fun r2 w2 z2 => ?_)
    rw [rt_int z2.2.2.1]
    exact L_eq F dk_389 rfl (kk w2)
theorem case_2 {b L : Nat} {xs : Nat → Int32} {ad : Nat → Nat} (F : LFix D tys A p R s m args c) (hX : va_X b L xs s s.heap) (hbl : b < s.heap.size) (hbA : ¬ A b) (hin : ∀ k : Nat, k < 6 → vp_in (0 + Int32.ofInt k) L) (hm : cells ≤ R.cells ∧ slots ≤ R.slots) (hG : GOK ad tys GG ws) (hP1 : preOK ad FX ws) (hP2 : preOK ad FM ws) (kk : ∀ w2 : va_W, LV p l e R s m args below meth c Q D A cells slots 2424 [(3, .int 0), (2, .ref (ad 90)), (1, .ref (ad 0)), (0, .ref b)] [] w2) : LV p l e R s m args below meth c Q D A cells slots 394 [(3, .int 0), (2, .ref (ad 90)), (1, .ref (ad 0)), (0, .ref b)] [] ws := by
  refine L_al (i := 1) F dk_394 rfl (List.Mem.tail _ (List.Mem.tail _ (List.Mem.head _))) ?_
  · refine L_cr (As := []) (k := kX2_0) (q0 := 0) F rX2_0 (show 3 < 341 by omega) (show mKind 3 = 0 by decide +kernel) (w := 349) (show wAt 349 (Cond.methodLink "HalvedNamesLaw" 23 (mY 3)) = true by decide +kernel) dk_395 (show 0 = mN 3 by decide +kernel) (show GG[0]? = some _ from rfl) rfl ⟨_, _, rfl⟩ (by decide) hm hG hP1 ⟨rfl, trivial⟩ (fun r1 w1 z1 => ?_)
    rw [rt_int z1.2.2.1]
    refine L_al (i := 2) F dk_398 rfl (List.Mem.tail _ (List.Mem.head _)) ?_
    refine L_cr (As := []) (k := kM2_0) (q0 := 90) F rM2_0 (show 233 < 341 by omega) (show mKind 233 = 0 by decide +kernel) (w := 1340) (show wAt 1340 (Cond.methodLink "HalvedNamesLaw" 27 (mY 233)) = true by decide +kernel) dk_399 (show 0 = mN 233 by decide +kernel) (show GG[90]? = some _ from rfl) rfl ⟨_, _, rfl⟩ (by simp) hm z1.1 (pre_keep z1.2.1 (by decide +kernel) hP2) ⟨rfl, trivial⟩ (fun r2 w2 z2 => ?_)
    rw [rt_int z2.2.2.1]
    exact L_eq F dk_402 rfl (kk w2)
theorem case_3 {b L : Nat} {xs : Nat → Int32} {ad : Nat → Nat} (F : LFix D tys A p R s m args c) (hX : va_X b L xs s s.heap) (hbl : b < s.heap.size) (hbA : ¬ A b) (hin : ∀ k : Nat, k < 6 → vp_in (0 + Int32.ofInt k) L) (hm : cells ≤ R.cells ∧ slots ≤ R.slots) (hG : GOK ad tys GG ws) (hP1 : preOK ad FX ws) (hP2 : preOK ad FM ws) (kk : ∀ w2 : va_W, LV p l e R s m args below meth c Q D A cells slots 2424 [(3, .int 0), (2, .ref (ad 90)), (1, .ref (ad 0)), (0, .ref b)] [] w2) : LV p l e R s m args below meth c Q D A cells slots 407 [(3, .int 0), (2, .ref (ad 90)), (1, .ref (ad 0)), (0, .ref b)] [] ws := by
  refine L_al (i := 1) F dk_407 rfl (List.Mem.tail _ (List.Mem.tail _ (List.Mem.head _))) ?_
  refine L_arg F hX hbl hbA (List.Mem.tail _ (List.Mem.tail _ (List.Mem.tail _ (List.Mem.head _)))) (List.Mem.head _) dk_408 dk_409 dk_410 dk_411 dk_412 (hin 1 (by omega)) ?_
  have l1 := Int32.le_toInt (xs (0 + Int32.ofInt 1).toNatClampNeg)
  have u1 := Int32.toInt_lt (xs (0 + Int32.ofInt 1).toNatClampNeg)
  have hb : (((-2147483648) ≤ (xs (0 + Int32.ofInt 1).toNatClampNeg).toInt ∧ (xs (0 + Int32.ofInt 1).toNatClampNeg).toInt ≤ (-1))) ∨ ((0 ≤ (xs (0 + Int32.ofInt 1).toNatClampNeg).toInt ∧ (xs (0 + Int32.ofInt 1).toNatClampNeg).toInt ≤ 0)) ∨ ((1 ≤ (xs (0 + Int32.ofInt 1).toNatClampNeg).toInt ∧ (xs (0 + Int32.ofInt 1).toNatClampNeg).toInt ≤ 1)) ∨ ((2 ≤ (xs (0 + Int32.ofInt 1).toNatClampNeg).toInt ∧ (xs (0 + Int32.ofInt 1).toNatClampNeg).toInt ≤ 2147483647)) := by omega
  rcases hb with ⟨⟨a1, b1⟩⟩ | ⟨⟨a1, b1⟩⟩ | ⟨⟨a1, b1⟩⟩ | ⟨⟨a1, b1⟩⟩
  · refine L_cr (As := [.int (xs (0 + Int32.ofInt 1).toNatClampNeg)]) (k := kX3_0) (q0 := 0) F rX3_0 (show 4 < 341 by omega) (show mKind 4 = 0 by decide +kernel) (w := 599) (show wAt 599 (Cond.methodLink "HalvedNamesLaw" 28 (mY 4)) = true by decide +kernel) dk_413 (show 1 = mN 4 by decide +kernel) (show GG[0]? = some _ from rfl) rfl ⟨_, _, rfl⟩ (by decide) hm hG hP1 ⟨rfl, ok_int a1 b1, trivial⟩ (fun r1 w1 z1 => ?_)
    rw [rt_int z1.2.2.1]
    refine L_al (i := 2) F dk_416 rfl (List.Mem.tail _ (List.Mem.head _)) ?_
    refine L_arg F hX hbl hbA (List.Mem.tail _ (List.Mem.tail _ (List.Mem.tail _ (List.Mem.head _)))) (List.Mem.head _) dk_417 dk_418 dk_419 dk_420 dk_421 (hin 1 (by omega)) ?_
    refine L_cr (As := [.int (xs (0 + Int32.ofInt 1).toNatClampNeg)]) (k := kM3_0) (q0 := 90) F rM3_0 (show 221 < 341 by omega) (show mKind 221 = 0 by decide +kernel) (w := 1336) (show wAt 1336 (Cond.methodLink "HalvedNamesLaw" 31 (mY 221)) = true by decide +kernel) dk_422 (show 1 = mN 221 by decide +kernel) (show GG[90]? = some _ from rfl) rfl ⟨_, _, rfl⟩ (by simp) hm z1.1 (pre_keep z1.2.1 (by decide +kernel) hP2) ⟨rfl, ok_int a1 b1, trivial⟩ (fun r2 w2 z2 => ?_)
    rw [rt_int z2.2.2.1]
    exact L_eq F dk_425 rfl (kk w2)
  · refine L_cr (As := [.int (xs (0 + Int32.ofInt 1).toNatClampNeg)]) (k := kX3_1) (q0 := 0) F rX3_1 (show 4 < 341 by omega) (show mKind 4 = 0 by decide +kernel) (w := 599) (show wAt 599 (Cond.methodLink "HalvedNamesLaw" 28 (mY 4)) = true by decide +kernel) dk_413 (show 1 = mN 4 by decide +kernel) (show GG[0]? = some _ from rfl) rfl ⟨_, _, rfl⟩ (by decide) hm hG hP1 ⟨rfl, ok_int a1 b1, trivial⟩ (fun r1 w1 z1 => ?_)
    rw [rt_int z1.2.2.1]
    refine L_al (i := 2) F dk_416 rfl (List.Mem.tail _ (List.Mem.head _)) ?_
    refine L_arg F hX hbl hbA (List.Mem.tail _ (List.Mem.tail _ (List.Mem.tail _ (List.Mem.head _)))) (List.Mem.head _) dk_417 dk_418 dk_419 dk_420 dk_421 (hin 1 (by omega)) ?_
    refine L_cr (As := [.int (xs (0 + Int32.ofInt 1).toNatClampNeg)]) (k := kM3_1) (q0 := 90) F rM3_1 (show 221 < 341 by omega) (show mKind 221 = 0 by decide +kernel) (w := 1336) (show wAt 1336 (Cond.methodLink "HalvedNamesLaw" 31 (mY 221)) = true by decide +kernel) dk_422 (show 1 = mN 221 by decide +kernel) (show GG[90]? = some _ from rfl) rfl ⟨_, _, rfl⟩ (by simp) hm z1.1 (pre_keep z1.2.1 (by decide +kernel) hP2) ⟨rfl, ok_int a1 b1, trivial⟩ (fun r2 w2 z2 => ?_)
    rw [rt_int z2.2.2.1]
    exact L_eq F dk_425 rfl (kk w2)
  · refine L_cr (As := [.int (xs (0 + Int32.ofInt 1).toNatClampNeg)]) (k := kX3_2) (q0 := 0) F rX3_2 (show 4 < 341 by omega) (show mKind 4 = 0 by decide +kernel) (w := 599) (show wAt 599 (Cond.methodLink "HalvedNamesLaw" 28 (mY 4)) = true by decide +kernel) dk_413 (show 1 = mN 4 by decide +kernel) (show GG[0]? = some _ from rfl) rfl ⟨_, _, rfl⟩ (by decide) hm hG hP1 ⟨rfl, ok_int a1 b1, trivial⟩ (fun r1 w1 z1 => ?_)
    rw [rt_int z1.2.2.1]
    refine L_al (i := 2) F dk_416 rfl (List.Mem.tail _ (List.Mem.head _)) ?_
    refine L_arg F hX hbl hbA (List.Mem.tail _ (List.Mem.tail _ (List.Mem.tail _ (List.Mem.head _)))) (List.Mem.head _) dk_417 dk_418 dk_419 dk_420 dk_421 (hin 1 (by omega)) ?_
    refine L_cr (As := [.int (xs (0 + Int32.ofInt 1).toNatClampNeg)]) (k := kM3_2) (q0 := 90) F rM3_2 (show 221 < 341 by omega) (show mKind 221 = 0 by decide +kernel) (w := 1336) (show wAt 1336 (Cond.methodLink "HalvedNamesLaw" 31 (mY 221)) = true by decide +kernel) dk_422 (show 1 = mN 221 by decide +kernel) (show GG[90]? = some _ from rfl) rfl ⟨_, _, rfl⟩ (by simp) hm z1.1 (pre_keep z1.2.1 (by decide +kernel) hP2) ⟨rfl, ok_int a1 b1, trivial⟩ (fun r2 w2 z2 => ?_)
    rw [rt_int z2.2.2.1]
    exact L_eq F dk_425 rfl (kk w2)
  · refine L_cr (As := [.int (xs (0 + Int32.ofInt 1).toNatClampNeg)]) (k := kX3_3) (q0 := 0) F rX3_3 (show 4 < 341 by omega) (show mKind 4 = 0 by decide +kernel) (w := 599) (show wAt 599 (Cond.methodLink "HalvedNamesLaw" 28 (mY 4)) = true by decide +kernel) dk_413 (show 1 = mN 4 by decide +kernel) (show GG[0]? = some _ from rfl) rfl ⟨_, _, rfl⟩ (by decide) hm hG hP1 ⟨rfl, ok_int a1 b1, trivial⟩ (fun r1 w1 z1 => ?_)
    rw [rt_int z1.2.2.1]
    refine L_al (i := 2) F dk_416 rfl (List.Mem.tail _ (List.Mem.head _)) ?_
    refine L_arg F hX hbl hbA (List.Mem.tail _ (List.Mem.tail _ (List.Mem.tail _ (List.Mem.head _)))) (List.Mem.head _) dk_417 dk_418 dk_419 dk_420 dk_421 (hin 1 (by omega)) ?_
    refine L_cr (As := [.int (xs (0 + Int32.ofInt 1).toNatClampNeg)]) (k := kM3_3) (q0 := 90) F rM3_3 (show 221 < 341 by omega) (show mKind 221 = 0 by decide +kernel) (w := 1336) (show wAt 1336 (Cond.methodLink "HalvedNamesLaw" 31 (mY 221)) = true by decide +kernel) dk_422 (show 1 = mN 221 by decide +kernel) (show GG[90]? = some _ from rfl) rfl ⟨_, _, rfl⟩ (by simp) hm z1.1 (pre_keep z1.2.1 (by decide +kernel) hP2) ⟨rfl, ok_int a1 b1, trivial⟩ (fun r2 w2 z2 => ?_)
    rw [rt_int z2.2.2.1]
    exact L_eq F dk_425 rfl (kk w2)
theorem case_4 {b L : Nat} {xs : Nat → Int32} {ad : Nat → Nat} (F : LFix D tys A p R s m args c) (hX : va_X b L xs s s.heap) (hbl : b < s.heap.size) (hbA : ¬ A b) (hin : ∀ k : Nat, k < 6 → vp_in (0 + Int32.ofInt k) L) (hm : cells ≤ R.cells ∧ slots ≤ R.slots) (hG : GOK ad tys GG ws) (hP1 : preOK ad FX ws) (hP2 : preOK ad FM ws) (kk : ∀ w2 : va_W, LV p l e R s m args below meth c Q D A cells slots 2424 [(3, .int 0), (2, .ref (ad 90)), (1, .ref (ad 0)), (0, .ref b)] [] w2) : LV p l e R s m args below meth c Q D A cells slots 430 [(3, .int 0), (2, .ref (ad 90)), (1, .ref (ad 0)), (0, .ref b)] [] ws := by
  refine L_al (i := 1) F dk_430 rfl (List.Mem.tail _ (List.Mem.tail _ (List.Mem.head _))) ?_
  refine L_arg F hX hbl hbA (List.Mem.tail _ (List.Mem.tail _ (List.Mem.tail _ (List.Mem.head _)))) (List.Mem.head _) dk_431 dk_432 dk_433 dk_434 dk_435 (hin 1 (by omega)) ?_
  refine L_arg F hX hbl hbA (List.Mem.tail _ (List.Mem.tail _ (List.Mem.tail _ (List.Mem.head _)))) (List.Mem.head _) dk_436 dk_437 dk_438 dk_439 dk_440 (hin 2 (by omega)) ?_
  · refine L_cr (As := [.int (xs (0 + Int32.ofInt 1).toNatClampNeg), .int (xs (0 + Int32.ofInt 2).toNatClampNeg)]) (k := kX4_0) (q0 := 0) F rX4_0 (show 5 < 341 by omega) (show mKind 5 = 0 by decide +kernel) (w := 603) (show wAt 603 (Cond.methodLink "HalvedNamesLaw" 32 (mY 5)) = true by decide +kernel) dk_441 (show 2 = mN 5 by decide +kernel) (show GG[0]? = some _ from rfl) rfl ⟨_, _, rfl⟩ (by decide) hm hG hP1 ⟨rfl, ok_full, ok_full, trivial⟩ (fun r1 w1 z1 => ?_)
    rw [rt_int z1.2.2.1]
    refine L_al (i := 2) F dk_444 rfl (List.Mem.tail _ (List.Mem.head _)) ?_
    refine L_arg F hX hbl hbA (List.Mem.tail _ (List.Mem.tail _ (List.Mem.tail _ (List.Mem.head _)))) (List.Mem.head _) dk_445 dk_446 dk_447 dk_448 dk_449 (hin 1 (by omega)) ?_
    refine L_arg F hX hbl hbA (List.Mem.tail _ (List.Mem.tail _ (List.Mem.tail _ (List.Mem.head _)))) (List.Mem.head _) dk_450 dk_451 dk_452 dk_453 dk_454 (hin 2 (by omega)) ?_
    refine L_cr (As := [.int (xs (0 + Int32.ofInt 1).toNatClampNeg), .int (xs (0 + Int32.ofInt 2).toNatClampNeg)]) (k := kM4_0) (q0 := 90) F rM4_0 (show 243 < 341 by omega) (show mKind 243 = 0 by decide +kernel) (w := 1444) (show wAt 1444 (Cond.methodLink "HalvedNamesLaw" 36 (mY 243)) = true by decide +kernel) dk_455 (show 2 = mN 243 by decide +kernel) (show GG[90]? = some _ from rfl) rfl ⟨_, _, rfl⟩ (by simp) hm z1.1 (pre_keep z1.2.1 (by decide +kernel) hP2) ⟨rfl, ok_full, ok_full, trivial⟩ (fun r2 w2 z2 => ?_)
    rw [rt_int z2.2.2.1]
    exact L_eq F dk_458 rfl (kk w2)
theorem case_5 {b L : Nat} {xs : Nat → Int32} {ad : Nat → Nat} (F : LFix D tys A p R s m args c) (hX : va_X b L xs s s.heap) (hbl : b < s.heap.size) (hbA : ¬ A b) (hin : ∀ k : Nat, k < 6 → vp_in (0 + Int32.ofInt k) L) (hm : cells ≤ R.cells ∧ slots ≤ R.slots) (hG : GOK ad tys GG ws) (hP1 : preOK ad FX ws) (hP2 : preOK ad FM ws) (kk : ∀ w2 : va_W, LV p l e R s m args below meth c Q D A cells slots 2424 [(3, .int 0), (2, .ref (ad 90)), (1, .ref (ad 0)), (0, .ref b)] [] w2) : LV p l e R s m args below meth c Q D A cells slots 463 [(3, .int 0), (2, .ref (ad 90)), (1, .ref (ad 0)), (0, .ref b)] [] ws := by
  refine L_al (i := 1) F dk_463 rfl (List.Mem.tail _ (List.Mem.tail _ (List.Mem.head _))) ?_
  refine L_arg F hX hbl hbA (List.Mem.tail _ (List.Mem.tail _ (List.Mem.tail _ (List.Mem.head _)))) (List.Mem.head _) dk_464 dk_465 dk_466 dk_467 dk_468 (hin 1 (by omega)) ?_
  · refine L_cr (As := [.int (xs (0 + Int32.ofInt 1).toNatClampNeg)]) (k := kX5_0) (q0 := 0) F rX5_0 (show 6 < 341 by omega) (show mKind 6 = 0 by decide +kernel) (w := 616) (show wAt 616 (Cond.methodLink "HalvedNamesLaw" 37 (mY 6)) = true by decide +kernel) dk_469 (show 1 = mN 6 by decide +kernel) (show GG[0]? = some _ from rfl) rfl ⟨_, _, rfl⟩ (by decide) hm hG hP1 ⟨rfl, ok_full, trivial⟩ (fun r1 w1 z1 => ?_)
    rw [rt_int z1.2.2.1]
    refine L_al (i := 2) F dk_472 rfl (List.Mem.tail _ (List.Mem.head _)) ?_
    refine L_arg F hX hbl hbA (List.Mem.tail _ (List.Mem.tail _ (List.Mem.tail _ (List.Mem.head _)))) (List.Mem.head _) dk_473 dk_474 dk_475 dk_476 dk_477 (hin 1 (by omega)) ?_
    refine L_cr (As := [.int (xs (0 + Int32.ofInt 1).toNatClampNeg)]) (k := kM5_0) (q0 := 90) F rM5_0 (show 244 < 341 by omega) (show mKind 244 = 0 by decide +kernel) (w := 1460) (show wAt 1460 (Cond.methodLink "HalvedNamesLaw" 40 (mY 244)) = true by decide +kernel) dk_478 (show 1 = mN 244 by decide +kernel) (show GG[90]? = some _ from rfl) rfl ⟨_, _, rfl⟩ (by simp) hm z1.1 (pre_keep z1.2.1 (by decide +kernel) hP2) ⟨rfl, ok_full, trivial⟩ (fun r2 w2 z2 => ?_)
    rw [rt_int z2.2.2.1]
    exact L_eq F dk_481 rfl (kk w2)
theorem case_6 {b L : Nat} {xs : Nat → Int32} {ad : Nat → Nat} (F : LFix D tys A p R s m args c) (hX : va_X b L xs s s.heap) (hbl : b < s.heap.size) (hbA : ¬ A b) (hin : ∀ k : Nat, k < 6 → vp_in (0 + Int32.ofInt k) L) (hm : cells ≤ R.cells ∧ slots ≤ R.slots) (hG : GOK ad tys GG ws) (hP1 : preOK ad FX ws) (hP2 : preOK ad FM ws) (kk : ∀ w2 : va_W, LV p l e R s m args below meth c Q D A cells slots 2424 [(3, .int 0), (2, .ref (ad 90)), (1, .ref (ad 0)), (0, .ref b)] [] w2) : LV p l e R s m args below meth c Q D A cells slots 486 [(3, .int 0), (2, .ref (ad 90)), (1, .ref (ad 0)), (0, .ref b)] [] ws := by
  refine L_al (i := 1) F dk_486 rfl (List.Mem.tail _ (List.Mem.tail _ (List.Mem.head _))) ?_
  refine L_arg F hX hbl hbA (List.Mem.tail _ (List.Mem.tail _ (List.Mem.tail _ (List.Mem.head _)))) (List.Mem.head _) dk_487 dk_488 dk_489 dk_490 dk_491 (hin 1 (by omega)) ?_
  refine L_arg F hX hbl hbA (List.Mem.tail _ (List.Mem.tail _ (List.Mem.tail _ (List.Mem.head _)))) (List.Mem.head _) dk_492 dk_493 dk_494 dk_495 dk_496 (hin 2 (by omega)) ?_
  · refine L_cr (As := [.int (xs (0 + Int32.ofInt 1).toNatClampNeg), .int (xs (0 + Int32.ofInt 2).toNatClampNeg)]) (k := kX6_0) (q0 := 0) F rX6_0 (show 7 < 341 by omega) (show mKind 7 = 0 by decide +kernel) (w := 621) (show wAt 621 (Cond.methodLink "HalvedNamesLaw" 41 (mY 7)) = true by decide +kernel) dk_497 (show 2 = mN 7 by decide +kernel) (show GG[0]? = some _ from rfl) rfl ⟨_, _, rfl⟩ (by decide) hm hG hP1 ⟨rfl, ok_full, ok_full, trivial⟩ (fun r1 w1 z1 => ?_)
    rw [rt_int z1.2.2.1]
    refine L_al (i := 2) F dk_500 rfl (List.Mem.tail _ (List.Mem.head _)) ?_
    refine L_arg F hX hbl hbA (List.Mem.tail _ (List.Mem.tail _ (List.Mem.tail _ (List.Mem.head _)))) (List.Mem.head _) dk_501 dk_502 dk_503 dk_504 dk_505 (hin 1 (by omega)) ?_
    refine L_arg F hX hbl hbA (List.Mem.tail _ (List.Mem.tail _ (List.Mem.tail _ (List.Mem.head _)))) (List.Mem.head _) dk_506 dk_507 dk_508 dk_509 dk_510 (hin 2 (by omega)) ?_
    refine L_cr (As := [.int (xs (0 + Int32.ofInt 1).toNatClampNeg), .int (xs (0 + Int32.ofInt 2).toNatClampNeg)]) (k := kM6_0) (q0 := 90) F rM6_0 (show 245 < 341 by omega) (show mKind 245 = 0 by decide +kernel) (w := 1464) (show wAt 1464 (Cond.methodLink "HalvedNamesLaw" 44 (mY 245)) = true by decide +kernel) dk_511 (show 2 = mN 245 by decide +kernel) (show GG[90]? = some _ from rfl) rfl ⟨_, _, rfl⟩ (by simp) hm z1.1 (pre_keep z1.2.1 (by decide +kernel) hP2) ⟨rfl, ok_full, ok_full, trivial⟩ (fun r2 w2 z2 => ?_)
    rw [rt_int z2.2.2.1]
    exact L_eq F dk_514 rfl (kk w2)
theorem case_7 {b L : Nat} {xs : Nat → Int32} {ad : Nat → Nat} (F : LFix D tys A p R s m args c) (hX : va_X b L xs s s.heap) (hbl : b < s.heap.size) (hbA : ¬ A b) (hin : ∀ k : Nat, k < 6 → vp_in (0 + Int32.ofInt k) L) (hm : cells ≤ R.cells ∧ slots ≤ R.slots) (hG : GOK ad tys GG ws) (hP1 : preOK ad FX ws) (hP2 : preOK ad FM ws) (kk : ∀ w2 : va_W, LV p l e R s m args below meth c Q D A cells slots 2424 [(3, .int 0), (2, .ref (ad 90)), (1, .ref (ad 0)), (0, .ref b)] [] w2) : LV p l e R s m args below meth c Q D A cells slots 519 [(3, .int 0), (2, .ref (ad 90)), (1, .ref (ad 0)), (0, .ref b)] [] ws := by
  refine L_al (i := 1) F dk_519 rfl (List.Mem.tail _ (List.Mem.tail _ (List.Mem.head _))) ?_
  refine L_arg F hX hbl hbA (List.Mem.tail _ (List.Mem.tail _ (List.Mem.tail _ (List.Mem.head _)))) (List.Mem.head _) dk_520 dk_521 dk_522 dk_523 dk_524 (hin 1 (by omega)) ?_
  refine L_arg F hX hbl hbA (List.Mem.tail _ (List.Mem.tail _ (List.Mem.tail _ (List.Mem.head _)))) (List.Mem.head _) dk_525 dk_526 dk_527 dk_528 dk_529 (hin 2 (by omega)) ?_
  · refine L_cr (As := [.int (xs (0 + Int32.ofInt 1).toNatClampNeg), .int (xs (0 + Int32.ofInt 2).toNatClampNeg)]) (k := kX7_0) (q0 := 0) F rX7_0 (show 8 < 341 by omega) (show mKind 8 = 0 by decide +kernel) (w := 626) (show wAt 626 (Cond.methodLink "HalvedNamesLaw" 45 (mY 8)) = true by decide +kernel) dk_530 (show 2 = mN 8 by decide +kernel) (show GG[0]? = some _ from rfl) rfl ⟨_, _, rfl⟩ (by decide) hm hG hP1 ⟨rfl, ok_full, ok_full, trivial⟩ (fun r1 w1 z1 => ?_)
    rw [rt_int z1.2.2.1]
    refine L_al (i := 2) F dk_533 rfl (List.Mem.tail _ (List.Mem.head _)) ?_
    refine L_arg F hX hbl hbA (List.Mem.tail _ (List.Mem.tail _ (List.Mem.tail _ (List.Mem.head _)))) (List.Mem.head _) dk_534 dk_535 dk_536 dk_537 dk_538 (hin 1 (by omega)) ?_
    refine L_arg F hX hbl hbA (List.Mem.tail _ (List.Mem.tail _ (List.Mem.tail _ (List.Mem.head _)))) (List.Mem.head _) dk_539 dk_540 dk_541 dk_542 dk_543 (hin 2 (by omega)) ?_
    refine L_cr (As := [.int (xs (0 + Int32.ofInt 1).toNatClampNeg), .int (xs (0 + Int32.ofInt 2).toNatClampNeg)]) (k := kM7_0) (q0 := 90) F rM7_0 (show 246 < 341 by omega) (show mKind 246 = 0 by decide +kernel) (w := 1468) (show wAt 1468 (Cond.methodLink "HalvedNamesLaw" 48 (mY 246)) = true by decide +kernel) dk_544 (show 2 = mN 246 by decide +kernel) (show GG[90]? = some _ from rfl) rfl ⟨_, _, rfl⟩ (by simp) hm z1.1 (pre_keep z1.2.1 (by decide +kernel) hP2) ⟨rfl, ok_full, ok_full, trivial⟩ (fun r2 w2 z2 => ?_)
    rw [rt_int z2.2.2.1]
    exact L_eq F dk_547 rfl (kk w2)
theorem case_8 {b L : Nat} {xs : Nat → Int32} {ad : Nat → Nat} (F : LFix D tys A p R s m args c) (hX : va_X b L xs s s.heap) (hbl : b < s.heap.size) (hbA : ¬ A b) (hin : ∀ k : Nat, k < 6 → vp_in (0 + Int32.ofInt k) L) (hm : cells ≤ R.cells ∧ slots ≤ R.slots) (hG : GOK ad tys GG ws) (hP1 : preOK ad FX ws) (hP2 : preOK ad FM ws) (kk : ∀ w2 : va_W, LV p l e R s m args below meth c Q D A cells slots 2424 [(3, .int 0), (2, .ref (ad 90)), (1, .ref (ad 0)), (0, .ref b)] [] w2) : LV p l e R s m args below meth c Q D A cells slots 552 [(3, .int 0), (2, .ref (ad 90)), (1, .ref (ad 0)), (0, .ref b)] [] ws := by
  refine L_al (i := 1) F dk_552 rfl (List.Mem.tail _ (List.Mem.tail _ (List.Mem.head _))) ?_
  refine L_arg F hX hbl hbA (List.Mem.tail _ (List.Mem.tail _ (List.Mem.tail _ (List.Mem.head _)))) (List.Mem.head _) dk_553 dk_554 dk_555 dk_556 dk_557 (hin 1 (by omega)) ?_
  refine L_arg F hX hbl hbA (List.Mem.tail _ (List.Mem.tail _ (List.Mem.tail _ (List.Mem.head _)))) (List.Mem.head _) dk_558 dk_559 dk_560 dk_561 dk_562 (hin 2 (by omega)) ?_
  · refine L_cr (As := [.int (xs (0 + Int32.ofInt 1).toNatClampNeg), .int (xs (0 + Int32.ofInt 2).toNatClampNeg)]) (k := kX8_0) (q0 := 0) F rX8_0 (show 9 < 341 by omega) (show mKind 9 = 0 by decide +kernel) (w := 632) (show wAt 632 (Cond.methodLink "HalvedNamesLaw" 49 (mY 9)) = true by decide +kernel) dk_563 (show 2 = mN 9 by decide +kernel) (show GG[0]? = some _ from rfl) rfl ⟨_, _, rfl⟩ (by decide) hm hG hP1 ⟨rfl, ok_full, ok_full, trivial⟩ (fun r1 w1 z1 => ?_)
    rw [rt_int z1.2.2.1]
    refine L_al (i := 2) F dk_566 rfl (List.Mem.tail _ (List.Mem.head _)) ?_
    refine L_arg F hX hbl hbA (List.Mem.tail _ (List.Mem.tail _ (List.Mem.tail _ (List.Mem.head _)))) (List.Mem.head _) dk_567 dk_568 dk_569 dk_570 dk_571 (hin 1 (by omega)) ?_
    refine L_arg F hX hbl hbA (List.Mem.tail _ (List.Mem.tail _ (List.Mem.tail _ (List.Mem.head _)))) (List.Mem.head _) dk_572 dk_573 dk_574 dk_575 dk_576 (hin 2 (by omega)) ?_
    refine L_cr (As := [.int (xs (0 + Int32.ofInt 1).toNatClampNeg), .int (xs (0 + Int32.ofInt 2).toNatClampNeg)]) (k := kM8_0) (q0 := 90) F rM8_0 (show 247 < 341 by omega) (show mKind 247 = 0 by decide +kernel) (w := 1480) (show wAt 1480 (Cond.methodLink "HalvedNamesLaw" 52 (mY 247)) = true by decide +kernel) dk_577 (show 2 = mN 247 by decide +kernel) (show GG[90]? = some _ from rfl) rfl ⟨_, _, rfl⟩ (by simp) hm z1.1 (pre_keep z1.2.1 (by decide +kernel) hP2) ⟨rfl, ok_full, ok_full, trivial⟩ (fun r2 w2 z2 => ?_)
    rw [rt_int z2.2.2.1]
    exact L_eq F dk_580 rfl (kk w2)
end CASES0
