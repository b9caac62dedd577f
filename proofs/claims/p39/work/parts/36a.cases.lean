section CASES0
variable {p : Program} {l : Launch} {e : Env} {R : Room} {s : State} {m : MethodId} {args : Array Value} {below : List Frame} {meth : Method} {c : Code} {Q : State → Prop} {D : va_G} {tys : List (ClassId × FieldType)} {A : Nat → Prop}
variable {cells slots : Nat} {ws : va_W}
theorem case_0 {b L : Nat} {xs : Nat → Int32} {ad : Nat → Nat} {i : Int32} (F : LFix D tys A p R s m args c) (hX : va_X b L xs s s.heap) (hbl : b < s.heap.size) (hbA : ¬ A b) (hin : ∀ k : Nat, k < 6 → vp_in (i + Int32.ofInt k) L) (hm : cells ≤ R.cells ∧ slots ≤ R.slots) (hAD : ∀ i : Nat, ad (1000 + i) = D.2 1000 i) (hG : GOK ad tys GG ws) (hR : RELH ws) (kk : ∀ w2 : va_W, GOK ad tys GG w2 → RELH w2 → LV p l e R s m args below meth c Q D A cells slots 2423 [(3, .int i), (2, .ref (ad 90)), (1, .ref (ad 0)), (0, .ref b)] [] w2) : LV p l e R s m args below meth c Q D A cells slots 308 [(3, .int i), (2, .ref (ad 90)), (1, .ref (ad 0)), (0, .ref b)] [] ws := by
  refine L_al (i := 1) F dk_308 rfl (List.Mem.tail _ (List.Mem.tail _ (List.Mem.head _))) ?_
  refine L_arg F hX hbl hbA (List.Mem.tail _ (List.Mem.tail _ (List.Mem.tail _ (List.Mem.head _)))) (List.Mem.head _) dk_309 dk_310 dk_311 dk_312 dk_313 (hin 1 (by omega)) ?_
  refine L_arg F hX hbl hbA (List.Mem.tail _ (List.Mem.tail _ (List.Mem.tail _ (List.Mem.head _)))) (List.Mem.head _) dk_314 dk_315 dk_316 dk_317 dk_318 (hin 2 (by omega)) ?_
  refine L_arg F hX hbl hbA (List.Mem.tail _ (List.Mem.tail _ (List.Mem.tail _ (List.Mem.head _)))) (List.Mem.head _) dk_319 dk_320 dk_321 dk_322 dk_323 (hin 3 (by omega)) ?_
  refine L_arg F hX hbl hbA (List.Mem.tail _ (List.Mem.tail _ (List.Mem.tail _ (List.Mem.head _)))) (List.Mem.head _) dk_324 dk_325 dk_326 dk_327 dk_328 (hin 4 (by omega)) ?_
  refine L_arg F hX hbl hbA (List.Mem.tail _ (List.Mem.tail _ (List.Mem.tail _ (List.Mem.head _)))) (List.Mem.head _) dk_329 dk_330 dk_331 dk_332 dk_333 (hin 5 (by omega)) ?_
  obtain ⟨v, MID, s1, s2⟩ := pairH_feed (l := l) (D := D) (A := A) hAD hG hR (xs (i + Int32.ofInt 1).toNatClampNeg) (xs (i + Int32.ofInt 2).toNatClampNeg) (xs (i + Int32.ofInt 3).toNatClampNeg) (xs (i + Int32.ofInt 4).toNatClampNeg) (xs (i + Int32.ofInt 5).toNatClampNeg)
  refine L_uc (As := [.int (xs (i + Int32.ofInt 1).toNatClampNeg), .int (xs (i + Int32.ofInt 2).toNatClampNeg), .int (xs (i + Int32.ofInt 3).toNatClampNeg), .int (xs (i + Int32.ofInt 4).toNatClampNeg), .int (xs (i + Int32.ofInt 5).toNatClampNeg)]) (y := 1) (q0 := 0) F (s1) (by omega) (show mKind 1 = 0 by decide +kernel) (w := 337) (show wAt 337 (Cond.methodLink "HalvedNamesLaw" 13 (mY 1)) = true by decide +kernel) dk_334 (show 5 = mN 1 by decide +kernel) (show GG[0]? = some _ from rfl) rfl ⟨_, _, rfl⟩ (by simp) hm hG (fun r1 w1 z1 => ?_)
  obtain ⟨rfl, hG1, K1⟩ := z1
  refine L_popI F dk_337 ?_
  refine L_al (i := 2) F dk_338 rfl (List.Mem.tail _ (List.Mem.head _)) ?_
  refine L_arg F hX hbl hbA (List.Mem.tail _ (List.Mem.tail _ (List.Mem.tail _ (List.Mem.head _)))) (List.Mem.head _) dk_339 dk_340 dk_341 dk_342 dk_343 (hin 1 (by omega)) ?_
  refine L_arg F hX hbl hbA (List.Mem.tail _ (List.Mem.tail _ (List.Mem.tail _ (List.Mem.head _)))) (List.Mem.head _) dk_344 dk_345 dk_346 dk_347 dk_348 (hin 2 (by omega)) ?_
  refine L_arg F hX hbl hbA (List.Mem.tail _ (List.Mem.tail _ (List.Mem.tail _ (List.Mem.head _)))) (List.Mem.head _) dk_349 dk_350 dk_351 dk_352 dk_353 (hin 3 (by omega)) ?_
  refine L_arg F hX hbl hbA (List.Mem.tail _ (List.Mem.tail _ (List.Mem.tail _ (List.Mem.head _)))) (List.Mem.head _) dk_354 dk_355 dk_356 dk_357 dk_358 (hin 4 (by omega)) ?_
  refine L_arg F hX hbl hbA (List.Mem.tail _ (List.Mem.tail _ (List.Mem.tail _ (List.Mem.head _)))) (List.Mem.head _) dk_359 dk_360 dk_361 dk_362 dk_363 (hin 5 (by omega)) ?_
  refine L_uc (As := [.int (xs (i + Int32.ofInt 1).toNatClampNeg), .int (xs (i + Int32.ofInt 2).toNatClampNeg), .int (xs (i + Int32.ofInt 3).toNatClampNeg), .int (xs (i + Int32.ofInt 4).toNatClampNeg), .int (xs (i + Int32.ofInt 5).toNatClampNeg)]) (y := 210) (q0 := 90) F (s2 w1 hG1 K1) (by omega) (show mKind 210 = 0 by decide +kernel) (w := 1328) (show wAt 1328 (Cond.methodLink "HalvedNamesLaw" 17 (mY 210)) = true by decide +kernel) dk_364 (show 5 = mN 210 by decide +kernel) (show GG[90]? = some _ from rfl) rfl ⟨_, _, rfl⟩ (by simp) hm hG1 (fun r2 w2 z2 => ?_)
  obtain ⟨rfl, hG2, K2⟩ := z2
  refine L_popI F dk_367 ?_
  exact L_goto F dk_368 rfl (kk w2 hG2 K2)
theorem case_1 {b L : Nat} {xs : Nat → Int32} {ad : Nat → Nat} {i : Int32} (F : LFix D tys A p R s m args c) (hX : va_X b L xs s s.heap) (hbl : b < s.heap.size) (hbA : ¬ A b) (hin : ∀ k : Nat, k < 6 → vp_in (i + Int32.ofInt k) L) (hm : cells ≤ R.cells ∧ slots ≤ R.slots) (hAD : ∀ i : Nat, ad (1000 + i) = D.2 1000 i) (hG : GOK ad tys GG ws) (hR : RELH ws) (kk : ∀ w2 : va_W, GOK ad tys GG w2 → RELH w2 → LV p l e R s m args below meth c Q D A cells slots 2423 [(3, .int i), (2, .ref (ad 90)), (1, .ref (ad 0)), (0, .ref b)] [] w2) : LV p l e R s m args below meth c Q D A cells slots 371 [(3, .int i), (2, .ref (ad 90)), (1, .ref (ad 0)), (0, .ref b)] [] ws := by
  refine L_al (i := 1) F dk_371 rfl (List.Mem.tail _ (List.Mem.tail _ (List.Mem.head _))) ?_
  refine L_arg F hX hbl hbA (List.Mem.tail _ (List.Mem.tail _ (List.Mem.tail _ (List.Mem.head _)))) (List.Mem.head _) dk_372 dk_373 dk_374 dk_375 dk_376 (hin 1 (by omega)) ?_
  obtain ⟨v, MID, s1, s2⟩ := pairH_end (l := l) (D := D) (A := A) hAD hG hR (xs (i + Int32.ofInt 1).toNatClampNeg)
  refine L_uc (As := [.int (xs (i + Int32.ofInt 1).toNatClampNeg)]) (y := 2) (q0 := 0) F (s1) (by omega) (show mKind 2 = 0 by decide +kernel) (w := 345) (show wAt 345 (Cond.methodLink "HalvedNamesLaw" 18 (mY 2)) = true by decide +kernel) dk_377 (show 1 = mN 2 by decide +kernel) (show GG[0]? = some _ from rfl) rfl ⟨_, _, rfl⟩ (by simp) hm hG (fun r1 w1 z1 => ?_)
  obtain ⟨rfl, hG1, K1⟩ := z1
  refine L_popI F dk_380 ?_
  refine L_al (i := 2) F dk_381 rfl (List.Mem.tail _ (List.Mem.head _)) ?_
  refine L_arg F hX hbl hbA (List.Mem.tail _ (List.Mem.tail _ (List.Mem.tail _ (List.Mem.head _)))) (List.Mem.head _) dk_382 dk_383 dk_384 dk_385 dk_386 (hin 1 (by omega)) ?_
  refine L_uc (As := [.int (xs (i + Int32.ofInt 1).toNatClampNeg)]) (y := 211) (q0 := 90) F (s2 w1 hG1 K1) (by omega) (show mKind 211 = 0 by decide +kernel) (w := 1332) (show wAt 1332 (Cond.methodLink "HalvedNamesLaw" 22 (mY 211)) = true by decide +kernel) dk_387 (show 1 = mN 211 by decide +kernel) (show GG[90]? = some _ from rfl) rfl ⟨_, _, rfl⟩ (by simp) hm hG1 (fun r2 w2 z2 => ?_)
  obtain ⟨rfl, hG2, K2⟩ := z2
  refine L_popI F dk_390 ?_
  exact L_goto F dk_391 rfl (kk w2 hG2 K2)
theorem case_2 {b L : Nat} {xs : Nat → Int32} {ad : Nat → Nat} {i : Int32} (F : LFix D tys A p R s m args c) (hX : va_X b L xs s s.heap) (hbl : b < s.heap.size) (hbA : ¬ A b) (hin : ∀ k : Nat, k < 6 → vp_in (i + Int32.ofInt k) L) (hm : cells ≤ R.cells ∧ slots ≤ R.slots) (hAD : ∀ i : Nat, ad (1000 + i) = D.2 1000 i) (hG : GOK ad tys GG ws) (hR : RELH ws) (kk : ∀ w2 : va_W, GOK ad tys GG w2 → RELH w2 → LV p l e R s m args below meth c Q D A cells slots 2423 [(3, .int i), (2, .ref (ad 90)), (1, .ref (ad 0)), (0, .ref b)] [] w2) : LV p l e R s m args below meth c Q D A cells slots 394 [(3, .int i), (2, .ref (ad 90)), (1, .ref (ad 0)), (0, .ref b)] [] ws := by
  refine L_al (i := 1) F dk_394 rfl (List.Mem.tail _ (List.Mem.tail _ (List.Mem.head _))) ?_
  obtain ⟨v, MID, s1, s2⟩ := pairH_hill (l := l) (D := D) (A := A) hAD hG hR 
  refine L_uc (As := []) (y := 3) (q0 := 0) F (s1) (by omega) (show mKind 3 = 0 by decide +kernel) (w := 349) (show wAt 349 (Cond.methodLink "HalvedNamesLaw" 23 (mY 3)) = true by decide +kernel) dk_395 (show 0 = mN 3 by decide +kernel) (show GG[0]? = some _ from rfl) rfl ⟨_, _, rfl⟩ (by simp) hm hG (fun r1 w1 z1 => ?_)
  obtain ⟨rfl, hG1, K1⟩ := z1
  refine L_popI F dk_398 ?_
  refine L_al (i := 2) F dk_399 rfl (List.Mem.tail _ (List.Mem.head _)) ?_
  refine L_uc (As := []) (y := 233) (q0 := 90) F (s2 w1 hG1 K1) (by omega) (show mKind 233 = 0 by decide +kernel) (w := 1340) (show wAt 1340 (Cond.methodLink "HalvedNamesLaw" 27 (mY 233)) = true by decide +kernel) dk_400 (show 0 = mN 233 by decide +kernel) (show GG[90]? = some _ from rfl) rfl ⟨_, _, rfl⟩ (by simp) hm hG1 (fun r2 w2 z2 => ?_)
  obtain ⟨rfl, hG2, K2⟩ := z2
  refine L_popI F dk_403 ?_
  exact L_goto F dk_404 rfl (kk w2 hG2 K2)
theorem case_3 {b L : Nat} {xs : Nat → Int32} {ad : Nat → Nat} {i : Int32} (F : LFix D tys A p R s m args c) (hX : va_X b L xs s s.heap) (hbl : b < s.heap.size) (hbA : ¬ A b) (hin : ∀ k : Nat, k < 6 → vp_in (i + Int32.ofInt k) L) (hm : cells ≤ R.cells ∧ slots ≤ R.slots) (hAD : ∀ i : Nat, ad (1000 + i) = D.2 1000 i) (hG : GOK ad tys GG ws) (hR : RELH ws) (kk : ∀ w2 : va_W, GOK ad tys GG w2 → RELH w2 → LV p l e R s m args below meth c Q D A cells slots 2423 [(3, .int i), (2, .ref (ad 90)), (1, .ref (ad 0)), (0, .ref b)] [] w2) : LV p l e R s m args below meth c Q D A cells slots 407 [(3, .int i), (2, .ref (ad 90)), (1, .ref (ad 0)), (0, .ref b)] [] ws := by
  refine L_al (i := 1) F dk_407 rfl (List.Mem.tail _ (List.Mem.tail _ (List.Mem.head _))) ?_
  refine L_arg F hX hbl hbA (List.Mem.tail _ (List.Mem.tail _ (List.Mem.tail _ (List.Mem.head _)))) (List.Mem.head _) dk_408 dk_409 dk_410 dk_411 dk_412 (hin 1 (by omega)) ?_
  obtain ⟨v, MID, s1, s2⟩ := pairH_fault (l := l) (D := D) (A := A) hAD hG hR (xs (i + Int32.ofInt 1).toNatClampNeg)
  refine L_uc (As := [.int (xs (i + Int32.ofInt 1).toNatClampNeg)]) (y := 4) (q0 := 0) F (s1) (by omega) (show mKind 4 = 0 by decide +kernel) (w := 599) (show wAt 599 (Cond.methodLink "HalvedNamesLaw" 28 (mY 4)) = true by decide +kernel) dk_413 (show 1 = mN 4 by decide +kernel) (show GG[0]? = some _ from rfl) rfl ⟨_, _, rfl⟩ (by simp) hm hG (fun r1 w1 z1 => ?_)
  obtain ⟨rfl, hG1, K1⟩ := z1
  refine L_popI F dk_416 ?_
  refine L_al (i := 2) F dk_417 rfl (List.Mem.tail _ (List.Mem.head _)) ?_
  refine L_arg F hX hbl hbA (List.Mem.tail _ (List.Mem.tail _ (List.Mem.tail _ (List.Mem.head _)))) (List.Mem.head _) dk_418 dk_419 dk_420 dk_421 dk_422 (hin 1 (by omega)) ?_
  refine L_uc (As := [.int (xs (i + Int32.ofInt 1).toNatClampNeg)]) (y := 221) (q0 := 90) F (s2 w1 hG1 K1) (by omega) (show mKind 221 = 0 by decide +kernel) (w := 1336) (show wAt 1336 (Cond.methodLink "HalvedNamesLaw" 31 (mY 221)) = true by decide +kernel) dk_423 (show 1 = mN 221 by decide +kernel) (show GG[90]? = some _ from rfl) rfl ⟨_, _, rfl⟩ (by simp) hm hG1 (fun r2 w2 z2 => ?_)
  obtain ⟨rfl, hG2, K2⟩ := z2
  refine L_popI F dk_426 ?_
  exact L_goto F dk_427 rfl (kk w2 hG2 K2)
theorem case_4 {b L : Nat} {xs : Nat → Int32} {ad : Nat → Nat} {i : Int32} (F : LFix D tys A p R s m args c) (hX : va_X b L xs s s.heap) (hbl : b < s.heap.size) (hbA : ¬ A b) (hin : ∀ k : Nat, k < 6 → vp_in (i + Int32.ofInt k) L) (hm : cells ≤ R.cells ∧ slots ≤ R.slots) (hAD : ∀ i : Nat, ad (1000 + i) = D.2 1000 i) (hG : GOK ad tys GG ws) (hR : RELH ws) (kk : ∀ w2 : va_W, GOK ad tys GG w2 → RELH w2 → LV p l e R s m args below meth c Q D A cells slots 2423 [(3, .int i), (2, .ref (ad 90)), (1, .ref (ad 0)), (0, .ref b)] [] w2) : LV p l e R s m args below meth c Q D A cells slots 430 [(3, .int i), (2, .ref (ad 90)), (1, .ref (ad 0)), (0, .ref b)] [] ws := by
  refine L_al (i := 1) F dk_430 rfl (List.Mem.tail _ (List.Mem.tail _ (List.Mem.head _))) ?_
  refine L_arg F hX hbl hbA (List.Mem.tail _ (List.Mem.tail _ (List.Mem.tail _ (List.Mem.head _)))) (List.Mem.head _) dk_431 dk_432 dk_433 dk_434 dk_435 (hin 1 (by omega)) ?_
  refine L_arg F hX hbl hbA (List.Mem.tail _ (List.Mem.tail _ (List.Mem.tail _ (List.Mem.head _)))) (List.Mem.head _) dk_436 dk_437 dk_438 dk_439 dk_440 (hin 2 (by omega)) ?_
  obtain ⟨v, MID, s1, s2⟩ := pairH_name (l := l) (D := D) (A := A) hAD hG hR (xs (i + Int32.ofInt 1).toNatClampNeg) (xs (i + Int32.ofInt 2).toNatClampNeg)
  refine L_uc (As := [.int (xs (i + Int32.ofInt 1).toNatClampNeg), .int (xs (i + Int32.ofInt 2).toNatClampNeg)]) (y := 5) (q0 := 0) F (s1) (by omega) (show mKind 5 = 0 by decide +kernel) (w := 603) (show wAt 603 (Cond.methodLink "HalvedNamesLaw" 32 (mY 5)) = true by decide +kernel) dk_441 (show 2 = mN 5 by decide +kernel) (show GG[0]? = some _ from rfl) rfl ⟨_, _, rfl⟩ (by simp) hm hG (fun r1 w1 z1 => ?_)
  obtain ⟨rfl, hG1, K1⟩ := z1
  refine L_popI F dk_444 ?_
  refine L_al (i := 2) F dk_445 rfl (List.Mem.tail _ (List.Mem.head _)) ?_
  refine L_arg F hX hbl hbA (List.Mem.tail _ (List.Mem.tail _ (List.Mem.tail _ (List.Mem.head _)))) (List.Mem.head _) dk_446 dk_447 dk_448 dk_449 dk_450 (hin 1 (by omega)) ?_
  refine L_arg F hX hbl hbA (List.Mem.tail _ (List.Mem.tail _ (List.Mem.tail _ (List.Mem.head _)))) (List.Mem.head _) dk_451 dk_452 dk_453 dk_454 dk_455 (hin 2 (by omega)) ?_
  refine L_uc (As := [.int (xs (i + Int32.ofInt 1).toNatClampNeg), .int (xs (i + Int32.ofInt 2).toNatClampNeg)]) (y := 243) (q0 := 90) F (s2 w1 hG1 K1) (by omega) (show mKind 243 = 0 by decide +kernel) (w := 1444) (show wAt 1444 (Cond.methodLink "HalvedNamesLaw" 36 (mY 243)) = true by decide +kernel) dk_456 (show 2 = mN 243 by decide +kernel) (show GG[90]? = some _ from rfl) rfl ⟨_, _, rfl⟩ (by simp) hm hG1 (fun r2 w2 z2 => ?_)
  obtain ⟨rfl, hG2, K2⟩ := z2
  refine L_popI F dk_459 ?_
  exact L_goto F dk_460 rfl (kk w2 hG2 K2)
theorem case_5 {b L : Nat} {xs : Nat → Int32} {ad : Nat → Nat} {i : Int32} (F : LFix D tys A p R s m args c) (hX : va_X b L xs s s.heap) (hbl : b < s.heap.size) (hbA : ¬ A b) (hin : ∀ k : Nat, k < 6 → vp_in (i + Int32.ofInt k) L) (hm : cells ≤ R.cells ∧ slots ≤ R.slots) (hAD : ∀ i : Nat, ad (1000 + i) = D.2 1000 i) (hG : GOK ad tys GG ws) (hR : RELH ws) (kk : ∀ w2 : va_W, GOK ad tys GG w2 → RELH w2 → LV p l e R s m args below meth c Q D A cells slots 2423 [(3, .int i), (2, .ref (ad 90)), (1, .ref (ad 0)), (0, .ref b)] [] w2) : LV p l e R s m args below meth c Q D A cells slots 463 [(3, .int i), (2, .ref (ad 90)), (1, .ref (ad 0)), (0, .ref b)] [] ws := by
  refine L_al (i := 1) F dk_463 rfl (List.Mem.tail _ (List.Mem.tail _ (List.Mem.head _))) ?_
  refine L_arg F hX hbl hbA (List.Mem.tail _ (List.Mem.tail _ (List.Mem.tail _ (List.Mem.head _)))) (List.Mem.head _) dk_464 dk_465 dk_466 dk_467 dk_468 (hin 1 (by omega)) ?_
  obtain ⟨v, MID, s1, s2⟩ := pairH_length (l := l) (D := D) (A := A) hAD hG hR (xs (i + Int32.ofInt 1).toNatClampNeg)
  refine L_uc (As := [.int (xs (i + Int32.ofInt 1).toNatClampNeg)]) (y := 6) (q0 := 0) F (s1) (by omega) (show mKind 6 = 0 by decide +kernel) (w := 616) (show wAt 616 (Cond.methodLink "HalvedNamesLaw" 37 (mY 6)) = true by decide +kernel) dk_469 (show 1 = mN 6 by decide +kernel) (show GG[0]? = some _ from rfl) rfl ⟨_, _, rfl⟩ (by simp) hm hG (fun r1 w1 z1 => ?_)
  obtain ⟨rfl, hG1, K1⟩ := z1
  refine L_popI F dk_472 ?_
  refine L_al (i := 2) F dk_473 rfl (List.Mem.tail _ (List.Mem.head _)) ?_
  refine L_arg F hX hbl hbA (List.Mem.tail _ (List.Mem.tail _ (List.Mem.tail _ (List.Mem.head _)))) (List.Mem.head _) dk_474 dk_475 dk_476 dk_477 dk_478 (hin 1 (by omega)) ?_
  refine L_uc (As := [.int (xs (i + Int32.ofInt 1).toNatClampNeg)]) (y := 244) (q0 := 90) F (s2 w1 hG1 K1) (by omega) (show mKind 244 = 0 by decide +kernel) (w := 1460) (show wAt 1460 (Cond.methodLink "HalvedNamesLaw" 40 (mY 244)) = true by decide +kernel) dk_479 (show 1 = mN 244 by decide +kernel) (show GG[90]? = some _ from rfl) rfl ⟨_, _, rfl⟩ (by simp) hm hG1 (fun r2 w2 z2 => ?_)
  obtain ⟨rfl, hG2, K2⟩ := z2
  refine L_popI F dk_482 ?_
  exact L_goto F dk_483 rfl (kk w2 hG2 K2)
theorem case_6 {b L : Nat} {xs : Nat → Int32} {ad : Nat → Nat} {i : Int32} (F : LFix D tys A p R s m args c) (hX : va_X b L xs s s.heap) (hbl : b < s.heap.size) (hbA : ¬ A b) (hin : ∀ k : Nat, k < 6 → vp_in (i + Int32.ofInt k) L) (hm : cells ≤ R.cells ∧ slots ≤ R.slots) (hAD : ∀ i : Nat, ad (1000 + i) = D.2 1000 i) (hG : GOK ad tys GG ws) (hR : RELH ws) (kk : ∀ w2 : va_W, GOK ad tys GG w2 → RELH w2 → LV p l e R s m args below meth c Q D A cells slots 2423 [(3, .int i), (2, .ref (ad 90)), (1, .ref (ad 0)), (0, .ref b)] [] w2) : LV p l e R s m args below meth c Q D A cells slots 486 [(3, .int i), (2, .ref (ad 90)), (1, .ref (ad 0)), (0, .ref b)] [] ws := by
  refine L_al (i := 1) F dk_486 rfl (List.Mem.tail _ (List.Mem.tail _ (List.Mem.head _))) ?_
  refine L_arg F hX hbl hbA (List.Mem.tail _ (List.Mem.tail _ (List.Mem.tail _ (List.Mem.head _)))) (List.Mem.head _) dk_487 dk_488 dk_489 dk_490 dk_491 (hin 1 (by omega)) ?_
  refine L_arg F hX hbl hbA (List.Mem.tail _ (List.Mem.tail _ (List.Mem.tail _ (List.Mem.head _)))) (List.Mem.head _) dk_492 dk_493 dk_494 dk_495 dk_496 (hin 2 (by omega)) ?_
  obtain ⟨v, MID, s1, s2⟩ := pairH_folk (l := l) (D := D) (A := A) hAD hG hR (xs (i + Int32.ofInt 1).toNatClampNeg) (xs (i + Int32.ofInt 2).toNatClampNeg)
  refine L_uc (As := [.int (xs (i + Int32.ofInt 1).toNatClampNeg), .int (xs (i + Int32.ofInt 2).toNatClampNeg)]) (y := 7) (q0 := 0) F (s1) (by omega) (show mKind 7 = 0 by decide +kernel) (w := 621) (show wAt 621 (Cond.methodLink "HalvedNamesLaw" 41 (mY 7)) = true by decide +kernel) dk_497 (show 2 = mN 7 by decide +kernel) (show GG[0]? = some _ from rfl) rfl ⟨_, _, rfl⟩ (by simp) hm hG (fun r1 w1 z1 => ?_)
  obtain ⟨rfl, hG1, K1⟩ := z1
  refine L_popI F dk_500 ?_
  refine L_al (i := 2) F dk_501 rfl (List.Mem.tail _ (List.Mem.head _)) ?_
  refine L_arg F hX hbl hbA (List.Mem.tail _ (List.Mem.tail _ (List.Mem.tail _ (List.Mem.head _)))) (List.Mem.head _) dk_502 dk_503 dk_504 dk_505 dk_506 (hin 1 (by omega)) ?_
  refine L_arg F hX hbl hbA (List.Mem.tail _ (List.Mem.tail _ (List.Mem.tail _ (List.Mem.head _)))) (List.Mem.head _) dk_507 dk_508 dk_509 dk_510 dk_511 (hin 2 (by omega)) ?_
  refine L_uc (As := [.int (xs (i + Int32.ofInt 1).toNatClampNeg), .int (xs (i + Int32.ofInt 2).toNatClampNeg)]) (y := 245) (q0 := 90) F (s2 w1 hG1 K1) (by omega) (show mKind 245 = 0 by decide +kernel) (w := 1464) (show wAt 1464 (Cond.methodLink "HalvedNamesLaw" 44 (mY 245)) = true by decide +kernel) dk_512 (show 2 = mN 245 by decide +kernel) (show GG[90]? = some _ from rfl) rfl ⟨_, _, rfl⟩ (by simp) hm hG1 (fun r2 w2 z2 => ?_)
  obtain ⟨rfl, hG2, K2⟩ := z2
  refine L_popI F dk_515 ?_
  exact L_goto F dk_516 rfl (kk w2 hG2 K2)
theorem case_7 {b L : Nat} {xs : Nat → Int32} {ad : Nat → Nat} {i : Int32} (F : LFix D tys A p R s m args c) (hX : va_X b L xs s s.heap) (hbl : b < s.heap.size) (hbA : ¬ A b) (hin : ∀ k : Nat, k < 6 → vp_in (i + Int32.ofInt k) L) (hm : cells ≤ R.cells ∧ slots ≤ R.slots) (hAD : ∀ i : Nat, ad (1000 + i) = D.2 1000 i) (hG : GOK ad tys GG ws) (hR : RELH ws) (kk : ∀ w2 : va_W, GOK ad tys GG w2 → RELH w2 → LV p l e R s m args below meth c Q D A cells slots 2423 [(3, .int i), (2, .ref (ad 90)), (1, .ref (ad 0)), (0, .ref b)] [] w2) : LV p l e R s m args below meth c Q D A cells slots 519 [(3, .int i), (2, .ref (ad 90)), (1, .ref (ad 0)), (0, .ref b)] [] ws := by
  refine L_al (i := 1) F dk_519 rfl (List.Mem.tail _ (List.Mem.tail _ (List.Mem.head _))) ?_
  refine L_arg F hX hbl hbA (List.Mem.tail _ (List.Mem.tail _ (List.Mem.tail _ (List.Mem.head _)))) (List.Mem.head _) dk_520 dk_521 dk_522 dk_523 dk_524 (hin 1 (by omega)) ?_
  refine L_arg F hX hbl hbA (List.Mem.tail _ (List.Mem.tail _ (List.Mem.tail _ (List.Mem.head _)))) (List.Mem.head _) dk_525 dk_526 dk_527 dk_528 dk_529 (hin 2 (by omega)) ?_
  obtain ⟨v, MID, s1, s2⟩ := pairH_place (l := l) (D := D) (A := A) hAD hG hR (xs (i + Int32.ofInt 1).toNatClampNeg) (xs (i + Int32.ofInt 2).toNatClampNeg)
  refine L_uc (As := [.int (xs (i + Int32.ofInt 1).toNatClampNeg), .int (xs (i + Int32.ofInt 2).toNatClampNeg)]) (y := 8) (q0 := 0) F (s1) (by omega) (show mKind 8 = 0 by decide +kernel) (w := 626) (show wAt 626 (Cond.methodLink "HalvedNamesLaw" 45 (mY 8)) = true by decide +kernel) dk_530 (show 2 = mN 8 by decide +kernel) (show GG[0]? = some _ from rfl) rfl ⟨_, _, rfl⟩ (by simp) hm hG (fun r1 w1 z1 => ?_)
  obtain ⟨rfl, hG1, K1⟩ := z1
  refine L_popI F dk_533 ?_
  refine L_al (i := 2) F dk_534 rfl (List.Mem.tail _ (List.Mem.head _)) ?_
  refine L_arg F hX hbl hbA (List.Mem.tail _ (List.Mem.tail _ (List.Mem.tail _ (List.Mem.head _)))) (List.Mem.head _) dk_535 dk_536 dk_537 dk_538 dk_539 (hin 1 (by omega)) ?_
  refine L_arg F hX hbl hbA (List.Mem.tail _ (List.Mem.tail _ (List.Mem.tail _ (List.Mem.head _)))) (List.Mem.head _) dk_540 dk_541 dk_542 dk_543 dk_544 (hin 2 (by omega)) ?_
  refine L_uc (As := [.int (xs (i + Int32.ofInt 1).toNatClampNeg), .int (xs (i + Int32.ofInt 2).toNatClampNeg)]) (y := 246) (q0 := 90) F (s2 w1 hG1 K1) (by omega) (show mKind 246 = 0 by decide +kernel) (w := 1468) (show wAt 1468 (Cond.methodLink "HalvedNamesLaw" 48 (mY 246)) = true by decide +kernel) dk_545 (show 2 = mN 246 by decide +kernel) (show GG[90]? = some _ from rfl) rfl ⟨_, _, rfl⟩ (by simp) hm hG1 (fun r2 w2 z2 => ?_)
  obtain ⟨rfl, hG2, K2⟩ := z2
  refine L_popI F dk_548 ?_
  exact L_goto F dk_549 rfl (kk w2 hG2 K2)
theorem case_8 {b L : Nat} {xs : Nat → Int32} {ad : Nat → Nat} {i : Int32} (F : LFix D tys A p R s m args c) (hX : va_X b L xs s s.heap) (hbl : b < s.heap.size) (hbA : ¬ A b) (hin : ∀ k : Nat, k < 6 → vp_in (i + Int32.ofInt k) L) (hm : cells ≤ R.cells ∧ slots ≤ R.slots) (hAD : ∀ i : Nat, ad (1000 + i) = D.2 1000 i) (hG : GOK ad tys GG ws) (hR : RELH ws) (kk : ∀ w2 : va_W, GOK ad tys GG w2 → RELH w2 → LV p l e R s m args below meth c Q D A cells slots 2423 [(3, .int i), (2, .ref (ad 90)), (1, .ref (ad 0)), (0, .ref b)] [] w2) : LV p l e R s m args below meth c Q D A cells slots 552 [(3, .int i), (2, .ref (ad 90)), (1, .ref (ad 0)), (0, .ref b)] [] ws := by
  refine L_al (i := 1) F dk_552 rfl (List.Mem.tail _ (List.Mem.tail _ (List.Mem.head _))) ?_
  refine L_arg F hX hbl hbA (List.Mem.tail _ (List.Mem.tail _ (List.Mem.tail _ (List.Mem.head _)))) (List.Mem.head _) dk_553 dk_554 dk_555 dk_556 dk_557 (hin 1 (by omega)) ?_
  refine L_arg F hX hbl hbA (List.Mem.tail _ (List.Mem.tail _ (List.Mem.tail _ (List.Mem.head _)))) (List.Mem.head _) dk_558 dk_559 dk_560 dk_561 dk_562 (hin 2 (by omega)) ?_
  obtain ⟨v, MID, s1, s2⟩ := pairH_saying (l := l) (D := D) (A := A) hAD hG hR (xs (i + Int32.ofInt 1).toNatClampNeg) (xs (i + Int32.ofInt 2).toNatClampNeg)
  refine L_uc (As := [.int (xs (i + Int32.ofInt 1).toNatClampNeg), .int (xs (i + Int32.ofInt 2).toNatClampNeg)]) (y := 9) (q0 := 0) F (s1) (by omega) (show mKind 9 = 0 by decide +kernel) (w := 632) (show wAt 632 (Cond.methodLink "HalvedNamesLaw" 49 (mY 9)) = true by decide +kernel) dk_563 (show 2 = mN 9 by decide +kernel) (show GG[0]? = some _ from rfl) rfl ⟨_, _, rfl⟩ (by simp) hm hG (fun r1 w1 z1 => ?_)
  obtain ⟨rfl, hG1, K1⟩ := z1
  refine L_popI F dk_566 ?_
  refine L_al (i := 2) F dk_567 rfl (List.Mem.tail _ (List.Mem.head _)) ?_
  refine L_arg F hX hbl hbA (List.Mem.tail _ (List.Mem.tail _ (List.Mem.tail _ (List.Mem.head _)))) (List.Mem.head _) dk_568 dk_569 dk_570 dk_571 dk_572 (hin 1 (by omega)) ?_
  refine L_arg F hX hbl hbA (List.Mem.tail _ (List.Mem.tail _ (List.Mem.tail _ (List.Mem.head _)))) (List.Mem.head _) dk_573 dk_574 dk_575 dk_576 dk_577 (hin 2 (by omega)) ?_
  refine L_uc (As := [.int (xs (i + Int32.ofInt 1).toNatClampNeg), .int (xs (i + Int32.ofInt 2).toNatClampNeg)]) (y := 247) (q0 := 90) F (s2 w1 hG1 K1) (by omega) (show mKind 247 = 0 by decide +kernel) (w := 1480) (show wAt 1480 (Cond.methodLink "HalvedNamesLaw" 52 (mY 247)) = true by decide +kernel) dk_578 (show 2 = mN 247 by decide +kernel) (show GG[90]? = some _ from rfl) rfl ⟨_, _, rfl⟩ (by simp) hm hG1 (fun r2 w2 z2 => ?_)
  obtain ⟨rfl, hG2, K2⟩ := z2
  refine L_popI F dk_581 ?_
  exact L_goto F dk_582 rfl (kk w2 hG2 K2)
theorem case_9 {b L : Nat} {xs : Nat → Int32} {ad : Nat → Nat} {i : Int32} (F : LFix D tys A p R s m args c) (hX : va_X b L xs s s.heap) (hbl : b < s.heap.size) (hbA : ¬ A b) (hin : ∀ k : Nat, k < 6 → vp_in (i + Int32.ofInt k) L) (hm : cells ≤ R.cells ∧ slots ≤ R.slots) (hAD : ∀ i : Nat, ad (1000 + i) = D.2 1000 i) (hG : GOK ad tys GG ws) (hR : RELH ws) (kk : ∀ w2 : va_W, GOK ad tys GG w2 → RELH w2 → LV p l e R s m args below meth c Q D A cells slots 2423 [(3, .int i), (2, .ref (ad 90)), (1, .ref (ad 0)), (0, .ref b)] [] w2) : LV p l e R s m args below meth c Q D A cells slots 585 [(3, .int i), (2, .ref (ad 90)), (1, .ref (ad 0)), (0, .ref b)] [] ws := by
  refine L_al (i := 1) F dk_585 rfl (List.Mem.tail _ (List.Mem.tail _ (List.Mem.head _))) ?_
  refine L_arg F hX hbl hbA (List.Mem.tail _ (List.Mem.tail _ (List.Mem.tail _ (List.Mem.head _)))) (List.Mem.head _) dk_586 dk_587 dk_588 dk_589 dk_590 (hin 1 (by omega)) ?_
  refine L_arg F hX hbl hbA (List.Mem.tail _ (List.Mem.tail _ (List.Mem.tail _ (List.Mem.head _)))) (List.Mem.head _) dk_591 dk_592 dk_593 dk_594 dk_595 (hin 2 (by omega)) ?_
  refine L_uc (As := [.int (xs (i + Int32.ofInt 1).toNatClampNeg), .int (xs (i + Int32.ofInt 2).toNatClampNeg)]) (y := 10) (q0 := 0) F (u_X9 hAD hG (xs (i + Int32.ofInt 1).toNatClampNeg) (xs (i + Int32.ofInt 2).toNatClampNeg)) (by omega) (show mKind 10 = 0 by decide +kernel) (w := 640) (show wAt 640 (Cond.methodLink "HalvedNamesLaw" 53 (mY 10)) = true by decide +kernel) dk_596 (show 2 = mN 10 by decide +kernel) (show GG[0]? = some _ from rfl) rfl ⟨_, _, rfl⟩ (by simp) hm hG (fun r1 w1 z1 => ?_)
  refine L_pop0 F dk_599 z1.1 ?_
  refine L_al (i := 2) F dk_600 rfl (List.Mem.tail _ (List.Mem.head _)) ?_
  refine L_arg F hX hbl hbA (List.Mem.tail _ (List.Mem.tail _ (List.Mem.tail _ (List.Mem.head _)))) (List.Mem.head _) dk_601 dk_602 dk_603 dk_604 dk_605 (hin 1 (by omega)) ?_
  refine L_arg F hX hbl hbA (List.Mem.tail _ (List.Mem.tail _ (List.Mem.tail _ (List.Mem.head _)))) (List.Mem.head _) dk_606 dk_607 dk_608 dk_609 dk_610 (hin 2 (by omega)) ?_
  refine L_uc (As := [.int (xs (i + Int32.ofInt 1).toNatClampNeg), .int (xs (i + Int32.ofInt 2).toNatClampNeg)]) (y := 248) (q0 := 90) F (u_M9 hAD z1.1.1 (xs (i + Int32.ofInt 1).toNatClampNeg) (xs (i + Int32.ofInt 2).toNatClampNeg)) (by omega) (show mKind 248 = 0 by decide +kernel) (w := 1493) (show wAt 1493 (Cond.methodLink "HalvedNamesLaw" 56 (mY 248)) = true by decide +kernel) dk_611 (show 2 = mN 248 by decide +kernel) (show GG[90]? = some _ from rfl) rfl ⟨_, _, rfl⟩ (by simp) hm z1.1.1 (fun r2 w2 z2 => ?_)
  refine L_pop0 F dk_614 z2.1 ?_
  exact L_goto F dk_615 rfl (kk w2 z2.1.1 (KEP_rels (KEP_rels hR z1.2) z2.2))
theorem case_10 {b L : Nat} {xs : Nat → Int32} {ad : Nat → Nat} {i : Int32} (F : LFix D tys A p R s m args c) (hX : va_X b L xs s s.heap) (hbl : b < s.heap.size) (hbA : ¬ A b) (hin : ∀ k : Nat, k < 6 → vp_in (i + Int32.ofInt k) L) (hm : cells ≤ R.cells ∧ slots ≤ R.slots) (hAD : ∀ i : Nat, ad (1000 + i) = D.2 1000 i) (hG : GOK ad tys GG ws) (hR : RELH ws) (kk : ∀ w2 : va_W, GOK ad tys GG w2 → RELH w2 → LV p l e R s m args below meth c Q D A cells slots 2423 [(3, .int i), (2, .ref (ad 90)), (1, .ref (ad 0)), (0, .ref b)] [] w2) : LV p l e R s m args below meth c Q D A cells slots 618 [(3, .int i), (2, .ref (ad 90)), (1, .ref (ad 0)), (0, .ref b)] [] ws := by
  refine L_al (i := 1) F dk_618 rfl (List.Mem.tail _ (List.Mem.tail _ (List.Mem.head _))) ?_
  refine L_arg F hX hbl hbA (List.Mem.tail _ (List.Mem.tail _ (List.Mem.tail _ (List.Mem.head _)))) (List.Mem.head _) dk_619 dk_620 dk_621 dk_622 dk_623 (hin 1 (by omega)) ?_
  refine L_arg F hX hbl hbA (List.Mem.tail _ (List.Mem.tail _ (List.Mem.tail _ (List.Mem.head _)))) (List.Mem.head _) dk_624 dk_625 dk_626 dk_627 dk_628 (hin 2 (by omega)) ?_
  refine L_arg F hX hbl hbA (List.Mem.tail _ (List.Mem.tail _ (List.Mem.tail _ (List.Mem.head _)))) (List.Mem.head _) dk_629 dk_630 dk_631 dk_632 dk_633 (hin 3 (by omega)) ?_
  refine L_uc (As := [.int (xs (i + Int32.ofInt 1).toNatClampNeg), .int (xs (i + Int32.ofInt 2).toNatClampNeg), .int (xs (i + Int32.ofInt 3).toNatClampNeg)]) (y := 11) (q0 := 0) F (u_X10 hAD hG (xs (i + Int32.ofInt 1).toNatClampNeg) (xs (i + Int32.ofInt 2).toNatClampNeg) (xs (i + Int32.ofInt 3).toNatClampNeg)) (by omega) (show mKind 11 = 0 by decide +kernel) (w := 648) (show wAt 648 (Cond.methodLink "HalvedNamesLaw" 57 (mY 11)) = true by decide +kernel) dk_634 (show 3 = mN 11 by decide +kernel) (show GG[0]? = some _ from rfl) rfl ⟨_, _, rfl⟩ (by simp) hm hG (fun r1 w1 z1 => ?_)
  refine L_pop0 F dk_637 z1.1 ?_
  refine L_al (i := 2) F dk_638 rfl (List.Mem.tail _ (List.Mem.head _)) ?_
  refine L_arg F hX hbl hbA (List.Mem.tail _ (List.Mem.tail _ (List.Mem.tail _ (List.Mem.head _)))) (List.Mem.head _) dk_639 dk_640 dk_641 dk_642 dk_643 (hin 1 (by omega)) ?_
  refine L_arg F hX hbl hbA (List.Mem.tail _ (List.Mem.tail _ (List.Mem.tail _ (List.Mem.head _)))) (List.Mem.head _) dk_644 dk_645 dk_646 dk_647 dk_648 (hin 2 (by omega)) ?_
  refine L_arg F hX hbl hbA (List.Mem.tail _ (List.Mem.tail _ (List.Mem.tail _ (List.Mem.head _)))) (List.Mem.head _) dk_649 dk_650 dk_651 dk_652 dk_653 (hin 3 (by omega)) ?_
  refine L_uc (As := [.int (xs (i + Int32.ofInt 1).toNatClampNeg), .int (xs (i + Int32.ofInt 2).toNatClampNeg), .int (xs (i + Int32.ofInt 3).toNatClampNeg)]) (y := 249) (q0 := 90) F (u_M10 hAD z1.1.1 (xs (i + Int32.ofInt 1).toNatClampNeg) (xs (i + Int32.ofInt 2).toNatClampNeg) (xs (i + Int32.ofInt 3).toNatClampNeg)) (by omega) (show mKind 249 = 0 by decide +kernel) (w := 1501) (show wAt 1501 (Cond.methodLink "HalvedNamesLaw" 61 (mY 249)) = true by decide +kernel) dk_654 (show 3 = mN 249 by decide +kernel) (show GG[90]? = some _ from rfl) rfl ⟨_, _, rfl⟩ (by simp) hm z1.1.1 (fun r2 w2 z2 => ?_)
  refine L_pop0 F dk_657 z2.1 ?_
  exact L_goto F dk_658 rfl (kk w2 z2.1.1 (KEP_rels (KEP_rels hR z1.2) z2.2))
theorem case_11 {b L : Nat} {xs : Nat → Int32} {ad : Nat → Nat} {i : Int32} (F : LFix D tys A p R s m args c) (hX : va_X b L xs s s.heap) (hbl : b < s.heap.size) (hbA : ¬ A b) (hin : ∀ k : Nat, k < 6 → vp_in (i + Int32.ofInt k) L) (hm : cells ≤ R.cells ∧ slots ≤ R.slots) (hAD : ∀ i : Nat, ad (1000 + i) = D.2 1000 i) (hG : GOK ad tys GG ws) (hR : RELH ws) (kk : ∀ w2 : va_W, GOK ad tys GG w2 → RELH w2 → LV p l e R s m args below meth c Q D A cells slots 2423 [(3, .int i), (2, .ref (ad 90)), (1, .ref (ad 0)), (0, .ref b)] [] w2) : LV p l e R s m args below meth c Q D A cells slots 661 [(3, .int i), (2, .ref (ad 90)), (1, .ref (ad 0)), (0, .ref b)] [] ws := by
  refine L_al (i := 1) F dk_661 rfl (List.Mem.tail _ (List.Mem.tail _ (List.Mem.head _))) ?_
  refine L_arg F hX hbl hbA (List.Mem.tail _ (List.Mem.tail _ (List.Mem.tail _ (List.Mem.head _)))) (List.Mem.head _) dk_662 dk_663 dk_664 dk_665 dk_666 (hin 1 (by omega)) ?_
  refine L_uc (As := [.int (xs (i + Int32.ofInt 1).toNatClampNeg)]) (y := 12) (q0 := 0) F (u_X11 hAD hG (xs (i + Int32.ofInt 1).toNatClampNeg)) (by omega) (show mKind 12 = 0 by decide +kernel) (w := 652) (show wAt 652 (Cond.methodLink "HalvedNamesLaw" 62 (mY 12)) = true by decide +kernel) dk_667 (show 1 = mN 12 by decide +kernel) (show GG[0]? = some _ from rfl) rfl ⟨_, _, rfl⟩ (by simp) hm hG (fun r1 w1 z1 => ?_)
  refine L_pop0 F dk_670 z1.1 ?_
  refine L_al (i := 2) F dk_671 rfl (List.Mem.tail _ (List.Mem.head _)) ?_
  refine L_arg F hX hbl hbA (List.Mem.tail _ (List.Mem.tail _ (List.Mem.tail _ (List.Mem.head _)))) (List.Mem.head _) dk_672 dk_673 dk_674 dk_675 dk_676 (hin 1 (by omega)) ?_
  refine L_uc (As := [.int (xs (i + Int32.ofInt 1).toNatClampNeg)]) (y := 250) (q0 := 90) F (u_M11 hAD z1.1.1 (xs (i + Int32.ofInt 1).toNatClampNeg)) (by omega) (show mKind 250 = 0 by decide +kernel) (w := 1537) (show wAt 1537 (Cond.methodLink "HalvedNamesLaw" 65 (mY 250)) = true by decide +kernel) dk_677 (show 1 = mN 250 by decide +kernel) (show GG[90]? = some _ from rfl) rfl ⟨_, _, rfl⟩ (by simp) hm z1.1.1 (fun r2 w2 z2 => ?_)
  refine L_pop0 F dk_680 z2.1 ?_
  exact L_goto F dk_681 rfl (kk w2 z2.1.1 (KEP_rels (KEP_rels hR z1.2) z2.2))
theorem case_12 {b L : Nat} {xs : Nat → Int32} {ad : Nat → Nat} {i : Int32} (F : LFix D tys A p R s m args c) (hX : va_X b L xs s s.heap) (hbl : b < s.heap.size) (hbA : ¬ A b) (hin : ∀ k : Nat, k < 6 → vp_in (i + Int32.ofInt k) L) (hm : cells ≤ R.cells ∧ slots ≤ R.slots) (hAD : ∀ i : Nat, ad (1000 + i) = D.2 1000 i) (hG : GOK ad tys GG ws) (hR : RELH ws) (kk : ∀ w2 : va_W, GOK ad tys GG w2 → RELH w2 → LV p l e R s m args below meth c Q D A cells slots 2423 [(3, .int i), (2, .ref (ad 90)), (1, .ref (ad 0)), (0, .ref b)] [] w2) : LV p l e R s m args below meth c Q D A cells slots 684 [(3, .int i), (2, .ref (ad 90)), (1, .ref (ad 0)), (0, .ref b)] [] ws := by
  refine L_al (i := 1) F dk_684 rfl (List.Mem.tail _ (List.Mem.tail _ (List.Mem.head _))) ?_
  refine L_arg F hX hbl hbA (List.Mem.tail _ (List.Mem.tail _ (List.Mem.tail _ (List.Mem.head _)))) (List.Mem.head _) dk_685 dk_686 dk_687 dk_688 dk_689 (hin 1 (by omega)) ?_
  refine L_uc (As := [.int (xs (i + Int32.ofInt 1).toNatClampNeg)]) (y := 13) (q0 := 0) F (u_X12 hAD hG (xs (i + Int32.ofInt 1).toNatClampNeg)) (by omega) (show mKind 13 = 0 by decide +kernel) (w := 656) (show wAt 656 (Cond.methodLink "HalvedNamesLaw" 66 (mY 13)) = true by decide +kernel) dk_690 (show 1 = mN 13 by decide +kernel) (show GG[0]? = some _ from rfl) rfl ⟨_, _, rfl⟩ (by simp) hm hG (fun r1 w1 z1 => ?_)
  refine L_pop0 F dk_693 z1.1 ?_
  refine L_al (i := 2) F dk_694 rfl (List.Mem.tail _ (List.Mem.head _)) ?_
  refine L_arg F hX hbl hbA (List.Mem.tail _ (List.Mem.tail _ (List.Mem.tail _ (List.Mem.head _)))) (List.Mem.head _) dk_695 dk_696 dk_697 dk_698 dk_699 (hin 1 (by omega)) ?_
  refine L_uc (As := [.int (xs (i + Int32.ofInt 1).toNatClampNeg)]) (y := 251) (q0 := 90) F (u_M12 hAD z1.1.1 (xs (i + Int32.ofInt 1).toNatClampNeg)) (by omega) (show mKind 251 = 0 by decide +kernel) (w := 1541) (show wAt 1541 (Cond.methodLink "HalvedNamesLaw" 69 (mY 251)) = true by decide +kernel) dk_700 (show 1 = mN 251 by decide +kernel) (show GG[90]? = some _ from rfl) rfl ⟨_, _, rfl⟩ (by simp) hm z1.1.1 (fun r2 w2 z2 => ?_)
  refine L_pop0 F dk_703 z2.1 ?_
  exact L_goto F dk_704 rfl (kk w2 z2.1.1 (KEP_rels (KEP_rels hR z1.2) z2.2))
end CASES0
