theorem dk_308 : decode code 308 = .ok (.aload_n 1, 1) := by decide +kernel
theorem dk_309 : decode code 309 = .ok (.aload_n 0, 1) := by decide +kernel
theorem dk_310 : decode code 310 = .ok (.iload_n 3, 1) := by decide +kernel
theorem dk_311 : decode code 311 = .ok (.iconst 1, 1) := by decide +kernel
theorem dk_312 : decode code 312 = .ok (.iadd, 1) := by decide +kernel
theorem dk_313 : decode code 313 = .ok (.iaload, 1) := by decide +kernel
theorem dk_314 : decode code 314 = .ok (.aload_n 0, 1) := by decide +kernel
theorem dk_315 : decode code 315 = .ok (.iload_n 3, 1) := by decide +kernel
theorem dk_316 : decode code 316 = .ok (.iconst 2, 1) := by decide +kernel
theorem dk_317 : decode code 317 = .ok (.iadd, 1) := by decide +kernel
theorem dk_318 : decode code 318 = .ok (.iaload, 1) := by decide +kernel
theorem dk_319 : decode code 319 = .ok (.aload_n 0, 1) := by decide +kernel
theorem dk_320 : decode code 320 = .ok (.iload_n 3, 1) := by decide +kernel
theorem dk_321 : decode code 321 = .ok (.iconst 3, 1) := by decide +kernel
theorem dk_322 : decode code 322 = .ok (.iadd, 1) := by decide +kernel
theorem dk_323 : decode code 323 = .ok (.iaload, 1) := by decide +kernel
theorem dk_324 : decode code 324 = .ok (.aload_n 0, 1) := by decide +kernel
theorem dk_325 : decode code 325 = .ok (.iload_n 3, 1) := by decide +kernel
theorem dk_326 : decode code 326 = .ok (.iconst 4, 1) := by decide +kernel
theorem dk_327 : decode code 327 = .ok (.iadd, 1) := by decide +kernel
theorem dk_328 : decode code 328 = .ok (.iaload, 1) := by decide +kernel
theorem dk_329 : decode code 329 = .ok (.aload_n 0, 1) := by decide +kernel
theorem dk_330 : decode code 330 = .ok (.iload_n 3, 1) := by decide +kernel
theorem dk_331 : decode code 331 = .ok (.iconst 5, 1) := by decide +kernel
theorem dk_332 : decode code 332 = .ok (.iadd, 1) := by decide +kernel
theorem dk_333 : decode code 333 = .ok (.iaload, 1) := by decide +kernel
theorem dk_334 : decode code 334 = .ok (.invokevirtual 13, 3) := by decide +kernel
theorem dk_337 : decode code 337 = .ok (.aload_n 2, 1) := by decide +kernel
theorem dk_338 : decode code 338 = .ok (.aload_n 0, 1) := by decide +kernel
theorem dk_339 : decode code 339 = .ok (.iload_n 3, 1) := by decide +kernel
theorem dk_340 : decode code 340 = .ok (.iconst 1, 1) := by decide +kernel
theorem dk_341 : decode code 341 = .ok (.iadd, 1) := by decide +kernel
theorem dk_342 : decode code 342 = .ok (.iaload, 1) := by decide +kernel
theorem dk_343 : decode code 343 = .ok (.aload_n 0, 1) := by decide +kernel
theorem dk_344 : decode code 344 = .ok (.iload_n 3, 1) := by decide +kernel
theorem dk_345 : decode code 345 = .ok (.iconst 2, 1) := by decide +kernel
theorem dk_346 : decode code 346 = .ok (.iadd, 1) := by decide +kernel
theorem dk_347 : decode code 347 = .ok (.iaload, 1) := by decide +kernel
theorem dk_348 : decode code 348 = .ok (.aload_n 0, 1) := by decide +kernel
theorem dk_349 : decode code 349 = .ok (.iload_n 3, 1) := by decide +kernel
theorem dk_350 : decode code 350 = .ok (.iconst 3, 1) := by decide +kernel
theorem dk_351 : decode code 351 = .ok (.iadd, 1) := by decide +kernel
theorem dk_352 : decode code 352 = .ok (.iaload, 1) := by decide +kernel
theorem dk_353 : decode code 353 = .ok (.aload_n 0, 1) := by decide +kernel
theorem dk_354 : decode code 354 = .ok (.iload_n 3, 1) := by decide +kernel
theorem dk_355 : decode code 355 = .ok (.iconst 4, 1) := by decide +kernel
theorem dk_356 : decode code 356 = .ok (.iadd, 1) := by decide +kernel
theorem dk_357 : decode code 357 = .ok (.iaload, 1) := by decide +kernel
theorem dk_358 : decode code 358 = .ok (.aload_n 0, 1) := by decide +kernel
theorem dk_359 : decode code 359 = .ok (.iload_n 3, 1) := by decide +kernel
theorem dk_360 : decode code 360 = .ok (.iconst 5, 1) := by decide +kernel
theorem dk_361 : decode code 361 = .ok (.iadd, 1) := by decide +kernel
theorem dk_362 : decode code 362 = .ok (.iaload, 1) := by decide +kernel
theorem dk_363 : decode code 363 = .ok (.invokevirtual 17, 3) := by decide +kernel
theorem dk_366 : decode code 366 = .ok (.if_icmp .eq 2058, 3) := by decide +kernel
theorem dk_371 : decode code 371 = .ok (.aload_n 1, 1) := by decide +kernel
theorem dk_372 : decode code 372 = .ok (.aload_n 0, 1) := by decide +kernel
theorem dk_373 : decode code 373 = .ok (.iload_n 3, 1) := by decide +kernel
theorem dk_374 : decode code 374 = .ok (.iconst 1, 1) := by decide +kernel
theorem dk_375 : decode code 375 = .ok (.iadd, 1) := by decide +kernel
theorem dk_376 : decode code 376 = .ok (.iaload, 1) := by decide +kernel
theorem dk_377 : decode code 377 = .ok (.invokevirtual 18, 3) := by decide +kernel
theorem dk_380 : decode code 380 = .ok (.aload_n 2, 1) := by decide +kernel
theorem dk_381 : decode code 381 = .ok (.aload_n 0, 1) := by decide +kernel
theorem dk_382 : decode code 382 = .ok (.iload_n 3, 1) := by decide +kernel
theorem dk_383 : decode code 383 = .ok (.iconst 1, 1) := by decide +kernel
theorem dk_384 : decode code 384 = .ok (.iadd, 1) := by decide +kernel
theorem dk_385 : decode code 385 = .ok (.iaload, 1) := by decide +kernel
theorem dk_386 : decode code 386 = .ok (.invokevirtual 22, 3) := by decide +kernel
theorem dk_389 : decode code 389 = .ok (.if_icmp .eq 2035, 3) := by decide +kernel
theorem dk_394 : decode code 394 = .ok (.aload_n 1, 1) := by decide +kernel
theorem dk_395 : decode code 395 = .ok (.invokevirtual 23, 3) := by decide +kernel
theorem dk_398 : decode code 398 = .ok (.aload_n 2, 1) := by decide +kernel
theorem dk_399 : decode code 399 = .ok (.invokevirtual 27, 3) := by decide +kernel
theorem dk_402 : decode code 402 = .ok (.if_icmp .eq 2022, 3) := by decide +kernel
theorem dk_2245 : decode code 2245 = .ok (.aload_n 1, 1) := by decide +kernel
theorem dk_2246 : decode code 2246 = .ok (.aload_n 0, 1) := by decide +kernel
theorem dk_2247 : decode code 2247 = .ok (.iload_n 3, 1) := by decide +kernel
theorem dk_2248 : decode code 2248 = .ok (.iconst 1, 1) := by decide +kernel
theorem dk_2249 : decode code 2249 = .ok (.iadd, 1) := by decide +kernel
theorem dk_2250 : decode code 2250 = .ok (.iaload, 1) := by decide +kernel
theorem dk_2251 : decode code 2251 = .ok (.aload_n 0, 1) := by decide +kernel
theorem dk_2252 : decode code 2252 = .ok (.iload_n 3, 1) := by decide +kernel
theorem dk_2253 : decode code 2253 = .ok (.iconst 2, 1) := by decide +kernel
theorem dk_2254 : decode code 2254 = .ok (.iadd, 1) := by decide +kernel
theorem dk_2255 : decode code 2255 = .ok (.iaload, 1) := by decide +kernel
theorem dk_2256 : decode code 2256 = .ok (.aload_n 0, 1) := by decide +kernel
theorem dk_2257 : decode code 2257 = .ok (.iload_n 3, 1) := by decide +kernel
theorem dk_2258 : decode code 2258 = .ok (.iconst 3, 1) := by decide +kernel
theorem dk_2259 : decode code 2259 = .ok (.iadd, 1) := by decide +kernel
theorem dk_2260 : decode code 2260 = .ok (.iaload, 1) := by decide +kernel
theorem dk_2261 : decode code 2261 = .ok (.invokevirtual 268, 3) := by decide +kernel
theorem dk_2264 : decode code 2264 = .ok (.aload_n 2, 1) := by decide +kernel
theorem dk_2265 : decode code 2265 = .ok (.aload_n 0, 1) := by decide +kernel
theorem dk_2266 : decode code 2266 = .ok (.iload_n 3, 1) := by decide +kernel
theorem dk_2267 : decode code 2267 = .ok (.iconst 1, 1) := by decide +kernel
theorem dk_2268 : decode code 2268 = .ok (.iadd, 1) := by decide +kernel
theorem dk_2269 : decode code 2269 = .ok (.iaload, 1) := by decide +kernel
theorem dk_2270 : decode code 2270 = .ok (.aload_n 0, 1) := by decide +kernel
theorem dk_2271 : decode code 2271 = .ok (.iload_n 3, 1) := by decide +kernel
theorem dk_2272 : decode code 2272 = .ok (.iconst 2, 1) := by decide +kernel
theorem dk_2273 : decode code 2273 = .ok (.iadd, 1) := by decide +kernel
theorem dk_2274 : decode code 2274 = .ok (.iaload, 1) := by decide +kernel
theorem dk_2275 : decode code 2275 = .ok (.aload_n 0, 1) := by decide +kernel
theorem dk_2276 : decode code 2276 = .ok (.iload_n 3, 1) := by decide +kernel
theorem dk_2277 : decode code 2277 = .ok (.iconst 3, 1) := by decide +kernel
theorem dk_2278 : decode code 2278 = .ok (.iadd, 1) := by decide +kernel
theorem dk_2279 : decode code 2279 = .ok (.iaload, 1) := by decide +kernel
theorem dk_2280 : decode code 2280 = .ok (.invokevirtual 271, 3) := by decide +kernel
theorem dk_2283 : decode code 2283 = .ok (.if_icmp .eq 141, 3) := by decide +kernel
section CASES
variable {p : Program} {l : Launch} {e : Env} {R : Room} {s : State} {m : MethodId} {args : Array Value} {below : List Frame} {meth : Method} {c : Code} {Q : State → Prop} {D : va_G} {tys : List (ClassId × FieldType)} {A : Nat → Prop}
variable {cells slots : Nat} {ws : va_W}
theorem case_2 {b L : Nat} {xs : Nat → Int32} {ad : Nat → Nat} (F : LFix D tys A p R s m args c) (hX : va_X b L xs s s.heap) (hbl : b < s.heap.size) (hbA : ¬ A b) (hin : ∀ k : Nat, k < 6 → vp_in (0 + Int32.ofInt k) L) (hm : cells ≤ R.cells ∧ slots ≤ R.slots) (hG : GOK ad tys GG ws) (hP1 : preOK ad FX ws) (hP2 : preOK ad FM ws) (kk : ∀ w2 : va_W, LV p l e R s m args below meth c Q D A cells slots 2424 [(3, .int 0), (2, .ref (ad 90)), (1, .ref (ad 0)), (0, .ref b)] [] w2) : LV p l e R s m args below meth c Q D A cells slots 394 [(3, .int 0), (2, .ref (ad 90)), (1, .ref (ad 0)), (0, .ref b)] [] ws := by
  refine L_al (i := 1) F dk_394 rfl (List.Mem.tail _ (List.Mem.tail _ (List.Mem.head _))) ?_
  · refine L_cr (As := []) (k := kX2_0) (q0 := 0) F rX2_0 (show 3 < 341 by omega) (show mKind 3 = 0 by decide +kernel) (w := 349) (show wAt 349 (Cond.methodLink "HalvedNamesLaw" 23 (mY 3)) = true by decide +kernel) dk_395 (show 0 = mN 3 by decide +kernel) (show GG[0]? = some _ from rfl) rfl ⟨_, _, rfl⟩ (by decide) hm hG hP1 ⟨rfl, trivial⟩ (fun r1 w1 z1 => ?_)
    rw [rt_int z1.2.2.1]
    refine L_al (i := 2) F dk_398 rfl (List.Mem.tail _ (List.Mem.head _)) ?_
    refine L_cr (As := []) (k := kM2_0) (q0 := 90) F rM2_0 (show 233 < 341 by omega) (show mKind 233 = 0 by decide +kernel) (w := 1340) (show wAt 1340 (Cond.methodLink "HalvedNamesLaw" 27 (mY 233)) = true by decide +kernel) dk_399 (show 0 = mN 233 by decide +kernel) (show GG[90]? = some _ from rfl) rfl ⟨_, _, rfl⟩ (by simp) hm z1.1 (pre_keep z1.2.1 (by decide +kernel) hP2) ⟨rfl, trivial⟩ (fun r2 w2 z2 => ?_)
    rw [rt_int z2.2.2.1]
    exact L_eq F dk_402 rfl (kk w2)
theorem case_1 {b L : Nat} {xs : Nat → Int32} {ad : Nat → Nat} (F : LFix D tys A p R s m args c) (hX : va_X b L xs s s.heap) (hbl : b < s.heap.size) (hbA : ¬ A b) (hin : ∀ k : Nat, k < 6 → vp_in (0 + Int32.ofInt k) L) (hm : cells ≤ R.cells ∧ slots ≤ R.slots) (hG : GOK ad tys GG ws) (hP1 : preOK ad FX ws) (hP2 : preOK ad FM ws) (kk : ∀ w2 : va_W, LV p l e R s m args below meth c Q D A cells slots 2424 [(3, .int 0), (2, .ref (ad 90)), (1, .ref (ad 0)), (0, .ref b)] [] w2) : LV p l e R s m args below meth c Q D A cells slots 371 [(3, .int 0), (2, .ref (ad 90)), (1, .ref (ad 0)), (0, .ref b)] [] ws := by
  refine L_al (i := 1) F dk_371 rfl (List.Mem.tail _ (List.Mem.tail _ (List.Mem.head _))) ?_
  refine L_arg F hX hbl hbA (List.Mem.tail _ (List.Mem.tail _ (List.Mem.tail _ (List.Mem.head _)))) (List.Mem.head _) dk_372 dk_373 dk_374 dk_375 dk_376 (hin 1 (by omega)) ?_
  have l1 := Int32.le_toInt (xs (0 + Int32.ofInt 1).toNatClampNeg)
  have u1 := Int32.toInt_lt (xs (0 + Int32.ofInt 1).toNatClampNeg)
  have hb : (((-2147483648) ≤ (xs (0 + Int32.ofInt 1).toNatClampNeg).toInt ∧ (xs (0 + Int32.ofInt 1).toNatClampNeg).toInt ≤ (-1))) ∨ ((0 ≤ (xs (0 + Int32.ofInt 1).toNatClampNeg).toInt ∧ (xs (0 + Int32.ofInt 1).toNatClampNeg).toInt ≤ 0)) ∨ ((1 ≤ (xs (0 + Int32.ofInt 1).toNatClampNeg).toInt ∧ (xs (0 + Int32.ofInt 1).toNatClampNeg).toInt ≤ 2147483647)) := by omega
  rcases hb with ⟨⟨a1, b1⟩⟩ | ⟨⟨a1, b1⟩⟩ | ⟨⟨a1, b1⟩⟩
  · refine L_cr (As := [.int (xs (0 + Int32.ofInt 1).toNatClampNeg)]) (k := kX1_0) (q0 := 0) F rX1_0 (show 2 < 341 by omega) (show mKind 2 = 0 by decide +kernel) (w := 345) (show wAt 345 (Cond.methodLink "HalvedNamesLaw" 18 (mY 2)) = true by decide +kernel) dk_377 (show 1 = mN 2 by decide +kernel) (show GG[0]? = some _ from rfl) rfl ⟨_, _, rfl⟩ (by decide) hm hG hP1 ⟨rfl, ok_int a1 b1, trivial⟩ (fun r1 w1 z1 => ?_)
    rw [rt_int z1.2.2.1]
    refine L_al (i := 2) F dk_380 rfl (List.Mem.tail _ (List.Mem.head _)) ?_
    refine L_arg F hX hbl hbA (List.Mem.tail _ (List.Mem.tail _ (List.Mem.tail _ (List.Mem.head _)))) (List.Mem.head _) dk_381 dk_382 dk_383 dk_384 dk_385 (hin 1 (by omega)) ?_
    refine L_cr (As := [.int (xs (0 + Int32.ofInt 1).toNatClampNeg)]) (k := kM1_0) (q0 := 90) F rM1_0 (show 211 < 341 by omega) (show mKind 211 = 0 by decide +kernel) (w := 1332) (show wAt 1332 (Cond.methodLink "HalvedNamesLaw" 22 (mY 211)) = true by decide +kernel) dk_386 (show 1 = mN 211 by decide +kernel) (show GG[90]? = some _ from rfl) rfl ⟨_, _, rfl⟩ (by simp) hm z1.1 (pre_keep z1.2.1 (by decide +kernel) hP2) ⟨rfl, ok_int a1 b1, trivial⟩ (fun r2 w2 z2 => ?_)
    rw [rt_int z2.2.2.1]
    exact L_eq F dk_389 rfl (kk w2)
  · refine L_cr (As := [.int (xs (0 + Int32.ofInt 1).toNatClampNeg)]) (k := kX1_1) (q0 := 0) F rX1_1 (show 2 < 341 by omega) (show mKind 2 = 0 by decide +kernel) (w := 345) (show wAt 345 (Cond.methodLink "HalvedNamesLaw" 18 (mY 2)) = true by decide +kernel) dk_377 (show 1 = mN 2 by decide +kernel) (show GG[0]? = some _ from rfl) rfl ⟨_, _, rfl⟩ (by decide) hm hG hP1 ⟨rfl, ok_int a1 b1, trivial⟩ (fun r1 w1 z1 => ?_)
    rw [rt_int z1.2.2.1]
    refine L_al (i := 2) F dk_380 rfl (List.Mem.tail _ (List.Mem.head _)) ?_
    refine L_arg F hX hbl hbA (List.Mem.tail _ (List.Mem.tail _ (List.Mem.tail _ (List.Mem.head _)))) (List.Mem.head _) dk_381 dk_382 dk_383 dk_384 dk_385 (hin 1 (by omega)) ?_
    refine L_cr (As := [.int (xs (0 + Int32.ofInt 1).toNatClampNeg)]) (k := kM1_1) (q0 := 90) F rM1_1 (show 211 < 341 by omega) (show mKind 211 = 0 by decide +kernel) (w := 1332) (show wAt 1332 (Cond.methodLink "HalvedNamesLaw" 22 (mY 211)) = true by decide +kernel) dk_386 (show 1 = mN 211 by decide +kernel) (show GG[90]? = some _ from rfl) rfl ⟨_, _, rfl⟩ (by simp) hm z1.1 (pre_keep z1.2.1 (by decide +kernel) hP2) ⟨rfl, ok_int a1 b1, trivial⟩ (fun r2 w2 z2 => ?_)
    rw [rt_int z2.2.2.1]
    exact L_eq F dk_389 rfl (kk w2)
  · refine L_cr (As := [.int (xs (0 + Int32.ofInt 1).toNatClampNeg)]) (k := kX1_2) (q0 := 0) F rX1_2 (show 2 < 341 by omega) (show mKind 2 = 0 by decide +kernel) (w := 345) (show wAt 345 (Cond.methodLink "HalvedNamesLaw" 18 (mY 2)) = true by decide +kernel) dk_377 (show 1 = mN 2 by decide +kernel) (show GG[0]? = some _ from rfl) rfl ⟨_, _, rfl⟩ (by decide) hm hG hP1 ⟨rfl, ok_int a1 b1, trivial⟩ (fun r1 w1 z1 => ?_)
    rw [rt_int z1.2.2.1]
    refine L_al (i := 2) F dk_380 rfl (List.Mem.tail _ (List.Mem.head _)) ?_
    refine L_arg F hX hbl hbA (List.Mem.tail _ (List.Mem.tail _ (List.Mem.tail _ (List.Mem.head _)))) (List.Mem.head _) dk_381 dk_382 dk_383 dk_384 dk_385 (hin 1 (by omega)) ?_
    refine L_cr (As := [.int (xs (0 + Int32.ofInt 1).toNatClampNeg)]) (k := kM1_2) (q0 := 90) F rM1_2 (show 211 < 341 by omega) (show mKind 211 = 0 by decide +kernel) (w := 1332) (show wAt 1332 (Cond.methodLink "HalvedNamesLaw" 22 (mY 211)) = true by decide +kernel) dk_386 (show 1 = mN 211 by decide +kernel) (show GG[90]? = some _ from rfl) rfl ⟨_, _, rfl⟩ (by simp) hm z1.1 (pre_keep z1.2.1 (by decide +kernel) hP2) ⟨rfl, ok_int a1 b1, trivial⟩ (fun r2 w2 z2 => ?_)
    rw [rt_int z2.2.2.1]
    exact L_eq F dk_389 rfl (kk w2)
theorem case_0 {b L : Nat} {xs : Nat → Int32} {ad : Nat → Nat} (F : LFix D tys A p R s m args c) (hX : va_X b L xs s s.heap) (hbl : b < s.heap.size) (hbA : ¬ A b) (hin : ∀ k : Nat, k < 6 → vp_in (0 + Int32.ofInt k) L) (hm : cells ≤ R.cells ∧ slots ≤ R.slots) (hG : GOK ad tys GG ws) (hP1 : preOK ad FX ws) (hP2 : preOK ad FM ws) (kk : ∀ w2 : va_W, LV p l e R s m args below meth c Q D A cells slots 2424 [(3, .int 0), (2, .ref (ad 90)), (1, .ref (ad 0)), (0, .ref b)] [] w2) : LV p l e R s m args below meth c Q D A cells slots 308 [(3, .int 0), (2, .ref (ad 90)), (1, .ref (ad 0)), (0, .ref b)] [] ws := by
  refine L_al (i := 1) F dk_308 rfl (List.Mem.tail _ (List.Mem.tail _ (List.Mem.head _))) ?_
  refine L_arg F hX hbl hbA (List.Mem.tail _ (List.Mem.tail _ (List.Mem.tail _ (List.Mem.head _)))) (List.Mem.head _) dk_309 dk_310 dk_311 dk_312 dk_313 (hin 1 (by omega)) ?_
  refine L_arg F hX hbl hbA (List.Mem.tail _ (List.Mem.tail _ (List.Mem.tail _ (List.Mem.head _)))) (List.Mem.head _) dk_314 dk_315 dk_316 dk_317 dk_318 (hin 2 (by omega)) ?_
  refine L_arg F hX hbl hbA (List.Mem.tail _ (List.Mem.tail _ (List.Mem.tail _ (List.Mem.head _)))) (List.Mem.head _) dk_319 dk_320 dk_321 dk_322 dk_323 (hin 3 (by omega)) ?_
  refine L_arg F hX hbl hbA (List.Mem.tail _ (List.Mem.tail _ (List.Mem.tail _ (List.Mem.head _)))) (List.Mem.head _) dk_324 dk_325 dk_326 dk_327 dk_328 (hin 4 (by omega)) ?_
  refine L_arg F hX hbl hbA (List.Mem.tail _ (List.Mem.tail _ (List.Mem.tail _ (List.Mem.head _)))) (List.Mem.head _) dk_329 dk_330 dk_331 dk_332 dk_333 (hin 5 (by omega)) ?_
  · refine L_cr (As := [.int (xs (0 + Int32.ofInt 1).toNatClampNeg), .int (xs (0 + Int32.ofInt 2).toNatClampNeg), .int (xs (0 + Int32.ofInt 3).toNatClampNeg), .int (xs (0 + Int32.ofInt 4).toNatClampNeg), .int (xs (0 + Int32.ofInt 5).toNatClampNeg)]) (k := kX0_0) (q0 := 0) F rX0_0 (show 1 < 341 by omega) (show mKind 1 = 0 by decide +kernel) (w := 337) (show wAt 337 (Cond.methodLink "HalvedNamesLaw" 13 (mY 1)) = true by decide +kernel) dk_334 (show 5 = mN 1 by decide +kernel) (show GG[0]? = some _ from rfl) rfl ⟨_, _, rfl⟩ (by decide) hm hG hP1 ⟨rfl, ok_full, ok_full, ok_full, ok_full, ok_full, trivial⟩ (fun r1 w1 z1 => ?_)
    rw [rt_int z1.2.2.1]
    refine L_al (i := 2) F dk_337 rfl (List.Mem.tail _ (List.Mem.head _)) ?_
    refine L_arg F hX hbl hbA (List.Mem.tail _ (List.Mem.tail _ (List.Mem.tail _ (List.Mem.head _)))) (List.Mem.head _) dk_338 dk_339 dk_340 dk_341 dk_342 (hin 1 (by omega)) ?_
    refine L_arg F hX hbl hbA (List.Mem.tail _ (List.Mem.tail _ (List.Mem.tail _ (List.Mem.head _)))) (List.Mem.head _) dk_343 dk_344 dk_345 dk_346 dk_347 (hin 2 (by omega)) ?_
    refine L_arg F hX hbl hbA (List.Mem.tail _ (List.Mem.tail _ (List.Mem.tail _ (List.Mem.head _)))) (List.Mem.head _) dk_348 dk_349 dk_350 dk_351 dk_352 (hin 3 (by omega)) ?_
    refine L_arg F hX hbl hbA (List.Mem.tail _ (List.Mem.tail _ (List.Mem.tail _ (List.Mem.head _)))) (List.Mem.head _) dk_353 dk_354 dk_355 dk_356 dk_357 (hin 4 (by omega)) ?_
    refine L_arg F hX hbl hbA (List.Mem.tail _ (List.Mem.tail _ (List.Mem.tail _ (List.Mem.head _)))) (List.Mem.head _) dk_358 dk_359 dk_360 dk_361 dk_362 (hin 5 (by omega)) ?_
    refine L_cr (As := [.int (xs (0 + Int32.ofInt 1).toNatClampNeg), .int (xs (0 + Int32.ofInt 2).toNatClampNeg), .int (xs (0 + Int32.ofInt 3).toNatClampNeg), .int (xs (0 + Int32.ofInt 4).toNatClampNeg), .int (xs (0 + Int32.ofInt 5).toNatClampNeg)]) (k := kM0_0) (q0 := 90) F rM0_0 (show 210 < 341 by omega) (show mKind 210 = 0 by decide +kernel) (w := 1328) (show wAt 1328 (Cond.methodLink "HalvedNamesLaw" 17 (mY 210)) = true by decide +kernel) dk_363 (show 5 = mN 210 by decide +kernel) (show GG[90]? = some _ from rfl) rfl ⟨_, _, rfl⟩ (by simp) hm z1.1 (pre_keep z1.2.1 (by decide +kernel) hP2) ⟨rfl, ok_full, ok_full, ok_full, ok_full, ok_full, trivial⟩ (fun r2 w2 z2 => ?_)
    rw [rt_int z2.2.2.1]
    exact L_eq F dk_366 rfl (kk w2)
theorem case_62 {b L : Nat} {xs : Nat → Int32} {ad : Nat → Nat} (F : LFix D tys A p R s m args c) (hX : va_X b L xs s s.heap) (hbl : b < s.heap.size) (hbA : ¬ A b) (hin : ∀ k : Nat, k < 6 → vp_in (0 + Int32.ofInt k) L) (hm : cells ≤ R.cells ∧ slots ≤ R.slots) (hG : GOK ad tys GG ws) (hP1 : preOK ad FX ws) (hP2 : preOK ad FM ws) (kk : ∀ w2 : va_W, LV p l e R s m args below meth c Q D A cells slots 2424 [(3, .int 0), (2, .ref (ad 90)), (1, .ref (ad 0)), (0, .ref b)] [] w2) : LV p l e R s m args below meth c Q D A cells slots 2245 [(3, .int 0), (2, .ref (ad 90)), (1, .ref (ad 0)), (0, .ref b)] [] ws := by
  refine L_al (i := 1) F dk_2245 rfl (List.Mem.tail _ (List.Mem.tail _ (List.Mem.head _))) ?_
  refine L_arg F hX hbl hbA (List.Mem.tail _ (List.Mem.tail _ (List.Mem.tail _ (List.Mem.head _)))) (List.Mem.head _) dk_2246 dk_2247 dk_2248 dk_2249 dk_2250 (hin 1 (by omega)) ?_
  refine L_arg F hX hbl hbA (List.Mem.tail _ (List.Mem.tail _ (List.Mem.tail _ (List.Mem.head _)))) (List.Mem.head _) dk_2251 dk_2252 dk_2253 dk_2254 dk_2255 (hin 2 (by omega)) ?_
  refine L_arg F hX hbl hbA (List.Mem.tail _ (List.Mem.tail _ (List.Mem.tail _ (List.Mem.head _)))) (List.Mem.head _) dk_2256 dk_2257 dk_2258 dk_2259 dk_2260 (hin 3 (by omega)) ?_
  have l1 := Int32.le_toInt (xs (0 + Int32.ofInt 1).toNatClampNeg)
  have u1 := Int32.toInt_lt (xs (0 + Int32.ofInt 1).toNatClampNeg)
  have l2 := Int32.le_toInt (xs (0 + Int32.ofInt 2).toNatClampNeg)
  have u2 := Int32.toInt_lt (xs (0 + Int32.ofInt 2).toNatClampNeg)
  have l3 := Int32.le_toInt (xs (0 + Int32.ofInt 3).toNatClampNeg)
  have u3 := Int32.toInt_lt (xs (0 + Int32.ofInt 3).toNatClampNeg)
  have hb : (((-2147483648) ≤ (xs (0 + Int32.ofInt 1).toNatClampNeg).toInt ∧ (xs (0 + Int32.ofInt 1).toNatClampNeg).toInt ≤ (-1)) ∧ ((-2147483648) ≤ (xs (0 + Int32.ofInt 2).toNatClampNeg).toInt ∧ (xs (0 + Int32.ofInt 2).toNatClampNeg).toInt ≤ 2147483647) ∧ ((-2147483648) ≤ (xs (0 + Int32.ofInt 3).toNatClampNeg).toInt ∧ (xs (0 + Int32.ofInt 3).toNatClampNeg).toInt ≤ 2147483647)) ∨ ((4 ≤ (xs (0 + Int32.ofInt 1).toNatClampNeg).toInt ∧ (xs (0 + Int32.ofInt 1).toNatClampNeg).toInt ≤ 2147483647) ∧ ((-2147483648) ≤ (xs (0 + Int32.ofInt 2).toNatClampNeg).toInt ∧ (xs (0 + Int32.ofInt 2).toNatClampNeg).toInt ≤ 2147483647) ∧ ((-2147483648) ≤ (xs (0 + Int32.ofInt 3).toNatClampNeg).toInt ∧ (xs (0 + Int32.ofInt 3).toNatClampNeg).toInt ≤ 2147483647)) ∨ ((0 ≤ (xs (0 + Int32.ofInt 1).toNatClampNeg).toInt ∧ (xs (0 + Int32.ofInt 1).toNatClampNeg).toInt ≤ 3) ∧ ((-2147483648) ≤ (xs (0 + Int32.ofInt 2).toNatClampNeg).toInt ∧ (xs (0 + Int32.ofInt 2).toNatClampNeg).toInt ≤ (-1)) ∧ ((-2147483648) ≤ (xs (0 + Int32.ofInt 3).toNatClampNeg).toInt ∧ (xs (0 + Int32.ofInt 3).toNatClampNeg).toInt ≤ 2147483647)) ∨ ((0 ≤ (xs (0 + Int32.ofInt 1).toNatClampNeg).toInt ∧ (xs (0 + Int32.ofInt 1).toNatClampNeg).toInt ≤ 3) ∧ (4 ≤ (xs (0 + Int32.ofInt 2).toNatClampNeg).toInt ∧ (xs (0 + Int32.ofInt 2).toNatClampNeg).toInt ≤ 2147483647) ∧ ((-2147483648) ≤ (xs (0 + Int32.ofInt 3).toNatClampNeg).toInt ∧ (xs (0 + Int32.ofInt 3).toNatClampNeg).toInt ≤ 2147483647)) ∨ ((0 ≤ (xs (0 + Int32.ofInt 1).toNatClampNeg).toInt ∧ (xs (0 + Int32.ofInt 1).toNatClampNeg).toInt ≤ 3) ∧ (0 ≤ (xs (0 + Int32.ofInt 2).toNatClampNeg).toInt ∧ (xs (0 + Int32.ofInt 2).toNatClampNeg).toInt ≤ 3) ∧ (61 ≤ (xs (0 + Int32.ofInt 3).toNatClampNeg).toInt ∧ (xs (0 + Int32.ofInt 3).toNatClampNeg).toInt ≤ 2147483647)) ∨ ((0 ≤ (xs (0 + Int32.ofInt 1).toNatClampNeg).toInt ∧ (xs (0 + Int32.ofInt 1).toNatClampNeg).toInt ≤ 3) ∧ (0 ≤ (xs (0 + Int32.ofInt 2).toNatClampNeg).toInt ∧ (xs (0 + Int32.ofInt 2).toNatClampNeg).toInt ≤ 3) ∧ ((-2147483648) ≤ (xs (0 + Int32.ofInt 3).toNatClampNeg).toInt ∧ (xs (0 + Int32.ofInt 3).toNatClampNeg).toInt ≤ (-1))) ∨ ((0 ≤ (xs (0 + Int32.ofInt 1).toNatClampNeg).toInt ∧ (xs (0 + Int32.ofInt 1).toNatClampNeg).toInt ≤ 3) ∧ (0 ≤ (xs (0 + Int32.ofInt 2).toNatClampNeg).toInt ∧ (xs (0 + Int32.ofInt 2).toNatClampNeg).toInt ≤ 3) ∧ (0 ≤ (xs (0 + Int32.ofInt 3).toNatClampNeg).toInt ∧ (xs (0 + Int32.ofInt 3).toNatClampNeg).toInt ≤ 60)) := by omega
  rcases hb with ⟨⟨a1, b1⟩, ⟨a2, b2⟩, ⟨a3, b3⟩⟩ | ⟨⟨a1, b1⟩, ⟨a2, b2⟩, ⟨a3, b3⟩⟩ | ⟨⟨a1, b1⟩, ⟨a2, b2⟩, ⟨a3, b3⟩⟩ | ⟨⟨a1, b1⟩, ⟨a2, b2⟩, ⟨a3, b3⟩⟩ | ⟨⟨a1, b1⟩, ⟨a2, b2⟩, ⟨a3, b3⟩⟩ | ⟨⟨a1, b1⟩, ⟨a2, b2⟩, ⟨a3, b3⟩⟩ | ⟨⟨a1, b1⟩, ⟨a2, b2⟩, ⟨a3, b3⟩⟩
  · refine L_cr (As := [.int (xs (0 + Int32.ofInt 1).toNatClampNeg), .int (xs (0 + Int32.ofInt 2).toNatClampNeg), .int (xs (0 + Int32.ofInt 3).toNatClampNeg)]) (k := kX62_0) (q0 := 0) F rX62_0 (show 70 < 341 by omega) (show mKind 70 = 0 by decide +kernel) (w := 1163) (show wAt 1163 (Cond.methodLink "HalvedNamesLaw" 268 (mY 70)) = true by decide +kernel) dk_2261 (show 3 = mN 70 by decide +kernel) (show GG[0]? = some _ from rfl) rfl ⟨_, _, rfl⟩ (by decide) hm hG hP1 ⟨rfl, ok_int a1 b1, ok_full, ok_full, trivial⟩ (fun r1 w1 z1 => ?_)
    rw [rt_int z1.2.2.1]
    refine L_al (i := 2) F dk_2264 rfl (List.Mem.tail _ (List.Mem.head _)) ?_
    refine L_arg F hX hbl hbA (List.Mem.tail _ (List.Mem.tail _ (List.Mem.tail _ (List.Mem.head _)))) (List.Mem.head _) dk_2265 dk_2266 dk_2267 dk_2268 dk_2269 (hin 1 (by omega)) ?_
    refine L_arg F hX hbl hbA (List.Mem.tail _ (List.Mem.tail _ (List.Mem.tail _ (List.Mem.head _)))) (List.Mem.head _) dk_2270 dk_2271 dk_2272 dk_2273 dk_2274 (hin 2 (by omega)) ?_
    refine L_arg F hX hbl hbA (List.Mem.tail _ (List.Mem.tail _ (List.Mem.tail _ (List.Mem.head _)))) (List.Mem.head _) dk_2275 dk_2276 dk_2277 dk_2278 dk_2279 (hin 3 (by omega)) ?_
    refine L_cr (As := [.int (xs (0 + Int32.ofInt 1).toNatClampNeg), .int (xs (0 + Int32.ofInt 2).toNatClampNeg), .int (xs (0 + Int32.ofInt 3).toNatClampNeg)]) (k := kM62_0) (q0 := 90) F rM62_0 (show 338 < 341 by omega) (show mKind 338 = 0 by decide +kernel) (w := 1923) (show wAt 1923 (Cond.methodLink "HalvedNamesLaw" 271 (mY 338)) = true by decide +kernel) dk_2280 (show 3 = mN 338 by decide +kernel) (show GG[90]? = some _ from rfl) rfl ⟨_, _, rfl⟩ (by simp) hm z1.1 (pre_keep z1.2.1 (by decide +kernel) hP2) ⟨rfl, ok_int a1 b1, ok_full, ok_full, trivial⟩ (fun r2 w2 z2 => ?_)
    rw [rt_int z2.2.2.1]
    exact L_eq F dk_2283 rfl (kk w2)
  · refine L_cr (As := [.int (xs (0 + Int32.ofInt 1).toNatClampNeg), .int (xs (0 + Int32.ofInt 2).toNatClampNeg), .int (xs (0 + Int32.ofInt 3).toNatClampNeg)]) (k := kX62_1) (q0 := 0) F rX62_1 (show 70 < 341 by omega) (show mKind 70 = 0 by decide +kernel) (w := 1163) (show wAt 1163 (Cond.methodLink "HalvedNamesLaw" 268 (mY 70)) = true by decide +kernel) dk_2261 (show 3 = mN 70 by decide +kernel) (show GG[0]? = some _ from rfl) rfl ⟨_, _, rfl⟩ (by decide) hm hG hP1 ⟨rfl, ok_int a1 b1, ok_full, ok_full, trivial⟩ (fun r1 w1 z1 => ?_)
    rw [rt_int z1.2.2.1]
    refine L_al (i := 2) F dk_2264 rfl (List.Mem.tail _ (List.Mem.head _)) ?_
    refine L_arg F hX hbl hbA (List.Mem.tail _ (List.Mem.tail _ (List.Mem.tail _ (List.Mem.head _)))) (List.Mem.head _) dk_2265 dk_2266 dk_2267 dk_2268 dk_2269 (hin 1 (by omega)) ?_
    refine L_arg F hX hbl hbA (List.Mem.tail _ (List.Mem.tail _ (List.Mem.tail _ (List.Mem.head _)))) (List.Mem.head _) dk_2270 dk_2271 dk_2272 dk_2273 dk_2274 (hin 2 (by omega)) ?_
    refine L_arg F hX hbl hbA (List.Mem.tail _ (List.Mem.tail _ (List.Mem.tail _ (List.Mem.head _)))) (List.Mem.head _) dk_2275 dk_2276 dk_2277 dk_2278 dk_2279 (hin 3 (by omega)) ?_
    refine L_cr (As := [.int (xs (0 + Int32.ofInt 1).toNatClampNeg), .int (xs (0 + Int32.ofInt 2).toNatClampNeg), .int (xs (0 + Int32.ofInt 3).toNatClampNeg)]) (k := kM62_1) (q0 := 90) F rM62_1 (show 338 < 341 by omega) (show mKind 338 = 0 by decide +kernel) (w := 1923) (show wAt 1923 (Cond.methodLink "HalvedNamesLaw" 271 (mY 338)) = true by decide +kernel) dk_2280 (show 3 = mN 338 by decide +kernel) (show GG[90]? = some _ from rfl) rfl ⟨_, _, rfl⟩ (by simp) hm z1.1 (pre_keep z1.2.1 (by decide +kernel) hP2) ⟨rfl, ok_int a1 b1, ok_full, ok_full, trivial⟩ (fun r2 w2 z2 => ?_)
    rw [rt_int z2.2.2.1]
    exact L_eq F dk_2283 rfl (kk w2)
  · refine L_cr (As := [.int (xs (0 + Int32.ofInt 1).toNatClampNeg), .int (xs (0 + Int32.ofInt 2).toNatClampNeg), .int (xs (0 + Int32.ofInt 3).toNatClampNeg)]) (k := kX62_2) (q0 := 0) F rX62_2 (show 70 < 341 by omega) (show mKind 70 = 0 by decide +kernel) (w := 1163) (show wAt 1163 (Cond.methodLink "HalvedNamesLaw" 268 (mY 70)) = true by decide +kernel) dk_2261 (show 3 = mN 70 by decide +kernel) (show GG[0]? = some _ from rfl) rfl ⟨_, _, rfl⟩ (by decide) hm hG hP1 ⟨rfl, ok_int a1 b1, ok_int a2 b2, ok_full, trivial⟩ (fun r1 w1 z1 => ?_)
    rw [rt_int z1.2.2.1]
    refine L_al (i := 2) F dk_2264 rfl (List.Mem.tail _ (List.Mem.head _)) ?_
    refine L_arg F hX hbl hbA (List.Mem.tail _ (List.Mem.tail _ (List.Mem.tail _ (List.Mem.head _)))) (List.Mem.head _) dk_2265 dk_2266 dk_2267 dk_2268 dk_2269 (hin 1 (by omega)) ?_
    refine L_arg F hX hbl hbA (List.Mem.tail _ (List.Mem.tail _ (List.Mem.tail _ (List.Mem.head _)))) (List.Mem.head _) dk_2270 dk_2271 dk_2272 dk_2273 dk_2274 (hin 2 (by omega)) ?_
    refine L_arg F hX hbl hbA (List.Mem.tail _ (List.Mem.tail _ (List.Mem.tail _ (List.Mem.head _)))) (List.Mem.head _) dk_2275 dk_2276 dk_2277 dk_2278 dk_2279 (hin 3 (by omega)) ?_
    refine L_cr (As := [.int (xs (0 + Int32.ofInt 1).toNatClampNeg), .int (xs (0 + Int32.ofInt 2).toNatClampNeg), .int (xs (0 + Int32.ofInt 3).toNatClampNeg)]) (k := kM62_2) (q0 := 90) F rM62_2 (show 338 < 341 by omega) (show mKind 338 = 0 by decide +kernel) (w := 1923) (show wAt 1923 (Cond.methodLink "HalvedNamesLaw" 271 (mY 338)) = true by decide +kernel) dk_2280 (show 3 = mN 338 by decide +kernel) (show GG[90]? = some _ from rfl) rfl ⟨_, _, rfl⟩ (by simp) hm z1.1 (pre_keep z1.2.1 (by decide +kernel) hP2) ⟨rfl, ok_int a1 b1, ok_int a2 b2, ok_full, trivial⟩ (fun r2 w2 z2 => ?_)
    rw [rt_int z2.2.2.1]
    exact L_eq F dk_2283 rfl (kk w2)
  · refine L_cr (As := [.int (xs (0 + Int32.ofInt 1).toNatClampNeg), .int (xs (0 + Int32.ofInt 2).toNatClampNeg), .int (xs (0 + Int32.ofInt 3).toNatClampNeg)]) (k := kX62_3) (q0 := 0) F rX62_3 (show 70 < 341 by omega) (show mKind 70 = 0 by decide +kernel) (w := 1163) (show wAt 1163 (Cond.methodLink "HalvedNamesLaw" 268 (mY 70)) = true by decide +kernel) dk_2261 (show 3 = mN 70 by decide +kernel) (show GG[0]? = some _ from rfl) rfl ⟨_, _, rfl⟩ (by decide) hm hG hP1 ⟨rfl, ok_int a1 b1, ok_int a2 b2, ok_full, trivial⟩ (fun r1 w1 z1 => ?_)
    rw [rt_int z1.2.2.1]
    refine L_al (i := 2) F dk_2264 rfl (List.Mem.tail _ (List.Mem.head _)) ?_
    refine L_arg F hX hbl hbA (List.Mem.tail _ (List.Mem.tail _ (List.Mem.tail _ (List.Mem.head _)))) (List.Mem.head _) dk_2265 dk_2266 dk_2267 dk_2268 dk_2269 (hin 1 (by omega)) ?_
    refine L_arg F hX hbl hbA (List.Mem.tail _ (List.Mem.tail _ (List.Mem.tail _ (List.Mem.head _)))) (List.Mem.head _) dk_2270 dk_2271 dk_2272 dk_2273 dk_2274 (hin 2 (by omega)) ?_
    refine L_arg F hX hbl hbA (List.Mem.tail _ (List.Mem.tail _ (List.Mem.tail _ (List.Mem.head _)))) (List.Mem.head _) dk_2275 dk_2276 dk_2277 dk_2278 dk_2279 (hin 3 (by omega)) ?_
    refine L_cr (As := [.int (xs (0 + Int32.ofInt 1).toNatClampNeg), .int (xs (0 + Int32.ofInt 2).toNatClampNeg), .int (xs (0 + Int32.ofInt 3).toNatClampNeg)]) (k := kM62_3) (q0 := 90) F rM62_3 (show 338 < 341 by omega) (show mKind 338 = 0 by decide +kernel) (w := 1923) (show wAt 1923 (Cond.methodLink "HalvedNamesLaw" 271 (mY 338)) = true by decide +kernel) dk_2280 (show 3 = mN 338 by decide +kernel) (show GG[90]? = some _ from rfl) rfl ⟨_, _, rfl⟩ (by simp) hm z1.1 (pre_keep z1.2.1 (by decide +kernel) hP2) ⟨rfl, ok_int a1 b1, ok_int a2 b2, ok_full, trivial⟩ (fun r2 w2 z2 => ?_)
    rw [rt_int z2.2.2.1]
    exact L_eq F dk_2283 rfl (kk w2)
  · refine L_cr (As := [.int (xs (0 + Int32.ofInt 1).toNatClampNeg), .int (xs (0 + Int32.ofInt 2).toNatClampNeg), .int (xs (0 + Int32.ofInt 3).toNatClampNeg)]) (k := kX62_4) (q0 := 0) F rX62_4 (show 70 < 341 by omega) (show mKind 70 = 0 by decide +kernel) (w := 1163) (show wAt 1163 (Cond.methodLink "HalvedNamesLaw" 268 (mY 70)) = true by decide +kernel) dk_2261 (show 3 = mN 70 by decide +kernel) (show GG[0]? = some _ from rfl) rfl ⟨_, _, rfl⟩ (by decide) hm hG hP1 ⟨rfl, ok_int a1 b1, ok_int a2 b2, ok_int a3 b3, trivial⟩ (fun r1 w1 z1 => ?_)
    rw [rt_int z1.2.2.1]
    refine L_al (i := 2) F dk_2264 rfl (List.Mem.tail _ (List.Mem.head _)) ?_
    refine L_arg F hX hbl hbA (List.Mem.tail _ (List.Mem.tail _ (List.Mem.tail _ (List.Mem.head _)))) (List.Mem.head _) dk_2265 dk_2266 dk_2267 dk_2268 dk_2269 (hin 1 (by omega)) ?_
    refine L_arg F hX hbl hbA (List.Mem.tail _ (List.Mem.tail _ (List.Mem.tail _ (List.Mem.head _)))) (List.Mem.head _) dk_2270 dk_2271 dk_2272 dk_2273 dk_2274 (hin 2 (by omega)) ?_
    refine L_arg F hX hbl hbA (List.Mem.tail _ (List.Mem.tail _ (List.Mem.tail _ (List.Mem.head _)))) (List.Mem.head _) dk_2275 dk_2276 dk_2277 dk_2278 dk_2279 (hin 3 (by omega)) ?_
    refine L_cr (As := [.int (xs (0 + Int32.ofInt 1).toNatClampNeg), .int (xs (0 + Int32.ofInt 2).toNatClampNeg), .int (xs (0 + Int32.ofInt 3).toNatClampNeg)]) (k := kM62_4) (q0 := 90) F rM62_4 (show 338 < 341 by omega) (show mKind 338 = 0 by decide +kernel) (w := 1923) (show wAt 1923 (Cond.methodLink "HalvedNamesLaw" 271 (mY 338)) = true by decide +kernel) dk_2280 (show 3 = mN 338 by decide +kernel) (show GG[90]? = some _ from rfl) rfl ⟨_, _, rfl⟩ (by simp) hm z1.1 (pre_keep z1.2.1 (by decide +kernel) hP2) ⟨rfl, ok_int a1 b1, ok_int a2 b2, ok_int a3 b3, trivial⟩ (fun r2 w2 z2 => ?_)
    rw [rt_int z2.2.2.1]
    exact L_eq F dk_2283 rfl (kk w2)
  · refine L_cr (As := [.int (xs (0 + Int32.ofInt 1).toNatClampNeg), .int (xs (0 + Int32.ofInt 2).toNatClampNeg), .int (xs (0 + Int32.ofInt 3).toNatClampNeg)]) (k := kX62_5) (q0 := 0) F rX62_5 (show 70 < 341 by omega) (show mKind 70 = 0 by decide +kernel) (w := 1163) (show wAt 1163 (Cond.methodLink "HalvedNamesLaw" 268 (mY 70)) = true by decide +kernel) dk_2261 (show 3 = mN 70 by decide +kernel) (show GG[0]? = some _ from rfl) rfl ⟨_, _, rfl⟩ (by decide) hm hG hP1 ⟨rfl, ok_int a1 b1, ok_int a2 b2, ok_int a3 b3, trivial⟩ (fun r1 w1 z1 => ?_)
    rw [rt_int z1.2.2.1]
    refine L_al (i := 2) F dk_2264 rfl (List.Mem.tail _ (List.Mem.head _)) ?_
    refine L_arg F hX hbl hbA (List.Mem.tail _ (List.Mem.tail _ (List.Mem.tail _ (List.Mem.head _)))) (List.Mem.head _) dk_2265 dk_2266 dk_2267 dk_2268 dk_2269 (hin 1 (by omega)) ?_
    refine L_arg F hX hbl hbA (List.Mem.tail _ (List.Mem.tail _ (List.Mem.tail _ (List.Mem.head _)))) (List.Mem.head _) dk_2270 dk_2271 dk_2272 dk_2273 dk_2274 (hin 2 (by omega)) ?_
    refine L_arg F hX hbl hbA (List.Mem.tail _ (List.Mem.tail _ (List.Mem.tail _ (List.Mem.head _)))) (List.Mem.head _) dk_2275 dk_2276 dk_2277 dk_2278 dk_2279 (hin 3 (by omega)) ?_
    refine L_cr (As := [.int (xs (0 + Int32.ofInt 1).toNatClampNeg), .int (xs (0 + Int32.ofInt 2).toNatClampNeg), .int (xs (0 + Int32.ofInt 3).toNatClampNeg)]) (k := kM62_5) (q0 := 90) F rM62_5 (show 338 < 341 by omega) (show mKind 338 = 0 by decide +kernel) (w := 1923) (show wAt 1923 (Cond.methodLink "HalvedNamesLaw" 271 (mY 338)) = true by decide +kernel) dk_2280 (show 3 = mN 338 by decide +kernel) (show GG[90]? = some _ from rfl) rfl ⟨_, _, rfl⟩ (by simp) hm z1.1 (pre_keep z1.2.1 (by decide +kernel) hP2) ⟨rfl, ok_int a1 b1, ok_int a2 b2, ok_int a3 b3, trivial⟩ (fun r2 w2 z2 => ?_)
    rw [rt_int z2.2.2.1]
    exact L_eq F dk_2283 rfl (kk w2)
  · refine L_cr (As := [.int (xs (0 + Int32.ofInt 1).toNatClampNeg), .int (xs (0 + Int32.ofInt 2).toNatClampNeg), .int (xs (0 + Int32.ofInt 3).toNatClampNeg)]) (k := kX62_6) (q0 := 0) F rX62_6 (show 70 < 341 by omega) (show mKind 70 = 0 by decide +kernel) (w := 1163) (show wAt 1163 (Cond.methodLink "HalvedNamesLaw" 268 (mY 70)) = true by decide +kernel) dk_2261 (show 3 = mN 70 by decide +kernel) (show GG[0]? = some _ from rfl) rfl ⟨_, _, rfl⟩ (by decide) hm hG hP1 ⟨rfl, ok_int a1 b1, ok_int a2 b2, ok_int a3 b3, trivial⟩ (fun r1 w1 z1 => ?_)
    rw [rt_int z1.2.2.1]
    refine L_al (i := 2) F dk_2264 rfl (List.Mem.tail _ (List.Mem.head _)) ?_
    refine L_arg F hX hbl hbA (List.Mem.tail _ (List.Mem.tail _ (List.Mem.tail _ (List.Mem.head _)))) (List.Mem.head _) dk_2265 dk_2266 dk_2267 dk_2268 dk_2269 (hin 1 (by omega)) ?_
    refine L_arg F hX hbl hbA (List.Mem.tail _ (List.Mem.tail _ (List.Mem.tail _ (List.Mem.head _)))) (List.Mem.head _) dk_2270 dk_2271 dk_2272 dk_2273 dk_2274 (hin 2 (by omega)) ?_
    refine L_arg F hX hbl hbA (List.Mem.tail _ (List.Mem.tail _ (List.Mem.tail _ (List.Mem.head _)))) (List.Mem.head _) dk_2275 dk_2276 dk_2277 dk_2278 dk_2279 (hin 3 (by omega)) ?_
    refine L_cr (As := [.int (xs (0 + Int32.ofInt 1).toNatClampNeg), .int (xs (0 + Int32.ofInt 2).toNatClampNeg), .int (xs (0 + Int32.ofInt 3).toNatClampNeg)]) (k := kM62_6) (q0 := 90) F rM62_6 (show 338 < 341 by omega) (show mKind 338 = 0 by decide +kernel) (w := 1923) (show wAt 1923 (Cond.methodLink "HalvedNamesLaw" 271 (mY 338)) = true by decide +kernel) dk_2280 (show 3 = mN 338 by decide +kernel) (show GG[90]? = some _ from rfl) rfl ⟨_, _, rfl⟩ (by simp) hm z1.1 (pre_keep z1.2.1 (by decide +kernel) hP2) ⟨rfl, ok_int a1 b1, ok_int a2 b2, ok_int a3 b3, trivial⟩ (fun r2 w2 z2 => ?_)
    rw [rt_int z2.2.2.1]
    exact L_eq F dk_2283 rfl (kk w2)
end CASES
