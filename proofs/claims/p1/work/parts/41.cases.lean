section CASES7
variable {p : Program} {l : Launch} {e : Env} {R : Room} {s : State} {m : MethodId} {args : Array Value} {below : List Frame} {meth : Method} {c : Code} {Q : State → Prop} {D : va_G} {tys : List (ClassId × FieldType)} {A : Nat → Prop}
variable {cells slots : Nat} {ws : va_W}
theorem case_63 {b L : Nat} {xs : Nat → Int32} {ad : Nat → Nat} (F : LFix D tys A p R s m args c) (hX : va_X b L xs s s.heap) (hbl : b < s.heap.size) (hbA : ¬ A b) (hin : ∀ k : Nat, k < 6 → vp_in (0 + Int32.ofInt k) L) (hm : cells ≤ R.cells ∧ slots ≤ R.slots) (hG : GOK ad tys GG ws) (hP1 : preOK ad FX ws) (hP2 : preOK ad FM ws) (kk : ∀ w2 : va_W, LV p l e R s m args below meth c Q D A cells slots 2424 [(3, .int 0), (2, .ref (ad 90)), (1, .ref (ad 0)), (0, .ref b)] [] w2) : LV p l e R s m args below meth c Q D A cells slots 2288 [(3, .int 0), (2, .ref (ad 90)), (1, .ref (ad 0)), (0, .ref b)] [] ws := by
  refine L_al (i := 1) F dk_2288 rfl (List.Mem.tail _ (List.Mem.tail _ (List.Mem.head _))) ?_
  refine L_arg F hX hbl hbA (List.Mem.tail _ (List.Mem.tail _ (List.Mem.tail _ (List.Mem.head _)))) (List.Mem.head _) dk_2289 dk_2290 dk_2291 dk_2292 dk_2293 (hin 1 (by omega)) ?_
  refine L_arg F hX hbl hbA (List.Mem.tail _ (List.Mem.tail _ (List.Mem.tail _ (List.Mem.head _)))) (List.Mem.head _) dk_2294 dk_2295 dk_2296 dk_2297 dk_2298 (hin 2 (by omega)) ?_
  refine L_arg F hX hbl hbA (List.Mem.tail _ (List.Mem.tail _ (List.Mem.tail _ (List.Mem.head _)))) (List.Mem.head _) dk_2299 dk_2300 dk_2301 dk_2302 dk_2303 (hin 3 (by omega)) ?_
  refine L_i2l F dk_2304 ?_
  refine L_bp (v := 32) F dk_2305 (by decide) ?_
  refine L_lshl F dk_2307 ?_
  refine L_arg F hX hbl hbA (List.Mem.tail _ (List.Mem.tail _ (List.Mem.tail _ (List.Mem.head _)))) (List.Mem.head _) dk_2308 dk_2309 dk_2310 dk_2311 dk_2312 (hin 4 (by omega)) ?_
  refine L_i2l F dk_2313 ?_
  refine L_ldc2 F (w := 1938) (show wAt 1938 (Cond.constantLong "HalvedNamesLaw" 272 4294967295) = true by decide +kernel) dk_2314 ?_
  refine L_land F dk_2317 ?_
  refine L_lor F dk_2318 ?_
  have l1 := Int32.le_toInt (xs (0 + Int32.ofInt 1).toNatClampNeg)
  have u1 := Int32.toInt_lt (xs (0 + Int32.ofInt 1).toNatClampNeg)
  have l2 := Int32.le_toInt (xs (0 + Int32.ofInt 2).toNatClampNeg)
  have u2 := Int32.toInt_lt (xs (0 + Int32.ofInt 2).toNatClampNeg)
  have hb : (((-2147483648) ≤ (xs (0 + Int32.ofInt 1).toNatClampNeg).toInt ∧ (xs (0 + Int32.ofInt 1).toNatClampNeg).toInt ≤ (-1)) ∧ ((-2147483648) ≤ (xs (0 + Int32.ofInt 2).toNatClampNeg).toInt ∧ (xs (0 + Int32.ofInt 2).toNatClampNeg).toInt ≤ 2147483647)) ∨ ((4 ≤ (xs (0 + Int32.ofInt 1).toNatClampNeg).toInt ∧ (xs (0 + Int32.ofInt 1).toNatClampNeg).toInt ≤ 2147483647) ∧ ((-2147483648) ≤ (xs (0 + Int32.ofInt 2).toNatClampNeg).toInt ∧ (xs (0 + Int32.ofInt 2).toNatClampNeg).toInt ≤ 2147483647)) ∨ ((0 ≤ (xs (0 + Int32.ofInt 1).toNatClampNeg).toInt ∧ (xs (0 + Int32.ofInt 1).toNatClampNeg).toInt ≤ 3) ∧ ((-2147483648) ≤ (xs (0 + Int32.ofInt 2).toNatClampNeg).toInt ∧ (xs (0 + Int32.ofInt 2).toNatClampNeg).toInt ≤ 2147483647)) := by omega
  rcases hb with ⟨⟨a1, b1⟩, ⟨a2, b2⟩⟩ | ⟨⟨a1, b1⟩, ⟨a2, b2⟩⟩ | ⟨⟨a1, b1⟩, ⟨a2, b2⟩⟩
  · refine L_cr (As := [.int (xs (0 + Int32.ofInt 1).toNatClampNeg), .int (xs (0 + Int32.ofInt 2).toNatClampNeg), .long (((xs (0 + Int32.ofInt 3).toNatClampNeg).toInt64 <<< ((32 : Int32).toInt64 &&& 63) ||| ((xs (0 + Int32.ofInt 4).toNatClampNeg).toInt64 &&& 4294967295)))]) (k := kX63_0) (q0 := 0) F rX63_0 (show 71 < 341 by omega) (show mKind 71 = 0 by decide +kernel) (w := 1183) (show wAt 1183 (Cond.methodLink "HalvedNamesLaw" 274 (mY 71)) = true by decide +kernel) dk_2319 (show 3 = mN 71 by decide +kernel) (show GG[0]? = some _ from rfl) rfl ⟨_, _, rfl⟩ (by decide) hm hG hP1 ⟨rfl, ok_int a1 b1, ok_full, ok_fullL, trivial⟩ (fun r1 w1 z1 => ?_)
    rw [rt_int z1.2.2.1]
    refine L_al (i := 2) F dk_2322 rfl (List.Mem.tail _ (List.Mem.head _)) ?_
    refine L_arg F hX hbl hbA (List.Mem.tail _ (List.Mem.tail _ (List.Mem.tail _ (List.Mem.head _)))) (List.Mem.head _) dk_2323 dk_2324 dk_2325 dk_2326 dk_2327 (hin 1 (by omega)) ?_
    refine L_arg F hX hbl hbA (List.Mem.tail _ (List.Mem.tail _ (List.Mem.tail _ (List.Mem.head _)))) (List.Mem.head _) dk_2328 dk_2329 dk_2330 dk_2331 dk_2332 (hin 2 (by omega)) ?_
    refine L_arg F hX hbl hbA (List.Mem.tail _ (List.Mem.tail _ (List.Mem.tail _ (List.Mem.head _)))) (List.Mem.head _) dk_2333 dk_2334 dk_2335 dk_2336 dk_2337 (hin 3 (by omega)) ?_
    refine L_i2l F dk_2338 ?_
    refine L_bp (v := 32) F dk_2339 (by decide) ?_
    refine L_lshl F dk_2341 ?_
    refine L_arg F hX hbl hbA (List.Mem.tail _ (List.Mem.tail _ (List.Mem.tail _ (List.Mem.head _)))) (List.Mem.head _) dk_2342 dk_2343 dk_2344 dk_2345 dk_2346 (hin 4 (by omega)) ?_
    refine L_i2l F dk_2347 ?_
    refine L_ldc2 F (w := 1938) (show wAt 1938 (Cond.constantLong "HalvedNamesLaw" 272 4294967295) = true by decide +kernel) dk_2348 ?_
    refine L_land F dk_2351 ?_
    refine L_lor F dk_2352 ?_
    refine L_cr (As := [.int (xs (0 + Int32.ofInt 1).toNatClampNeg), .int (xs (0 + Int32.ofInt 2).toNatClampNeg), .long (((xs (0 + Int32.ofInt 3).toNatClampNeg).toInt64 <<< ((32 : Int32).toInt64 &&& 63) ||| ((xs (0 + Int32.ofInt 4).toNatClampNeg).toInt64 &&& 4294967295)))]) (k := kM63_0) (q0 := 90) F rM63_0 (show 339 < 341 by omega) (show mKind 339 = 0 by decide +kernel) (w := 1927) (show wAt 1927 (Cond.methodLink "HalvedNamesLaw" 278 (mY 339)) = true by decide +kernel) dk_2353 (show 3 = mN 339 by decide +kernel) (show GG[90]? = some _ from rfl) rfl ⟨_, _, rfl⟩ (by simp) hm z1.1 (pre_keep z1.2.1 (by decide +kernel) hP2) ⟨rfl, ok_int a1 b1, ok_full, ok_fullL, trivial⟩ (fun r2 w2 z2 => ?_)
    rw [rt_int z2.2.2.1]
    exact L_eq F dk_2356 rfl (kk w2)
  · refine L_cr (As := [.int (xs (0 + Int32.ofInt 1).toNatClampNeg), .int (xs (0 + Int32.ofInt 2).toNatClampNeg), .long (((xs (0 + Int32.ofInt 3).toNatClampNeg).toInt64 <<< ((32 : Int32).toInt64 &&& 63) ||| ((xs (0 + Int32.ofInt 4).toNatClampNeg).toInt64 &&& 4294967295)))]) (k := kX63_1) (q0 := 0) F rX63_1 (show 71 < 341 by omega) (show mKind 71 = 0 by decide +kernel) (w := 1183) (show wAt 1183 (Cond.methodLink "HalvedNamesLaw" 274 (mY 71)) = true by decide +kernel) dk_2319 (show 3 = mN 71 by decide +kernel) (show GG[0]? = some _ from rfl) rfl ⟨_, _, rfl⟩ (by decide) hm hG hP1 ⟨rfl, ok_int a1 b1, ok_full, ok_fullL, trivial⟩ (fun r1 w1 z1 => ?_)
    rw [rt_int z1.2.2.1]
    refine L_al (i := 2) F dk_2322 rfl (List.Mem.tail _ (List.Mem.head _)) ?_
    refine L_arg F hX hbl hbA (List.Mem.tail _ (List.Mem.tail _ (List.Mem.tail _ (List.Mem.head _)))) (List.Mem.head _) dk_2323 dk_2324 dk_2325 dk_2326 dk_2327 (hin 1 (by omega)) ?_
    refine L_arg F hX hbl hbA (List.Mem.tail _ (List.Mem.tail _ (List.Mem.tail _ (List.Mem.head _)))) (List.Mem.head _) dk_2328 dk_2329 dk_2330 dk_2331 dk_2332 (hin 2 (by omega)) ?_
    refine L_arg F hX hbl hbA (List.Mem.tail _ (List.Mem.tail _ (List.Mem.tail _ (List.Mem.head _)))) (List.Mem.head _) dk_2333 dk_2334 dk_2335 dk_2336 dk_2337 (hin 3 (by omega)) ?_
    refine L_i2l F dk_2338 ?_
    refine L_bp (v := 32) F dk_2339 (by decide) ?_
    refine L_lshl F dk_2341 ?_
    refine L_arg F hX hbl hbA (List.Mem.tail _ (List.Mem.tail _ (List.Mem.tail _ (List.Mem.head _)))) (List.Mem.head _) dk_2342 dk_2343 dk_2344 dk_2345 dk_2346 (hin 4 (by omega)) ?_
    refine L_i2l F dk_2347 ?_
    refine L_ldc2 F (w := 1938) (show wAt 1938 (Cond.constantLong "HalvedNamesLaw" 272 4294967295) = true by decide +kernel) dk_2348 ?_
    refine L_land F dk_2351 ?_
    refine L_lor F dk_2352 ?_
    refine L_cr (As := [.int (xs (0 + Int32.ofInt 1).toNatClampNeg), .int (xs (0 + Int32.ofInt 2).toNatClampNeg), .long (((xs (0 + Int32.ofInt 3).toNatClampNeg).toInt64 <<< ((32 : Int32).toInt64 &&& 63) ||| ((xs (0 + Int32.ofInt 4).toNatClampNeg).toInt64 &&& 4294967295)))]) (k := kM63_1) (q0 := 90) F rM63_1 (show 339 < 341 by omega) (show mKind 339 = 0 by decide +kernel) (w := 1927) (show wAt 1927 (Cond.methodLink "HalvedNamesLaw" 278 (mY 339)) = true by decide +kernel) dk_2353 (show 3 = mN 339 by decide +kernel) (show GG[90]? = some _ from rfl) rfl ⟨_, _, rfl⟩ (by simp) hm z1.1 (pre_keep z1.2.1 (by decide +kernel) hP2) ⟨rfl, ok_int a1 b1, ok_full, ok_fullL, trivial⟩ (fun r2 w2 z2 => ?_)
    rw [rt_int z2.2.2.1]
    exact L_eq F dk_2356 rfl (kk w2)
  · refine L_cr (As := [.int (xs (0 + Int32.ofInt 1).toNatClampNeg), .int (xs (0 + Int32.ofInt 2).toNatClampNeg), .long (((xs (0 + Int32.ofInt 3).toNatClampNeg).toInt64 <<< ((32 : Int32).toInt64 &&& 63) ||| ((xs (0 + Int32.ofInt 4).toNatClampNeg).toInt64 &&& 4294967295)))]) (k := kX63_2) (q0 := 0) F rX63_2 (show 71 < 341 by omega) (show mKind 71 = 0 by decide +kernel) (w := 1183) (show wAt 1183 (Cond.methodLink "HalvedNamesLaw" 274 (mY 71)) = true by decide +kernel) dk_2319 (show 3 = mN 71 by decide +kernel) (show GG[0]? = some _ from rfl) rfl ⟨_, _, rfl⟩ (by decide) hm hG hP1 ⟨rfl, ok_int a1 b1, ok_full, ok_fullL, trivial⟩ (fun r1 w1 z1 => ?_)
    rw [rt_int z1.2.2.1]
    refine L_al (i := 2) F dk_2322 rfl (List.Mem.tail _ (List.Mem.head _)) ?_
    refine L_arg F hX hbl hbA (List.Mem.tail _ (List.Mem.tail _ (List.Mem.tail _ (List.Mem.head _)))) (List.Mem.head _) dk_2323 dk_2324 dk_2325 dk_2326 dk_2327 (hin 1 (by omega)) ?_
    refine L_arg F hX hbl hbA (List.Mem.tail _ (List.Mem.tail _ (List.Mem.tail _ (List.Mem.head _)))) (List.Mem.head _) dk_2328 dk_2329 dk_2330 dk_2331 dk_2332 (hin 2 (by omega)) ?_
    refine L_arg F hX hbl hbA (List.Mem.tail _ (List.Mem.tail _ (List.Mem.tail _ (List.Mem.head _)))) (List.Mem.head _) dk_2333 dk_2334 dk_2335 dk_2336 dk_2337 (hin 3 (by omega)) ?_
    refine L_i2l F dk_2338 ?_
    refine L_bp (v := 32) F dk_2339 (by decide) ?_
    refine L_lshl F dk_2341 ?_
    refine L_arg F hX hbl hbA (List.Mem.tail _ (List.Mem.tail _ (List.Mem.tail _ (List.Mem.head _)))) (List.Mem.head _) dk_2342 dk_2343 dk_2344 dk_2345 dk_2346 (hin 4 (by omega)) ?_
    refine L_i2l F dk_2347 ?_
    refine L_ldc2 F (w := 1938) (show wAt 1938 (Cond.constantLong "HalvedNamesLaw" 272 4294967295) = true by decide +kernel) dk_2348 ?_
    refine L_land F dk_2351 ?_
    refine L_lor F dk_2352 ?_
    refine L_cr (As := [.int (xs (0 + Int32.ofInt 1).toNatClampNeg), .int (xs (0 + Int32.ofInt 2).toNatClampNeg), .long (((xs (0 + Int32.ofInt 3).toNatClampNeg).toInt64 <<< ((32 : Int32).toInt64 &&& 63) ||| ((xs (0 + Int32.ofInt 4).toNatClampNeg).toInt64 &&& 4294967295)))]) (k := kM63_2) (q0 := 90) F rM63_2 (show 339 < 341 by omega) (show mKind 339 = 0 by decide +kernel) (w := 1927) (show wAt 1927 (Cond.methodLink "HalvedNamesLaw" 278 (mY 339)) = true by decide +kernel) dk_2353 (show 3 = mN 339 by decide +kernel) (show GG[90]? = some _ from rfl) rfl ⟨_, _, rfl⟩ (by simp) hm z1.1 (pre_keep z1.2.1 (by decide +kernel) hP2) ⟨rfl, ok_int a1 b1, ok_full, ok_fullL, trivial⟩ (fun r2 w2 z2 => ?_)
    rw [rt_int z2.2.2.1]
    exact L_eq F dk_2356 rfl (kk w2)
theorem case_64 {b L : Nat} {xs : Nat → Int32} {ad : Nat → Nat} (F : LFix D tys A p R s m args c) (hX : va_X b L xs s s.heap) (hbl : b < s.heap.size) (hbA : ¬ A b) (hin : ∀ k : Nat, k < 6 → vp_in (0 + Int32.ofInt k) L) (hm : cells ≤ R.cells ∧ slots ≤ R.slots) (hG : GOK ad tys GG ws) (hP1 : preOK ad FX ws) (hP2 : preOK ad FM ws) (kk : ∀ w2 : va_W, LV p l e R s m args below meth c Q D A cells slots 2424 [(3, .int 0), (2, .ref (ad 90)), (1, .ref (ad 0)), (0, .ref b)] [] w2) : LV p l e R s m args below meth c Q D A cells slots 2361 [(3, .int 0), (2, .ref (ad 90)), (1, .ref (ad 0)), (0, .ref b)] [] ws := by
  refine L_al (i := 1) F dk_2361 rfl (List.Mem.tail _ (List.Mem.tail _ (List.Mem.head _))) ?_
  refine L_arg F hX hbl hbA (List.Mem.tail _ (List.Mem.tail _ (List.Mem.tail _ (List.Mem.head _)))) (List.Mem.head _) dk_2362 dk_2363 dk_2364 dk_2365 dk_2366 (hin 1 (by omega)) ?_
  refine L_arg F hX hbl hbA (List.Mem.tail _ (List.Mem.tail _ (List.Mem.tail _ (List.Mem.head _)))) (List.Mem.head _) dk_2367 dk_2368 dk_2369 dk_2370 dk_2371 (hin 2 (by omega)) ?_
  refine L_arg F hX hbl hbA (List.Mem.tail _ (List.Mem.tail _ (List.Mem.tail _ (List.Mem.head _)))) (List.Mem.head _) dk_2372 dk_2373 dk_2374 dk_2375 dk_2376 (hin 3 (by omega)) ?_
  refine L_arg F hX hbl hbA (List.Mem.tail _ (List.Mem.tail _ (List.Mem.tail _ (List.Mem.head _)))) (List.Mem.head _) dk_2377 dk_2378 dk_2379 dk_2380 dk_2381 (hin 4 (by omega)) ?_
  refine L_arg F hX hbl hbA (List.Mem.tail _ (List.Mem.tail _ (List.Mem.tail _ (List.Mem.head _)))) (List.Mem.head _) dk_2382 dk_2383 dk_2384 dk_2385 dk_2386 (hin 5 (by omega)) ?_
  have l1 := Int32.le_toInt (xs (0 + Int32.ofInt 1).toNatClampNeg)
  have u1 := Int32.toInt_lt (xs (0 + Int32.ofInt 1).toNatClampNeg)
  have l2 := Int32.le_toInt (xs (0 + Int32.ofInt 2).toNatClampNeg)
  have u2 := Int32.toInt_lt (xs (0 + Int32.ofInt 2).toNatClampNeg)
  have l3 := Int32.le_toInt (xs (0 + Int32.ofInt 3).toNatClampNeg)
  have u3 := Int32.toInt_lt (xs (0 + Int32.ofInt 3).toNatClampNeg)
  have l4 := Int32.le_toInt (xs (0 + Int32.ofInt 4).toNatClampNeg)
  have u4 := Int32.toInt_lt (xs (0 + Int32.ofInt 4).toNatClampNeg)
  have l5 := Int32.le_toInt (xs (0 + Int32.ofInt 5).toNatClampNeg)
  have u5 := Int32.toInt_lt (xs (0 + Int32.ofInt 5).toNatClampNeg)
  have hb : (((-2147483648) ≤ (xs (0 + Int32.ofInt 1).toNatClampNeg).toInt ∧ (xs (0 + Int32.ofInt 1).toNatClampNeg).toInt ≤ (-1)) ∧ ((-2147483648) ≤ (xs (0 + Int32.ofInt 2).toNatClampNeg).toInt ∧ (xs (0 + Int32.ofInt 2).toNatClampNeg).toInt ≤ 2147483647) ∧ ((-2147483648) ≤ (xs (0 + Int32.ofInt 3).toNatClampNeg).toInt ∧ (xs (0 + Int32.ofInt 3).toNatClampNeg).toInt ≤ 2147483647) ∧ ((-2147483648) ≤ (xs (0 + Int32.ofInt 4).toNatClampNeg).toInt ∧ (xs (0 + Int32.ofInt 4).toNatClampNeg).toInt ≤ 2147483647) ∧ ((-2147483648) ≤ (xs (0 + Int32.ofInt 5).toNatClampNeg).toInt ∧ (xs (0 + Int32.ofInt 5).toNatClampNeg).toInt ≤ 2147483647)) ∨ ((4 ≤ (xs (0 + Int32.ofInt 1).toNatClampNeg).toInt ∧ (xs (0 + Int32.ofInt 1).toNatClampNeg).toInt ≤ 2147483647) ∧ ((-2147483648) ≤ (xs (0 + Int32.ofInt 2).toNatClampNeg).toInt ∧ (xs (0 + Int32.ofInt 2).toNatClampNeg).toInt ≤ 2147483647) ∧ ((-2147483648) ≤ (xs (0 + Int32.ofInt 3).toNatClampNeg).toInt ∧ (xs (0 + Int32.ofInt 3).toNatClampNeg).toInt ≤ 2147483647) ∧ ((-2147483648) ≤ (xs (0 + Int32.ofInt 4).toNatClampNeg).toInt ∧ (xs (0 + Int32.ofInt 4).toNatClampNeg).toInt ≤ 2147483647) ∧ ((-2147483648) ≤ (xs (0 + Int32.ofInt 5).toNatClampNeg).toInt ∧ (xs (0 + Int32.ofInt 5).toNatClampNeg).toInt ≤ 2147483647)) ∨ ((0 ≤ (xs (0 + Int32.ofInt 1).toNatClampNeg).toInt ∧ (xs (0 + Int32.ofInt 1).toNatClampNeg).toInt ≤ 3) ∧ ((-2147483648) ≤ (xs (0 + Int32.ofInt 2).toNatClampNeg).toInt ∧ (xs (0 + Int32.ofInt 2).toNatClampNeg).toInt ≤ 2147483647) ∧ ((-2147483648) ≤ (xs (0 + Int32.ofInt 3).toNatClampNeg).toInt ∧ (xs (0 + Int32.ofInt 3).toNatClampNeg).toInt ≤ (-1)) ∧ ((-2147483648) ≤ (xs (0 + Int32.ofInt 4).toNatClampNeg).toInt ∧ (xs (0 + Int32.ofInt 4).toNatClampNeg).toInt ≤ 2147483647) ∧ ((-2147483648) ≤ (xs (0 + Int32.ofInt 5).toNatClampNeg).toInt ∧ (xs (0 + Int32.ofInt 5).toNatClampNeg).toInt ≤ 2147483647)) ∨ ((0 ≤ (xs (0 + Int32.ofInt 1).toNatClampNeg).toInt ∧ (xs (0 + Int32.ofInt 1).toNatClampNeg).toInt ≤ 3) ∧ ((-2147483648) ≤ (xs (0 + Int32.ofInt 2).toNatClampNeg).toInt ∧ (xs (0 + Int32.ofInt 2).toNatClampNeg).toInt ≤ 2147483647) ∧ (4 ≤ (xs (0 + Int32.ofInt 3).toNatClampNeg).toInt ∧ (xs (0 + Int32.ofInt 3).toNatClampNeg).toInt ≤ 2147483647) ∧ ((-2147483648) ≤ (xs (0 + Int32.ofInt 4).toNatClampNeg).toInt ∧ (xs (0 + Int32.ofInt 4).toNatClampNeg).toInt ≤ 2147483647) ∧ ((-2147483648) ≤ (xs (0 + Int32.ofInt 5).toNatClampNeg).toInt ∧ (xs (0 + Int32.ofInt 5).toNatClampNeg).toInt ≤ 2147483647)) ∨ ((0 ≤ (xs (0 + Int32.ofInt 1).toNatClampNeg).toInt ∧ (xs (0 + Int32.ofInt 1).toNatClampNeg).toInt ≤ 3) ∧ ((-2147483648) ≤ (xs (0 + Int32.ofInt 2).toNatClampNeg).toInt ∧ (xs (0 + Int32.ofInt 2).toNatClampNeg).toInt ≤ 2147483647) ∧ (0 ≤ (xs (0 + Int32.ofInt 3).toNatClampNeg).toInt ∧ (xs (0 + Int32.ofInt 3).toNatClampNeg).toInt ≤ 3) ∧ ((-2147483648) ≤ (xs (0 + Int32.ofInt 4).toNatClampNeg).toInt ∧ (xs (0 + Int32.ofInt 4).toNatClampNeg).toInt ≤ 2147483647) ∧ ((-2147483648) ≤ (xs (0 + Int32.ofInt 5).toNatClampNeg).toInt ∧ (xs (0 + Int32.ofInt 5).toNatClampNeg).toInt ≤ 2147483647)) := by omega
  rcases hb with ⟨⟨a1, b1⟩, ⟨a2, b2⟩, ⟨a3, b3⟩, ⟨a4, b4⟩, ⟨a5, b5⟩⟩ | ⟨⟨a1, b1⟩, ⟨a2, b2⟩, ⟨a3, b3⟩, ⟨a4, b4⟩, ⟨a5, b5⟩⟩ | ⟨⟨a1, b1⟩, ⟨a2, b2⟩, ⟨a3, b3⟩, ⟨a4, b4⟩, ⟨a5, b5⟩⟩ | ⟨⟨a1, b1⟩, ⟨a2, b2⟩, ⟨a3, b3⟩, ⟨a4, b4⟩, ⟨a5, b5⟩⟩ | ⟨⟨a1, b1⟩, ⟨a2, b2⟩, ⟨a3, b3⟩, ⟨a4, b4⟩, ⟨a5, b5⟩⟩
  · refine L_cr (As := [.int (xs (0 + Int32.ofInt 1).toNatClampNeg), .int (xs (0 + Int32.ofInt 2).toNatClampNeg), .int (xs (0 + Int32.ofInt 3).toNatClampNeg), .int (xs (0 + Int32.ofInt 4).toNatClampNeg), .int (xs (0 + Int32.ofInt 5).toNatClampNeg)]) (k := kX64_0) (q0 := 0) F rX64_0 (show 72 < 341 by omega) (show mKind 72 = 0 by decide +kernel) (w := 1188) (show wAt 1188 (Cond.methodLink "HalvedNamesLaw" 279 (mY 72)) = true by decide +kernel) dk_2387 (show 5 = mN 72 by decide +kernel) (show GG[0]? = some _ from rfl) rfl ⟨_, _, rfl⟩ (by decide) hm hG hP1 ⟨rfl, ok_int a1 b1, ok_full, ok_full, ok_full, ok_full, trivial⟩ (fun r1 w1 z1 => ?_)
    rw [rt_int z1.2.2.1]
    refine L_al (i := 2) F dk_2390 rfl (List.Mem.tail _ (List.Mem.head _)) ?_
    refine L_arg F hX hbl hbA (List.Mem.tail _ (List.Mem.tail _ (List.Mem.tail _ (List.Mem.head _)))) (List.Mem.head _) dk_2391 dk_2392 dk_2393 dk_2394 dk_2395 (hin 1 (by omega)) ?_
    refine L_arg F hX hbl hbA (List.Mem.tail _ (List.Mem.tail _ (List.Mem.tail _ (List.Mem.head _)))) (List.Mem.head _) dk_2396 dk_2397 dk_2398 dk_2399 dk_2400 (hin 2 (by omega)) ?_
    refine L_arg F hX hbl hbA (List.Mem.tail _ (List.Mem.tail _ (List.Mem.tail _ (List.Mem.head _)))) (List.Mem.head _) dk_2401 dk_2402 dk_2403 dk_2404 dk_2405 (hin 3 (by omega)) ?_
    refine L_arg F hX hbl hbA (List.Mem.tail _ (List.Mem.tail _ (List.Mem.tail _ (List.Mem.head _)))) (List.Mem.head _) dk_2406 dk_2407 dk_2408 dk_2409 dk_2410 (hin 4 (by omega)) ?_
    refine L_arg F hX hbl hbA (List.Mem.tail _ (List.Mem.tail _ (List.Mem.tail _ (List.Mem.head _)))) (List.Mem.head _) dk_2411 dk_2412 dk_2413 dk_2414 dk_2415 (hin 5 (by omega)) ?_
    refine L_cr (As := [.int (xs (0 + Int32.ofInt 1).toNatClampNeg), .int (xs (0 + Int32.ofInt 2).toNatClampNeg), .int (xs (0 + Int32.ofInt 3).toNatClampNeg), .int (xs (0 + Int32.ofInt 4).toNatClampNeg), .int (xs (0 + Int32.ofInt 5).toNatClampNeg)]) (k := kM64_0) (q0 := 90) F rM64_0 (show 340 < 341 by omega) (show mKind 340 = 0 by decide +kernel) (w := 1934) (show wAt 1934 (Cond.methodLink "HalvedNamesLaw" 282 (mY 340)) = true by decide +kernel) dk_2416 (show 5 = mN 340 by decide +kernel) (show GG[90]? = some _ from rfl) rfl ⟨_, _, rfl⟩ (by simp) hm z1.1 (pre_keep z1.2.1 (by decide +kernel) hP2) ⟨rfl, ok_int a1 b1, ok_full, ok_full, ok_full, ok_full, trivial⟩ (fun r2 w2 z2 => ?_)
    rw [rt_int z2.2.2.1]
    exact L_eq F dk_2419 rfl (kk w2)
  · refine L_cr (As := [.int (xs (0 + Int32.ofInt 1).toNatClampNeg), .int (xs (0 + Int32.ofInt 2).toNatClampNeg), .int (xs (0 + Int32.ofInt 3).toNatClampNeg), .int (xs (0 + Int32.ofInt 4).toNatClampNeg), .int (xs (0 + Int32.ofInt 5).toNatClampNeg)]) (k := kX64_1) (q0 := 0) F rX64_1 (show 72 < 341 by omega) (show mKind 72 = 0 by decide +kernel) (w := 1188) (show wAt 1188 (Cond.methodLink "HalvedNamesLaw" 279 (mY 72)) = true by decide +kernel) dk_2387 (show 5 = mN 72 by decide +kernel) (show GG[0]? = some _ from rfl) rfl ⟨_, _, rfl⟩ (by decide) hm hG hP1 ⟨rfl, ok_int a1 b1, ok_full, ok_full, ok_full, ok_full, trivial⟩ (fun r1 w1 z1 => ?_)
    rw [rt_int z1.2.2.1]
    refine L_al (i := 2) F dk_2390 rfl (List.Mem.tail _ (List.Mem.head _)) ?_
    refine L_arg F hX hbl hbA (List.Mem.tail _ (List.Mem.tail _ (List.Mem.tail _ (List.Mem.head _)))) (List.Mem.head _) dk_2391 dk_2392 dk_2393 dk_2394 dk_2395 (hin 1 (by omega)) ?_
    refine L_arg F hX hbl hbA (List.Mem.tail _ (List.Mem.tail _ (List.Mem.tail _ (List.Mem.head _)))) (List.Mem.head _) dk_2396 dk_2397 dk_2398 dk_2399 dk_2400 (hin 2 (by omega)) ?_
    refine L_arg F hX hbl hbA (List.Mem.tail _ (List.Mem.tail _ (List.Mem.tail _ (List.Mem.head _)))) (List.Mem.head _) dk_2401 dk_2402 dk_2403 dk_2404 dk_2405 (hin 3 (by omega)) ?_
    refine L_arg F hX hbl hbA (List.Mem.tail _ (List.Mem.tail _ (List.Mem.tail _ (List.Mem.head _)))) (List.Mem.head _) dk_2406 dk_2407 dk_2408 dk_2409 dk_2410 (hin 4 (by omega)) ?_
    refine L_arg F hX hbl hbA (List.Mem.tail _ (List.Mem.tail _ (List.Mem.tail _ (List.Mem.head _)))) (List.Mem.head _) dk_2411 dk_2412 dk_2413 dk_2414 dk_2415 (hin 5 (by omega)) ?_
    refine L_cr (As := [.int (xs (0 + Int32.ofInt 1).toNatClampNeg), .int (xs (0 + Int32.ofInt 2).toNatClampNeg), .int (xs (0 + Int32.ofInt 3).toNatClampNeg), .int (xs (0 + Int32.ofInt 4).toNatClampNeg), .int (xs (0 + Int32.ofInt 5).toNatClampNeg)]) (k := kM64_1) (q0 := 90) F rM64_1 (show 340 < 341 by omega) (show mKind 340 = 0 by decide +kernel) (w := 1934) (show wAt 1934 (Cond.methodLink "HalvedNamesLaw" 282 (mY 340)) = true by decide +kernel) dk_2416 (show 5 = mN 340 by decide +kernel) (show GG[90]? = some _ from rfl) rfl ⟨_, _, rfl⟩ (by simp) hm z1.1 (pre_keep z1.2.1 (by decide +kernel) hP2) ⟨rfl, ok_int a1 b1, ok_full, ok_full, ok_full, ok_full, trivial⟩ (fun r2 w2 z2 => ?_)
    rw [rt_int z2.2.2.1]
    exact L_eq F dk_2419 rfl (kk w2)
  · refine L_cr (As := [.int (xs (0 + Int32.ofInt 1).toNatClampNeg), .int (xs (0 + Int32.ofInt 2).toNatClampNeg), .int (xs (0 + Int32.ofInt 3).toNatClampNeg), .int (xs (0 + Int32.ofInt 4).toNatClampNeg), .int (xs (0 + Int32.ofInt 5).toNatClampNeg)]) (k := kX64_2) (q0 := 0) F rX64_2 (show 72 < 341 by omega) (show mKind 72 = 0 by decide +kernel) (w := 1188) (show wAt 1188 (Cond.methodLink "HalvedNamesLaw" 279 (mY 72)) = true by decide +kernel) dk_2387 (show 5 = mN 72 by decide +kernel) (show GG[0]? = some _ from rfl) rfl ⟨_, _, rfl⟩ (by decide) hm hG hP1 ⟨rfl, ok_int a1 b1, ok_full, ok_int a3 b3, ok_full, ok_full, trivial⟩ (fun r1 w1 z1 => ?_)
    rw [rt_int z1.2.2.1]
    refine L_al (i := 2) F dk_2390 rfl (List.Mem.tail _ (List.Mem.head _)) ?_
    refine L_arg F hX hbl hbA (List.Mem.tail _ (List.Mem.tail _ (List.Mem.tail _ (List.Mem.head _)))) (List.Mem.head _) dk_2391 dk_2392 dk_2393 dk_2394 dk_2395 (hin 1 (by omega)) ?_
    refine L_arg F hX hbl hbA (List.Mem.tail _ (List.Mem.tail _ (List.Mem.tail _ (List.Mem.head _)))) (List.Mem.head _) dk_2396 dk_2397 dk_2398 dk_2399 dk_2400 (hin 2 (by omega)) ?_
    refine L_arg F hX hbl hbA (List.Mem.tail _ (List.Mem.tail _ (List.Mem.tail _ (List.Mem.head _)))) (List.Mem.head _) dk_2401 dk_2402 dk_2403 dk_2404 dk_2405 (hin 3 (by omega)) ?_
    refine L_arg F hX hbl hbA (List.Mem.tail _ (List.Mem.tail _ (List.Mem.tail _ (List.Mem.head _)))) (List.Mem.head _) dk_2406 dk_2407 dk_2408 dk_2409 dk_2410 (hin 4 (by omega)) ?_
    refine L_arg F hX hbl hbA (List.Mem.tail _ (List.Mem.tail _ (List.Mem.tail _ (List.Mem.head _)))) (List.Mem.head _) dk_2411 dk_2412 dk_2413 dk_2414 dk_2415 (hin 5 (by omega)) ?_
    refine L_cr (As := [.int (xs (0 + Int32.ofInt 1).toNatClampNeg), .int (xs (0 + Int32.ofInt 2).toNatClampNeg), .int (xs (0 + Int32.ofInt 3).toNatClampNeg), .int (xs (0 + Int32.ofInt 4).toNatClampNeg), .int (xs (0 + Int32.ofInt 5).toNatClampNeg)]) (k := kM64_2) (q0 := 90) F rM64_2 (show 340 < 341 by omega) (show mKind 340 = 0 by decide +kernel) (w := 1934) (show wAt 1934 (Cond.methodLink "HalvedNamesLaw" 282 (mY 340)) = true by decide +kernel) dk_2416 (show 5 = mN 340 by decide +kernel) (show GG[90]? = some _ from rfl) rfl ⟨_, _, rfl⟩ (by simp) hm z1.1 (pre_keep z1.2.1 (by decide +kernel) hP2) ⟨rfl, ok_int a1 b1, ok_full, ok_int a3 b3, ok_full, ok_full, trivial⟩ (fun r2 w2 z2 => ?_)
    rw [rt_int z2.2.2.1]
    exact L_eq F dk_2419 rfl (kk w2)
  · refine L_cr (As := [.int (xs (0 + Int32.ofInt 1).toNatClampNeg), .int (xs (0 + Int32.ofInt 2).toNatClampNeg), .int (xs (0 + Int32.ofInt 3).toNatClampNeg), .int (xs (0 + Int32.ofInt 4).toNatClampNeg), .int (xs (0 + Int32.ofInt 5).toNatClampNeg)]) (k := kX64_3) (q0 := 0) F rX64_3 (show 72 < 341 by omega) (show mKind 72 = 0 by decide +kernel) (w := 1188) (show wAt 1188 (Cond.methodLink "HalvedNamesLaw" 279 (mY 72)) = true by decide +kernel) dk_2387 (show 5 = mN 72 by decide +kernel) (show GG[0]? = some _ from rfl) rfl ⟨_, _, rfl⟩ (by decide) hm hG hP1 ⟨rfl, ok_int a1 b1, ok_full, ok_int a3 b3, ok_full, ok_full, trivial⟩ (fun r1 w1 z1 => ?_)
    rw [rt_int z1.2.2.1]
    refine L_al (i := 2) F dk_2390 rfl (List.Mem.tail _ (List.Mem.head _)) ?_
    refine L_arg F hX hbl hbA (List.Mem.tail _ (List.Mem.tail _ (List.Mem.tail _ (List.Mem.head _)))) (List.Mem.head _) dk_2391 dk_2392 dk_2393 dk_2394 dk_2395 (hin 1 (by omega)) ?_
    refine L_arg F hX hbl hbA (List.Mem.tail _ (List.Mem.tail _ (List.Mem.tail _ (List.Mem.head _)))) (List.Mem.head _) dk_2396 dk_2397 dk_2398 dk_2399 dk_2400 (hin 2 (by omega)) ?_
    refine L_arg F hX hbl hbA (List.Mem.tail _ (List.Mem.tail _ (List.Mem.tail _ (List.Mem.head _)))) (List.Mem.head _) dk_2401 dk_2402 dk_2403 dk_2404 dk_2405 (hin 3 (by omega)) ?_
    refine L_arg F hX hbl hbA (List.Mem.tail _ (List.Mem.tail _ (List.Mem.tail _ (List.Mem.head _)))) (List.Mem.head _) dk_2406 dk_2407 dk_2408 dk_2409 dk_2410 (hin 4 (by omega)) ?_
    refine L_arg F hX hbl hbA (List.Mem.tail _ (List.Mem.tail _ (List.Mem.tail _ (List.Mem.head _)))) (List.Mem.head _) dk_2411 dk_2412 dk_2413 dk_2414 dk_2415 (hin 5 (by omega)) ?_
    refine L_cr (As := [.int (xs (0 + Int32.ofInt 1).toNatClampNeg), .int (xs (0 + Int32.ofInt 2).toNatClampNeg), .int (xs (0 + Int32.ofInt 3).toNatClampNeg), .int (xs (0 + Int32.ofInt 4).toNatClampNeg), .int (xs (0 + Int32.ofInt 5).toNatClampNeg)]) (k := kM64_3) (q0 := 90) F rM64_3 (show 340 < 341 by omega) (show mKind 340 = 0 by decide +kernel) (w := 1934) (show wAt 1934 (Cond.methodLink "HalvedNamesLaw" 282 (mY 340)) = true by decide +kernel) dk_2416 (show 5 = mN 340 by decide +kernel) (show GG[90]? = some _ from rfl) rfl ⟨_, _, rfl⟩ (by simp) hm z1.1 (pre_keep z1.2.1 (by decide +kernel) hP2) ⟨rfl, ok_int a1 b1, ok_full, ok_int a3 b3, ok_full, ok_full, trivial⟩ (fun r2 w2 z2 => ?_)
    rw [rt_int z2.2.2.1]
    exact L_eq F dk_2419 rfl (kk w2)
  · refine L_cr (As := [.int (xs (0 + Int32.ofInt 1).toNatClampNeg), .int (xs (0 + Int32.ofInt 2).toNatClampNeg), .int (xs (0 + Int32.ofInt 3).toNatClampNeg), .int (xs (0 + Int32.ofInt 4).toNatClampNeg), .int (xs (0 + Int32.ofInt 5).toNatClampNeg)]) (k := kX64_4) (q0 := 0) F rX64_4 (show 72 < 341 by omega) (show mKind 72 = 0 by decide +kernel) (w := 1188) (show wAt 1188 (Cond.methodLink "HalvedNamesLaw" 279 (mY 72)) = true by decide +kernel) dk_2387 (show 5 = mN 72 by decide +kernel) (show GG[0]? = some _ from rfl) rfl ⟨_, _, rfl⟩ (by decide) hm hG hP1 ⟨rfl, ok_int a1 b1, ok_full, ok_int a3 b3, ok_full, ok_full, trivial⟩ (fun r1 w1 z1 => ?_)
    rw [rt_int z1.2.2.1]
    refine L_al (i := 2) F dk_2390 rfl (List.Mem.tail _ (List.Mem.head _)) ?_
    refine L_arg F hX hbl hbA (List.Mem.tail _ (List.Mem.tail _ (List.Mem.tail _ (List.Mem.head _)))) (List.Mem.head _) dk_2391 dk_2392 dk_2393 dk_2394 dk_2395 (hin 1 (by omega)) ?_
    refine L_arg F hX hbl hbA (List.Mem.tail _ (List.Mem.tail _ (List.Mem.tail _ (List.Mem.head _)))) (List.Mem.head _) dk_2396 dk_2397 dk_2398 dk_2399 dk_2400 (hin 2 (by omega)) ?_
    refine L_arg F hX hbl hbA (List.Mem.tail _ (List.Mem.tail _ (List.Mem.tail _ (List.Mem.head _)))) (List.Mem.head _) dk_2401 dk_2402 dk_2403 dk_2404 dk_2405 (hin 3 (by omega)) ?_
    refine L_arg F hX hbl hbA (List.Mem.tail _ (List.Mem.tail _ (List.Mem.tail _ (List.Mem.head _)))) (List.Mem.head _) dk_2406 dk_2407 dk_2408 dk_2409 dk_2410 (hin 4 (by omega)) ?_
    refine L_arg F hX hbl hbA (List.Mem.tail _ (List.Mem.tail _ (List.Mem.tail _ (List.Mem.head _)))) (List.Mem.head _) dk_2411 dk_2412 dk_2413 dk_2414 dk_2415 (hin 5 (by omega)) ?_
    refine L_cr (As := [.int (xs (0 + Int32.ofInt 1).toNatClampNeg), .int (xs (0 + Int32.ofInt 2).toNatClampNeg), .int (xs (0 + Int32.ofInt 3).toNatClampNeg), .int (xs (0 + Int32.ofInt 4).toNatClampNeg), .int (xs (0 + Int32.ofInt 5).toNatClampNeg)]) (k := kM64_4) (q0 := 90) F rM64_4 (show 340 < 341 by omega) (show mKind 340 = 0 by decide +kernel) (w := 1934) (show wAt 1934 (Cond.methodLink "HalvedNamesLaw" 282 (mY 340)) = true by decide +kernel) dk_2416 (show 5 = mN 340 by decide +kernel) (show GG[90]? = some _ from rfl) rfl ⟨_, _, rfl⟩ (by simp) hm z1.1 (pre_keep z1.2.1 (by decide +kernel) hP2) ⟨rfl, ok_int a1 b1, ok_full, ok_int a3 b3, ok_full, ok_full, trivial⟩ (fun r2 w2 z2 => ?_)
    rw [rt_int z2.2.2.1]
    exact L_eq F dk_2419 rfl (kk w2)
end CASES7
