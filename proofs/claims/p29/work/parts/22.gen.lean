section
noncomputable def GG : List GC := [((0, 10, 13), [(1, 2, 1, 1), (1, 2, 2, 2), (1, 2, 4, 4), (1, 2, 16, 16), (1, 2, 28, 28), (1, 2, 32, 32), (1, 2, 36, 36), (1, 2, 39, 39), (1, 2, 43, 43), (1, 2, 47, 47), (1, 2, 50, 50), (1, 2, 53, 53), (1, 0, 0, 7)]),
  ((0, 5, 3), [(1, 2, 2, 2), (1, 0, 0, 3), (1, 0, (-1), 1401)]),
  ((0, 9, 6), [(1, 2, 3, 3), (1, 0, 0, 1400), (1, 0, 0, 4), (1, 0, 0, 1401), (1, 0, 0, 1401), (1, 0, (-2147483648), 2147483647)]),
  ((1, 1, 1400), [(1400, 0, (-128), 127)]),
  ((0, 2, 17), [(1, 0, (-2147483648), 2147483647), (1, 0, 0, 9), (1, 0, 0, 4), (1, 0, 0, 24), (1, 0, 0, 6), (1, 0, 0, 12), (1, 2, 5, 5), (1, 2, 6, 6), (1, 2, 7, 7), (1, 2, 8, 8), (1, 2, 9, 9), (1, 2, 10, 10), (1, 2, 11, 11), (1, 2, 12, 12), (1, 2, 13, 13), (1, 2, 14, 14), (1, 2, 15, 15)]),
  ((1, 0, 6), [(6, 0, 0, 7)]),
  ((1, 0, 36), [(36, 0, (-2147483648), 2147483647)]),
  ((1, 0, 6), [(6, 0, (-2147483648), 2147483647)]),
  ((1, 0, 6), [(6, 0, (-2147483648), 2147483647)]),
  ((1, 0, 6), [(6, 0, (-2147483648), 2147483647)]),
  ((1, 0, 144), [(144, 0, (-2147483648), 2147483647)]),
  ((1, 0, 36), [(36, 0, (-2147483648), 2147483647)]),
  ((1, 0, 12), [(12, 0, (-2147483648), 2147483647)]),
  ((1, 0, 12), [(12, 0, (-2147483648), 2147483647)]),
  ((1, 0, 12), [(12, 0, (-2147483648), 2147483647)]),
  ((1, 0, 12), [(12, 0, (-2147483648), 2147483647)]),
  ((0, 2, 17), [(1, 0, (-2147483648), 2147483647), (1, 0, 0, 9), (1, 0, 0, 4), (1, 0, 0, 24), (1, 0, 0, 6), (1, 0, 0, 12), (1, 2, 17, 17), (1, 2, 18, 18), (1, 2, 19, 19), (1, 2, 20, 20), (1, 2, 21, 21), (1, 2, 22, 22), (1, 2, 23, 23), (1, 2, 24, 24), (1, 2, 25, 25), (1, 2, 26, 26), (1, 2, 27, 27)]),
  ((1, 0, 6), [(6, 0, 0, 7)]),
  ((1, 0, 36), [(36, 0, (-2147483648), 2147483647)]),
  ((1, 0, 6), [(6, 0, (-2147483648), 2147483647)]),
  ((1, 0, 6), [(6, 0, (-2147483648), 2147483647)]),
  ((1, 0, 6), [(6, 0, (-2147483648), 2147483647)]),
  ((1, 0, 144), [(144, 0, (-2147483648), 2147483647)]),
  ((1, 0, 36), [(36, 0, (-2147483648), 2147483647)]),
  ((1, 0, 12), [(12, 0, (-2147483648), 2147483647)]),
  ((1, 0, 12), [(12, 0, (-2147483648), 2147483647)]),
  ((1, 0, 12), [(12, 0, (-2147483648), 2147483647)]),
  ((1, 0, 12), [(12, 0, (-2147483648), 2147483647)]),
  ((0, 1, 3), [(1, 2, 29, 29), (1, 2, 30, 30), (1, 2, 31, 31)]),
  ((1, 0, 12), [(12, 0, (-2147483648), 2147483647)]),
  ((1, 0, 12), [(12, 0, (-2147483648), 2147483647)]),
  ((1, 0, 36), [(36, 0, (-2147483648), 2147483647)]),
  ((0, 8, 4), [(1, 2, 33, 33), (1, 2, 34, 34), (1, 2, 35, 35), (1, 0, (-2147483648), 2147483647)]),
  ((1, 0, 900), [(900, 0, (-2147483648), 2147483647)]),
  ((1, 0, 12), [(12, 0, (-2147483648), 2147483647)]),
  ((1, 0, 12), [(12, 0, (-2147483648), 2147483647)]),
  ((0, 0, 2), [(1, 2, 37, 37), (1, 2, 38, 38)]),
  ((1, 0, 6), [(6, 0, (-2147483648), 2147483647)]),
  ((1, 0, 6), [(6, 0, (-2147483648), 2147483647)]),
  ((0, 7, 3), [(1, 2, 40, 40), (1, 2, 41, 41), (1, 2, 42, 42)]),
  ((2, 3, 240), [(240, 1, (-9223372036854775808), 9223372036854775807)]),
  ((1, 0, 4), [(4, 0, 0, 3)]),
  ((1, 0, 4), [(4, 0, (-1), 60)]),
  ((0, 6, 3), [(1, 2, 44, 44), (1, 2, 45, 45), (1, 2, 46, 46)]),
  ((1, 0, 64), [(64, 0, (-2147483648), 2147483647)]),
  ((1, 0, 1792), [(1792, 0, (-2147483648), 2147483647)]),
  ((1, 0, 6), [(6, 0, (-2147483648), 2147483647)]),
  ((0, 3, 2), [(1, 2, 48, 48), (1, 2, 49, 49)]),
  ((1, 0, 7), [(7, 0, (-2147483648), 2147483647)]),
  ((1, 0, 7), [(7, 0, (-2147483648), 2147483647)]),
  ((0, 4, 2), [(1, 2, 51, 51), (1, 2, 52, 52)]),
  ((1, 0, 6), [(6, 0, (-2147483648), 2147483647)]),
  ((1, 0, 7), [(7, 0, (-2147483648), 2147483647)]),
  ((3, 4, 3), [(1, 2, 54, 54), (1, 2, 66, 66), (1, 2, 78, 78)]),
  ((0, 2, 17), [(1, 0, (-2147483648), 2147483647), (1, 0, 0, 9), (1, 0, 0, 4), (1, 0, 0, 24), (1, 0, 0, 6), (1, 0, 0, 12), (1, 2, 55, 55), (1, 2, 56, 56), (1, 2, 57, 57), (1, 2, 58, 58), (1, 2, 59, 59), (1, 2, 60, 60), (1, 2, 61, 61), (1, 2, 62, 62), (1, 2, 63, 63), (1, 2, 64, 64), (1, 2, 65, 65)]),
  ((1, 0, 6), [(6, 0, 0, 7)]),
  ((1, 0, 36), [(36, 0, (-2147483648), 2147483647)]),
  ((1, 0, 6), [(6, 0, (-2147483648), 2147483647)]),
  ((1, 0, 6), [(6, 0, (-2147483648), 2147483647)]),
  ((1, 0, 6), [(6, 0, (-2147483648), 2147483647)]),
  ((1, 0, 144), [(144, 0, (-2147483648), 2147483647)]),
  ((1, 0, 36), [(36, 0, (-2147483648), 2147483647)]),
  ((1, 0, 12), [(12, 0, (-2147483648), 2147483647)]),
  ((1, 0, 12), [(12, 0, (-2147483648), 2147483647)]),
  ((1, 0, 12), [(12, 0, (-2147483648), 2147483647)]),
  ((1, 0, 12), [(12, 0, (-2147483648), 2147483647)]),
  ((0, 2, 17), [(1, 0, (-2147483648), 2147483647), (1, 0, 0, 9), (1, 0, 0, 4), (1, 0, 0, 24), (1, 0, 0, 6), (1, 0, 0, 12), (1, 2, 67, 67), (1, 2, 68, 68), (1, 2, 69, 69), (1, 2, 70, 70), (1, 2, 71, 71), (1, 2, 72, 72), (1, 2, 73, 73), (1, 2, 74, 74), (1, 2, 75, 75), (1, 2, 76, 76), (1, 2, 77, 77)]),
  ((1, 0, 6), [(6, 0, 0, 7)]),
  ((1, 0, 36), [(36, 0, (-2147483648), 2147483647)]),
  ((1, 0, 6), [(6, 0, (-2147483648), 2147483647)]),
  ((1, 0, 6), [(6, 0, (-2147483648), 2147483647)]),
  ((1, 0, 6), [(6, 0, (-2147483648), 2147483647)]),
  ((1, 0, 144), [(144, 0, (-2147483648), 2147483647)]),
  ((1, 0, 36), [(36, 0, (-2147483648), 2147483647)]),
  ((1, 0, 12), [(12, 0, (-2147483648), 2147483647)]),
  ((1, 0, 12), [(12, 0, (-2147483648), 2147483647)]),
  ((1, 0, 12), [(12, 0, (-2147483648), 2147483647)]),
  ((1, 0, 12), [(12, 0, (-2147483648), 2147483647)]),
  ((0, 2, 17), [(1, 0, (-2147483648), 2147483647), (1, 0, 0, 9), (1, 0, 0, 4), (1, 0, 0, 24), (1, 0, 0, 6), (1, 0, 0, 12), (1, 2, 79, 79), (1, 2, 80, 80), (1, 2, 81, 81), (1, 2, 82, 82), (1, 2, 83, 83), (1, 2, 84, 84), (1, 2, 85, 85), (1, 2, 86, 86), (1, 2, 87, 87), (1, 2, 88, 88), (1, 2, 89, 89)]),
  ((1, 0, 6), [(6, 0, 0, 7)]),
  ((1, 0, 36), [(36, 0, (-2147483648), 2147483647)]),
  ((1, 0, 6), [(6, 0, (-2147483648), 2147483647)]),
  ((1, 0, 6), [(6, 0, (-2147483648), 2147483647)]),
  ((1, 0, 6), [(6, 0, (-2147483648), 2147483647)]),
  ((1, 0, 144), [(144, 0, (-2147483648), 2147483647)]),
  ((1, 0, 36), [(36, 0, (-2147483648), 2147483647)]),
  ((1, 0, 12), [(12, 0, (-2147483648), 2147483647)]),
  ((1, 0, 12), [(12, 0, (-2147483648), 2147483647)]),
  ((1, 0, 12), [(12, 0, (-2147483648), 2147483647)]),
  ((1, 0, 12), [(12, 0, (-2147483648), 2147483647)]),
  ((0, 11, 36), [(1, 0, (-2147483648), 2147483647), (1, 2, 91, 91), (1, 2, 92, 92), (1, 2, 93, 93), (1, 2, 94, 94), (1, 0, 0, 1400), (1, 2, 95, 95), (1, 0, 0, 1400), (1, 0, 0, 1400), (1, 0, 0, 1400), (1, 0, 0, 4), (1, 0, (-2147483648), 2147483647), (1, 0, 0, 3), (1, 0, (-1), 1400), (1, 2, 96, 96), (1, 2, 97, 97), (1, 2, 98, 98), (1, 2, 99, 99), (1, 0, (-2147483648), 2147483647), (1, 2, 100, 100), (1, 2, 101, 101), (1, 0, (-2147483648), 2147483647), (1, 0, (-2147483648), 2147483647), (1, 0, (-2147483648), 2147483647), (1, 0, 0, 1), (1, 1, (-9223372036854775808), 9223372036854775807), (1, 2, 102, 102), (1, 2, 103, 103), (1, 2, 104, 104), (1, 2, 105, 105), (1, 0, 0, 6), (1, 2, 106, 106), (1, 2, 107, 107), (1, 2, 108, 108), (1, 2, 109, 109), (1, 2, 110, 110)]),
  ((1, 0, 294), [(1, 0, 0, 9), (1, 0, 0, 4), (1, 0, 0, 24), (1, 0, 0, 6), (1, 0, 0, 12), (1, 0, (-2147483648), 2147483647), (1, 0, 0, 6), (6, 0, 0, 8), (1, 0, 0, 6), (6, 0, 0, 8), (1, 0, 0, 6), (6, 0, 0, 8), (1, 0, 0, 6), (6, 0, 0, 8), (1, 0, 0, 6), (6, 0, 0, 8), (1, 0, 0, 6), (6, 0, 0, 8), (6, 0, 0, 4), (6, 0, 0, 100), (6, 0, 0, 63), (36, 0, 0, 63), (144, 0, (-1), 3), (3, 0, 0, 5), (1, 0, 0, 23), (3, 0, 0, 5), (1, 0, 0, 23), (3, 0, 0, 5), (1, 0, 0, 23), (3, 0, 0, 5), (1, 0, 0, 23), (3, 0, 0, 5), (1, 0, 0, 23), (3, 0, 0, 5), (1, 0, 0, 23), (3, 0, 0, 5), (1, 0, 0, 23), (3, 0, 0, 5), (1, 0, 0, 23), (3, 0, 0, 5), (1, 0, 0, 23), (3, 0, 0, 5), (1, 0, 0, 23), (3, 0, 0, 5), (1, 0, 0, 23), (3, 0, 0, 5), (1, 0, 0, 23)]),
  ((1, 0, 882), [(1, 0, 0, 9), (1, 0, 0, 4), (1, 0, 0, 24), (1, 0, 0, 6), (1, 0, 0, 12), (1, 0, (-2147483648), 2147483647), (1, 0, 0, 6), (6, 0, 0, 8), (1, 0, 0, 6), (6, 0, 0, 8), (1, 0, 0, 6), (6, 0, 0, 8), (1, 0, 0, 6), (6, 0, 0, 8), (1, 0, 0, 6), (6, 0, 0, 8), (1, 0, 0, 6), (6, 0, 0, 8), (6, 0, 0, 4), (6, 0, 0, 100), (6, 0, 0, 63), (36, 0, 0, 63), (144, 0, (-1), 3), (3, 0, 0, 5), (1, 0, 0, 23), (3, 0, 0, 5), (1, 0, 0, 23), (3, 0, 0, 5), (1, 0, 0, 23), (3, 0, 0, 5), (1, 0, 0, 23), (3, 0, 0, 5), (1, 0, 0, 23), (3, 0, 0, 5), (1, 0, 0, 23), (3, 0, 0, 5), (1, 0, 0, 23), (3, 0, 0, 5), (1, 0, 0, 23), (3, 0, 0, 5), (1, 0, 0, 23), (3, 0, 0, 5), (1, 0, 0, 23), (3, 0, 0, 5), (1, 0, 0, 23), (3, 0, 0, 5), (1, 0, 0, 23), (1, 0, 0, 9), (1, 0, 0, 4), (1, 0, 0, 24), (1, 0, 0, 6), (1, 0, 0, 12), (1, 0, (-2147483648), 2147483647), (1, 0, 0, 6), (6, 0, 0, 8), (1, 0, 0, 6), (6, 0, 0, 8), (1, 0, 0, 6), (6, 0, 0, 8), (1, 0, 0, 6), (6, 0, 0, 8), (1, 0, 0, 6), (6, 0, 0, 8), (1, 0, 0, 6), (6, 0, 0, 8), (6, 0, 0, 4), (6, 0, 0, 100), (6, 0, 0, 63), (36, 0, 0, 63), (144, 0, (-1), 3), (3, 0, 0, 5), (1, 0, 0, 23), (3, 0, 0, 5), (1, 0, 0, 23), (3, 0, 0, 5), (1, 0, 0, 23), (3, 0, 0, 5), (1, 0, 0, 23), (3, 0, 0, 5), (1, 0, 0, 23), (3, 0, 0, 5), (1, 0, 0, 23), (3, 0, 0, 5), (1, 0, 0, 23), (3, 0, 0, 5), (1, 0, 0, 23), (3, 0, 0, 5), (1, 0, 0, 23), (3, 0, 0, 5), (1, 0, 0, 23), (3, 0, 0, 5), (1, 0, 0, 23), (3, 0, 0, 5), (1, 0, 0, 23), (1, 0, 0, 9), (1, 0, 0, 4), (1, 0, 0, 24), (1, 0, 0, 6), (1, 0, 0, 12), (1, 0, (-2147483648), 2147483647), (1, 0, 0, 6), (6, 0, 0, 8), (1, 0, 0, 6), (6, 0, 0, 8), (1, 0, 0, 6), (6, 0, 0, 8), (1, 0, 0, 6), (6, 0, 0, 8), (1, 0, 0, 6), (6, 0, 0, 8), (1, 0, 0, 6), (6, 0, 0, 8), (6, 0, 0, 4), (6, 0, 0, 100), (6, 0, 0, 63), (36, 0, 0, 63), (144, 0, (-1), 3), (3, 0, 0, 5), (1, 0, 0, 23), (3, 0, 0, 5), (1, 0, 0, 23), (3, 0, 0, 5), (1, 0, 0, 23), (3, 0, 0, 5), (1, 0, 0, 23), (3, 0, 0, 5), (1, 0, 0, 23), (3, 0, 0, 5), (1, 0, 0, 23), (3, 0, 0, 5), (1, 0, 0, 23), (3, 0, 0, 5), (1, 0, 0, 23), (3, 0, 0, 5), (1, 0, 0, 23), (3, 0, 0, 5), (1, 0, 0, 23), (3, 0, 0, 5), (1, 0, 0, 23), (3, 0, 0, 5), (1, 0, 0, 23)]),
  ((1, 2, 3), [(3, 0, 0, 1)]),
  ((1, 1, 1400), [(1400, 0, (-128), 127)]),
  ((1, 0, 5), [(5, 0, (-2147483648), 2147483647)]),
  ((1, 0, 294), [(1, 0, 0, 9), (1, 0, 0, 4), (1, 0, 0, 24), (1, 0, 0, 6), (1, 0, 0, 12), (1, 0, (-2147483648), 2147483647), (1, 0, 0, 6), (6, 0, 0, 8), (1, 0, 0, 6), (6, 0, 0, 8), (1, 0, 0, 6), (6, 0, 0, 8), (1, 0, 0, 6), (6, 0, 0, 8), (1, 0, 0, 6), (6, 0, 0, 8), (1, 0, 0, 6), (6, 0, 0, 8), (6, 0, 0, 4), (6, 0, 0, 100), (6, 0, 0, 63), (36, 0, 0, 63), (144, 0, (-1), 3), (3, 0, 0, 5), (1, 0, 0, 23), (3, 0, 0, 5), (1, 0, 0, 23), (3, 0, 0, 5), (1, 0, 0, 23), (3, 0, 0, 5), (1, 0, 0, 23), (3, 0, 0, 5), (1, 0, 0, 23), (3, 0, 0, 5), (1, 0, 0, 23), (3, 0, 0, 5), (1, 0, 0, 23), (3, 0, 0, 5), (1, 0, 0, 23), (3, 0, 0, 5), (1, 0, 0, 23), (3, 0, 0, 5), (1, 0, 0, 23), (3, 0, 0, 5), (1, 0, 0, 23), (3, 0, 0, 5), (1, 0, 0, 23)]),
  ((1, 0, 144), [(144, 0, (-1), 3)]),
  ((1, 0, 900), [(900, 0, 0, 63)]),
  ((1, 0, 36), [(36, 0, 0, 63)]),
  ((1, 0, 12), [(12, 0, 0, 63)]),
  ((1, 0, 12), [(12, 0, 0, 63)]),
  ((1, 2, 64), [(64, 0, 0, 1)]),
  ((1, 0, 64), [(64, 0, 0, 255)]),
  ((1, 0, 1792), [(1792, 0, (-2147483648), 2147483647)]),
  ((1, 0, 6), [(6, 0, (-2147483648), 2147483647)]),
  ((1, 0, 49), [(49, 0, (-2147483648), 2147483647)]),
  ((1, 0, 4), [(4, 0, (-1), 60)]),
  ((1, 0, 4), [(4, 0, 0, 3)]),
  ((2, 3, 240), [(240, 1, (-9223372036854775808), 9223372036854775807)]),
  ((2, 3, 60), [(60, 1, (-9223372036854775808), 9223372036854775807)])]
noncomputable def hBru : CR := (277, [(2, 90, 90), (0, 0, 5), (0, 0, 63)], [], some (0, 0, 63), [], [])
noncomputable def hDiv : List (Nat × CR2) := [(1, 328, [(1, (-9223372036854775808), 9223372036854775807), (1, 1, 9223372036854775807)], (1, 1, 9223372036854775807), (1, (-9223372036854775808), (-1))), (1, 328, [(1, (-9223372036854775808), 9223372036854775807), (1, (-9223372036854775808), (-1))], (1, 1, 9223372036854775807), (1, (-9223372036854775808), (-1)))]
end
section
theorem mi_328_0 : mI 328 0 = (4, 0, 0, 0, 0) := by decide +kernel
theorem mi_328_1 : mI 328 1 = (7, 0, 4, 1, 0) := by decide +kernel
theorem mi_328_3 : mI 328 3 = (4, 0, 2, 0, 0) := by decide +kernel
theorem mi_328_4 : mI 328 4 = (7, 0, 6, 1, 0) := by decide +kernel
theorem mi_328_6 : mI 328 6 = (4, 0, 6, 1, 0) := by decide +kernel
theorem mi_328_8 : mI 328 8 = (2, 0, 0, 0, 0) := by decide +kernel
theorem mi_328_9 : mI 328 9 = (13, 0, 0, 0, 0) := by decide +kernel
theorem mi_328_10 : mI 328 10 = (14, 21, 0, 31, 0) := by decide +kernel
theorem mi_328_13 : mI 328 13 = (4, 0, 4, 1, 0) := by decide +kernel
theorem mi_328_15 : mI 328 15 = (4, 0, 6, 1, 0) := by decide +kernel
theorem mi_328_17 : mI 328 17 = (11, 0, 4, 0, 0) := by decide +kernel
theorem mi_328_18 : mI 328 18 = (7, 0, 8, 1, 0) := by decide +kernel
theorem mi_328_20 : mI 328 20 = (4, 0, 6, 1, 0) := by decide +kernel
theorem mi_328_22 : mI 328 22 = (7, 0, 4, 1, 0) := by decide +kernel
theorem mi_328_24 : mI 328 24 = (4, 0, 8, 1, 0) := by decide +kernel
theorem mi_328_26 : mI 328 26 = (7, 0, 6, 1, 0) := by decide +kernel
theorem mi_328_28 : mI 328 28 = (16, (-22), 0, 6, 0) := by decide +kernel
theorem mi_328_31 : mI 328 31 = (4, 0, 4, 1, 0) := by decide +kernel
theorem mi_328_33 : mI 328 33 = (27, 0, 1, 0, 0) := by decide +kernel
theorem rem64 {x y : Int64} (hy : y ≠ 0) : (lbF 4 x y).toInt.natAbs < y.toInt.natAbs := by
  have e1 := Int64.ofInt_toInt x
  have e2 := Int64.ofInt_toInt y
  have bx1 := Int64.le_toInt x
  have bx2 := Int64.toInt_lt x
  have by1 := Int64.le_toInt y
  have by2 := Int64.toInt_lt y
  have h0 : y.toInt ≠ 0 := fun z => hy (by rw [← e2, z]; rfl)
  have hd : x / y = Int64.ofInt (x.toInt.tdiv y.toInt) := by
    rw [Int64.ofInt_tdiv (by rw [Int64.toInt_minValue]; omega) (by rw [Int64.toInt_maxValue]; omega) (by rw [Int64.toInt_minValue]; omega) (by rw [Int64.toInt_maxValue]; omega), e1, e2]
  have hr : lbF 4 x y = Int64.ofInt (x.toInt.tmod y.toInt) := by
    show x - x / y * y = _
    rw [hd, Int.tmod_def, Int64.ofInt_sub, Int64.ofInt_mul, e1, e2, Int64.mul_comm]
  have hn : (x.toInt.tmod y.toInt).natAbs < y.toInt.natAbs := by
    rw [Int.natAbs_tmod]
    exact Nat.mod_lt _ (by omega)
  have ht : (Int64.ofInt (x.toInt.tmod y.toInt)).toInt = x.toInt.tmod y.toInt := Int64.toInt_ofInt_of_le (by omega) (by omega)
  rw [hr, ht]
  exact hn
theorem lg0 {y : Int64} : cdP 0 (lg_cmp y (Int64.ofInt 0)) 0 ↔ y = 0 := by
  have h := cdL_iff (x := 0) (a := y.toInt) (b := 0) (by have := Int64.le_toInt y; omega) (by have := Int64.toInt_lt y; omega) (by omega) (by omega)
  rw [Int64.ofInt_toInt, Int.sub_zero] at h
  rw [h]
  show y.toInt = 0 ↔ y = 0
  constructor
  · intro z
    rw [← Int64.ofInt_toInt y, z]
    rfl
  · intro z
    rw [z]
    rfl
theorem okvs_two {ad : Nat → Nat} {s1 s2 : SP3} : ∀ {vs : List Value}, okvs ad [s1, s2] vs → ∃ a b, vs = [a, b] ∧ okv ad s1 a ∧ okv ad s2 b
  | [], h => h.elim
  | [a], h => h.2.elim
  | [a, b], h => ⟨a, b, rfl, h.1, h.2.1⟩
  | a :: b :: c :: t, h => h.2.2.elim
section HAN
variable {l : Launch} {D : va_G} {tys : List (ClassId × FieldType)} {A : Nat → Prop}
theorem div_loop {ws : va_W} : ∀ (n : Nat) (x y : Int64), y.toInt.natAbs < n → (x ≠ 0 ∨ y ≠ 0) → V l D tys A 328 0 0 0 (fun r ws' => ws' = ws ∧ ∃ v : Int64, r = some (.long v) ∧ v ≠ 0) 0 0 6 [(4, .long x), (6, .long y)] [] ws
  | 0, x, y, h, _ => by omega
  | n + 1, x, y, h, hxy => by
    refine V_lload mi_328_6 (List.Mem.tail _ (List.Mem.head _)) ?_
    refine V_lpush mi_328_8 ?_
    refine V_lcmp mi_328_9 ?_
    refine V_if mi_328_10 (fun hz => ?_) (fun hz => ?_)
    · have hz := lg0.mp hz
      refine V_lload mi_328_31 (List.Mem.head _) ?_
      exact V_retL mi_328_33 ⟨rfl, x, rfl, hxy.resolve_right (fun q => q hz)⟩
    · have hz : y ≠ 0 := fun q => hz (lg0.mpr q)
      refine V_lload mi_328_13 (List.Mem.head _) ?_
      refine V_lload mi_328_15 (List.Mem.tail _ (List.Mem.head _)) ?_
      refine V_lbin mi_328_17 (fun _ => hz) ?_
      refine V_lstore mi_328_18 ?_
      refine V_lload (v := y) mi_328_20 (by simp [stL2, Value.category]) ?_
      refine V_lstore mi_328_22 ?_
      refine V_lload (v := lbF 4 x y) mi_328_24 (by simp [stL2, Value.category]) ?_
      refine V_lstore mi_328_26 ?_
      refine V_goto mi_328_28 ?_
      refine V_sub (lv' := [(4, .long y), (6, .long (lbF 4 x y))]) (fun q hq => ?_) (div_loop n y (lbF 4 x y) (by have := rem64 (x := x) hz; omega) (Or.inl hz))
      rcases List.mem_cons.mp hq with rfl | hq
      · simp [stL2, Value.category]
      · rw [List.mem_singleton.mp hq]
        simp [stL2, Value.category]
theorem HDiv_ok {ad : Nat → Nat} : T2OK l D tys A ad hDiv := by
  have key : ∀ (x y : Int64) (ws : va_W), y ≠ 0 → CT l D tys A 328 0 0 0 [.long x, .long y] ws (fun r ws' => ws' = ws ∧ (rtOK ad (some (1, 1, 9223372036854775807)) r ∨ rtOK ad (some (1, -9223372036854775808, -1)) r)) := by
    intro x y ws hy
    refine CT_post (CT_of_V (post := fun r ws' => ws' = ws ∧ ∃ v : Int64, r = some (.long v) ∧ v ≠ 0) (by omega) (show (4 : Nat) ≤ mML 328 by decide +kernel) ?_) ?_
    · refine V_lload (v := x) mi_328_0 (List.Mem.head _) ?_
      refine V_lstore mi_328_1 ?_
      refine V_lload (v := y) mi_328_3 (by simp [stL2, lv_args, Value.category]) ?_
      refine V_lstore mi_328_4 ?_
      refine V_sub (lv' := [(4, .long x), (6, .long y)]) (fun q hq => ?_) (div_loop (y.toInt.natAbs + 1) x y (by omega) (Or.inr hy))
      rcases List.mem_cons.mp hq with rfl | hq
      · simp [stL2, lv_args, Value.category]
      · rw [List.mem_singleton.mp hq]
        simp [stL2, lv_args, Value.category]
    · rintro r w ⟨h1, v, rfl, hv⟩
      have b1 := Int64.le_toInt v
      have b2 := Int64.toInt_lt v
      have h0 : v.toInt ≠ 0 := fun z => hv (by rw [← Int64.ofInt_toInt v, z]; rfl)
      refine ⟨h1, ?_⟩
      by_cases hp : 0 < v.toInt
      · exact Or.inl ⟨v.toInt, by rw [Int64.ofInt_toInt], by show (1 : Int) ≤ _; omega, by show _ ≤ (9223372036854775807 : Int); omega⟩
      · exact Or.inr ⟨v.toInt, by rw [Int64.ofInt_toInt], by show (-9223372036854775808 : Int) ≤ _; omega, by show _ ≤ (-1 : Int); omega⟩
  have nz : ∀ z : Int, z ≠ 0 → -9223372036854775808 ≤ z → z ≤ 9223372036854775807 → Int64.ofInt z ≠ 0 := by
    intro z h h1 h2 e
    have := congrArg Int64.toInt e
    rw [Int64.toInt_ofInt_of_le (by omega) (by omega)] at this
    exact h this
  intro q hq vs ws hv
  rcases List.mem_cons.mp hq with rfl | hq
  · obtain ⟨a, b, rfl, ⟨z1, rfl, -, -⟩, ⟨z2, rfl, h1, h2⟩⟩ := okvs_two hv
    · have h1 : (1 : Int) ≤ z2 := h1
      have h2 : z2 ≤ (9223372036854775807 : Int) := h2
      exact ⟨0, Nat.zero_lt_one, key _ _ _ (nz z2 (by omega) (by omega) (by omega))⟩
  · rw [List.mem_singleton.mp hq] at hv ⊢
    obtain ⟨a, b, rfl, ⟨z1, rfl, -, -⟩, ⟨z2, rfl, h1, h2⟩⟩ := okvs_two hv
    · have h1 : (-9223372036854775808 : Int) ≤ z2 := h1
      have h2 : z2 ≤ (-1 : Int) := h2
      exact ⟨0, Nat.zero_lt_one, key _ _ _ (nz z2 (by omega) (by omega) (by omega))⟩
end HAN
end
section
noncomputable def g848 : CR := (276, [(2, 90, 90), (0, 0, 63), (0, 0, 5)], [], some (0, 0, 1), [], [])
theorem w848 : vrf GG [] [] 300 2 g848
  [(5, [(0, 63), (0, 5), (0, 63), (0, 6)], [(0, rA 90), (1, iA (0, [(1, 0)])), (2, iA (0, [(1, 1)])), (3, iA (0, [(1, 2)])), (4, iA (0, [(1, 3)]))], [], [], (870, [((-126), 3)])),
  (38, [(0, 63), (0, 5), (0, 63), (0, 5), (0, 63), (0, 63), (1, 6)], [(0, rA 90), (1, iA (0, [(1, 0)])), (2, iA (0, [(1, 1)])), (3, iA (0, [(1, 2)])), (4, iA (0, [(1, 3)]))], [iA (0, [(1, 4)]), iA (0, [(1, 5)])], [((91, 3), iA (0, [(1, 6)]))], (837, [((-126), 3)]))] = true := by decide +kernel
theorem r848 {l : Launch} {D : va_G} {tys : List (ClassId × FieldType)} {A : Nat → Prop} {ad : Nat → Nat} (hAD : ∀ i : Nat, ad (1000 + i) = D.2 1000 i) : CRok l D tys A ad GG 3 g848 := CR_of_vrf (dep := 2) hAD (fun c hc => by cases hc) T2OK_nil w848
end
section
theorem mi_277_0 : mI 277 0 = (1, 1, 0, 0, 0) := by decide +kernel
theorem mi_277_1 : mI 277 1 = (3, 0, 1, 0, 0) := by decide +kernel
theorem mi_277_2 : mI 277 2 = (10, 0, 8, 0, 0) := by decide +kernel
theorem mi_277_3 : mI 277 3 = (6, 0, 3, 0, 0) := by decide +kernel
theorem mi_277_4 : mI 277 4 = (1, 1, 0, 0, 0) := by decide +kernel
theorem mi_277_5 : mI 277 5 = (6, 0, 4, 1, 0) := by decide +kernel
theorem mi_277_7 : mI 277 7 = (3, 0, 4, 1, 0) := by decide +kernel
theorem mi_277_9 : mI 277 9 = (14, 71, 0, 80, 0) := by decide +kernel
theorem mi_277_12 : mI 277 12 = (1, 0, 0, 0, 0) := by decide +kernel
theorem mi_277_13 : mI 277 13 = (6, 0, 4, 1, 0) := by decide +kernel
theorem mi_277_15 : mI 277 15 = (1, 0, 0, 0, 0) := by decide +kernel
theorem mi_277_16 : mI 277 16 = (6, 0, 5, 1, 0) := by decide +kernel
theorem mi_277_18 : mI 277 18 = (3, 0, 5, 1, 0) := by decide +kernel
theorem mi_277_20 : mI 277 20 = (5, 0, 0, 0, 0) := by decide +kernel
theorem mi_277_21 : mI 277 21 = (17, 1207, 9, 11, 1) := by decide +kernel
theorem mi_277_24 : mI 277 24 = (1, 3, 0, 0, 0) := by decide +kernel
theorem mi_277_25 : mI 277 25 = (19, 0, 0, 0, 0) := by decide +kernel
theorem mi_277_26 : mI 277 26 = (15, 51, 3, 77, 0) := by decide +kernel
theorem mi_277_29 : mI 277 29 = (3, 0, 2, 0, 0) := by decide +kernel
theorem mi_277_30 : mI 277 30 = (3, 0, 5, 1, 0) := by decide +kernel
theorem mi_277_32 : mI 277 32 = (26, 1517, 255, 195, 1) := by decide +kernel
theorem mi_277_35 : mI 277 35 = (14, 36, 0, 71, 0) := by decide +kernel
theorem mi_277_38 : mI 277 38 = (3, 0, 3, 0, 0) := by decide +kernel
theorem mi_277_39 : mI 277 39 = (3, 0, 5, 1, 0) := by decide +kernel
theorem mi_277_41 : mI 277 41 = (26, 1517, 255, 195, 1) := by decide +kernel
theorem mi_277_44 : mI 277 44 = (1, 1, 0, 0, 0) := by decide +kernel
theorem mi_277_45 : mI 277 45 = (15, 26, 0, 71, 0) := by decide +kernel
theorem mi_277_48 : mI 277 48 = (5, 0, 0, 0, 0) := by decide +kernel
theorem mi_277_49 : mI 277 49 = (3, 0, 3, 0, 0) := by decide +kernel
theorem mi_277_50 : mI 277 50 = (3, 0, 5, 1, 0) := by decide +kernel
theorem mi_277_52 : mI 277 52 = (26, 1665, 335, 276, 0) := by decide +kernel
theorem mi_277_55 : mI 277 55 = (14, 6, 1, 61, 0) := by decide +kernel
theorem mi_277_58 : mI 277 58 = (16, 13, 0, 71, 0) := by decide +kernel
theorem mi_277_61 : mI 277 61 = (3, 0, 3, 0, 0) := by decide +kernel
theorem mi_277_62 : mI 277 62 = (1, 1, 0, 0, 0) := by decide +kernel
theorem mi_277_63 : mI 277 63 = (3, 0, 5, 1, 0) := by decide +kernel
theorem mi_277_65 : mI 277 65 = (10, 0, 8, 0, 0) := by decide +kernel
theorem mi_277_66 : mI 277 66 = (10, 0, 6, 0, 0) := by decide +kernel
theorem mi_277_67 : mI 277 67 = (6, 0, 3, 0, 0) := by decide +kernel
theorem mi_277_68 : mI 277 68 = (1, 1, 0, 0, 0) := by decide +kernel
theorem mi_277_69 : mI 277 69 = (6, 0, 4, 1, 0) := by decide +kernel
theorem mi_277_71 : mI 277 71 = (9, 1, 5, 0, 0) := by decide +kernel
theorem mi_277_74 : mI 277 74 = (16, (-56), 0, 18, 0) := by decide +kernel
theorem mi_277_77 : mI 277 77 = (16, (-70), 0, 7, 0) := by decide +kernel
theorem mi_277_80 : mI 277 80 = (3, 0, 3, 0, 0) := by decide +kernel
theorem mi_277_81 : mI 277 81 = (27, 0, 0, 0, 0) := by decide +kernel
theorem mi_195_0 : mI 195 0 = (3, 0, 0, 0, 0) := by decide +kernel
theorem mi_195_1 : mI 195 1 = (3, 0, 1, 0, 0) := by decide +kernel
theorem mi_195_2 : mI 195 2 = (10, 0, 9, 0, 0) := by decide +kernel
theorem mi_195_3 : mI 195 3 = (1, 1, 0, 0, 0) := by decide +kernel
theorem mi_195_4 : mI 195 4 = (10, 0, 5, 0, 0) := by decide +kernel
theorem mi_195_5 : mI 195 5 = (27, 0, 0, 0, 0) := by decide +kernel
theorem gg_90 : ∃ g, GG[90]? = some ((0, 11, 36), g) ∧ segAt g 1 = some (2, 91, 91) := ⟨_, rfl, by decide +kernel⟩
theorem gg_91 : ∃ g, GG[91]? = some ((1, 0, 294), g) ∧ segAt g 3 = some (0, 0, 6) := ⟨_, rfl, by decide +kernel⟩
theorem kb5 {a b : Nat} (ha : a < 2147483648) (hb : b < 2147483648) : ibF 5 (Int32.ofInt (a : Int)) (Int32.ofInt (b : Int)) = Int32.ofInt ((a &&& b : Nat) : Int) := by
  show Int32.ofInt (a : Int) &&& Int32.ofInt (b : Int) = _
  rw [v_nI (Int32.ofInt (a : Int) &&& Int32.ofInt (b : Int)), Int32.toBitVec_and, BitVec.toNat_and, show (Int32.ofInt (a : Int)).toBitVec.toNat = a from pk_tn (by omega), show (Int32.ofInt (b : Int)).toBitVec.toNat = b from pk_tn (by omega)]
theorem kb6 {a b : Nat} (ha : a < 2147483648) (hb : b < 2147483648) : ibF 6 (Int32.ofInt (a : Int)) (Int32.ofInt (b : Int)) = Int32.ofInt ((a ||| b : Nat) : Int) := by
  show Int32.ofInt (a : Int) ||| Int32.ofInt (b : Int) = _
  rw [v_nI (Int32.ofInt (a : Int) ||| Int32.ofInt (b : Int)), Int32.toBitVec_or, BitVec.toNat_or, show (Int32.ofInt (a : Int)).toBitVec.toNat = a from pk_tn (by omega), show (Int32.ofInt (b : Int)).toBitVec.toNat = b from pk_tn (by omega)]
theorem kb9 {a i : Nat} (ha : a < 2147483648) (hi : i < 32) : ibF 9 (Int32.ofInt (a : Int)) (Int32.ofInt (i : Int)) = Int32.ofInt ((a >>> i : Nat) : Int) := by
  show Int32.ofInt (a : Int) >>> (Int32.ofInt (i : Int) &&& 31) = _
  obtain ⟨j, hj, e, e2⟩ := and31 (Int32.ofInt (i : Int))
  have ej : j = i := by rw [e2, show (Int32.ofInt (i : Int)).toBitVec.toNat = i from pk_tn (by omega)]; exact Nat.mod_eq_of_lt hi
  rw [e, ← ej]
  have h := pk_shr (Int32.ofInt (a : Int)) _ j (smod32 j hj)
  rw [Int32.toInt_ofInt_of_le (by omega) (by omega)] at h
  rw [← Int32.ofInt_toInt (Int32.ofInt (a : Int) >>> nI j), h]
  rfl
theorem kb8 {a i : Nat} (hi : i < 32) (h : a * 2 ^ i < 2 ^ 32) : ibF 8 (Int32.ofInt (a : Int)) (Int32.ofInt (i : Int)) = Int32.ofInt ((a * 2 ^ i : Nat) : Int) :=
  shl_ok (x := a) (n := i) (v := Int32.ofInt (i : Int)) (pk_tn (by omega)) hi h
theorem kbT {n : Nat} (h : n < 2147483648) : (Int32.ofInt (n : Int)).toInt = (n : Int) := Int32.toInt_ofInt_of_le (by omega) (by omega)
theorem kal2 {n m : Nat} {F : Nat → Nat → Bool} (h : (List.range n).all (fun a => (List.range m).all (fun i => F a i)) = true) {a i : Nat} (ha : a < n) (hi : i < m) : F a i = true := List.all_eq_true.mp (List.all_eq_true.mp h a (List.mem_range.mpr ha)) i (List.mem_range.mpr hi)
theorem kb59 {a i : Nat} (ha : a < 2147483648) (hi : i < 32) : ibF 5 (ibF 9 (Int32.ofInt (a : Int)) (Int32.ofInt (i : Int))) (Int32.ofInt 1) = Int32.ofInt ((a >>> i &&& 1 : Nat) : Int) := by
  rw [kb9 ha hi]
  exact kb5 (b := 1) (Nat.lt_of_le_of_lt (Nat.shiftRight_le a i) ha) (by omega)
theorem kb68 {a i : Nat} (ha : a < 128) (hi : i < 7) : ibF 6 (Int32.ofInt (a : Int)) (ibF 8 (Int32.ofInt 1) (Int32.ofInt (i : Int))) = Int32.ofInt ((a ||| 2 ^ i : Nat) : Int) ∧ a ||| 2 ^ i < 128 := by
  have hp : 2 ^ i ≤ 2 ^ 6 := Nat.pow_le_pow_right (by omega) (by omega)
  have e8 : ibF 8 (Int32.ofInt 1) (Int32.ofInt (i : Int)) = Int32.ofInt ((1 * 2 ^ i : Nat) : Int) := kb8 (a := 1) (by omega) (by omega)
  rw [e8, Nat.one_mul]
  exact ⟨kb6 (by omega) (by omega), Nat.or_lt_two_pow (n := 7) (by omega) (by omega)⟩
theorem bru_nat : (List.range 64).all (fun S => (List.range 6).all (fun o => Nat.beq (S >>> o &&& 1) 1 || (Nat.blt S (S ||| 2 ^ o) && Nat.ble (S ||| 2 ^ o) 63))) = true := by decide +kernel
theorem bru_bit {S o : Int} (h0 : 0 ≤ S) (h1 : S ≤ 63) (h2 : 0 ≤ o) (h3 : o ≤ 5) (h : ¬ ibF 5 (ibF 9 (Int32.ofInt S) (Int32.ofInt o)) (Int32.ofInt 1) = Int32.ofInt 1) : S < (ibF 6 (Int32.ofInt S) (ibF 8 (Int32.ofInt 1) (Int32.ofInt o))).toInt ∧ (ibF 6 (Int32.ofInt S) (ibF 8 (Int32.ofInt 1) (Int32.ofInt o))).toInt ≤ 63 := by
  obtain ⟨a, rfl⟩ := Int.eq_ofNat_of_zero_le h0
  obtain ⟨i, rfl⟩ := Int.eq_ofNat_of_zero_le h2
  have q := kal2 bru_nat (a := a) (i := i) (by omega) (by omega)
  have e6 := kb68 (a := a) (i := i) (by omega) (by omega)
  rw [e6.1, kbT (by omega)]
  rw [kb59 (a := a) (i := i) (by omega) (by omega)] at h
  rw [Bool.or_eq_true, Bool.and_eq_true] at q
  rcases q with q | ⟨q1, q2⟩
  · exact absurd (by rw [Nat.eq_of_beq_eq_true q]; rfl) h
  · have a1 := Nat.blt_eq.mp q1
    have a2 := Nat.le_of_ble_eq_true q2
    exact ⟨by omega, by omega⟩
theorem okvs_three {ad : Nat → Nat} {s1 s2 s3 : SP3} : ∀ {vs : List Value}, okvs ad [s1, s2, s3] vs → ∃ a b c, vs = [a, b, c] ∧ okv ad s1 a ∧ okv ad s2 b ∧ okv ad s3 c
  | [], h => h.elim
  | [a], h => h.2.elim
  | [a, b], h => h.2.2.elim
  | [a, b, c], h => ⟨a, b, c, rfl, h.1, h.2.1, h.2.2.1⟩
  | a :: b :: c :: d :: t, h => h.2.2.2.elim
section BRU
variable {l : Launch} {D : va_G} {tys : List (ClassId × FieldType)} {A : Nat → Prop} {ad : Nat → Nat}
theorem folk_of {ws : va_W} (hG : GOK ad tys GG ws) : ∃ (fs : List Value) (cA : ClassId) (f : Nat → Int32) (z : Int), ws[90]? = some (ad 90, .inr (11, fs)) ∧ fs[1]? = some (.ref (ad 91)) ∧ ws[91]? = some (ad 91, .inl (cA, 294, .inl f)) ∧ tys[0]? = some (cA, .int) ∧ f 3 = Int32.ofInt z ∧ 0 ≤ z ∧ z ≤ 6 := by
  obtain ⟨g, hg, hs⟩ := gg_90
  obtain ⟨g2, hg2, hs2⟩ := gg_91
  obtain ⟨e, a1, a2, a3⟩ := hG 90 _ hg
  obtain ⟨e2, b1, b2, b3⟩ := hG 91 _ hg2
  obtain ⟨fs, rfl, hl⟩ := a2
  obtain ⟨cA, f, rfl, c1, -⟩ := b2
  have hv : fs[1]? = some fs[1] := List.getElem?_eq_getElem (by omega)
  obtain ⟨sp, q1, q2⟩ := a3 1 _ hv
  rw [hs] at q1
  cases q1
  obtain ⟨sp, r1, r2⟩ := b3 3 (.int (f 3)) (by show (if 3 < 294 then some (Value.int (f 3)) else none) = _; rw [if_pos (by omega)])
  rw [hs2] at r1
  cases r1
  obtain ⟨z, z1, z2, z3⟩ := r2
  exact ⟨fs, cA, f, z, a1, by rw [hv]; exact congrArg some q2, b1, c1, Value.int.inj z1, z2, z3⟩
theorem bit_ct (a b : Int32) (ws : va_W) : CT l D tys A 195 0 0 0 [.int a, .int b] ws (fun r w => w = ws ∧ r = some (.int (ibF 5 (ibF 9 a b) (Int32.ofInt 1)))) := by
  refine CT_of_V (by omega) (show (2 : Nat) ≤ mML 195 by decide +kernel) ?_
  refine V_iload (v := a) mi_195_0 (List.Mem.head _) ?_
  refine V_iload (v := b) mi_195_1 (List.Mem.tail _ (List.Mem.head _)) ?_
  refine V_ibin mi_195_2 (by omega) ?_
  refine V_ipush mi_195_3 ?_
  refine V_ibin mi_195_4 (by omega) ?_
  exact V_retI mi_195_5 (fun h => absurd h (by decide +kernel)) ⟨rfl, rfl⟩
theorem bru_while (hAD : ∀ i : Nat, ad (1000 + i) = D.2 1000 i) {w0 : va_W} {f so : Int32} (hso : 0 ≤ so.toInt ∧ so.toInt ≤ 63) : ∀ (n : Nat) (S mo : Int) (ws : va_W), 0 ≤ S → S ≤ 63 → (mo = 0 ∨ mo = 1) → 2 * (64 - S) + mo < (n : Int) → GOK ad tys GG ws → FRm [] w0 ws → V l D tys A 277 3 0 0 (CRpost ad tys GG hBru w0) 0 0 7 [(0, .ref (ad 90)), (1, .int f), (2, .int so), (3, .int (Int32.ofInt S)), (4, .int (Int32.ofInt mo))] [] ws
  | 0, S, mo, ws, h0, h1, h2, h3, _, _ => by omega
  | n + 1, S, mo, ws, h0, h1, h2, h3, hG, hF => by
    refine V_iload (v := Int32.ofInt mo) mi_277_7 (List.Mem.tail _ (List.Mem.tail _ (List.Mem.tail _ (List.Mem.tail _ (List.Mem.head _))))) ?_
    rcases h2 with rfl | rfl
    · refine V_if mi_277_9 (fun _ => ?_) (fun h => absurd (show Int32.ofInt 0 = 0 by decide) h)
      refine V_iload (v := Int32.ofInt S) mi_277_80 (List.Mem.tail _ (List.Mem.tail _ (List.Mem.tail _ (List.Mem.head _)))) ?_
      exact V_retI mi_277_81 (fun h => absurd h (by decide +kernel)) ⟨hG, hF, ⟨S, rfl, h0, h1⟩, fun q hq => by cases hq⟩
    · refine V_if mi_277_9 (fun h => absurd (show Int32.ofInt 1 = 0 from h) (by decide)) (fun _ => ?_)
      have loop : ∀ (k : Nat) (S2 m2 o : Int) (w2 : va_W), (6 - o).toNat < k → 0 ≤ o → o ≤ 6 → 0 ≤ S2 → S2 ≤ 63 → (m2 = 0 ∧ S2 = S ∨ m2 = 1 ∧ S < S2) → GOK ad tys GG w2 → FRm [] w0 w2 → V l D tys A 277 3 0 0 (CRpost ad tys GG hBru w0) 0 0 18 [(0, .ref (ad 90)), (1, .int f), (2, .int so), (3, .int (Int32.ofInt S2)), (4, .int (Int32.ofInt m2)), (5, .int (Int32.ofInt o))] [] w2 := by
        intro k
        induction k with
        | zero => intro S2 m2 o w2 g; omega
        | succ k ih =>
          intro S2 m2 o w2 g1 g2 g3 g4 g5 g6 gG gF
          obtain ⟨fs, cA, fw, z, e1, e2, e3, e4, e5, e6, e7⟩ := folk_of gG
          refine V_iload (v := Int32.ofInt o) mi_277_18 (List.Mem.tail _ (List.Mem.tail _ (List.Mem.tail _ (List.Mem.tail _ (List.Mem.tail _ (List.Mem.head _)))))) ?_
          refine V_aload (v := ad 90) mi_277_20 (List.Mem.head _) ?_
          refine V_get mi_277_21 e1 e2 ?_
          refine V_ipush mi_277_24 ?_
          refine V_iald mi_277_25 e3 e4 (show vp_in (Int32.ofInt 3) 294 by unfold vp_in; decide +kernel) ?_
          rw [show (Int32.ofInt 3).toNatClampNeg = 3 by decide, e5]
          have hc := cdP_iff (x := 3) (a := o) (b := z) (by omega) (by omega) (by omega) (by omega)
          refine V_icmp mi_277_26 (fun _ => ?_) (fun hlt => ?_)
          · refine V_goto mi_277_77 ?_
            refine V_sub (lv' := [(0, .ref (ad 90)), (1, .int f), (2, .int so), (3, .int (Int32.ofInt S2)), (4, .int (Int32.ofInt m2))]) (fun q hq => ?_) (bru_while hAD hso n S2 m2 w2 g4 g5 (by omega) (by omega) gG gF)
            simp only [List.mem_cons, List.not_mem_nil, or_false] at hq ⊢
            rcases hq with h | h | h | h | h <;> simp [h]
          · have ho : o < z := by
              have : ¬ (0 ≤ o - z) := fun q => hlt (hc.mpr q)
              omega
            have h71 : ∀ (S3 m3 : Int) (w3 : va_W), 0 ≤ S3 → S3 ≤ 63 → (m3 = 0 ∧ S3 = S ∨ m3 = 1 ∧ S < S3) → GOK ad tys GG w3 → FRm [] w0 w3 → V l D tys A 277 3 0 0 (CRpost ad tys GG hBru w0) 0 0 71 [(0, .ref (ad 90)), (1, .int f), (2, .int so), (3, .int (Int32.ofInt S3)), (4, .int (Int32.ofInt m3)), (5, .int (Int32.ofInt o))] [] w3 := by
              intro S3 m3 w3 c1 c2 c3 c4 c5
              refine V_iinc (v := Int32.ofInt o) mi_277_71 (List.Mem.tail _ (List.Mem.tail _ (List.Mem.tail _ (List.Mem.tail _ (List.Mem.tail _ (List.Mem.head _)))))) ?_
              refine V_goto mi_277_74 ?_
              refine V_sub (lv' := [(0, .ref (ad 90)), (1, .int f), (2, .int so), (3, .int (Int32.ofInt S3)), (4, .int (Int32.ofInt m3)), (5, .int (Int32.ofInt (o + 1)))]) (fun q hq => ?_) (ih S3 m3 (o + 1) w3 (by omega) (by omega) (by omega) c1 c2 c3 c4 c5)
              simp only [List.mem_cons, List.not_mem_nil, or_false] at hq
              rcases hq with h | h | h | h | h | h <;> simp [h, stL, Value.category, Int32.ofInt_add]
            refine V_iload (v := so) mi_277_29 (List.Mem.tail _ (List.Mem.tail _ (List.Mem.head _))) ?_
            refine V_iload (v := Int32.ofInt o) mi_277_30 (List.Mem.tail _ (List.Mem.tail _ (List.Mem.tail _ (List.Mem.tail _ (List.Mem.tail _ (List.Mem.head _)))))) ?_
            refine V_stat (As := [.int so, .int (Int32.ofInt o)]) (st := []) mi_277_32 (by omega) (bit_ct so (Int32.ofInt o) w2) (by omega) (show 2 = mN 195 by decide +kernel) (by simp) ⟨Nat.le_refl _, Nat.le_refl _⟩ ?_
            rintro r1 w3 ⟨rfl, rfl⟩
            refine V_if mi_277_35 (fun _ => h71 S2 m2 w3 g4 g5 g6 gG gF) (fun _ => ?_)
            refine V_iload (v := Int32.ofInt S2) mi_277_38 (List.Mem.tail _ (List.Mem.tail _ (List.Mem.tail _ (List.Mem.head _)))) ?_
            refine V_iload (v := Int32.ofInt o) mi_277_39 (List.Mem.tail _ (List.Mem.tail _ (List.Mem.tail _ (List.Mem.tail _ (List.Mem.tail _ (List.Mem.head _)))))) ?_
            refine V_stat (As := [.int (Int32.ofInt S2), .int (Int32.ofInt o)]) (st := []) mi_277_41 (by omega) (bit_ct (Int32.ofInt S2) (Int32.ofInt o) w3) (by omega) (show 2 = mN 195 by decide +kernel) (by simp) ⟨Nat.le_refl _, Nat.le_refl _⟩ ?_
            rintro r2 w4 ⟨rfl, rfl⟩
            refine V_ipush mi_277_44 ?_
            refine V_icmp mi_277_45 (fun _ => h71 S2 m2 w4 g4 g5 g6 gG gF) (fun hb => ?_)
            have hbit := bru_bit g4 g5 g2 (by omega) hb
            refine V_aload (v := ad 90) mi_277_48 (List.Mem.head _) ?_
            refine V_iload (v := Int32.ofInt S2) mi_277_49 (List.Mem.tail _ (List.Mem.tail _ (List.Mem.tail _ (List.Mem.head _)))) ?_
            refine V_iload (v := Int32.ofInt o) mi_277_50 (List.Mem.tail _ (List.Mem.tail _ (List.Mem.tail _ (List.Mem.tail _ (List.Mem.tail _ (List.Mem.head _)))))) ?_
            obtain ⟨d', k1, k2⟩ := r848 hAD (l := l) (tys := tys) (A := A) [.ref (ad 90), .int (Int32.ofInt S2), .int (Int32.ofInt o)] w4 ⟨rfl, ⟨S2, rfl, g4, g5⟩, ⟨o, rfl, g2, (by show o ≤ (5 : Int); omega)⟩, trivial⟩ gG (fun q hq => by cases hq)
            obtain ⟨T, N, hcl⟩ := ci_at (y := 276) (by omega) (by decide +kernel) (by decide +kernel)
            refine V_virt (As := [.int (Int32.ofInt S2), .int (Int32.ofInt o)]) (st := []) mi_277_52 (by omega) k2 (by omega) (show 2 = mN 276 by decide +kernel) e1 (by rw [← show mCi 276 = 11 by decide +kernel]; exact hcl) (by simp) ⟨Nat.le_refl _, Nat.le_refl _⟩ ?_
            rintro r3 w5 ⟨q1, q2, q3, -⟩
            have hF5 : FRm [] w0 w5 := FRm_tr gF q2 (fun x hx => hx)
            cases r3 with
            | none => exact q3.elim
            | some v =>
              obtain ⟨zz, rfl, -, -⟩ := q3
              refine V_if mi_277_55 (fun _ => ?_) (fun _ => V_goto mi_277_58 (h71 S2 m2 w5 g4 g5 g6 q1 hF5))
              refine V_iload (v := Int32.ofInt S2) mi_277_61 (List.Mem.tail _ (List.Mem.tail _ (List.Mem.tail _ (List.Mem.head _)))) ?_
              refine V_ipush mi_277_62 ?_
              refine V_iload (v := Int32.ofInt o) mi_277_63 (List.Mem.tail _ (List.Mem.tail _ (List.Mem.tail _ (List.Mem.tail _ (List.Mem.tail _ (List.Mem.head _)))))) ?_
              refine V_ibin mi_277_65 (by omega) ?_
              refine V_ibin mi_277_66 (by omega) ?_
              refine V_istore mi_277_67 ?_
              refine V_ipush mi_277_68 ?_
              refine V_istore mi_277_69 ?_
              refine V_sub (fun q hq => ?_) (h71 (ibF 6 (Int32.ofInt S2) (ibF 8 (Int32.ofInt 1) (Int32.ofInt o))).toInt 1 w5 (by omega) hbit.2 (Or.inr ⟨rfl, by omega⟩) q1 hF5)
              simp only [List.mem_cons, List.not_mem_nil, or_false] at hq
              rcases hq with h | h | h | h | h | h <;> simp [h, stL, Value.category]
      refine V_ipush mi_277_12 ?_
      refine V_istore mi_277_13 ?_
      refine V_ipush mi_277_15 ?_
      refine V_istore mi_277_16 ?_
      refine V_sub (fun q hq => ?_) (loop 7 S 0 0 ws (by omega) (by omega) (by omega) h0 h1 (Or.inl ⟨rfl, rfl⟩) hG hF)
      simp only [List.mem_cons, List.not_mem_nil, or_false] at hq
      rcases hq with h | h | h | h | h | h <;> simp [h, stL, Value.category]
theorem sh_bits : (List.range 6).all (fun o => decide (0 ≤ (ibF 8 (Int32.ofInt 1) (Int32.ofInt (o : Int))).toInt) && decide ((ibF 8 (Int32.ofInt 1) (Int32.ofInt (o : Int))).toInt ≤ 63)) = true := by decide +kernel
theorem HBru_ok (hAD : ∀ i : Nat, ad (1000 + i) = D.2 1000 i) : CRok l D tys A ad GG 4 hBru := by
  intro vs ws hv hG hp
  obtain ⟨a, b, c, rfl, ha, ⟨zf, rfl, f1, f2⟩, ⟨zs, rfl, s1, s2⟩⟩ := okvs_three hv
  · have ha : a = .ref (ad 90) := ha
    subst ha
    have f1 : 0 ≤ zf := f1
    have f2 : zf ≤ 5 := f2
    have s1 : 0 ≤ zs := s1
    have s2 : zs ≤ 63 := s2
    refine ⟨3, by omega, CT_of_V (k := 277) (by omega) (show (3 : Nat) ≤ mML 277 by decide +kernel) ?_⟩
    have sb := List.all_eq_true.mp sh_bits zf.toNat (List.mem_range.mpr (by omega))
    rw [Int.toNat_of_nonneg f1, Bool.and_eq_true, decide_eq_true_eq, decide_eq_true_eq] at sb
    refine V_ipush mi_277_0 ?_
    refine V_iload (v := Int32.ofInt zf) mi_277_1 (List.Mem.tail _ (List.Mem.head _)) ?_
    refine V_ibin mi_277_2 (by omega) ?_
    refine V_istore mi_277_3 ?_
    refine V_ipush mi_277_4 ?_
    refine V_istore mi_277_5 ?_
    have e : (Int32.ofInt zs).toInt = zs := Int32.toInt_ofInt_of_le (by omega) (by omega)
    refine V_sub (fun q hq => ?_) (bru_while hAD (w0 := ws) (f := Int32.ofInt zf) (so := Int32.ofInt zs) (by rw [e]; omega) 200 (ibF 8 (Int32.ofInt 1) (Int32.ofInt zf)).toInt 1 ws sb.1 sb.2 (Or.inr rfl) (by omega) hG FRm_rf)
    simp only [List.mem_cons, List.not_mem_nil, or_false] at hq
    rcases hq with h | h | h | h | h <;> simp [h, stL, lv_args, Value.category]
end BRU
end
