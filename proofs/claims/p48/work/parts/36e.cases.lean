section CASES4
variable {p : Program} {l : Launch} {e : Env} {R : Room} {s : State} {m : MethodId} {args : Array Value} {below : List Frame} {meth : Method} {c : Code} {Q : State → Prop} {D : va_G} {tys : List (ClassId × FieldType)} {A : Nat → Prop}
variable {cells slots : Nat} {ws : va_W}
theorem case_52 {b L : Nat} {xs : Nat → Int32} {ad : Nat → Nat} {i : Int32} (F : LFix D tys A p R s m args c) (hX : va_X b L xs s s.heap) (hbl : b < s.heap.size) (hbA : ¬ A b) (hin : ∀ k : Nat, k < 6 → vp_in (i + Int32.ofInt k) L) (hm : cells ≤ R.cells ∧ slots ≤ R.slots) (hAD : ∀ i : Nat, ad (1000 + i) = D.2 1000 i) (hG : GOK ad tys GG ws) (hR : RELV ws) (kk : ∀ w2 : va_W, GOK ad tys GG w2 → RELV w2 → LV p l e R s m args below meth c Q D A cells slots 2423 [(3, .int i), (2, .ref (ad 90)), (1, .ref (ad 0)), (0, .ref b)] [] w2) : LV p l e R s m args below meth c Q D A cells slots 1914 [(3, .int i), (2, .ref (ad 90)), (1, .ref (ad 0)), (0, .ref b)] [] ws := by
  refine L_al (i := 1) F dk_1914 rfl (List.Mem.tail _ (List.Mem.tail _ (List.Mem.head _))) ?_
  refine L_arg F hX hbl hbA (List.Mem.tail _ (List.Mem.tail _ (List.Mem.tail _ (List.Mem.head _)))) (List.Mem.head _) dk_1915 dk_1916 dk_1917 dk_1918 dk_1919 (hin 1 (by omega)) ?_
  refine L_uc (As := [.int (xs (i + Int32.ofInt 1).toNatClampNeg)]) (y := 60) (q0 := 0) F (u_X52 hAD hG (xs (i + Int32.ofInt 1).toNatClampNeg)) (by omega) (show mKind 60 = 0 by decide +kernel) (w := 1060) (show wAt 1060 (Cond.methodLink "HalvedNamesLaw" 227 (mY 60)) = true by decide +kernel) dk_1920 (show 1 = mN 60 by decide +kernel) (show GG[0]? = some _ from rfl) rfl ⟨_, _, rfl⟩ (by simp) hm hG (fun r1 w1 z1 => ?_)
  refine L_pop0 F dk_1923 z1.1 ?_
  refine L_al (i := 2) F dk_1924 rfl (List.Mem.tail _ (List.Mem.head _)) ?_
  refine L_arg F hX hbl hbA (List.Mem.tail _ (List.Mem.tail _ (List.Mem.tail _ (List.Mem.head _)))) (List.Mem.head _) dk_1925 dk_1926 dk_1927 dk_1928 dk_1929 (hin 1 (by omega)) ?_
  refine L_uc (As := [.int (xs (i + Int32.ofInt 1).toNatClampNeg)]) (y := 325) (q0 := 90) F (u_M52 hAD z1.1.1 (xs (i + Int32.ofInt 1).toNatClampNeg)) (by omega) (show mKind 325 = 0 by decide +kernel) (w := 1869) (show wAt 1869 (Cond.methodLink "HalvedNamesLaw" 230 (mY 325)) = true by decide +kernel) dk_1930 (show 1 = mN 325 by decide +kernel) (show GG[90]? = some _ from rfl) rfl ⟨_, _, rfl⟩ (by simp) hm z1.1.1 (fun r2 w2 z2 => ?_)
  refine L_pop0 F dk_1933 z2.1 ?_
  exact L_goto F dk_1934 rfl (kk w2 z2.1.1 (KEP_rels (KEP_rels hR z1.2) z2.2))
theorem case_53 {b L : Nat} {xs : Nat → Int32} {ad : Nat → Nat} {i : Int32} (F : LFix D tys A p R s m args c) (hX : va_X b L xs s s.heap) (hbl : b < s.heap.size) (hbA : ¬ A b) (hin : ∀ k : Nat, k < 6 → vp_in (i + Int32.ofInt k) L) (hm : cells ≤ R.cells ∧ slots ≤ R.slots) (hAD : ∀ i : Nat, ad (1000 + i) = D.2 1000 i) (hG : GOK ad tys GG ws) (hR : RELV ws) (kk : ∀ w2 : va_W, GOK ad tys GG w2 → RELV w2 → LV p l e R s m args below meth c Q D A cells slots 2423 [(3, .int i), (2, .ref (ad 90)), (1, .ref (ad 0)), (0, .ref b)] [] w2) : LV p l e R s m args below meth c Q D A cells slots 1937 [(3, .int i), (2, .ref (ad 90)), (1, .ref (ad 0)), (0, .ref b)] [] ws := by
  refine L_al (i := 1) F dk_1937 rfl (List.Mem.tail _ (List.Mem.tail _ (List.Mem.head _))) ?_
  refine L_arg F hX hbl hbA (List.Mem.tail _ (List.Mem.tail _ (List.Mem.tail _ (List.Mem.head _)))) (List.Mem.head _) dk_1938 dk_1939 dk_1940 dk_1941 dk_1942 (hin 1 (by omega)) ?_
  refine L_uc (As := [.int (xs (i + Int32.ofInt 1).toNatClampNeg)]) (y := 61) (q0 := 0) F (u_X53 hAD hG (xs (i + Int32.ofInt 1).toNatClampNeg)) (by omega) (show mKind 61 = 0 by decide +kernel) (w := 1084) (show wAt 1084 (Cond.methodLink "HalvedNamesLaw" 231 (mY 61)) = true by decide +kernel) dk_1943 (show 1 = mN 61 by decide +kernel) (show GG[0]? = some _ from rfl) rfl ⟨_, _, rfl⟩ (by simp) hm hG (fun r1 w1 z1 => ?_)
  refine L_pop0 F dk_1946 z1.1 ?_
  refine L_al (i := 2) F dk_1947 rfl (List.Mem.tail _ (List.Mem.head _)) ?_
  refine L_arg F hX hbl hbA (List.Mem.tail _ (List.Mem.tail _ (List.Mem.tail _ (List.Mem.head _)))) (List.Mem.head _) dk_1948 dk_1949 dk_1950 dk_1951 dk_1952 (hin 1 (by omega)) ?_
  refine L_uc (As := [.int (xs (i + Int32.ofInt 1).toNatClampNeg)]) (y := 326) (q0 := 90) F (u_M53 hAD z1.1.1 (xs (i + Int32.ofInt 1).toNatClampNeg)) (by omega) (show mKind 326 = 0 by decide +kernel) (w := 1881) (show wAt 1881 (Cond.methodLink "HalvedNamesLaw" 234 (mY 326)) = true by decide +kernel) dk_1953 (show 1 = mN 326 by decide +kernel) (show GG[90]? = some _ from rfl) rfl ⟨_, _, rfl⟩ (by simp) hm z1.1.1 (fun r2 w2 z2 => ?_)
  refine L_pop0 F dk_1956 z2.1 ?_
  exact L_goto F dk_1957 rfl (kk w2 z2.1.1 (KEP_rels (KEP_rels hR z1.2) z2.2))
theorem case_54 {b L : Nat} {xs : Nat → Int32} {ad : Nat → Nat} {i : Int32} (F : LFix D tys A p R s m args c) (hX : va_X b L xs s s.heap) (hbl : b < s.heap.size) (hbA : ¬ A b) (hin : ∀ k : Nat, k < 6 → vp_in (i + Int32.ofInt k) L) (hm : cells ≤ R.cells ∧ slots ≤ R.slots) (hAD : ∀ i : Nat, ad (1000 + i) = D.2 1000 i) (hG : GOK ad tys GG ws) (hR : RELV ws) (kk : ∀ w2 : va_W, GOK ad tys GG w2 → RELV w2 → LV p l e R s m args below meth c Q D A cells slots 2423 [(3, .int i), (2, .ref (ad 90)), (1, .ref (ad 0)), (0, .ref b)] [] w2) : LV p l e R s m args below meth c Q D A cells slots 1960 [(3, .int i), (2, .ref (ad 90)), (1, .ref (ad 0)), (0, .ref b)] [] ws := by
  refine L_al (i := 1) F dk_1960 rfl (List.Mem.tail _ (List.Mem.tail _ (List.Mem.head _))) ?_
  refine L_arg F hX hbl hbA (List.Mem.tail _ (List.Mem.tail _ (List.Mem.tail _ (List.Mem.head _)))) (List.Mem.head _) dk_1961 dk_1962 dk_1963 dk_1964 dk_1965 (hin 1 (by omega)) ?_
  refine L_uc (As := [.int (xs (i + Int32.ofInt 1).toNatClampNeg)]) (y := 31) (q0 := 0) F (u_X54 hAD hG (xs (i + Int32.ofInt 1).toNatClampNeg)) (by omega) (show mKind 31 = 0 by decide +kernel) (w := 771) (show wAt 771 (Cond.methodLink "HalvedNamesLaw" 235 (mY 31)) = true by decide +kernel) dk_1966 (show 1 = mN 31 by decide +kernel) (show GG[0]? = some _ from rfl) rfl ⟨_, _, rfl⟩ (by simp) hm hG (fun r1 w1 z1 => ?_)
  refine L_pop0 F dk_1969 z1.1 ?_
  refine L_al (i := 2) F dk_1970 rfl (List.Mem.tail _ (List.Mem.head _)) ?_
  refine L_arg F hX hbl hbA (List.Mem.tail _ (List.Mem.tail _ (List.Mem.tail _ (List.Mem.head _)))) (List.Mem.head _) dk_1971 dk_1972 dk_1973 dk_1974 dk_1975 (hin 1 (by omega)) ?_
  refine L_uc (As := [.int (xs (i + Int32.ofInt 1).toNatClampNeg)]) (y := 275) (q0 := 90) F (u_M54 hAD z1.1.1 (xs (i + Int32.ofInt 1).toNatClampNeg)) (by omega) (show mKind 275 = 0 by decide +kernel) (w := 1649) (show wAt 1649 (Cond.methodLink "HalvedNamesLaw" 238 (mY 275)) = true by decide +kernel) dk_1976 (show 1 = mN 275 by decide +kernel) (show GG[90]? = some _ from rfl) rfl ⟨_, _, rfl⟩ (by simp) hm z1.1.1 (fun r2 w2 z2 => ?_)
  refine L_pop0 F dk_1979 z2.1 ?_
  exact L_goto F dk_1980 rfl (kk w2 z2.1.1 (KEP_rels (KEP_rels hR z1.2) z2.2))
theorem case_55 {b L : Nat} {xs : Nat → Int32} {ad : Nat → Nat} {i : Int32} (F : LFix D tys A p R s m args c) (hX : va_X b L xs s s.heap) (hbl : b < s.heap.size) (hbA : ¬ A b) (hin : ∀ k : Nat, k < 6 → vp_in (i + Int32.ofInt k) L) (hm : cells ≤ R.cells ∧ slots ≤ R.slots) (hAD : ∀ i : Nat, ad (1000 + i) = D.2 1000 i) (hG : GOK ad tys GG ws) (hR : RELV ws) (kk : ∀ w2 : va_W, GOK ad tys GG w2 → RELV w2 → LV p l e R s m args below meth c Q D A cells slots 2423 [(3, .int i), (2, .ref (ad 90)), (1, .ref (ad 0)), (0, .ref b)] [] w2) : LV p l e R s m args below meth c Q D A cells slots 1983 [(3, .int i), (2, .ref (ad 90)), (1, .ref (ad 0)), (0, .ref b)] [] ws := by
  refine L_al (i := 1) F dk_1983 rfl (List.Mem.tail _ (List.Mem.tail _ (List.Mem.head _))) ?_
  refine L_arg F hX hbl hbA (List.Mem.tail _ (List.Mem.tail _ (List.Mem.tail _ (List.Mem.head _)))) (List.Mem.head _) dk_1984 dk_1985 dk_1986 dk_1987 dk_1988 (hin 1 (by omega)) ?_
  refine L_arg F hX hbl hbA (List.Mem.tail _ (List.Mem.tail _ (List.Mem.tail _ (List.Mem.head _)))) (List.Mem.head _) dk_1989 dk_1990 dk_1991 dk_1992 dk_1993 (hin 2 (by omega)) ?_
  refine L_arg F hX hbl hbA (List.Mem.tail _ (List.Mem.tail _ (List.Mem.tail _ (List.Mem.head _)))) (List.Mem.head _) dk_1994 dk_1995 dk_1996 dk_1997 dk_1998 (hin 3 (by omega)) ?_
  refine L_uc (As := [.int (xs (i + Int32.ofInt 1).toNatClampNeg), .int (xs (i + Int32.ofInt 2).toNatClampNeg), .int (xs (i + Int32.ofInt 3).toNatClampNeg)]) (y := 62) (q0 := 0) F (u_X55 hAD hG (xs (i + Int32.ofInt 1).toNatClampNeg) (xs (i + Int32.ofInt 2).toNatClampNeg) (xs (i + Int32.ofInt 3).toNatClampNeg)) (by omega) (show mKind 62 = 0 by decide +kernel) (w := 1097) (show wAt 1097 (Cond.methodLink "HalvedNamesLaw" 239 (mY 62)) = true by decide +kernel) dk_1999 (show 3 = mN 62 by decide +kernel) (show GG[0]? = some _ from rfl) rfl ⟨_, _, rfl⟩ (by simp) hm hG (fun r1 w1 z1 => ?_)
  refine L_pop1 F dk_2002 z1.1 ?_
  refine L_al (i := 2) F dk_2003 rfl (List.Mem.tail _ (List.Mem.head _)) ?_
  refine L_arg F hX hbl hbA (List.Mem.tail _ (List.Mem.tail _ (List.Mem.tail _ (List.Mem.head _)))) (List.Mem.head _) dk_2004 dk_2005 dk_2006 dk_2007 dk_2008 (hin 1 (by omega)) ?_
  refine L_arg F hX hbl hbA (List.Mem.tail _ (List.Mem.tail _ (List.Mem.tail _ (List.Mem.head _)))) (List.Mem.head _) dk_2009 dk_2010 dk_2011 dk_2012 dk_2013 (hin 2 (by omega)) ?_
  refine L_arg F hX hbl hbA (List.Mem.tail _ (List.Mem.tail _ (List.Mem.tail _ (List.Mem.head _)))) (List.Mem.head _) dk_2014 dk_2015 dk_2016 dk_2017 dk_2018 (hin 3 (by omega)) ?_
  refine L_uc (As := [.int (xs (i + Int32.ofInt 1).toNatClampNeg), .int (xs (i + Int32.ofInt 2).toNatClampNeg), .int (xs (i + Int32.ofInt 3).toNatClampNeg)]) (y := 330) (q0 := 90) F (u_M55 hAD z1.1.1 (xs (i + Int32.ofInt 1).toNatClampNeg) (xs (i + Int32.ofInt 2).toNatClampNeg) (xs (i + Int32.ofInt 3).toNatClampNeg)) (by omega) (show mKind 330 = 0 by decide +kernel) (w := 1885) (show wAt 1885 (Cond.methodLink "HalvedNamesLaw" 243 (mY 330)) = true by decide +kernel) dk_2019 (show 3 = mN 330 by decide +kernel) (show GG[90]? = some _ from rfl) rfl ⟨_, _, rfl⟩ (by simp) hm z1.1.1 (fun r2 w2 z2 => ?_)
  refine L_pop1 F dk_2022 z2.1 ?_
  exact L_goto F dk_2023 rfl (kk w2 z2.1.1 (KEP_rels (KEP_rels hR z1.2) z2.2))
theorem case_56 {b L : Nat} {xs : Nat → Int32} {ad : Nat → Nat} {i : Int32} (F : LFix D tys A p R s m args c) (hX : va_X b L xs s s.heap) (hbl : b < s.heap.size) (hbA : ¬ A b) (hin : ∀ k : Nat, k < 6 → vp_in (i + Int32.ofInt k) L) (hm : cells ≤ R.cells ∧ slots ≤ R.slots) (hAD : ∀ i : Nat, ad (1000 + i) = D.2 1000 i) (hG : GOK ad tys GG ws) (hR : RELV ws) (kk : ∀ w2 : va_W, GOK ad tys GG w2 → RELV w2 → LV p l e R s m args below meth c Q D A cells slots 2423 [(3, .int i), (2, .ref (ad 90)), (1, .ref (ad 0)), (0, .ref b)] [] w2) : LV p l e R s m args below meth c Q D A cells slots 2026 [(3, .int i), (2, .ref (ad 90)), (1, .ref (ad 0)), (0, .ref b)] [] ws := by
  refine L_al (i := 1) F dk_2026 rfl (List.Mem.tail _ (List.Mem.tail _ (List.Mem.head _))) ?_
  refine L_arg F hX hbl hbA (List.Mem.tail _ (List.Mem.tail _ (List.Mem.tail _ (List.Mem.head _)))) (List.Mem.head _) dk_2027 dk_2028 dk_2029 dk_2030 dk_2031 (hin 1 (by omega)) ?_
  refine L_arg F hX hbl hbA (List.Mem.tail _ (List.Mem.tail _ (List.Mem.tail _ (List.Mem.head _)))) (List.Mem.head _) dk_2032 dk_2033 dk_2034 dk_2035 dk_2036 (hin 2 (by omega)) ?_
  refine L_arg F hX hbl hbA (List.Mem.tail _ (List.Mem.tail _ (List.Mem.tail _ (List.Mem.head _)))) (List.Mem.head _) dk_2037 dk_2038 dk_2039 dk_2040 dk_2041 (hin 3 (by omega)) ?_
  refine L_uc (As := [.int (xs (i + Int32.ofInt 1).toNatClampNeg), .int (xs (i + Int32.ofInt 2).toNatClampNeg), .int (xs (i + Int32.ofInt 3).toNatClampNeg)]) (y := 64) (q0 := 0) F (u_X56 hAD hG (xs (i + Int32.ofInt 1).toNatClampNeg) (xs (i + Int32.ofInt 2).toNatClampNeg) (xs (i + Int32.ofInt 3).toNatClampNeg)) (by omega) (show mKind 64 = 0 by decide +kernel) (w := 1122) (show wAt 1122 (Cond.methodLink "HalvedNamesLaw" 244 (mY 64)) = true by decide +kernel) dk_2042 (show 3 = mN 64 by decide +kernel) (show GG[0]? = some _ from rfl) rfl ⟨_, _, rfl⟩ (by simp) hm hG (fun r1 w1 z1 => ?_)
  refine L_pop0 F dk_2045 z1.1 ?_
  refine L_al (i := 2) F dk_2046 rfl (List.Mem.tail _ (List.Mem.head _)) ?_
  refine L_arg F hX hbl hbA (List.Mem.tail _ (List.Mem.tail _ (List.Mem.tail _ (List.Mem.head _)))) (List.Mem.head _) dk_2047 dk_2048 dk_2049 dk_2050 dk_2051 (hin 1 (by omega)) ?_
  refine L_arg F hX hbl hbA (List.Mem.tail _ (List.Mem.tail _ (List.Mem.tail _ (List.Mem.head _)))) (List.Mem.head _) dk_2052 dk_2053 dk_2054 dk_2055 dk_2056 (hin 2 (by omega)) ?_
  refine L_arg F hX hbl hbA (List.Mem.tail _ (List.Mem.tail _ (List.Mem.tail _ (List.Mem.head _)))) (List.Mem.head _) dk_2057 dk_2058 dk_2059 dk_2060 dk_2061 (hin 3 (by omega)) ?_
  refine L_uc (As := [.int (xs (i + Int32.ofInt 1).toNatClampNeg), .int (xs (i + Int32.ofInt 2).toNatClampNeg), .int (xs (i + Int32.ofInt 3).toNatClampNeg)]) (y := 333) (q0 := 90) F (u_M56 hAD z1.1.1 (xs (i + Int32.ofInt 1).toNatClampNeg) (xs (i + Int32.ofInt 2).toNatClampNeg) (xs (i + Int32.ofInt 3).toNatClampNeg)) (by omega) (show mKind 333 = 0 by decide +kernel) (w := 1902) (show wAt 1902 (Cond.methodLink "HalvedNamesLaw" 247 (mY 333)) = true by decide +kernel) dk_2062 (show 3 = mN 333 by decide +kernel) (show GG[90]? = some _ from rfl) rfl ⟨_, _, rfl⟩ (by simp) hm z1.1.1 (fun r2 w2 z2 => ?_)
  refine L_pop0 F dk_2065 z2.1 ?_
  exact L_goto F dk_2066 rfl (kk w2 z2.1.1 (KEP_rels (KEP_rels hR z1.2) z2.2))
theorem case_57 {b L : Nat} {xs : Nat → Int32} {ad : Nat → Nat} {i : Int32} (F : LFix D tys A p R s m args c) (hX : va_X b L xs s s.heap) (hbl : b < s.heap.size) (hbA : ¬ A b) (hin : ∀ k : Nat, k < 6 → vp_in (i + Int32.ofInt k) L) (hm : cells ≤ R.cells ∧ slots ≤ R.slots) (hAD : ∀ i : Nat, ad (1000 + i) = D.2 1000 i) (hG : GOK ad tys GG ws) (hR : RELV ws) (kk : ∀ w2 : va_W, GOK ad tys GG w2 → RELV w2 → LV p l e R s m args below meth c Q D A cells slots 2423 [(3, .int i), (2, .ref (ad 90)), (1, .ref (ad 0)), (0, .ref b)] [] w2) : LV p l e R s m args below meth c Q D A cells slots 2069 [(3, .int i), (2, .ref (ad 90)), (1, .ref (ad 0)), (0, .ref b)] [] ws := by
  refine L_al (i := 1) F dk_2069 rfl (List.Mem.tail _ (List.Mem.tail _ (List.Mem.head _))) ?_
  refine L_arg F hX hbl hbA (List.Mem.tail _ (List.Mem.tail _ (List.Mem.tail _ (List.Mem.head _)))) (List.Mem.head _) dk_2070 dk_2071 dk_2072 dk_2073 dk_2074 (hin 1 (by omega)) ?_
  refine L_arg F hX hbl hbA (List.Mem.tail _ (List.Mem.tail _ (List.Mem.tail _ (List.Mem.head _)))) (List.Mem.head _) dk_2075 dk_2076 dk_2077 dk_2078 dk_2079 (hin 2 (by omega)) ?_
  refine L_arg F hX hbl hbA (List.Mem.tail _ (List.Mem.tail _ (List.Mem.tail _ (List.Mem.head _)))) (List.Mem.head _) dk_2080 dk_2081 dk_2082 dk_2083 dk_2084 (hin 3 (by omega)) ?_
  refine L_arg F hX hbl hbA (List.Mem.tail _ (List.Mem.tail _ (List.Mem.tail _ (List.Mem.head _)))) (List.Mem.head _) dk_2085 dk_2086 dk_2087 dk_2088 dk_2089 (hin 4 (by omega)) ?_
  refine L_uc (As := [.int (xs (i + Int32.ofInt 1).toNatClampNeg), .int (xs (i + Int32.ofInt 2).toNatClampNeg), .int (xs (i + Int32.ofInt 3).toNatClampNeg), .int (xs (i + Int32.ofInt 4).toNatClampNeg)]) (y := 65) (q0 := 0) F (u_X57 hAD hG (xs (i + Int32.ofInt 1).toNatClampNeg) (xs (i + Int32.ofInt 2).toNatClampNeg) (xs (i + Int32.ofInt 3).toNatClampNeg) (xs (i + Int32.ofInt 4).toNatClampNeg)) (by omega) (show mKind 65 = 0 by decide +kernel) (w := 1137) (show wAt 1137 (Cond.methodLink "HalvedNamesLaw" 248 (mY 65)) = true by decide +kernel) dk_2090 (show 4 = mN 65 by decide +kernel) (show GG[0]? = some _ from rfl) rfl ⟨_, _, rfl⟩ (by simp) hm hG (fun r1 w1 z1 => ?_)
  refine L_pop0 F dk_2093 z1.1 ?_
  refine L_al (i := 2) F dk_2094 rfl (List.Mem.tail _ (List.Mem.head _)) ?_
  refine L_arg F hX hbl hbA (List.Mem.tail _ (List.Mem.tail _ (List.Mem.tail _ (List.Mem.head _)))) (List.Mem.head _) dk_2095 dk_2096 dk_2097 dk_2098 dk_2099 (hin 1 (by omega)) ?_
  refine L_arg F hX hbl hbA (List.Mem.tail _ (List.Mem.tail _ (List.Mem.tail _ (List.Mem.head _)))) (List.Mem.head _) dk_2100 dk_2101 dk_2102 dk_2103 dk_2104 (hin 2 (by omega)) ?_
  refine L_arg F hX hbl hbA (List.Mem.tail _ (List.Mem.tail _ (List.Mem.tail _ (List.Mem.head _)))) (List.Mem.head _) dk_2105 dk_2106 dk_2107 dk_2108 dk_2109 (hin 3 (by omega)) ?_
  refine L_arg F hX hbl hbA (List.Mem.tail _ (List.Mem.tail _ (List.Mem.tail _ (List.Mem.head _)))) (List.Mem.head _) dk_2110 dk_2111 dk_2112 dk_2113 dk_2114 (hin 4 (by omega)) ?_
  refine L_uc (As := [.int (xs (i + Int32.ofInt 1).toNatClampNeg), .int (xs (i + Int32.ofInt 2).toNatClampNeg), .int (xs (i + Int32.ofInt 3).toNatClampNeg), .int (xs (i + Int32.ofInt 4).toNatClampNeg)]) (y := 334) (q0 := 90) F (u_M57 hAD z1.1.1 (xs (i + Int32.ofInt 1).toNatClampNeg) (xs (i + Int32.ofInt 2).toNatClampNeg) (xs (i + Int32.ofInt 3).toNatClampNeg) (xs (i + Int32.ofInt 4).toNatClampNeg)) (by omega) (show mKind 334 = 0 by decide +kernel) (w := 1914) (show wAt 1914 (Cond.methodLink "HalvedNamesLaw" 251 (mY 334)) = true by decide +kernel) dk_2115 (show 4 = mN 334 by decide +kernel) (show GG[90]? = some _ from rfl) rfl ⟨_, _, rfl⟩ (by simp) hm z1.1.1 (fun r2 w2 z2 => ?_)
  refine L_pop0 F dk_2118 z2.1 ?_
  exact L_goto F dk_2119 rfl (kk w2 z2.1.1 (KEP_rels (KEP_rels hR z1.2) z2.2))
theorem case_58 {b L : Nat} {xs : Nat → Int32} {ad : Nat → Nat} {i : Int32} (F : LFix D tys A p R s m args c) (hX : va_X b L xs s s.heap) (hbl : b < s.heap.size) (hbA : ¬ A b) (hin : ∀ k : Nat, k < 6 → vp_in (i + Int32.ofInt k) L) (hm : cells ≤ R.cells ∧ slots ≤ R.slots) (hAD : ∀ i : Nat, ad (1000 + i) = D.2 1000 i) (hG : GOK ad tys GG ws) (hR : RELV ws) (kk : ∀ w2 : va_W, GOK ad tys GG w2 → RELV w2 → LV p l e R s m args below meth c Q D A cells slots 2423 [(3, .int i), (2, .ref (ad 90)), (1, .ref (ad 0)), (0, .ref b)] [] w2) : LV p l e R s m args below meth c Q D A cells slots 2122 [(3, .int i), (2, .ref (ad 90)), (1, .ref (ad 0)), (0, .ref b)] [] ws := by
  refine L_al (i := 1) F dk_2122 rfl (List.Mem.tail _ (List.Mem.tail _ (List.Mem.head _))) ?_
  refine L_arg F hX hbl hbA (List.Mem.tail _ (List.Mem.tail _ (List.Mem.tail _ (List.Mem.head _)))) (List.Mem.head _) dk_2123 dk_2124 dk_2125 dk_2126 dk_2127 (hin 1 (by omega)) ?_
  refine L_arg F hX hbl hbA (List.Mem.tail _ (List.Mem.tail _ (List.Mem.tail _ (List.Mem.head _)))) (List.Mem.head _) dk_2128 dk_2129 dk_2130 dk_2131 dk_2132 (hin 2 (by omega)) ?_
  refine L_arg F hX hbl hbA (List.Mem.tail _ (List.Mem.tail _ (List.Mem.tail _ (List.Mem.head _)))) (List.Mem.head _) dk_2133 dk_2134 dk_2135 dk_2136 dk_2137 (hin 3 (by omega)) ?_
  refine L_arg F hX hbl hbA (List.Mem.tail _ (List.Mem.tail _ (List.Mem.tail _ (List.Mem.head _)))) (List.Mem.head _) dk_2138 dk_2139 dk_2140 dk_2141 dk_2142 (hin 4 (by omega)) ?_
  obtain ⟨v, MID, s1, s2⟩ := pairV_teach (l := l) (D := D) (A := A) hAD hG hR (xs (i + Int32.ofInt 1).toNatClampNeg) (xs (i + Int32.ofInt 2).toNatClampNeg) (xs (i + Int32.ofInt 3).toNatClampNeg) (xs (i + Int32.ofInt 4).toNatClampNeg)
  refine L_uc (As := [.int (xs (i + Int32.ofInt 1).toNatClampNeg), .int (xs (i + Int32.ofInt 2).toNatClampNeg), .int (xs (i + Int32.ofInt 3).toNatClampNeg), .int (xs (i + Int32.ofInt 4).toNatClampNeg)]) (y := 44) (q0 := 0) F (s1) (by omega) (show mKind 44 = 0 by decide +kernel) (w := 880) (show wAt 880 (Cond.methodLink "HalvedNamesLaw" 252 (mY 44)) = true by decide +kernel) dk_2143 (show 4 = mN 44 by decide +kernel) (show GG[0]? = some _ from rfl) rfl ⟨_, _, rfl⟩ (by simp) hm hG (fun r1 w1 z1 => ?_)
  obtain ⟨rfl, hG1, K1⟩ := z1
  refine L_popI F dk_2146 ?_
  refine L_al (i := 2) F dk_2147 rfl (List.Mem.tail _ (List.Mem.head _)) ?_
  refine L_arg F hX hbl hbA (List.Mem.tail _ (List.Mem.tail _ (List.Mem.tail _ (List.Mem.head _)))) (List.Mem.head _) dk_2148 dk_2149 dk_2150 dk_2151 dk_2152 (hin 1 (by omega)) ?_
  refine L_arg F hX hbl hbA (List.Mem.tail _ (List.Mem.tail _ (List.Mem.tail _ (List.Mem.head _)))) (List.Mem.head _) dk_2153 dk_2154 dk_2155 dk_2156 dk_2157 (hin 2 (by omega)) ?_
  refine L_arg F hX hbl hbA (List.Mem.tail _ (List.Mem.tail _ (List.Mem.tail _ (List.Mem.head _)))) (List.Mem.head _) dk_2158 dk_2159 dk_2160 dk_2161 dk_2162 (hin 3 (by omega)) ?_
  refine L_arg F hX hbl hbA (List.Mem.tail _ (List.Mem.tail _ (List.Mem.tail _ (List.Mem.head _)))) (List.Mem.head _) dk_2163 dk_2164 dk_2165 dk_2166 dk_2167 (hin 4 (by omega)) ?_
  refine L_uc (As := [.int (xs (i + Int32.ofInt 1).toNatClampNeg), .int (xs (i + Int32.ofInt 2).toNatClampNeg), .int (xs (i + Int32.ofInt 3).toNatClampNeg), .int (xs (i + Int32.ofInt 4).toNatClampNeg)]) (y := 294) (q0 := 90) F (s2 w1 hG1 K1) (by omega) (show mKind 294 = 0 by decide +kernel) (w := 1741) (show wAt 1741 (Cond.methodLink "HalvedNamesLaw" 255 (mY 294)) = true by decide +kernel) dk_2168 (show 4 = mN 294 by decide +kernel) (show GG[90]? = some _ from rfl) rfl ⟨_, _, rfl⟩ (by simp) hm hG1 (fun r2 w2 z2 => ?_)
  obtain ⟨rfl, hG2, K2⟩ := z2
  refine L_popI F dk_2171 ?_
  exact L_goto F dk_2172 rfl (kk w2 hG2 K2)
theorem case_59 {b L : Nat} {xs : Nat → Int32} {ad : Nat → Nat} {i : Int32} (F : LFix D tys A p R s m args c) (hX : va_X b L xs s s.heap) (hbl : b < s.heap.size) (hbA : ¬ A b) (hin : ∀ k : Nat, k < 6 → vp_in (i + Int32.ofInt k) L) (hm : cells ≤ R.cells ∧ slots ≤ R.slots) (hAD : ∀ i : Nat, ad (1000 + i) = D.2 1000 i) (hG : GOK ad tys GG ws) (hR : RELV ws) (kk : ∀ w2 : va_W, GOK ad tys GG w2 → RELV w2 → LV p l e R s m args below meth c Q D A cells slots 2423 [(3, .int i), (2, .ref (ad 90)), (1, .ref (ad 0)), (0, .ref b)] [] w2) : LV p l e R s m args below meth c Q D A cells slots 2175 [(3, .int i), (2, .ref (ad 90)), (1, .ref (ad 0)), (0, .ref b)] [] ws := by
  refine L_al (i := 1) F dk_2175 rfl (List.Mem.tail _ (List.Mem.tail _ (List.Mem.head _))) ?_
  refine L_arg F hX hbl hbA (List.Mem.tail _ (List.Mem.tail _ (List.Mem.tail _ (List.Mem.head _)))) (List.Mem.head _) dk_2176 dk_2177 dk_2178 dk_2179 dk_2180 (hin 1 (by omega)) ?_
  refine L_uc (As := [.int (xs (i + Int32.ofInt 1).toNatClampNeg)]) (y := 66) (q0 := 0) F (u_X59 hAD hG (xs (i + Int32.ofInt 1).toNatClampNeg)) (by omega) (show mKind 66 = 0 by decide +kernel) (w := 1142) (show wAt 1142 (Cond.methodLink "HalvedNamesLaw" 256 (mY 66)) = true by decide +kernel) dk_2181 (show 1 = mN 66 by decide +kernel) (show GG[0]? = some _ from rfl) rfl ⟨_, _, rfl⟩ (by simp) hm hG (fun r1 w1 z1 => ?_)
  refine L_pop0 F dk_2184 z1.1 ?_
  refine L_al (i := 2) F dk_2185 rfl (List.Mem.tail _ (List.Mem.head _)) ?_
  refine L_arg F hX hbl hbA (List.Mem.tail _ (List.Mem.tail _ (List.Mem.tail _ (List.Mem.head _)))) (List.Mem.head _) dk_2186 dk_2187 dk_2188 dk_2189 dk_2190 (hin 1 (by omega)) ?_
  refine L_uc (As := [.int (xs (i + Int32.ofInt 1).toNatClampNeg)]) (y := 335) (q0 := 90) F (u_M59 hAD z1.1.1 (xs (i + Int32.ofInt 1).toNatClampNeg)) (by omega) (show mKind 335 = 0 by decide +kernel) (w := 1919) (show wAt 1919 (Cond.methodLink "HalvedNamesLaw" 259 (mY 335)) = true by decide +kernel) dk_2191 (show 1 = mN 335 by decide +kernel) (show GG[90]? = some _ from rfl) rfl ⟨_, _, rfl⟩ (by simp) hm z1.1.1 (fun r2 w2 z2 => ?_)
  refine L_pop0 F dk_2194 z2.1 ?_
  exact L_goto F dk_2195 rfl (kk w2 z2.1.1 (KEP_rels (KEP_rels hR z1.2) z2.2))
theorem case_60 {b L : Nat} {xs : Nat → Int32} {ad : Nat → Nat} {i : Int32} (F : LFix D tys A p R s m args c) (hX : va_X b L xs s s.heap) (hbl : b < s.heap.size) (hbA : ¬ A b) (hin : ∀ k : Nat, k < 6 → vp_in (i + Int32.ofInt k) L) (hm : cells ≤ R.cells ∧ slots ≤ R.slots) (hAD : ∀ i : Nat, ad (1000 + i) = D.2 1000 i) (hG : GOK ad tys GG ws) (hR : RELV ws) (kk : ∀ w2 : va_W, GOK ad tys GG w2 → RELV w2 → LV p l e R s m args below meth c Q D A cells slots 2423 [(3, .int i), (2, .ref (ad 90)), (1, .ref (ad 0)), (0, .ref b)] [] w2) : LV p l e R s m args below meth c Q D A cells slots 2198 [(3, .int i), (2, .ref (ad 90)), (1, .ref (ad 0)), (0, .ref b)] [] ws := by
  refine L_al (i := 1) F dk_2198 rfl (List.Mem.tail _ (List.Mem.tail _ (List.Mem.head _))) ?_
  refine L_arg F hX hbl hbA (List.Mem.tail _ (List.Mem.tail _ (List.Mem.tail _ (List.Mem.head _)))) (List.Mem.head _) dk_2199 dk_2200 dk_2201 dk_2202 dk_2203 (hin 1 (by omega)) ?_
  obtain ⟨v, MID, s1, s2⟩ := pairV_image (l := l) (D := D) (A := A) hAD hG hR (xs (i + Int32.ofInt 1).toNatClampNeg)
  refine L_uc (As := [.int (xs (i + Int32.ofInt 1).toNatClampNeg)]) (y := 67) (q0 := 0) F (s1) (by omega) (show mKind 67 = 0 by decide +kernel) (w := 1151) (show wAt 1151 (Cond.methodLink "HalvedNamesLaw" 260 (mY 67)) = true by decide +kernel) dk_2204 (show 1 = mN 67 by decide +kernel) (show GG[0]? = some _ from rfl) rfl ⟨_, _, rfl⟩ (by simp) hm hG (fun r1 w1 z1 => ?_)
  obtain ⟨rfl, hG1, K1⟩ := z1
  refine L_popI F dk_2207 ?_
  refine L_al (i := 2) F dk_2208 rfl (List.Mem.tail _ (List.Mem.head _)) ?_
  refine L_arg F hX hbl hbA (List.Mem.tail _ (List.Mem.tail _ (List.Mem.tail _ (List.Mem.head _)))) (List.Mem.head _) dk_2209 dk_2210 dk_2211 dk_2212 dk_2213 (hin 1 (by omega)) ?_
  refine L_uc (As := [.int (xs (i + Int32.ofInt 1).toNatClampNeg)]) (y := 196) (q0 := 90) F (s2 w1 hG1 K1) (by omega) (show mKind 196 = 0 by decide +kernel) (w := 1316) (show wAt 1316 (Cond.methodLink "HalvedNamesLaw" 263 (mY 196)) = true by decide +kernel) dk_2214 (show 1 = mN 196 by decide +kernel) (show GG[90]? = some _ from rfl) rfl ⟨_, _, rfl⟩ (by simp) hm hG1 (fun r2 w2 z2 => ?_)
  obtain ⟨rfl, hG2, K2⟩ := z2
  refine L_popI F dk_2217 ?_
  exact L_goto F dk_2218 rfl (kk w2 hG2 K2)
theorem case_61 {b L : Nat} {xs : Nat → Int32} {ad : Nat → Nat} {i : Int32} (F : LFix D tys A p R s m args c) (hX : va_X b L xs s s.heap) (hbl : b < s.heap.size) (hbA : ¬ A b) (hin : ∀ k : Nat, k < 6 → vp_in (i + Int32.ofInt k) L) (hm : cells ≤ R.cells ∧ slots ≤ R.slots) (hAD : ∀ i : Nat, ad (1000 + i) = D.2 1000 i) (hG : GOK ad tys GG ws) (hR : RELV ws) (kk : ∀ w2 : va_W, GOK ad tys GG w2 → RELV w2 → LV p l e R s m args below meth c Q D A cells slots 2423 [(3, .int i), (2, .ref (ad 90)), (1, .ref (ad 0)), (0, .ref b)] [] w2) : LV p l e R s m args below meth c Q D A cells slots 2221 [(3, .int i), (2, .ref (ad 90)), (1, .ref (ad 0)), (0, .ref b)] [] ws := by
  refine L_al (i := 1) F dk_2221 rfl (List.Mem.tail _ (List.Mem.tail _ (List.Mem.head _))) ?_
  refine L_arg F hX hbl hbA (List.Mem.tail _ (List.Mem.tail _ (List.Mem.tail _ (List.Mem.head _)))) (List.Mem.head _) dk_2222 dk_2223 dk_2224 dk_2225 dk_2226 (hin 1 (by omega)) ?_
  obtain ⟨v, MID, s1, s2⟩ := pairV_back (l := l) (D := D) (A := A) hAD hG hR (xs (i + Int32.ofInt 1).toNatClampNeg)
  refine L_uc (As := [.int (xs (i + Int32.ofInt 1).toNatClampNeg)]) (y := 68) (q0 := 0) F (s1) (by omega) (show mKind 68 = 0 by decide +kernel) (w := 1159) (show wAt 1159 (Cond.methodLink "HalvedNamesLaw" 264 (mY 68)) = true by decide +kernel) dk_2227 (show 1 = mN 68 by decide +kernel) (show GG[0]? = some _ from rfl) rfl ⟨_, _, rfl⟩ (by simp) hm hG (fun r1 w1 z1 => ?_)
  obtain ⟨rfl, hG1, K1⟩ := z1
  refine L_popI F dk_2230 ?_
  refine L_al (i := 2) F dk_2231 rfl (List.Mem.tail _ (List.Mem.head _)) ?_
  refine L_arg F hX hbl hbA (List.Mem.tail _ (List.Mem.tail _ (List.Mem.tail _ (List.Mem.head _)))) (List.Mem.head _) dk_2232 dk_2233 dk_2234 dk_2235 dk_2236 (hin 1 (by omega)) ?_
  refine L_uc (As := [.int (xs (i + Int32.ofInt 1).toNatClampNeg)]) (y := 197) (q0 := 90) F (s2 w1 hG1 K1) (by omega) (show mKind 197 = 0 by decide +kernel) (w := 1324) (show wAt 1324 (Cond.methodLink "HalvedNamesLaw" 267 (mY 197)) = true by decide +kernel) dk_2237 (show 1 = mN 197 by decide +kernel) (show GG[90]? = some _ from rfl) rfl ⟨_, _, rfl⟩ (by simp) hm hG1 (fun r2 w2 z2 => ?_)
  obtain ⟨rfl, hG2, K2⟩ := z2
  refine L_popI F dk_2240 ?_
  exact L_goto F dk_2241 rfl (kk w2 hG2 K2)
theorem case_62 {b L : Nat} {xs : Nat → Int32} {ad : Nat → Nat} {i : Int32} (F : LFix D tys A p R s m args c) (hX : va_X b L xs s s.heap) (hbl : b < s.heap.size) (hbA : ¬ A b) (hin : ∀ k : Nat, k < 6 → vp_in (i + Int32.ofInt k) L) (hm : cells ≤ R.cells ∧ slots ≤ R.slots) (hAD : ∀ i : Nat, ad (1000 + i) = D.2 1000 i) (hG : GOK ad tys GG ws) (hR : RELV ws) (kk : ∀ w2 : va_W, GOK ad tys GG w2 → RELV w2 → LV p l e R s m args below meth c Q D A cells slots 2423 [(3, .int i), (2, .ref (ad 90)), (1, .ref (ad 0)), (0, .ref b)] [] w2) : LV p l e R s m args below meth c Q D A cells slots 2244 [(3, .int i), (2, .ref (ad 90)), (1, .ref (ad 0)), (0, .ref b)] [] ws := by
  refine L_al (i := 1) F dk_2244 rfl (List.Mem.tail _ (List.Mem.tail _ (List.Mem.head _))) ?_
  refine L_arg F hX hbl hbA (List.Mem.tail _ (List.Mem.tail _ (List.Mem.tail _ (List.Mem.head _)))) (List.Mem.head _) dk_2245 dk_2246 dk_2247 dk_2248 dk_2249 (hin 1 (by omega)) ?_
  refine L_arg F hX hbl hbA (List.Mem.tail _ (List.Mem.tail _ (List.Mem.tail _ (List.Mem.head _)))) (List.Mem.head _) dk_2250 dk_2251 dk_2252 dk_2253 dk_2254 (hin 2 (by omega)) ?_
  refine L_arg F hX hbl hbA (List.Mem.tail _ (List.Mem.tail _ (List.Mem.tail _ (List.Mem.head _)))) (List.Mem.head _) dk_2255 dk_2256 dk_2257 dk_2258 dk_2259 (hin 3 (by omega)) ?_
  obtain ⟨v, MID, s1, s2⟩ := pairV_row (l := l) (D := D) (A := A) hAD hG hR (xs (i + Int32.ofInt 1).toNatClampNeg) (xs (i + Int32.ofInt 2).toNatClampNeg) (xs (i + Int32.ofInt 3).toNatClampNeg)
  refine L_uc (As := [.int (xs (i + Int32.ofInt 1).toNatClampNeg), .int (xs (i + Int32.ofInt 2).toNatClampNeg), .int (xs (i + Int32.ofInt 3).toNatClampNeg)]) (y := 70) (q0 := 0) F (s1) (by omega) (show mKind 70 = 0 by decide +kernel) (w := 1163) (show wAt 1163 (Cond.methodLink "HalvedNamesLaw" 268 (mY 70)) = true by decide +kernel) dk_2260 (show 3 = mN 70 by decide +kernel) (show GG[0]? = some _ from rfl) rfl ⟨_, _, rfl⟩ (by simp) hm hG (fun r1 w1 z1 => ?_)
  obtain ⟨rfl, hG1, K1⟩ := z1
  refine L_popI F dk_2263 ?_
  refine L_al (i := 2) F dk_2264 rfl (List.Mem.tail _ (List.Mem.head _)) ?_
  refine L_arg F hX hbl hbA (List.Mem.tail _ (List.Mem.tail _ (List.Mem.tail _ (List.Mem.head _)))) (List.Mem.head _) dk_2265 dk_2266 dk_2267 dk_2268 dk_2269 (hin 1 (by omega)) ?_
  refine L_arg F hX hbl hbA (List.Mem.tail _ (List.Mem.tail _ (List.Mem.tail _ (List.Mem.head _)))) (List.Mem.head _) dk_2270 dk_2271 dk_2272 dk_2273 dk_2274 (hin 2 (by omega)) ?_
  refine L_arg F hX hbl hbA (List.Mem.tail _ (List.Mem.tail _ (List.Mem.tail _ (List.Mem.head _)))) (List.Mem.head _) dk_2275 dk_2276 dk_2277 dk_2278 dk_2279 (hin 3 (by omega)) ?_
  refine L_uc (As := [.int (xs (i + Int32.ofInt 1).toNatClampNeg), .int (xs (i + Int32.ofInt 2).toNatClampNeg), .int (xs (i + Int32.ofInt 3).toNatClampNeg)]) (y := 338) (q0 := 90) F (s2 w1 hG1 K1) (by omega) (show mKind 338 = 0 by decide +kernel) (w := 1923) (show wAt 1923 (Cond.methodLink "HalvedNamesLaw" 271 (mY 338)) = true by decide +kernel) dk_2280 (show 3 = mN 338 by decide +kernel) (show GG[90]? = some _ from rfl) rfl ⟨_, _, rfl⟩ (by simp) hm hG1 (fun r2 w2 z2 => ?_)
  obtain ⟨rfl, hG2, K2⟩ := z2
  refine L_popI F dk_2283 ?_
  exact L_goto F dk_2284 rfl (kk w2 hG2 K2)
theorem case_63 {b L : Nat} {xs : Nat → Int32} {ad : Nat → Nat} {i : Int32} (F : LFix D tys A p R s m args c) (hX : va_X b L xs s s.heap) (hbl : b < s.heap.size) (hbA : ¬ A b) (hin : ∀ k : Nat, k < 6 → vp_in (i + Int32.ofInt k) L) (hm : cells ≤ R.cells ∧ slots ≤ R.slots) (hAD : ∀ i : Nat, ad (1000 + i) = D.2 1000 i) (hG : GOK ad tys GG ws) (hR : RELV ws) (kk : ∀ w2 : va_W, GOK ad tys GG w2 → RELV w2 → LV p l e R s m args below meth c Q D A cells slots 2423 [(3, .int i), (2, .ref (ad 90)), (1, .ref (ad 0)), (0, .ref b)] [] w2) : LV p l e R s m args below meth c Q D A cells slots 2287 [(3, .int i), (2, .ref (ad 90)), (1, .ref (ad 0)), (0, .ref b)] [] ws := by
  refine L_al (i := 1) F dk_2287 rfl (List.Mem.tail _ (List.Mem.tail _ (List.Mem.head _))) ?_
  refine L_arg F hX hbl hbA (List.Mem.tail _ (List.Mem.tail _ (List.Mem.tail _ (List.Mem.head _)))) (List.Mem.head _) dk_2288 dk_2289 dk_2290 dk_2291 dk_2292 (hin 1 (by omega)) ?_
  refine L_arg F hX hbl hbA (List.Mem.tail _ (List.Mem.tail _ (List.Mem.tail _ (List.Mem.head _)))) (List.Mem.head _) dk_2293 dk_2294 dk_2295 dk_2296 dk_2297 (hin 2 (by omega)) ?_
  refine L_arg F hX hbl hbA (List.Mem.tail _ (List.Mem.tail _ (List.Mem.tail _ (List.Mem.head _)))) (List.Mem.head _) dk_2298 dk_2299 dk_2300 dk_2301 dk_2302 (hin 3 (by omega)) ?_
  refine L_i2l F dk_2303 ?_
  refine L_bp (v := 32) F dk_2304 (by decide) ?_
  refine L_lshl F dk_2306 ?_
  refine L_arg F hX hbl hbA (List.Mem.tail _ (List.Mem.tail _ (List.Mem.tail _ (List.Mem.head _)))) (List.Mem.head _) dk_2307 dk_2308 dk_2309 dk_2310 dk_2311 (hin 4 (by omega)) ?_
  refine L_i2l F dk_2312 ?_
  refine L_ldc2 F (w := 1938) (show wAt 1938 (Cond.constantLong "HalvedNamesLaw" 272 4294967295) = true by decide +kernel) dk_2313 ?_
  refine L_land F dk_2316 ?_
  refine L_lor F dk_2317 ?_
  obtain ⟨v, MID, s1, s2⟩ := pairV_write (l := l) (D := D) (A := A) hAD hG hR (xs (i + Int32.ofInt 1).toNatClampNeg) (xs (i + Int32.ofInt 2).toNatClampNeg) (((xs (i + Int32.ofInt 3).toNatClampNeg).toInt64 <<< ((32 : Int32).toInt64 &&& 63) ||| ((xs (i + Int32.ofInt 4).toNatClampNeg).toInt64 &&& 4294967295)))
  refine L_uc (As := [.int (xs (i + Int32.ofInt 1).toNatClampNeg), .int (xs (i + Int32.ofInt 2).toNatClampNeg), .long (((xs (i + Int32.ofInt 3).toNatClampNeg).toInt64 <<< ((32 : Int32).toInt64 &&& 63) ||| ((xs (i + Int32.ofInt 4).toNatClampNeg).toInt64 &&& 4294967295)))]) (y := 71) (q0 := 0) F (s1) (by omega) (show mKind 71 = 0 by decide +kernel) (w := 1183) (show wAt 1183 (Cond.methodLink "HalvedNamesLaw" 274 (mY 71)) = true by decide +kernel) dk_2318 (show 3 = mN 71 by decide +kernel) (show GG[0]? = some _ from rfl) rfl ⟨_, _, rfl⟩ (by simp) hm hG (fun r1 w1 z1 => ?_)
  obtain ⟨rfl, hG1, K1⟩ := z1
  refine L_popI F dk_2321 ?_
  refine L_al (i := 2) F dk_2322 rfl (List.Mem.tail _ (List.Mem.head _)) ?_
  refine L_arg F hX hbl hbA (List.Mem.tail _ (List.Mem.tail _ (List.Mem.tail _ (List.Mem.head _)))) (List.Mem.head _) dk_2323 dk_2324 dk_2325 dk_2326 dk_2327 (hin 1 (by omega)) ?_
  refine L_arg F hX hbl hbA (List.Mem.tail _ (List.Mem.tail _ (List.Mem.tail _ (List.Mem.head _)))) (List.Mem.head _) dk_2328 dk_2329 dk_2330 dk_2331 dk_2332 (hin 2 (by omega)) ?_
  refine L_arg F hX hbl hbA (List.Mem.tail _ (List.Mem.tail _ (List.Mem.tail _ (List.Mem.head _)))) (List.Mem.head _) dk_2333 dk_2334 dk_2335 dk_2336 dk_2337 (hin 3 (by omega)) ?_
  refine L_i2l F dk_2338 ?_
  refine L_bp (v := 32) F dk_2339 (by decide) ?_
  refine L_lshl F dk_2341 ?_
  refine L_arg F hX hbl hbA (List.Mem.tail _ (List.Mem.tail _ (List.Mem.tail _ (List.Mem.head _)))) (List.Mem.head _) dk_2342 dk_2343 dk_2344 dk_2345 dk_2346 (hin 4 (by omega)) ?_
  refine L_i2l F dk_2347 ?_
  refine L_ldc2 F (w := 1938) (show wAt 1938 (Cond.constantLong "HalvedNamesLaw" 272 4294967295) = true by decide +kernel) dk_2348 ?_
  refine L_land F dk_2351 ?_
  refine L_lor F dk_2352 ?_
  refine L_uc (As := [.int (xs (i + Int32.ofInt 1).toNatClampNeg), .int (xs (i + Int32.ofInt 2).toNatClampNeg), .long (((xs (i + Int32.ofInt 3).toNatClampNeg).toInt64 <<< ((32 : Int32).toInt64 &&& 63) ||| ((xs (i + Int32.ofInt 4).toNatClampNeg).toInt64 &&& 4294967295)))]) (y := 339) (q0 := 90) F (s2 w1 hG1 K1) (by omega) (show mKind 339 = 0 by decide +kernel) (w := 1927) (show wAt 1927 (Cond.methodLink "HalvedNamesLaw" 278 (mY 339)) = true by decide +kernel) dk_2353 (show 3 = mN 339 by decide +kernel) (show GG[90]? = some _ from rfl) rfl ⟨_, _, rfl⟩ (by simp) hm hG1 (fun r2 w2 z2 => ?_)
  obtain ⟨rfl, hG2, K2⟩ := z2
  refine L_popI F dk_2356 ?_
  exact L_goto F dk_2357 rfl (kk w2 hG2 K2)
theorem case_64 {b L : Nat} {xs : Nat → Int32} {ad : Nat → Nat} {i : Int32} (F : LFix D tys A p R s m args c) (hX : va_X b L xs s s.heap) (hbl : b < s.heap.size) (hbA : ¬ A b) (hin : ∀ k : Nat, k < 6 → vp_in (i + Int32.ofInt k) L) (hm : cells ≤ R.cells ∧ slots ≤ R.slots) (hAD : ∀ i : Nat, ad (1000 + i) = D.2 1000 i) (hG : GOK ad tys GG ws) (hR : RELV ws) (kk : ∀ w2 : va_W, GOK ad tys GG w2 → RELV w2 → LV p l e R s m args below meth c Q D A cells slots 2423 [(3, .int i), (2, .ref (ad 90)), (1, .ref (ad 0)), (0, .ref b)] [] w2) : LV p l e R s m args below meth c Q D A cells slots 2360 [(3, .int i), (2, .ref (ad 90)), (1, .ref (ad 0)), (0, .ref b)] [] ws := by
  refine L_al (i := 1) F dk_2360 rfl (List.Mem.tail _ (List.Mem.tail _ (List.Mem.head _))) ?_
  refine L_arg F hX hbl hbA (List.Mem.tail _ (List.Mem.tail _ (List.Mem.tail _ (List.Mem.head _)))) (List.Mem.head _) dk_2361 dk_2362 dk_2363 dk_2364 dk_2365 (hin 1 (by omega)) ?_
  refine L_arg F hX hbl hbA (List.Mem.tail _ (List.Mem.tail _ (List.Mem.tail _ (List.Mem.head _)))) (List.Mem.head _) dk_2366 dk_2367 dk_2368 dk_2369 dk_2370 (hin 2 (by omega)) ?_
  refine L_arg F hX hbl hbA (List.Mem.tail _ (List.Mem.tail _ (List.Mem.tail _ (List.Mem.head _)))) (List.Mem.head _) dk_2371 dk_2372 dk_2373 dk_2374 dk_2375 (hin 3 (by omega)) ?_
  refine L_arg F hX hbl hbA (List.Mem.tail _ (List.Mem.tail _ (List.Mem.tail _ (List.Mem.head _)))) (List.Mem.head _) dk_2376 dk_2377 dk_2378 dk_2379 dk_2380 (hin 4 (by omega)) ?_
  refine L_arg F hX hbl hbA (List.Mem.tail _ (List.Mem.tail _ (List.Mem.tail _ (List.Mem.head _)))) (List.Mem.head _) dk_2381 dk_2382 dk_2383 dk_2384 dk_2385 (hin 5 (by omega)) ?_
  obtain ⟨v, MID, s1, s2⟩ := pairV_paste (l := l) (D := D) (A := A) hAD hG hR (xs (i + Int32.ofInt 1).toNatClampNeg) (xs (i + Int32.ofInt 2).toNatClampNeg) (xs (i + Int32.ofInt 3).toNatClampNeg) (xs (i + Int32.ofInt 4).toNatClampNeg) (xs (i + Int32.ofInt 5).toNatClampNeg)
  refine L_uc (As := [.int (xs (i + Int32.ofInt 1).toNatClampNeg), .int (xs (i + Int32.ofInt 2).toNatClampNeg), .int (xs (i + Int32.ofInt 3).toNatClampNeg), .int (xs (i + Int32.ofInt 4).toNatClampNeg), .int (xs (i + Int32.ofInt 5).toNatClampNeg)]) (y := 72) (q0 := 0) F (s1) (by omega) (show mKind 72 = 0 by decide +kernel) (w := 1188) (show wAt 1188 (Cond.methodLink "HalvedNamesLaw" 279 (mY 72)) = true by decide +kernel) dk_2386 (show 5 = mN 72 by decide +kernel) (show GG[0]? = some _ from rfl) rfl ⟨_, _, rfl⟩ (by simp) hm hG (fun r1 w1 z1 => ?_)
  obtain ⟨rfl, hG1, K1⟩ := z1
  refine L_popI F dk_2389 ?_
  refine L_al (i := 2) F dk_2390 rfl (List.Mem.tail _ (List.Mem.head _)) ?_
  refine L_arg F hX hbl hbA (List.Mem.tail _ (List.Mem.tail _ (List.Mem.tail _ (List.Mem.head _)))) (List.Mem.head _) dk_2391 dk_2392 dk_2393 dk_2394 dk_2395 (hin 1 (by omega)) ?_
  refine L_arg F hX hbl hbA (List.Mem.tail _ (List.Mem.tail _ (List.Mem.tail _ (List.Mem.head _)))) (List.Mem.head _) dk_2396 dk_2397 dk_2398 dk_2399 dk_2400 (hin 2 (by omega)) ?_
  refine L_arg F hX hbl hbA (List.Mem.tail _ (List.Mem.tail _ (List.Mem.tail _ (List.Mem.head _)))) (List.Mem.head _) dk_2401 dk_2402 dk_2403 dk_2404 dk_2405 (hin 3 (by omega)) ?_
  refine L_arg F hX hbl hbA (List.Mem.tail _ (List.Mem.tail _ (List.Mem.tail _ (List.Mem.head _)))) (List.Mem.head _) dk_2406 dk_2407 dk_2408 dk_2409 dk_2410 (hin 4 (by omega)) ?_
  refine L_arg F hX hbl hbA (List.Mem.tail _ (List.Mem.tail _ (List.Mem.tail _ (List.Mem.head _)))) (List.Mem.head _) dk_2411 dk_2412 dk_2413 dk_2414 dk_2415 (hin 5 (by omega)) ?_
  refine L_uc (As := [.int (xs (i + Int32.ofInt 1).toNatClampNeg), .int (xs (i + Int32.ofInt 2).toNatClampNeg), .int (xs (i + Int32.ofInt 3).toNatClampNeg), .int (xs (i + Int32.ofInt 4).toNatClampNeg), .int (xs (i + Int32.ofInt 5).toNatClampNeg)]) (y := 340) (q0 := 90) F (s2 w1 hG1 K1) (by omega) (show mKind 340 = 0 by decide +kernel) (w := 1934) (show wAt 1934 (Cond.methodLink "HalvedNamesLaw" 282 (mY 340)) = true by decide +kernel) dk_2416 (show 5 = mN 340 by decide +kernel) (show GG[90]? = some _ from rfl) rfl ⟨_, _, rfl⟩ (by simp) hm hG1 (fun r2 w2 z2 => ?_)
  obtain ⟨rfl, hG2, K2⟩ := z2
  refine L_popI F dk_2419 ?_
  exact L_goto F dk_2420 rfl (kk w2 hG2 K2)
end CASES4
