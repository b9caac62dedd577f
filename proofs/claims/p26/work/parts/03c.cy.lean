section
noncomputable def kyD_h0 (k : Nat) : String := (bqT (Nat.ble 4 k) (bqT (Nat.ble 6 k) (bqT (Nat.ble 7 k) "(III)J" "(IIII)I") (bqT (Nat.ble 5 k) "(III)I" "(II)I")) (bqT (Nat.ble 2 k) (bqT (Nat.ble 3 k) "()I" "(I)I") (bqT (Nat.ble 1 k) "(IIIII)I" "()V")))
noncomputable def kyD_h1 (k : Nat) : String := (bqT (Nat.ble 12 k) (bqT (Nat.ble 14 k) (bqT (Nat.ble 15 k) "(LHalvedNames$Hill;I)I" "(LHalvedNames$Hill;LHalvedNames$Story;I)I") (bqT (Nat.ble 13 k) "(LHalvedNames$Hill;LHalvedNames$Story;)I" "(LHalvedNames$Hill;LHalvedNames$Story;I)V")) (bqT (Nat.ble 10 k) (bqT (Nat.ble 11 k) "(LHalvedNames$Hill;LHalvedNames$Story;II)I" "(II)Z") (bqT (Nat.ble 9 k) "(IIJ)I" "(I)LHalvedNames$Hill;")))
noncomputable def kyD_h2 (k : Nat) : String := (bqT (Nat.ble 20 k) (bqT (Nat.ble 22 k) (bqT (Nat.ble 23 k) "(I)Z" "()Z") (bqT (Nat.ble 21 k) "(LHalvedNames$Hill;J)V" "(LHalvedNames$Hill;III)J")) (bqT (Nat.ble 18 k) (bqT (Nat.ble 19 k) "(LHalvedNames$Hill;III)Z" "(LHalvedNames$Hill;I)Z") (bqT (Nat.ble 17 k) "(LHalvedNames$Hill;II)I" "(LHalvedNames$Hill;)V")))
noncomputable def kyD_h3 (k : Nat) : String := (bqT (Nat.ble 28 k) (bqT (Nat.ble 30 k) (bqT (Nat.ble 31 k) "(LHalvedNames$Hill;)I" "(LHalvedNames$Hill;II)Z") (bqT (Nat.ble 29 k) "(LHalvedNames$Hill;LHalvedNames$Slots;I)Z" "(LHalvedNames$Slots;III)I")) (bqT (Nat.ble 26 k) (bqT (Nat.ble 27 k) "(LHalvedNames$Hill;LHalvedNames$Slots;II)I" "(LHalvedNames$Hill;ILHalvedNames$Slots;I)Z") (bqT (Nat.ble 25 k) "(LHalvedNames$Hill;LHalvedNames$Slots;I)I" "(IIII)V")))
noncomputable def kyD_h4 (k : Nat) : String := (bqT (Nat.ble 36 k) (bqT (Nat.ble 38 k) (bqT (Nat.ble 39 k) "([I[I)V" "([II)V") (bqT (Nat.ble 37 k) "([III)V" "([II)I")) (bqT (Nat.ble 34 k) (bqT (Nat.ble 35 k) "(I)V" "(Ljava/lang/String;)V") (bqT (Nat.ble 33 k) "(II)V" "(LHalvedNames$Hill;I)V")))
noncomputable def kyD_h5 (k : Nat) : String := (bqT (Nat.ble 44 k) (bqT (Nat.ble 46 k) (bqT (Nat.ble 47 k) "(LHalvedNames$Hill;LHalvedNames$Course;)V" "(IIIII)V") (bqT (Nat.ble 45 k) "(III)Z" "(JI)J")) (bqT (Nat.ble 42 k) (bqT (Nat.ble 43 k) "(IIJ)V" "(III)V") (bqT (Nat.ble 41 k) "(JJ)J" "(II)J")))
noncomputable def kyD_h6 (k : Nat) : String := (bqT (Nat.ble 52 k) (bqT (Nat.ble 54 k) (bqT (Nat.ble 55 k) "(J)V" "(IZ)I") (bqT (Nat.ble 53 k) "(Ljava/lang/String;II)I" "(J)Z")) (bqT (Nat.ble 50 k) (bqT (Nat.ble 51 k) "(JJJ)Z" "(Ljava/lang/String;)Z") (bqT (Nat.ble 49 k) "(LHalvedNames$Course;I)V" "(LHalvedNames$Hill;LHalvedNames$Course;I)V")))
noncomputable def kyD_h7 (k : Nat) : String := (bqT (Nat.ble 58 k) (bqT (Nat.ble 59 k) "(IILjava/util/function/BiFunction;)I" "([BI)C") (bqT (Nat.ble 57 k) "()B" "(I)C"))
noncomputable def kyD (k : Nat) : String := (bqT (Nat.ble 32 k) (bqT (Nat.ble 48 k) (bqT (Nat.ble 56 k) (kyD_h7 k) (kyD_h6 k)) (bqT (Nat.ble 40 k) (kyD_h5 k) (kyD_h4 k))) (bqT (Nat.ble 16 k) (bqT (Nat.ble 24 k) (kyD_h3 k) (kyD_h2 k)) (bqT (Nat.ble 8 k) (kyD_h1 k) (kyD_h0 k))))
noncomputable def kyN_h0 (k : Nat) : Nat := (bqT (Nat.ble 4 k) (bqT (Nat.ble 6 k) (bqT (Nat.ble 7 k) 3 4) (bqT (Nat.ble 5 k) 3 2)) (bqT (Nat.ble 2 k) (bqT (Nat.ble 3 k) 0 1) (bqT (Nat.ble 1 k) 5 0)))
noncomputable def kyN_h1 (k : Nat) : Nat := (bqT (Nat.ble 12 k) (bqT (Nat.ble 14 k) (bqT (Nat.ble 15 k) 2 3) (bqT (Nat.ble 13 k) 2 3)) (bqT (Nat.ble 10 k) (bqT (Nat.ble 11 k) 4 2) (bqT (Nat.ble 9 k) 3 1)))
noncomputable def kyN_h2 (k : Nat) : Nat := (bqT (Nat.ble 20 k) (bqT (Nat.ble 22 k) (bqT (Nat.ble 23 k) 1 0) (bqT (Nat.ble 21 k) 2 4)) (bqT (Nat.ble 18 k) (bqT (Nat.ble 19 k) 4 2) (bqT (Nat.ble 17 k) 3 1)))
noncomputable def kyN_h3 (k : Nat) : Nat := (bqT (Nat.ble 28 k) (bqT (Nat.ble 30 k) (bqT (Nat.ble 31 k) 1 3) (bqT (Nat.ble 29 k) 3 4)) (bqT (Nat.ble 26 k) (bqT (Nat.ble 27 k) 4 4) (bqT (Nat.ble 25 k) 3 4)))
noncomputable def kyN_h4 (k : Nat) : Nat := (bqT (Nat.ble 36 k) (bqT (Nat.ble 38 k) (bqT (Nat.ble 39 k) 2 2) (bqT (Nat.ble 37 k) 3 2)) (bqT (Nat.ble 34 k) (bqT (Nat.ble 35 k) 1 1) (bqT (Nat.ble 33 k) 2 2)))
noncomputable def kyN_h5 (k : Nat) : Nat := (bqT (Nat.ble 44 k) (bqT (Nat.ble 46 k) (bqT (Nat.ble 47 k) 2 5) (bqT (Nat.ble 45 k) 3 2)) (bqT (Nat.ble 42 k) (bqT (Nat.ble 43 k) 3 3) (bqT (Nat.ble 41 k) 2 2)))
noncomputable def kyN_h6 (k : Nat) : Nat := (bqT (Nat.ble 52 k) (bqT (Nat.ble 54 k) (bqT (Nat.ble 55 k) 1 2) (bqT (Nat.ble 53 k) 3 1)) (bqT (Nat.ble 50 k) (bqT (Nat.ble 51 k) 3 1) (bqT (Nat.ble 49 k) 2 3)))
noncomputable def kyN_h7 (k : Nat) : Nat := (bqT (Nat.ble 58 k) (bqT (Nat.ble 59 k) 3 2) (bqT (Nat.ble 57 k) 0 1))
noncomputable def kyN (k : Nat) : Nat := (bqT (Nat.ble 32 k) (bqT (Nat.ble 48 k) (bqT (Nat.ble 56 k) (kyN_h7 k) (kyN_h6 k)) (bqT (Nat.ble 40 k) (kyN_h5 k) (kyN_h4 k))) (bqT (Nat.ble 16 k) (bqT (Nat.ble 24 k) (kyN_h3 k) (kyN_h2 k)) (bqT (Nat.ble 8 k) (kyN_h1 k) (kyN_h0 k))))
noncomputable def kyE_h0_h0 (k : Nat) : Nat := (bqT (Nat.ble 4 k) (bqT (Nat.ble 6 k) (bqT (Nat.ble 7 k) 4 2) (bqT (Nat.ble 5 k) 4 2)) (bqT (Nat.ble 2 k) (bqT (Nat.ble 3 k) 3 2) (bqT (Nat.ble 1 k) 1 0)))
noncomputable def kyE_h0_h1 (k : Nat) : Nat := (bqT (Nat.ble 12 k) (bqT (Nat.ble 14 k) (bqT (Nat.ble 15 k) 4 2) (bqT (Nat.ble 13 k) 2 2)) (bqT (Nat.ble 10 k) (bqT (Nat.ble 11 k) 5 4) (bqT (Nat.ble 9 k) 4 4)))
noncomputable def kyE_h0_h2 (k : Nat) : Nat := (bqT (Nat.ble 20 k) (bqT (Nat.ble 22 k) (bqT (Nat.ble 23 k) 4 5) (bqT (Nat.ble 21 k) 2 4)) (bqT (Nat.ble 18 k) (bqT (Nat.ble 19 k) 2 2) (bqT (Nat.ble 17 k) 2 4)))
noncomputable def kyE_h0_h3 (k : Nat) : Nat := (bqT (Nat.ble 28 k) (bqT (Nat.ble 30 k) (bqT (Nat.ble 31 k) 2 2) (bqT (Nat.ble 29 k) 2 2)) (bqT (Nat.ble 26 k) (bqT (Nat.ble 27 k) 4 5) (bqT (Nat.ble 25 k) 4 4)))
noncomputable def kyE_h0_h4 (k : Nat) : Nat := (bqT (Nat.ble 36 k) (bqT (Nat.ble 38 k) (bqT (Nat.ble 39 k) 4 4) (bqT (Nat.ble 37 k) 4 4)) (bqT (Nat.ble 34 k) (bqT (Nat.ble 35 k) 3 4) (bqT (Nat.ble 33 k) 4 2)))
noncomputable def kyE_h0_h5 (k : Nat) : Nat := (bqT (Nat.ble 44 k) (bqT (Nat.ble 46 k) (bqT (Nat.ble 47 k) 4 4) (bqT (Nat.ble 45 k) 5 6)) (bqT (Nat.ble 42 k) (bqT (Nat.ble 43 k) 5 3) (bqT (Nat.ble 41 k) 6 4)))
noncomputable def kyE_h0_h6 (k : Nat) : Nat := (bqT (Nat.ble 52 k) (bqT (Nat.ble 54 k) (bqT (Nat.ble 55 k) 2 2) (bqT (Nat.ble 53 k) 2 4)) (bqT (Nat.ble 50 k) (bqT (Nat.ble 51 k) 2 5) (bqT (Nat.ble 49 k) 6 5)))
noncomputable def kyE_h0_h7 (k : Nat) : Nat := (bqT (Nat.ble 60 k) (bqT (Nat.ble 62 k) (bqT (Nat.ble 63 k) 2 7) (bqT (Nat.ble 61 k) 2 2)) (bqT (Nat.ble 58 k) (bqT (Nat.ble 59 k) 4 5) (bqT (Nat.ble 57 k) 2 2)))
noncomputable def kyE_h0 (k : Nat) : Nat := (bqT (Nat.ble 32 k) (bqT (Nat.ble 48 k) (bqT (Nat.ble 56 k) (kyE_h0_h7 k) (kyE_h0_h6 k)) (bqT (Nat.ble 40 k) (kyE_h0_h5 k) (kyE_h0_h4 k))) (bqT (Nat.ble 16 k) (bqT (Nat.ble 24 k) (kyE_h0_h3 k) (kyE_h0_h2 k)) (bqT (Nat.ble 8 k) (kyE_h0_h1 k) (kyE_h0_h0 k))))
noncomputable def kyE_h1_h0 (k : Nat) : Nat := (bqT (Nat.ble 68 k) (bqT (Nat.ble 70 k) (bqT (Nat.ble 71 k) 9 5) (bqT (Nat.ble 69 k) 8 2)) (bqT (Nat.ble 66 k) (bqT (Nat.ble 67 k) 2 2) (bqT (Nat.ble 65 k) 6 5)))
noncomputable def kyE_h1_h1 (k : Nat) : Nat := (bqT (Nat.ble 76 k) (bqT (Nat.ble 78 k) (bqT (Nat.ble 79 k) 12 11) (bqT (Nat.ble 77 k) 0 2)) (bqT (Nat.ble 74 k) (bqT (Nat.ble 75 k) 2 10) (bqT (Nat.ble 73 k) 0 1)))
noncomputable def kyE_h1_h2 (k : Nat) : Nat := (bqT (Nat.ble 84 k) (bqT (Nat.ble 86 k) (bqT (Nat.ble 87 k) 16 17) (bqT (Nat.ble 85 k) 16 0)) (bqT (Nat.ble 82 k) (bqT (Nat.ble 83 k) 15 14) (bqT (Nat.ble 81 k) 13 11)))
noncomputable def kyE_h1_h3 (k : Nat) : Nat := (bqT (Nat.ble 92 k) (bqT (Nat.ble 94 k) (bqT (Nat.ble 95 k) 20 19) (bqT (Nat.ble 93 k) 19 17)) (bqT (Nat.ble 90 k) (bqT (Nat.ble 91 k) 18 2) (bqT (Nat.ble 89 k) 2 4)))
noncomputable def kyE_h1_h4 (k : Nat) : Nat := (bqT (Nat.ble 100 k) (bqT (Nat.ble 102 k) (bqT (Nat.ble 103 k) 23 23) (bqT (Nat.ble 101 k) 22 16)) (bqT (Nat.ble 98 k) (bqT (Nat.ble 99 k) 0 0) (bqT (Nat.ble 97 k) 21 7)))
noncomputable def kyE_h1_h5 (k : Nat) : Nat := (bqT (Nat.ble 108 k) (bqT (Nat.ble 110 k) (bqT (Nat.ble 111 k) 0 4) (bqT (Nat.ble 109 k) 3 2)) (bqT (Nat.ble 106 k) (bqT (Nat.ble 107 k) 4 2) (bqT (Nat.ble 105 k) 10 23)))
noncomputable def kyE_h1_h6 (k : Nat) : Nat := (bqT (Nat.ble 116 k) (bqT (Nat.ble 118 k) (bqT (Nat.ble 119 k) 28 27) (bqT (Nat.ble 117 k) 26 25)) (bqT (Nat.ble 114 k) (bqT (Nat.ble 115 k) 0 10) (bqT (Nat.ble 113 k) 2 24)))
noncomputable def kyE_h1_h7 (k : Nat) : Nat := (bqT (Nat.ble 124 k) (bqT (Nat.ble 126 k) (bqT (Nat.ble 127 k) 30 30) (bqT (Nat.ble 125 k) 17 0)) (bqT (Nat.ble 122 k) (bqT (Nat.ble 123 k) 17 15) (bqT (Nat.ble 121 k) 25 29)))
noncomputable def kyE_h1 (k : Nat) : Nat := (bqT (Nat.ble 96 k) (bqT (Nat.ble 112 k) (bqT (Nat.ble 120 k) (kyE_h1_h7 k) (kyE_h1_h6 k)) (bqT (Nat.ble 104 k) (kyE_h1_h5 k) (kyE_h1_h4 k))) (bqT (Nat.ble 80 k) (bqT (Nat.ble 88 k) (kyE_h1_h3 k) (kyE_h1_h2 k)) (bqT (Nat.ble 72 k) (kyE_h1_h1 k) (kyE_h1_h0 k))))
noncomputable def kyE_h2_h0 (k : Nat) : Nat := (bqT (Nat.ble 132 k) (bqT (Nat.ble 134 k) (bqT (Nat.ble 135 k) 16 16) (bqT (Nat.ble 133 k) 16 0)) (bqT (Nat.ble 130 k) (bqT (Nat.ble 131 k) 5 32) (bqT (Nat.ble 129 k) 31 19)))
noncomputable def kyE_h2_h1 (k : Nat) : Nat := (bqT (Nat.ble 140 k) (bqT (Nat.ble 142 k) (bqT (Nat.ble 143 k) 4 33) (bqT (Nat.ble 141 k) 4 31)) (bqT (Nat.ble 138 k) (bqT (Nat.ble 139 k) 16 16) (bqT (Nat.ble 137 k) 16 16)))
noncomputable def kyE_h2_h2 (k : Nat) : Nat := (bqT (Nat.ble 148 k) (bqT (Nat.ble 150 k) (bqT (Nat.ble 151 k) 40 39) (bqT (Nat.ble 149 k) 38 37)) (bqT (Nat.ble 146 k) (bqT (Nat.ble 147 k) 36 35) (bqT (Nat.ble 145 k) 0 34)))
noncomputable def kyE_h2_h3 (k : Nat) : Nat := (bqT (Nat.ble 156 k) (bqT (Nat.ble 158 k) (bqT (Nat.ble 159 k) 0 33) (bqT (Nat.ble 157 k) 5 4)) (bqT (Nat.ble 154 k) (bqT (Nat.ble 155 k) 28 28) (bqT (Nat.ble 153 k) 0 41)))
noncomputable def kyE_h2_h4 (k : Nat) : Nat := (bqT (Nat.ble 164 k) (bqT (Nat.ble 166 k) (bqT (Nat.ble 167 k) 44 43) (bqT (Nat.ble 165 k) 42 40)) (bqT (Nat.ble 162 k) (bqT (Nat.ble 163 k) 2 2) (bqT (Nat.ble 161 k) 23 23)))
noncomputable def kyE_h2_h5 (k : Nat) : Nat := (bqT (Nat.ble 172 k) (bqT (Nat.ble 174 k) (bqT (Nat.ble 175 k) 49 48) (bqT (Nat.ble 173 k) 47 0)) (bqT (Nat.ble 170 k) (bqT (Nat.ble 171 k) 3 45) (bqT (Nat.ble 169 k) 46 45)))
noncomputable def kyE_h2_h6 (k : Nat) : Nat := (bqT (Nat.ble 180 k) (bqT (Nat.ble 182 k) (bqT (Nat.ble 183 k) 17 19) (bqT (Nat.ble 181 k) 17 15)) (bqT (Nat.ble 178 k) (bqT (Nat.ble 179 k) 17 17) (bqT (Nat.ble 177 k) 19 5)))
noncomputable def kyE_h2_h7 (k : Nat) : Nat := (bqT (Nat.ble 188 k) (bqT (Nat.ble 190 k) (bqT (Nat.ble 191 k) 50 2) (bqT (Nat.ble 189 k) 5 0)) (bqT (Nat.ble 186 k) (bqT (Nat.ble 187 k) 0 2) (bqT (Nat.ble 185 k) 35 0)))
noncomputable def kyE_h2 (k : Nat) : Nat := (bqT (Nat.ble 160 k) (bqT (Nat.ble 176 k) (bqT (Nat.ble 184 k) (kyE_h2_h7 k) (kyE_h2_h6 k)) (bqT (Nat.ble 168 k) (kyE_h2_h5 k) (kyE_h2_h4 k))) (bqT (Nat.ble 144 k) (bqT (Nat.ble 152 k) (kyE_h2_h3 k) (kyE_h2_h2 k)) (bqT (Nat.ble 136 k) (kyE_h2_h1 k) (kyE_h2_h0 k))))
noncomputable def kyE_h3_h0 (k : Nat) : Nat := (bqT (Nat.ble 196 k) (bqT (Nat.ble 198 k) (bqT (Nat.ble 199 k) 23 22) (bqT (Nat.ble 197 k) 2 2)) (bqT (Nat.ble 194 k) (bqT (Nat.ble 195 k) 4 2) (bqT (Nat.ble 193 k) 51 0)))
noncomputable def kyE_h3_h1 (k : Nat) : Nat := (bqT (Nat.ble 204 k) (bqT (Nat.ble 206 k) (bqT (Nat.ble 207 k) 4 2) (bqT (Nat.ble 205 k) 4 2)) (bqT (Nat.ble 202 k) (bqT (Nat.ble 203 k) 52 23) (bqT (Nat.ble 201 k) 23 10)))
noncomputable def kyE_h3_h2 (k : Nat) : Nat := (bqT (Nat.ble 212 k) (bqT (Nat.ble 214 k) (bqT (Nat.ble 215 k) 35 22) (bqT (Nat.ble 213 k) 0 2)) (bqT (Nat.ble 210 k) (bqT (Nat.ble 211 k) 2 1) (bqT (Nat.ble 209 k) 3 4)))
noncomputable def kyE_h3_h3 (k : Nat) : Nat := (bqT (Nat.ble 220 k) (bqT (Nat.ble 222 k) (bqT (Nat.ble 223 k) 2 3) (bqT (Nat.ble 221 k) 2 53)) (bqT (Nat.ble 218 k) (bqT (Nat.ble 219 k) 4 34) (bqT (Nat.ble 217 k) 50 50)))
noncomputable def kyE_h3_h4 (k : Nat) : Nat := (bqT (Nat.ble 228 k) (bqT (Nat.ble 230 k) (bqT (Nat.ble 231 k) 0 0) (bqT (Nat.ble 229 k) 0 0)) (bqT (Nat.ble 226 k) (bqT (Nat.ble 227 k) 2 0) (bqT (Nat.ble 225 k) 0 3)))
noncomputable def kyE_h3_h5 (k : Nat) : Nat := (bqT (Nat.ble 236 k) (bqT (Nat.ble 238 k) (bqT (Nat.ble 239 k) 5 0) (bqT (Nat.ble 237 k) 0 35)) (bqT (Nat.ble 234 k) (bqT (Nat.ble 235 k) 10 3) (bqT (Nat.ble 233 k) 3 0)))
noncomputable def kyE_h3_h6 (k : Nat) : Nat := (bqT (Nat.ble 244 k) (bqT (Nat.ble 246 k) (bqT (Nat.ble 247 k) 4 4) (bqT (Nat.ble 245 k) 4 2)) (bqT (Nat.ble 242 k) (bqT (Nat.ble 243 k) 4 10) (bqT (Nat.ble 241 k) 45 4)))
noncomputable def kyE_h3_h7 (k : Nat) : Nat := (bqT (Nat.ble 252 k) (bqT (Nat.ble 254 k) (bqT (Nat.ble 255 k) 4 4) (bqT (Nat.ble 253 k) 4 2)) (bqT (Nat.ble 250 k) (bqT (Nat.ble 251 k) 2 2) (bqT (Nat.ble 249 k) 5 4)))
noncomputable def kyE_h3 (k : Nat) : Nat := (bqT (Nat.ble 224 k) (bqT (Nat.ble 240 k) (bqT (Nat.ble 248 k) (kyE_h3_h7 k) (kyE_h3_h6 k)) (bqT (Nat.ble 232 k) (kyE_h3_h5 k) (kyE_h3_h4 k))) (bqT (Nat.ble 208 k) (bqT (Nat.ble 216 k) (kyE_h3_h3 k) (kyE_h3_h2 k)) (bqT (Nat.ble 200 k) (kyE_h3_h1 k) (kyE_h3_h0 k))))
noncomputable def kyE_h4_h0 (k : Nat) : Nat := (bqT (Nat.ble 260 k) (bqT (Nat.ble 262 k) (bqT (Nat.ble 263 k) 2 4) (bqT (Nat.ble 261 k) 4 2)) (bqT (Nat.ble 258 k) (bqT (Nat.ble 259 k) 2 2) (bqT (Nat.ble 257 k) 2 4)))
noncomputable def kyE_h4_h1 (k : Nat) : Nat := (bqT (Nat.ble 268 k) (bqT (Nat.ble 270 k) (bqT (Nat.ble 271 k) 2 4) (bqT (Nat.ble 269 k) 4 4)) (bqT (Nat.ble 266 k) (bqT (Nat.ble 267 k) 4 5) (bqT (Nat.ble 265 k) 5 45)))
noncomputable def kyE_h4_h2 (k : Nat) : Nat := (bqT (Nat.ble 276 k) (bqT (Nat.ble 278 k) (bqT (Nat.ble 279 k) 4 2) (bqT (Nat.ble 277 k) 4 10)) (bqT (Nat.ble 274 k) (bqT (Nat.ble 275 k) 2 2) (bqT (Nat.ble 273 k) 2 10)))
noncomputable def kyE_h4_h3 (k : Nat) : Nat := (bqT (Nat.ble 284 k) (bqT (Nat.ble 286 k) (bqT (Nat.ble 287 k) 4 4) (bqT (Nat.ble 285 k) 2 45)) (bqT (Nat.ble 282 k) (bqT (Nat.ble 283 k) 3 2) (bqT (Nat.ble 281 k) 4 4)))
noncomputable def kyE_h4_h4 (k : Nat) : Nat := (bqT (Nat.ble 292 k) (bqT (Nat.ble 294 k) (bqT (Nat.ble 295 k) 45 6) (bqT (Nat.ble 293 k) 5 3)) (bqT (Nat.ble 290 k) (bqT (Nat.ble 291 k) 6 4) (bqT (Nat.ble 289 k) 4 4)))
noncomputable def kyE_h4_h5 (k : Nat) : Nat := (bqT (Nat.ble 300 k) (bqT (Nat.ble 302 k) (bqT (Nat.ble 303 k) 5 42) (bqT (Nat.ble 301 k) 5 40)) (bqT (Nat.ble 298 k) (bqT (Nat.ble 299 k) 4 4) (bqT (Nat.ble 297 k) 4 5)))
noncomputable def kyE_h4_h6 (k : Nat) : Nat := (bqT (Nat.ble 308 k) (bqT (Nat.ble 310 k) (bqT (Nat.ble 311 k) 4 33) (bqT (Nat.ble 309 k) 2 2)) (bqT (Nat.ble 306 k) (bqT (Nat.ble 307 k) 23 35) (bqT (Nat.ble 305 k) 54 6)))
noncomputable def kyE_h4_h7 (k : Nat) : Nat := (bqT (Nat.ble 316 k) (bqT (Nat.ble 318 k) (bqT (Nat.ble 319 k) 2 2) (bqT (Nat.ble 317 k) 2 4)) (bqT (Nat.ble 314 k) (bqT (Nat.ble 315 k) 2 2) (bqT (Nat.ble 313 k) 10 2)))
noncomputable def kyE_h4 (k : Nat) : Nat := (bqT (Nat.ble 288 k) (bqT (Nat.ble 304 k) (bqT (Nat.ble 312 k) (kyE_h4_h7 k) (kyE_h4_h6 k)) (bqT (Nat.ble 296 k) (kyE_h4_h5 k) (kyE_h4_h4 k))) (bqT (Nat.ble 272 k) (bqT (Nat.ble 280 k) (kyE_h4_h3 k) (kyE_h4_h2 k)) (bqT (Nat.ble 264 k) (kyE_h4_h1 k) (kyE_h4_h0 k))))
noncomputable def kyE_h5_h0 (k : Nat) : Nat := (bqT (Nat.ble 324 k) (bqT (Nat.ble 326 k) (bqT (Nat.ble 327 k) 2 2) (bqT (Nat.ble 325 k) 2 22)) (bqT (Nat.ble 322 k) (bqT (Nat.ble 323 k) 23 4) (bqT (Nat.ble 321 k) 5 5)))
noncomputable def kyE_h5_h1 (k : Nat) : Nat := (bqT (Nat.ble 332 k) (bqT (Nat.ble 334 k) (bqT (Nat.ble 335 k) 2 6) (bqT (Nat.ble 333 k) 5 23)) (bqT (Nat.ble 330 k) (bqT (Nat.ble 331 k) 55 7) (bqT (Nat.ble 329 k) 7 41)))
noncomputable def kyE_h5_h2 (k : Nat) : Nat := (bqT (Nat.ble 340 k) (bqT (Nat.ble 342 k) (bqT (Nat.ble 343 k) 2 4) (bqT (Nat.ble 341 k) 4 1)) (bqT (Nat.ble 338 k) (bqT (Nat.ble 339 k) 9 5) (bqT (Nat.ble 337 k) 44 23)))
noncomputable def kyE_h5_h3 (k : Nat) : Nat := (bqT (Nat.ble 348 k) (bqT (Nat.ble 350 k) (bqT (Nat.ble 351 k) 59 33) (bqT (Nat.ble 349 k) 58 22)) (bqT (Nat.ble 346 k) (bqT (Nat.ble 347 k) 57 56) (bqT (Nat.ble 345 k) 3 2)))
noncomputable def kyE_h5 (k : Nat) : Nat := (bqT (Nat.ble 336 k) (bqT (Nat.ble 344 k) (kyE_h5_h3 k) (kyE_h5_h2 k)) (bqT (Nat.ble 328 k) (kyE_h5_h1 k) (kyE_h5_h0 k)))
noncomputable def kyE (k : Nat) : Nat := (bqT (Nat.ble 192 k) (bqT (Nat.ble 256 k) (bqT (Nat.ble 320 k) (kyE_h5 k) (kyE_h4 k)) (kyE_h3 k)) (bqT (Nat.ble 64 k) (bqT (Nat.ble 128 k) (kyE_h2 k) (kyE_h1 k)) (kyE_h0 k)))
noncomputable def kyW0_h0 (k : Nat) : Nat := (bqT (Nat.ble 4 k) (bqT (Nat.ble 6 k) (bqT (Nat.ble 7 k) 13 2) (bqT (Nat.ble 5 k) 11 10)) (bqT (Nat.ble 2 k) (bqT (Nat.ble 3 k) 4 5) (bqT (Nat.ble 1 k) 7 1)))
noncomputable def kyW0_h1 (k : Nat) : Nat := (bqT (Nat.ble 12 k) (bqT (Nat.ble 14 k) (bqT (Nat.ble 15 k) 14 19) (bqT (Nat.ble 13 k) 18 12)) (bqT (Nat.ble 10 k) (bqT (Nat.ble 11 k) 3 6) (bqT (Nat.ble 9 k) 8 9)))
noncomputable def kyW0_h2 (k : Nat) : Nat := (bqT (Nat.ble 17 k) 16 15)
noncomputable def kyW0 (k : Nat) : Nat := (bqT (Nat.ble 8 k) (bqT (Nat.ble 16 k) (kyW0_h2 k) (kyW0_h1 k)) (kyW0_h0 k))
theorem wAt_of {n : Nat} {w : Cond} (h : (tch n)[n % 240]? = some w) (g : goodWord w = true) : wAt (n : Int) w = true := by
  unfold wAt
  rw [Bool.and_eq_true]
  refine ⟨decide_eq_true ?_, g⟩
  rw [Int.toNat_natCast]
  exact h
/-- the word that a method is what a call of it selects: by its place -/
noncomputable def selB (k : Nat) : Bool := bif Nat.blt (mW k).2.2.2 109 then decide (lw_tbl[(mW k).2.2.2]? = some (Cond.selects (mY k).cls (mY k) (mY k))) else eqSE ((tch ((mW k).2.2.2 - 109))[((mW k).2.2.2 - 109) % 240]?) (mY k)
theorem selB_in {k : Nat} (h : selB k = true) : Cond.selects (mY k).cls (mY k) (mY k) ∈ lw_tbl := by
  unfold selB at h
  cases hb : Nat.blt (mW k).2.2.2 109 with
  | true =>
    rw [hb, cond_true] at h
    exact List.mem_of_getElem? (of_decide_eq_true h)
  | false =>
    rw [hb, cond_false] at h
    exact tbl_in (tch_in (List.mem_of_getElem? (eqSE_ok h)))
noncomputable def okY (k : Nat) : Bool := goodWord (Cond.code (mY k) (mCode k) (mML k) (mRet k)) && wAt (mW k).2.1 (Cond.initialized (mY k).cls) && decide ((mY k).cls ≠ "java/lang/invoke/MethodHandle") && decide ((mY k).cls ≠ "java/lang/invoke/VarHandle") && decide ((parseMethodDescriptor (mY k).desc).map (fun d => d.parameters.length) = some (mN k)) && plainFor (mY k) && Nat.ble (mML k) 21 && decide ((mY k).cls = mOwn k)
  && (bif Nat.beq (mKind k) 0 then wAt (mW k).2.2.1 (Cond.instanceMethod (mY k)) && selB k else bif Nat.beq (mKind k) 1 then wAt (mW k).2.2.1 (Cond.static (mY k)) else wAt (mW k).2.2.1 (Cond.instanceMethod (mY k)) && decide ((mY k).name = "<init>"))
noncomputable def kyP (o : Nat) : Bool := decide (kyC o ≠ "java/lang/invoke/MethodHandle") && decide (kyC o ≠ "java/lang/invoke/VarHandle") && plainName (kyC o) && wAt (kyW0 o) (Cond.initialized (kyC o))
set_option maxRecDepth 100000 in
theorem kyP_all : (List.range 13).all kyP = true := by decide +kernel
set_option maxRecDepth 100000 in
theorem kyD_all : (List.range 60).all (fun e => decide ((parseMethodDescriptor (kyD e)).map (fun d => d.parameters.length) = some (kyN e))) = true := by decide +kernel
noncomputable def okYF (k : Nat) : Bool := bif Nat.blt (kyO k) 13 then Nat.beq (mW k).2.1 (kyW0 (kyO k)) && decide ((mY k).cls = kyC (kyO k)) && (Nat.blt (kyE k) 60 && decide ((mY k).desc = kyD (kyE k))) && Nat.beq (kyN (kyE k)) (mN k) && Nat.ble (mML k) 21
  && (bif Nat.beq (mKind k) 0 then eqIM ((tch (mW k).2.2.1)[(mW k).2.2.1 % 240]?) (mY k) && selB k else bif Nat.beq (mKind k) 1 then eqST ((tch (mW k).2.2.1)[(mW k).2.2.1 % 240]?) (mY k) else eqIM ((tch (mW k).2.2.1)[(mW k).2.2.1 % 240]?) (mY k) && decide ((mY k).name = "<init>")) else okY k
theorem okYF_ok {k : Nat} (hk : k < 352) (h : okYF k = true) : okY k = true := by
  unfold okYF at h
  cases ho : Nat.blt (kyO k) 13 with
  | false =>
    rw [ho, cond_false] at h
    exact h
  | true =>
    rw [ho, cond_true] at h
    rw [Bool.and_eq_true, Bool.and_eq_true, Bool.and_eq_true, Bool.and_eq_true, Bool.and_eq_true] at h
    obtain ⟨⟨⟨⟨⟨h1, h2⟩, h3⟩, h4⟩, h5⟩, h6⟩ := h
    rw [Bool.and_eq_true] at h3
    have P := List.all_eq_true.mp kyP_all (kyO k) (List.mem_range.mpr (Nat.blt_eq.mp ho))
    unfold kyP at P
    rw [Bool.and_eq_true, Bool.and_eq_true, Bool.and_eq_true] at P
    obtain ⟨⟨⟨p1, p2⟩, p3⟩, p4⟩ := P
    have q := of_decide_eq_true (List.all_eq_true.mp kyD_all (kyE k) (List.mem_range.mpr (Nat.blt_eq.mp h3.1)))
    have e1 : (mY k).cls = kyC (kyO k) := of_decide_eq_true h2
    have e2 : (mW k).2.1 = kyW0 (kyO k) := Nat.eq_of_beq_eq_true h1
    have e3 : (mY k).desc = kyD (kyE k) := of_decide_eq_true h3.2
    have e4 : kyN (kyE k) = mN k := Nat.eq_of_beq_eq_true h4
    unfold okY
    rw [Bool.and_eq_true, Bool.and_eq_true, Bool.and_eq_true, Bool.and_eq_true, Bool.and_eq_true, Bool.and_eq_true, Bool.and_eq_true, Bool.and_eq_true]
    refine ⟨⟨⟨⟨⟨⟨⟨⟨rfl, ?_⟩, ?_⟩, ?_⟩, ?_⟩, ?_⟩, h5⟩, ?_⟩, ?_⟩
    · rw [e2, e1]
      exact p4
    · rw [e1]
      exact p1
    · rw [e1]
      exact p2
    · apply decide_eq_true
      rw [e3, ← e4]
      exact q
    · unfold plainFor
      rw [e1, p3]
      rfl
    · exact decide_eq_true (e1.trans (kyO_eq hk).symm)
    · cases hz : Nat.beq (mKind k) 0 with
      | true =>
        rw [hz, cond_true, Bool.and_eq_true] at h6
        rw [cond_true, Bool.and_eq_true]
        exact ⟨wAt_of (eqIM_ok h6.1) rfl, h6.2⟩
      | false =>
        rw [hz, cond_false] at h6
        rw [cond_false]
        cases h1 : Nat.beq (mKind k) 1 with
        | true =>
          rw [h1, cond_true] at h6
          rw [cond_true]
          exact wAt_of (eqST_ok h6) rfl
        | false =>
          rw [h1, cond_false, Bool.and_eq_true] at h6
          rw [cond_false, Bool.and_eq_true]
          exact ⟨wAt_of (eqIM_ok h6.1) rfl, h6.2⟩
noncomputable def mCi_h0_h0 (k : Nat) : Nat := (bqT (Nat.ble 4 k) (bqT (Nat.ble 6 k) (bqT (Nat.ble 7 k) 10 10) (bqT (Nat.ble 5 k) 10 10)) (bqT (Nat.ble 2 k) (bqT (Nat.ble 3 k) 10 10) (bqT (Nat.ble 1 k) 10 10)))
noncomputable def mCi_h0_h1 (k : Nat) : Nat := (bqT (Nat.ble 12 k) (bqT (Nat.ble 14 k) (bqT (Nat.ble 15 k) 10 10) (bqT (Nat.ble 13 k) 10 10)) (bqT (Nat.ble 10 k) (bqT (Nat.ble 11 k) 10 10) (bqT (Nat.ble 9 k) 10 10)))
noncomputable def mCi_h0_h2 (k : Nat) : Nat := (bqT (Nat.ble 20 k) (bqT (Nat.ble 22 k) (bqT (Nat.ble 23 k) 10 10) (bqT (Nat.ble 21 k) 10 10)) (bqT (Nat.ble 18 k) (bqT (Nat.ble 19 k) 10 10) (bqT (Nat.ble 17 k) 10 10)))
noncomputable def mCi_h0_h3 (k : Nat) : Nat := (bqT (Nat.ble 28 k) (bqT (Nat.ble 30 k) (bqT (Nat.ble 31 k) 10 10) (bqT (Nat.ble 29 k) 10 10)) (bqT (Nat.ble 26 k) (bqT (Nat.ble 27 k) 10 10) (bqT (Nat.ble 25 k) 10 10)))
noncomputable def mCi_h0_h4 (k : Nat) : Nat := (bqT (Nat.ble 36 k) (bqT (Nat.ble 38 k) (bqT (Nat.ble 39 k) 10 10) (bqT (Nat.ble 37 k) 10 10)) (bqT (Nat.ble 34 k) (bqT (Nat.ble 35 k) 10 10) (bqT (Nat.ble 33 k) 10 10)))
noncomputable def mCi_h0_h5 (k : Nat) : Nat := (bqT (Nat.ble 44 k) (bqT (Nat.ble 46 k) (bqT (Nat.ble 47 k) 10 10) (bqT (Nat.ble 45 k) 10 10)) (bqT (Nat.ble 42 k) (bqT (Nat.ble 43 k) 10 10) (bqT (Nat.ble 41 k) 10 10)))
noncomputable def mCi_h0_h6 (k : Nat) : Nat := (bqT (Nat.ble 52 k) (bqT (Nat.ble 54 k) (bqT (Nat.ble 55 k) 10 10) (bqT (Nat.ble 53 k) 10 10)) (bqT (Nat.ble 50 k) (bqT (Nat.ble 51 k) 10 10) (bqT (Nat.ble 49 k) 10 10)))
noncomputable def mCi_h0_h7 (k : Nat) : Nat := (bqT (Nat.ble 60 k) (bqT (Nat.ble 62 k) (bqT (Nat.ble 63 k) 10 10) (bqT (Nat.ble 61 k) 10 10)) (bqT (Nat.ble 58 k) (bqT (Nat.ble 59 k) 10 10) (bqT (Nat.ble 57 k) 10 10)))
noncomputable def mCi_h0 (k : Nat) : Nat := (bqT (Nat.ble 32 k) (bqT (Nat.ble 48 k) (bqT (Nat.ble 56 k) (mCi_h0_h7 k) (mCi_h0_h6 k)) (bqT (Nat.ble 40 k) (mCi_h0_h5 k) (mCi_h0_h4 k))) (bqT (Nat.ble 16 k) (bqT (Nat.ble 24 k) (mCi_h0_h3 k) (mCi_h0_h2 k)) (bqT (Nat.ble 8 k) (mCi_h0_h1 k) (mCi_h0_h0 k))))
noncomputable def mCi_h1_h0 (k : Nat) : Nat := (bqT (Nat.ble 68 k) (bqT (Nat.ble 70 k) (bqT (Nat.ble 71 k) 10 10) (bqT (Nat.ble 69 k) 10 10)) (bqT (Nat.ble 66 k) (bqT (Nat.ble 67 k) 10 10) (bqT (Nat.ble 65 k) 10 10)))
noncomputable def mCi_h1_h1 (k : Nat) : Nat := (bqT (Nat.ble 76 k) (bqT (Nat.ble 78 k) (bqT (Nat.ble 79 k) 0 0) (bqT (Nat.ble 77 k) 0 10)) (bqT (Nat.ble 74 k) (bqT (Nat.ble 75 k) 10 10) (bqT (Nat.ble 73 k) 10 10)))
noncomputable def mCi_h1_h2 (k : Nat) : Nat := (bqT (Nat.ble 84 k) (bqT (Nat.ble 86 k) (bqT (Nat.ble 87 k) 1 1) (bqT (Nat.ble 85 k) 1 1)) (bqT (Nat.ble 82 k) (bqT (Nat.ble 83 k) 0 0) (bqT (Nat.ble 81 k) 0 0)))
noncomputable def mCi_h1_h3 (k : Nat) : Nat := (bqT (Nat.ble 92 k) (bqT (Nat.ble 94 k) (bqT (Nat.ble 95 k) 1 1) (bqT (Nat.ble 93 k) 1 1)) (bqT (Nat.ble 90 k) (bqT (Nat.ble 91 k) 1 1) (bqT (Nat.ble 89 k) 1 1)))
noncomputable def mCi_h1_h4 (k : Nat) : Nat := (bqT (Nat.ble 100 k) (bqT (Nat.ble 102 k) (bqT (Nat.ble 103 k) 2 2) (bqT (Nat.ble 101 k) 2 2)) (bqT (Nat.ble 98 k) (bqT (Nat.ble 99 k) 2 2) (bqT (Nat.ble 97 k) 1 1)))
noncomputable def mCi_h1_h5 (k : Nat) : Nat := (bqT (Nat.ble 108 k) (bqT (Nat.ble 110 k) (bqT (Nat.ble 111 k) 2 2) (bqT (Nat.ble 109 k) 2 2)) (bqT (Nat.ble 106 k) (bqT (Nat.ble 107 k) 2 2) (bqT (Nat.ble 105 k) 2 2)))
noncomputable def mCi_h1_h6 (k : Nat) : Nat := (bqT (Nat.ble 116 k) (bqT (Nat.ble 118 k) (bqT (Nat.ble 119 k) 3 3) (bqT (Nat.ble 117 k) 3 3)) (bqT (Nat.ble 114 k) (bqT (Nat.ble 115 k) 3 2) (bqT (Nat.ble 113 k) 2 2)))
noncomputable def mCi_h1_h7 (k : Nat) : Nat := (bqT (Nat.ble 124 k) (bqT (Nat.ble 126 k) (bqT (Nat.ble 127 k) 4 4) (bqT (Nat.ble 125 k) 4 4)) (bqT (Nat.ble 122 k) (bqT (Nat.ble 123 k) 3 3) (bqT (Nat.ble 121 k) 3 3)))
noncomputable def mCi_h1 (k : Nat) : Nat := (bqT (Nat.ble 96 k) (bqT (Nat.ble 112 k) (bqT (Nat.ble 120 k) (mCi_h1_h7 k) (mCi_h1_h6 k)) (bqT (Nat.ble 104 k) (mCi_h1_h5 k) (mCi_h1_h4 k))) (bqT (Nat.ble 80 k) (bqT (Nat.ble 88 k) (mCi_h1_h3 k) (mCi_h1_h2 k)) (bqT (Nat.ble 72 k) (mCi_h1_h1 k) (mCi_h1_h0 k))))
noncomputable def mCi_h2_h0 (k : Nat) : Nat := (bqT (Nat.ble 132 k) (bqT (Nat.ble 134 k) (bqT (Nat.ble 135 k) 5 5) (bqT (Nat.ble 133 k) 5 5)) (bqT (Nat.ble 130 k) (bqT (Nat.ble 131 k) 4 4) (bqT (Nat.ble 129 k) 4 4)))
noncomputable def mCi_h2_h1 (k : Nat) : Nat := (bqT (Nat.ble 140 k) (bqT (Nat.ble 142 k) (bqT (Nat.ble 143 k) 5 5) (bqT (Nat.ble 141 k) 5 5)) (bqT (Nat.ble 138 k) (bqT (Nat.ble 139 k) 5 5) (bqT (Nat.ble 137 k) 5 5)))
noncomputable def mCi_h2_h2 (k : Nat) : Nat := (bqT (Nat.ble 148 k) (bqT (Nat.ble 150 k) (bqT (Nat.ble 151 k) 99 99) (bqT (Nat.ble 149 k) 99 99)) (bqT (Nat.ble 146 k) (bqT (Nat.ble 147 k) 99 5) (bqT (Nat.ble 145 k) 5 5)))
noncomputable def mCi_h2_h3 (k : Nat) : Nat := (bqT (Nat.ble 156 k) (bqT (Nat.ble 158 k) (bqT (Nat.ble 159 k) 7 6) (bqT (Nat.ble 157 k) 6 6)) (bqT (Nat.ble 154 k) (bqT (Nat.ble 155 k) 6 6) (bqT (Nat.ble 153 k) 6 99)))
noncomputable def mCi_h2_h4 (k : Nat) : Nat := (bqT (Nat.ble 164 k) (bqT (Nat.ble 166 k) (bqT (Nat.ble 167 k) 7 7) (bqT (Nat.ble 165 k) 7 7)) (bqT (Nat.ble 162 k) (bqT (Nat.ble 163 k) 7 7) (bqT (Nat.ble 161 k) 7 7)))
noncomputable def mCi_h2_h5 (k : Nat) : Nat := (bqT (Nat.ble 172 k) (bqT (Nat.ble 174 k) (bqT (Nat.ble 175 k) 8 8) (bqT (Nat.ble 173 k) 8 8)) (bqT (Nat.ble 170 k) (bqT (Nat.ble 171 k) 7 7) (bqT (Nat.ble 169 k) 7 7)))
noncomputable def mCi_h2_h6 (k : Nat) : Nat := (bqT (Nat.ble 180 k) (bqT (Nat.ble 182 k) (bqT (Nat.ble 183 k) 8 8) (bqT (Nat.ble 181 k) 8 8)) (bqT (Nat.ble 178 k) (bqT (Nat.ble 179 k) 8 8) (bqT (Nat.ble 177 k) 8 8)))
noncomputable def mCi_h2_h7 (k : Nat) : Nat := (bqT (Nat.ble 188 k) (bqT (Nat.ble 190 k) (bqT (Nat.ble 191 k) 9 9) (bqT (Nat.ble 189 k) 9 9)) (bqT (Nat.ble 186 k) (bqT (Nat.ble 187 k) 9 9) (bqT (Nat.ble 185 k) 9 9)))
noncomputable def mCi_h2 (k : Nat) : Nat := (bqT (Nat.ble 160 k) (bqT (Nat.ble 176 k) (bqT (Nat.ble 184 k) (mCi_h2_h7 k) (mCi_h2_h6 k)) (bqT (Nat.ble 168 k) (mCi_h2_h5 k) (mCi_h2_h4 k))) (bqT (Nat.ble 144 k) (bqT (Nat.ble 152 k) (mCi_h2_h3 k) (mCi_h2_h2 k)) (bqT (Nat.ble 136 k) (mCi_h2_h1 k) (mCi_h2_h0 k))))
noncomputable def mCi_h3_h0 (k : Nat) : Nat := (bqT (Nat.ble 196 k) (bqT (Nat.ble 198 k) (bqT (Nat.ble 199 k) 11 11) (bqT (Nat.ble 197 k) 11 11)) (bqT (Nat.ble 194 k) (bqT (Nat.ble 195 k) 11 11) (bqT (Nat.ble 193 k) 11 11)))
noncomputable def mCi_h3_h1 (k : Nat) : Nat := (bqT (Nat.ble 204 k) (bqT (Nat.ble 206 k) (bqT (Nat.ble 207 k) 11 11) (bqT (Nat.ble 205 k) 11 11)) (bqT (Nat.ble 202 k) (bqT (Nat.ble 203 k) 11 11) (bqT (Nat.ble 201 k) 11 11)))
noncomputable def mCi_h3_h2 (k : Nat) : Nat := (bqT (Nat.ble 212 k) (bqT (Nat.ble 214 k) (bqT (Nat.ble 215 k) 11 11) (bqT (Nat.ble 213 k) 11 11)) (bqT (Nat.ble 210 k) (bqT (Nat.ble 211 k) 11 11) (bqT (Nat.ble 209 k) 11 11)))
noncomputable def mCi_h3_h3 (k : Nat) : Nat := (bqT (Nat.ble 220 k) (bqT (Nat.ble 222 k) (bqT (Nat.ble 223 k) 11 11) (bqT (Nat.ble 221 k) 11 11)) (bqT (Nat.ble 218 k) (bqT (Nat.ble 219 k) 11 11) (bqT (Nat.ble 217 k) 11 11)))
noncomputable def mCi_h3_h4 (k : Nat) : Nat := (bqT (Nat.ble 228 k) (bqT (Nat.ble 230 k) (bqT (Nat.ble 231 k) 11 11) (bqT (Nat.ble 229 k) 11 11)) (bqT (Nat.ble 226 k) (bqT (Nat.ble 227 k) 11 11) (bqT (Nat.ble 225 k) 11 11)))
noncomputable def mCi_h3_h5 (k : Nat) : Nat := (bqT (Nat.ble 236 k) (bqT (Nat.ble 238 k) (bqT (Nat.ble 239 k) 11 11) (bqT (Nat.ble 237 k) 11 11)) (bqT (Nat.ble 234 k) (bqT (Nat.ble 235 k) 11 11) (bqT (Nat.ble 233 k) 11 11)))
noncomputable def mCi_h3_h6 (k : Nat) : Nat := (bqT (Nat.ble 244 k) (bqT (Nat.ble 246 k) (bqT (Nat.ble 247 k) 11 11) (bqT (Nat.ble 245 k) 11 11)) (bqT (Nat.ble 242 k) (bqT (Nat.ble 243 k) 11 11) (bqT (Nat.ble 241 k) 11 11)))
noncomputable def mCi_h3_h7 (k : Nat) : Nat := (bqT (Nat.ble 252 k) (bqT (Nat.ble 254 k) (bqT (Nat.ble 255 k) 11 11) (bqT (Nat.ble 253 k) 11 11)) (bqT (Nat.ble 250 k) (bqT (Nat.ble 251 k) 11 11) (bqT (Nat.ble 249 k) 11 11)))
noncomputable def mCi_h3 (k : Nat) : Nat := (bqT (Nat.ble 224 k) (bqT (Nat.ble 240 k) (bqT (Nat.ble 248 k) (mCi_h3_h7 k) (mCi_h3_h6 k)) (bqT (Nat.ble 232 k) (mCi_h3_h5 k) (mCi_h3_h4 k))) (bqT (Nat.ble 208 k) (bqT (Nat.ble 216 k) (mCi_h3_h3 k) (mCi_h3_h2 k)) (bqT (Nat.ble 200 k) (mCi_h3_h1 k) (mCi_h3_h0 k))))
noncomputable def mCi_h4_h0 (k : Nat) : Nat := (bqT (Nat.ble 260 k) (bqT (Nat.ble 262 k) (bqT (Nat.ble 263 k) 11 11) (bqT (Nat.ble 261 k) 11 11)) (bqT (Nat.ble 258 k) (bqT (Nat.ble 259 k) 11 11) (bqT (Nat.ble 257 k) 11 11)))
noncomputable def mCi_h4_h1 (k : Nat) : Nat := (bqT (Nat.ble 268 k) (bqT (Nat.ble 270 k) (bqT (Nat.ble 271 k) 11 11) (bqT (Nat.ble 269 k) 11 11)) (bqT (Nat.ble 266 k) (bqT (Nat.ble 267 k) 11 11) (bqT (Nat.ble 265 k) 11 11)))
noncomputable def mCi_h4_h2 (k : Nat) : Nat := (bqT (Nat.ble 276 k) (bqT (Nat.ble 278 k) (bqT (Nat.ble 279 k) 11 11) (bqT (Nat.ble 277 k) 11 11)) (bqT (Nat.ble 274 k) (bqT (Nat.ble 275 k) 11 11) (bqT (Nat.ble 273 k) 11 11)))
noncomputable def mCi_h4_h3 (k : Nat) : Nat := (bqT (Nat.ble 284 k) (bqT (Nat.ble 286 k) (bqT (Nat.ble 287 k) 11 11) (bqT (Nat.ble 285 k) 11 11)) (bqT (Nat.ble 282 k) (bqT (Nat.ble 283 k) 11 11) (bqT (Nat.ble 281 k) 11 11)))
noncomputable def mCi_h4_h4 (k : Nat) : Nat := (bqT (Nat.ble 292 k) (bqT (Nat.ble 294 k) (bqT (Nat.ble 295 k) 11 11) (bqT (Nat.ble 293 k) 11 11)) (bqT (Nat.ble 290 k) (bqT (Nat.ble 291 k) 11 11) (bqT (Nat.ble 289 k) 11 11)))
noncomputable def mCi_h4_h5 (k : Nat) : Nat := (bqT (Nat.ble 300 k) (bqT (Nat.ble 302 k) (bqT (Nat.ble 303 k) 11 11) (bqT (Nat.ble 301 k) 11 11)) (bqT (Nat.ble 298 k) (bqT (Nat.ble 299 k) 11 11) (bqT (Nat.ble 297 k) 11 11)))
noncomputable def mCi_h4_h6 (k : Nat) : Nat := (bqT (Nat.ble 308 k) (bqT (Nat.ble 310 k) (bqT (Nat.ble 311 k) 11 11) (bqT (Nat.ble 309 k) 11 11)) (bqT (Nat.ble 306 k) (bqT (Nat.ble 307 k) 11 11) (bqT (Nat.ble 305 k) 11 11)))
noncomputable def mCi_h4_h7 (k : Nat) : Nat := (bqT (Nat.ble 316 k) (bqT (Nat.ble 318 k) (bqT (Nat.ble 319 k) 11 11) (bqT (Nat.ble 317 k) 11 11)) (bqT (Nat.ble 314 k) (bqT (Nat.ble 315 k) 11 11) (bqT (Nat.ble 313 k) 11 11)))
noncomputable def mCi_h4 (k : Nat) : Nat := (bqT (Nat.ble 288 k) (bqT (Nat.ble 304 k) (bqT (Nat.ble 312 k) (mCi_h4_h7 k) (mCi_h4_h6 k)) (bqT (Nat.ble 296 k) (mCi_h4_h5 k) (mCi_h4_h4 k))) (bqT (Nat.ble 272 k) (bqT (Nat.ble 280 k) (mCi_h4_h3 k) (mCi_h4_h2 k)) (bqT (Nat.ble 264 k) (mCi_h4_h1 k) (mCi_h4_h0 k))))
noncomputable def mCi_h5_h0 (k : Nat) : Nat := (bqT (Nat.ble 324 k) (bqT (Nat.ble 326 k) (bqT (Nat.ble 327 k) 11 11) (bqT (Nat.ble 325 k) 11 11)) (bqT (Nat.ble 322 k) (bqT (Nat.ble 323 k) 11 11) (bqT (Nat.ble 321 k) 11 11)))
noncomputable def mCi_h5_h1 (k : Nat) : Nat := (bqT (Nat.ble 332 k) (bqT (Nat.ble 334 k) (bqT (Nat.ble 335 k) 11 11) (bqT (Nat.ble 333 k) 11 11)) (bqT (Nat.ble 330 k) (bqT (Nat.ble 331 k) 11 11) (bqT (Nat.ble 329 k) 11 11)))
noncomputable def mCi_h5_h2 (k : Nat) : Nat := (bqT (Nat.ble 340 k) (bqT (Nat.ble 342 k) (bqT (Nat.ble 343 k) 99 99) (bqT (Nat.ble 341 k) 99 11)) (bqT (Nat.ble 338 k) (bqT (Nat.ble 339 k) 11 11) (bqT (Nat.ble 337 k) 11 11)))
noncomputable def mCi_h5_h3 (k : Nat) : Nat := (bqT (Nat.ble 348 k) (bqT (Nat.ble 350 k) (bqT (Nat.ble 351 k) 99 99) (bqT (Nat.ble 349 k) 99 99)) (bqT (Nat.ble 346 k) (bqT (Nat.ble 347 k) 99 99) (bqT (Nat.ble 345 k) 99 99)))
noncomputable def mCi_h5 (k : Nat) : Nat := (bqT (Nat.ble 336 k) (bqT (Nat.ble 344 k) (mCi_h5_h3 k) (mCi_h5_h2 k)) (bqT (Nat.ble 328 k) (mCi_h5_h1 k) (mCi_h5_h0 k)))
noncomputable def mCi (k : Nat) : Nat := (bqT (Nat.ble 192 k) (bqT (Nat.ble 256 k) (bqT (Nat.ble 320 k) (mCi_h5 k) (mCi_h4 k)) (mCi_h3 k)) (bqT (Nat.ble 64 k) (bqT (Nat.ble 128 k) (mCi_h2 k) (mCi_h1 k)) (mCi_h0 k)))
noncomputable def ciOK (k : Nat) : Bool := !(Nat.beq (mKind k) 0) || Nat.beq (mCi k) 99 || (match vwCl[mCi k]? with | some q => decide (q.1 = (mY k).cls) | none => false)
set_option maxRecDepth 100000 in
theorem ci_all : (List.range 352).all ciOK = true := by decide +kernel
end
section
set_option maxRecDepth 100000 in
theorem cy_0 : (List.range' 0 25).all okYF = true := by decide +kernel
set_option maxRecDepth 100000 in
theorem cy_25 : (List.range' 25 25).all okYF = true := by decide +kernel
set_option maxRecDepth 100000 in
theorem cy_50 : (List.range' 50 25).all okYF = true := by decide +kernel
set_option maxRecDepth 100000 in
theorem cy_75 : (List.range' 75 25).all okYF = true := by decide +kernel
set_option maxRecDepth 100000 in
theorem cy_100 : (List.range' 100 25).all okYF = true := by decide +kernel
set_option maxRecDepth 100000 in
theorem cy_125 : (List.range' 125 25).all okYF = true := by decide +kernel
set_option maxRecDepth 100000 in
theorem cy_150 : (List.range' 150 25).all okYF = true := by decide +kernel
set_option maxRecDepth 100000 in
theorem cy_175 : (List.range' 175 25).all okYF = true := by decide +kernel
set_option maxRecDepth 100000 in
theorem cy_200 : (List.range' 200 25).all okYF = true := by decide +kernel
set_option maxRecDepth 100000 in
theorem cy_225 : (List.range' 225 25).all okYF = true := by decide +kernel
set_option maxRecDepth 100000 in
theorem cy_250 : (List.range' 250 25).all okYF = true := by decide +kernel
set_option maxRecDepth 100000 in
theorem cy_275 : (List.range' 275 25).all okYF = true := by decide +kernel
set_option maxRecDepth 100000 in
theorem cy_300 : (List.range' 300 25).all okYF = true := by decide +kernel
end
section
set_option maxRecDepth 100000 in
theorem cy_325 : (List.range' 325 25).all okYF = true := by decide +kernel
set_option maxRecDepth 100000 in
theorem cy_350 : (List.range' 350 2).all okYF = true := by decide +kernel
end
section
set_option maxRecDepth 100000 in
theorem wc_0 : (List.range' 0 25).map (fun k => (tch (mW k).1)[(mW k).1 % 240]?) = (List.range' 0 25).map (fun k => some (Cond.code (mY k) (mCode k) (mML k) (mRet k))) := rfl
set_option maxRecDepth 100000 in
theorem wc_25 : (List.range' 25 25).map (fun k => (tch (mW k).1)[(mW k).1 % 240]?) = (List.range' 25 25).map (fun k => some (Cond.code (mY k) (mCode k) (mML k) (mRet k))) := rfl
set_option maxRecDepth 100000 in
theorem wc_50 : (List.range' 50 25).map (fun k => (tch (mW k).1)[(mW k).1 % 240]?) = (List.range' 50 25).map (fun k => some (Cond.code (mY k) (mCode k) (mML k) (mRet k))) := rfl
set_option maxRecDepth 100000 in
theorem wc_75 : (List.range' 75 25).map (fun k => (tch (mW k).1)[(mW k).1 % 240]?) = (List.range' 75 25).map (fun k => some (Cond.code (mY k) (mCode k) (mML k) (mRet k))) := rfl
set_option maxRecDepth 100000 in
theorem wc_100 : (List.range' 100 25).map (fun k => (tch (mW k).1)[(mW k).1 % 240]?) = (List.range' 100 25).map (fun k => some (Cond.code (mY k) (mCode k) (mML k) (mRet k))) := rfl
set_option maxRecDepth 100000 in
theorem wc_125 : (List.range' 125 25).map (fun k => (tch (mW k).1)[(mW k).1 % 240]?) = (List.range' 125 25).map (fun k => some (Cond.code (mY k) (mCode k) (mML k) (mRet k))) := rfl
set_option maxRecDepth 100000 in
theorem wc_150 : (List.range' 150 25).map (fun k => (tch (mW k).1)[(mW k).1 % 240]?) = (List.range' 150 25).map (fun k => some (Cond.code (mY k) (mCode k) (mML k) (mRet k))) := rfl
set_option maxRecDepth 100000 in
theorem wc_175 : (List.range' 175 25).map (fun k => (tch (mW k).1)[(mW k).1 % 240]?) = (List.range' 175 25).map (fun k => some (Cond.code (mY k) (mCode k) (mML k) (mRet k))) := rfl
set_option maxRecDepth 100000 in
theorem wc_200 : (List.range' 200 25).map (fun k => (tch (mW k).1)[(mW k).1 % 240]?) = (List.range' 200 25).map (fun k => some (Cond.code (mY k) (mCode k) (mML k) (mRet k))) := rfl
set_option maxRecDepth 100000 in
theorem wc_225 : (List.range' 225 25).map (fun k => (tch (mW k).1)[(mW k).1 % 240]?) = (List.range' 225 25).map (fun k => some (Cond.code (mY k) (mCode k) (mML k) (mRet k))) := rfl
set_option maxRecDepth 100000 in
theorem wc_250 : (List.range' 250 25).map (fun k => (tch (mW k).1)[(mW k).1 % 240]?) = (List.range' 250 25).map (fun k => some (Cond.code (mY k) (mCode k) (mML k) (mRet k))) := rfl
set_option maxRecDepth 100000 in
theorem wc_275 : (List.range' 275 25).map (fun k => (tch (mW k).1)[(mW k).1 % 240]?) = (List.range' 275 25).map (fun k => some (Cond.code (mY k) (mCode k) (mML k) (mRet k))) := rfl
set_option maxRecDepth 100000 in
theorem wc_300 : (List.range' 300 25).map (fun k => (tch (mW k).1)[(mW k).1 % 240]?) = (List.range' 300 25).map (fun k => some (Cond.code (mY k) (mCode k) (mML k) (mRet k))) := rfl
set_option maxRecDepth 100000 in
theorem wc_325 : (List.range' 325 25).map (fun k => (tch (mW k).1)[(mW k).1 % 240]?) = (List.range' 325 25).map (fun k => some (Cond.code (mY k) (mCode k) (mML k) (mRet k))) := rfl
set_option maxRecDepth 100000 in
theorem wc_350 : (List.range' 350 2).map (fun k => (tch (mW k).1)[(mW k).1 % 240]?) = (List.range' 350 2).map (fun k => some (Cond.code (mY k) (mCode k) (mML k) (mRet k))) := rfl
theorem wc_all (k : Nat) (h : k < 352) : (tch (mW k).1)[(mW k).1 % 240]? = some (Cond.code (mY k) (mCode k) (mML k) (mRet k)) := by
  by_cases h25 : k < 25
  · exact List.map_inj_left.mp wc_0 k (by rw [List.mem_range']; exact ⟨k - 0, by omega, by omega⟩)
  by_cases h50 : k < 50
  · exact List.map_inj_left.mp wc_25 k (by rw [List.mem_range']; exact ⟨k - 25, by omega, by omega⟩)
  by_cases h75 : k < 75
  · exact List.map_inj_left.mp wc_50 k (by rw [List.mem_range']; exact ⟨k - 50, by omega, by omega⟩)
  by_cases h100 : k < 100
  · exact List.map_inj_left.mp wc_75 k (by rw [List.mem_range']; exact ⟨k - 75, by omega, by omega⟩)
  by_cases h125 : k < 125
  · exact List.map_inj_left.mp wc_100 k (by rw [List.mem_range']; exact ⟨k - 100, by omega, by omega⟩)
  by_cases h150 : k < 150
  · exact List.map_inj_left.mp wc_125 k (by rw [List.mem_range']; exact ⟨k - 125, by omega, by omega⟩)
  by_cases h175 : k < 175
  · exact List.map_inj_left.mp wc_150 k (by rw [List.mem_range']; exact ⟨k - 150, by omega, by omega⟩)
  by_cases h200 : k < 200
  · exact List.map_inj_left.mp wc_175 k (by rw [List.mem_range']; exact ⟨k - 175, by omega, by omega⟩)
  by_cases h225 : k < 225
  · exact List.map_inj_left.mp wc_200 k (by rw [List.mem_range']; exact ⟨k - 200, by omega, by omega⟩)
  by_cases h250 : k < 250
  · exact List.map_inj_left.mp wc_225 k (by rw [List.mem_range']; exact ⟨k - 225, by omega, by omega⟩)
  by_cases h275 : k < 275
  · exact List.map_inj_left.mp wc_250 k (by rw [List.mem_range']; exact ⟨k - 250, by omega, by omega⟩)
  by_cases h300 : k < 300
  · exact List.map_inj_left.mp wc_275 k (by rw [List.mem_range']; exact ⟨k - 275, by omega, by omega⟩)
  by_cases h325 : k < 325
  · exact List.map_inj_left.mp wc_300 k (by rw [List.mem_range']; exact ⟨k - 300, by omega, by omega⟩)
  by_cases h350 : k < 350
  · exact List.map_inj_left.mp wc_325 k (by rw [List.mem_range']; exact ⟨k - 325, by omega, by omega⟩)
  by_cases h352 : k < 352
  · exact List.map_inj_left.mp wc_350 k (by rw [List.mem_range']; exact ⟨k - 350, by omega, by omega⟩)
  omega
theorem cy_all (k : Nat) (h : k < 352) : okY k = true := by
  by_cases h25 : k < 25
  · exact okYF_ok h (List.all_eq_true.mp cy_0 k (by rw [List.mem_range']; exact ⟨k - 0, by omega, by omega⟩))
  by_cases h50 : k < 50
  · exact okYF_ok h (List.all_eq_true.mp cy_25 k (by rw [List.mem_range']; exact ⟨k - 25, by omega, by omega⟩))
  by_cases h75 : k < 75
  · exact okYF_ok h (List.all_eq_true.mp cy_50 k (by rw [List.mem_range']; exact ⟨k - 50, by omega, by omega⟩))
  by_cases h100 : k < 100
  · exact okYF_ok h (List.all_eq_true.mp cy_75 k (by rw [List.mem_range']; exact ⟨k - 75, by omega, by omega⟩))
  by_cases h125 : k < 125
  · exact okYF_ok h (List.all_eq_true.mp cy_100 k (by rw [List.mem_range']; exact ⟨k - 100, by omega, by omega⟩))
  by_cases h150 : k < 150
  · exact okYF_ok h (List.all_eq_true.mp cy_125 k (by rw [List.mem_range']; exact ⟨k - 125, by omega, by omega⟩))
  by_cases h175 : k < 175
  · exact okYF_ok h (List.all_eq_true.mp cy_150 k (by rw [List.mem_range']; exact ⟨k - 150, by omega, by omega⟩))
  by_cases h200 : k < 200
  · exact okYF_ok h (List.all_eq_true.mp cy_175 k (by rw [List.mem_range']; exact ⟨k - 175, by omega, by omega⟩))
  by_cases h225 : k < 225
  · exact okYF_ok h (List.all_eq_true.mp cy_200 k (by rw [List.mem_range']; exact ⟨k - 200, by omega, by omega⟩))
  by_cases h250 : k < 250
  · exact okYF_ok h (List.all_eq_true.mp cy_225 k (by rw [List.mem_range']; exact ⟨k - 225, by omega, by omega⟩))
  by_cases h275 : k < 275
  · exact okYF_ok h (List.all_eq_true.mp cy_250 k (by rw [List.mem_range']; exact ⟨k - 250, by omega, by omega⟩))
  by_cases h300 : k < 300
  · exact okYF_ok h (List.all_eq_true.mp cy_275 k (by rw [List.mem_range']; exact ⟨k - 275, by omega, by omega⟩))
  by_cases h325 : k < 325
  · exact okYF_ok h (List.all_eq_true.mp cy_300 k (by rw [List.mem_range']; exact ⟨k - 300, by omega, by omega⟩))
  by_cases h350 : k < 350
  · exact okYF_ok h (List.all_eq_true.mp cy_325 k (by rw [List.mem_range']; exact ⟨k - 325, by omega, by omega⟩))
  by_cases h352 : k < 352
  · exact okYF_ok h (List.all_eq_true.mp cy_350 k (by rw [List.mem_range']; exact ⟨k - 350, by omega, by omega⟩))
  omega
end
