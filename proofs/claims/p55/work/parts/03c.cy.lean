noncomputable def kyD_h0 (k : Nat) : String := (bif Nat.blt k 4 then (bif Nat.blt k 2 then (bif Nat.blt k 1 then "()V" else "(IIIII)I") else (bif Nat.blt k 3 then "(I)I" else "()I")) else (bif Nat.blt k 6 then (bif Nat.blt k 5 then "(II)I" else "(III)I") else (bif Nat.blt k 7 then "(IIII)I" else "(III)J")))
noncomputable def kyD_h1 (k : Nat) : String := (bif Nat.blt k 12 then (bif Nat.blt k 10 then (bif Nat.blt k 9 then "(I)LHalvedNames$Hill;" else "(IIJ)I") else (bif Nat.blt k 11 then "(II)Z" else "(LHalvedNames$Hill;LHalvedNames$Story;II)I")) else (bif Nat.blt k 14 then (bif Nat.blt k 13 then "(LHalvedNames$Hill;LHalvedNames$Story;I)V" else "(LHalvedNames$Hill;LHalvedNames$Story;)I") else (bif Nat.blt k 15 then "(LHalvedNames$Hill;LHalvedNames$Story;I)I" else "(LHalvedNames$Hill;I)I")))
noncomputable def kyD_h2 (k : Nat) : String := (bif Nat.blt k 20 then (bif Nat.blt k 18 then (bif Nat.blt k 17 then "(LHalvedNames$Hill;)V" else "(LHalvedNames$Hill;II)I") else (bif Nat.blt k 19 then "(LHalvedNames$Hill;I)Z" else "(LHalvedNames$Hill;III)Z")) else (bif Nat.blt k 22 then (bif Nat.blt k 21 then "(LHalvedNames$Hill;III)J" else "(LHalvedNames$Hill;J)V") else (bif Nat.blt k 23 then "()Z" else "(I)Z")))
noncomputable def kyD_h3 (k : Nat) : String := (bif Nat.blt k 28 then (bif Nat.blt k 26 then (bif Nat.blt k 25 then "(IIII)V" else "(LHalvedNames$Hill;LHalvedNames$Slots;I)I") else (bif Nat.blt k 27 then "(LHalvedNames$Hill;ILHalvedNames$Slots;I)Z" else "(LHalvedNames$Hill;LHalvedNames$Slots;II)I")) else (bif Nat.blt k 30 then (bif Nat.blt k 29 then "(LHalvedNames$Slots;III)I" else "(LHalvedNames$Hill;LHalvedNames$Slots;I)Z") else (bif Nat.blt k 31 then "(LHalvedNames$Hill;II)Z" else "(LHalvedNames$Hill;)I")))
noncomputable def kyD_h4 (k : Nat) : String := (bif Nat.blt k 36 then (bif Nat.blt k 34 then (bif Nat.blt k 33 then "(LHalvedNames$Hill;I)V" else "(II)V") else (bif Nat.blt k 35 then "(Ljava/lang/String;)V" else "(I)V")) else (bif Nat.blt k 38 then (bif Nat.blt k 37 then "([II)I" else "([III)V") else (bif Nat.blt k 39 then "([II)V" else "([I[I)V")))
noncomputable def kyD_h5 (k : Nat) : String := (bif Nat.blt k 44 then (bif Nat.blt k 42 then (bif Nat.blt k 41 then "(II)J" else "(JJ)J") else (bif Nat.blt k 43 then "(III)V" else "(IIJ)V")) else (bif Nat.blt k 46 then (bif Nat.blt k 45 then "(JI)J" else "(III)Z") else (bif Nat.blt k 47 then "(IIIII)V" else "(LHalvedNames$Hill;LHalvedNames$Course;)V")))
noncomputable def kyD_h6 (k : Nat) : String := (bif Nat.blt k 52 then (bif Nat.blt k 50 then (bif Nat.blt k 49 then "(LHalvedNames$Hill;LHalvedNames$Course;I)V" else "(LHalvedNames$Course;I)V") else (bif Nat.blt k 51 then "(Ljava/lang/String;)Z" else "(JJJ)Z")) else (bif Nat.blt k 54 then (bif Nat.blt k 53 then "(J)Z" else "(Ljava/lang/String;II)I") else (bif Nat.blt k 55 then "(IZ)I" else "(J)V")))
noncomputable def kyD_h7 (k : Nat) : String := (bif Nat.blt k 58 then (bif Nat.blt k 57 then "(I)C" else "()B") else (bif Nat.blt k 59 then "([BI)C" else "(IILjava/util/function/BiFunction;)I"))
noncomputable def kyD (k : Nat) : String := (bif Nat.blt k 32 then (bif Nat.blt k 16 then (bif Nat.blt k 8 then (kyD_h0 k) else (kyD_h1 k)) else (bif Nat.blt k 24 then (kyD_h2 k) else (kyD_h3 k))) else (bif Nat.blt k 48 then (bif Nat.blt k 40 then (kyD_h4 k) else (kyD_h5 k)) else (bif Nat.blt k 56 then (kyD_h6 k) else (kyD_h7 k))))
noncomputable def kyN_h0 (k : Nat) : Nat := (bif Nat.blt k 4 then (bif Nat.blt k 2 then (bif Nat.blt k 1 then 0 else 5) else (bif Nat.blt k 3 then 1 else 0)) else (bif Nat.blt k 6 then (bif Nat.blt k 5 then 2 else 3) else (bif Nat.blt k 7 then 4 else 3)))
noncomputable def kyN_h1 (k : Nat) : Nat := (bif Nat.blt k 12 then (bif Nat.blt k 10 then (bif Nat.blt k 9 then 1 else 3) else (bif Nat.blt k 11 then 2 else 4)) else (bif Nat.blt k 14 then (bif Nat.blt k 13 then 3 else 2) else (bif Nat.blt k 15 then 3 else 2)))
noncomputable def kyN_h2 (k : Nat) : Nat := (bif Nat.blt k 20 then (bif Nat.blt k 18 then (bif Nat.blt k 17 then 1 else 3) else (bif Nat.blt k 19 then 2 else 4)) else (bif Nat.blt k 22 then (bif Nat.blt k 21 then 4 else 2) else (bif Nat.blt k 23 then 0 else 1)))
noncomputable def kyN_h3 (k : Nat) : Nat := (bif Nat.blt k 28 then (bif Nat.blt k 26 then (bif Nat.blt k 25 then 4 else 3) else (bif Nat.blt k 27 then 4 else 4)) else (bif Nat.blt k 30 then (bif Nat.blt k 29 then 4 else 3) else (bif Nat.blt k 31 then 3 else 1)))
noncomputable def kyN_h4 (k : Nat) : Nat := (bif Nat.blt k 36 then (bif Nat.blt k 34 then (bif Nat.blt k 33 then 2 else 2) else (bif Nat.blt k 35 then 1 else 1)) else (bif Nat.blt k 38 then (bif Nat.blt k 37 then 2 else 3) else (bif Nat.blt k 39 then 2 else 2)))
noncomputable def kyN_h5 (k : Nat) : Nat := (bif Nat.blt k 44 then (bif Nat.blt k 42 then (bif Nat.blt k 41 then 2 else 2) else (bif Nat.blt k 43 then 3 else 3)) else (bif Nat.blt k 46 then (bif Nat.blt k 45 then 2 else 3) else (bif Nat.blt k 47 then 5 else 2)))
noncomputable def kyN_h6 (k : Nat) : Nat := (bif Nat.blt k 52 then (bif Nat.blt k 50 then (bif Nat.blt k 49 then 3 else 2) else (bif Nat.blt k 51 then 1 else 3)) else (bif Nat.blt k 54 then (bif Nat.blt k 53 then 1 else 3) else (bif Nat.blt k 55 then 2 else 1)))
noncomputable def kyN_h7 (k : Nat) : Nat := (bif Nat.blt k 58 then (bif Nat.blt k 57 then 1 else 0) else (bif Nat.blt k 59 then 2 else 3))
noncomputable def kyN (k : Nat) : Nat := (bif Nat.blt k 32 then (bif Nat.blt k 16 then (bif Nat.blt k 8 then (kyN_h0 k) else (kyN_h1 k)) else (bif Nat.blt k 24 then (kyN_h2 k) else (kyN_h3 k))) else (bif Nat.blt k 48 then (bif Nat.blt k 40 then (kyN_h4 k) else (kyN_h5 k)) else (bif Nat.blt k 56 then (kyN_h6 k) else (kyN_h7 k))))
noncomputable def kyE_h0_h0 (k : Nat) : Nat := (bif Nat.blt k 4 then (bif Nat.blt k 2 then (bif Nat.blt k 1 then 0 else 1) else (bif Nat.blt k 3 then 2 else 3)) else (bif Nat.blt k 6 then (bif Nat.blt k 5 then 2 else 4) else (bif Nat.blt k 7 then 2 else 4)))
noncomputable def kyE_h0_h1 (k : Nat) : Nat := (bif Nat.blt k 12 then (bif Nat.blt k 10 then (bif Nat.blt k 9 then 4 else 4) else (bif Nat.blt k 11 then 4 else 5)) else (bif Nat.blt k 14 then (bif Nat.blt k 13 then 2 else 2) else (bif Nat.blt k 15 then 2 else 4)))
noncomputable def kyE_h0_h2 (k : Nat) : Nat := (bif Nat.blt k 20 then (bif Nat.blt k 18 then (bif Nat.blt k 17 then 4 else 2) else (bif Nat.blt k 19 then 2 else 2)) else (bif Nat.blt k 22 then (bif Nat.blt k 21 then 4 else 2) else (bif Nat.blt k 23 then 5 else 4)))
noncomputable def kyE_h0_h3 (k : Nat) : Nat := (bif Nat.blt k 28 then (bif Nat.blt k 26 then (bif Nat.blt k 25 then 4 else 4) else (bif Nat.blt k 27 then 5 else 4)) else (bif Nat.blt k 30 then (bif Nat.blt k 29 then 2 else 2) else (bif Nat.blt k 31 then 2 else 2)))
noncomputable def kyE_h0_h4 (k : Nat) : Nat := (bif Nat.blt k 36 then (bif Nat.blt k 34 then (bif Nat.blt k 33 then 2 else 4) else (bif Nat.blt k 35 then 4 else 3)) else (bif Nat.blt k 38 then (bif Nat.blt k 37 then 4 else 4) else (bif Nat.blt k 39 then 4 else 4)))
noncomputable def kyE_h0_h5 (k : Nat) : Nat := (bif Nat.blt k 44 then (bif Nat.blt k 42 then (bif Nat.blt k 41 then 4 else 6) else (bif Nat.blt k 43 then 3 else 5)) else (bif Nat.blt k 46 then (bif Nat.blt k 45 then 6 else 5) else (bif Nat.blt k 47 then 4 else 4)))
noncomputable def kyE_h0_h6 (k : Nat) : Nat := (bif Nat.blt k 52 then (bif Nat.blt k 50 then (bif Nat.blt k 49 then 5 else 6) else (bif Nat.blt k 51 then 5 else 2)) else (bif Nat.blt k 54 then (bif Nat.blt k 53 then 4 else 2) else (bif Nat.blt k 55 then 2 else 2)))
noncomputable def kyE_h0_h7 (k : Nat) : Nat := (bif Nat.blt k 60 then (bif Nat.blt k 58 then (bif Nat.blt k 57 then 2 else 2) else (bif Nat.blt k 59 then 5 else 4)) else (bif Nat.blt k 62 then (bif Nat.blt k 61 then 2 else 2) else (bif Nat.blt k 63 then 7 else 2)))
noncomputable def kyE_h0 (k : Nat) : Nat := (bif Nat.blt k 32 then (bif Nat.blt k 16 then (bif Nat.blt k 8 then (kyE_h0_h0 k) else (kyE_h0_h1 k)) else (bif Nat.blt k 24 then (kyE_h0_h2 k) else (kyE_h0_h3 k))) else (bif Nat.blt k 48 then (bif Nat.blt k 40 then (kyE_h0_h4 k) else (kyE_h0_h5 k)) else (bif Nat.blt k 56 then (kyE_h0_h6 k) else (kyE_h0_h7 k))))
noncomputable def kyE_h1_h0 (k : Nat) : Nat := (bif Nat.blt k 68 then (bif Nat.blt k 66 then (bif Nat.blt k 65 then 5 else 6) else (bif Nat.blt k 67 then 2 else 2)) else (bif Nat.blt k 70 then (bif Nat.blt k 69 then 2 else 8) else (bif Nat.blt k 71 then 5 else 9)))
noncomputable def kyE_h1_h1 (k : Nat) : Nat := (bif Nat.blt k 76 then (bif Nat.blt k 74 then (bif Nat.blt k 73 then 1 else 0) else (bif Nat.blt k 75 then 10 else 2)) else (bif Nat.blt k 78 then (bif Nat.blt k 77 then 2 else 0) else (bif Nat.blt k 79 then 11 else 12)))
noncomputable def kyE_h1_h2 (k : Nat) : Nat := (bif Nat.blt k 84 then (bif Nat.blt k 82 then (bif Nat.blt k 81 then 11 else 13) else (bif Nat.blt k 83 then 14 else 15)) else (bif Nat.blt k 86 then (bif Nat.blt k 85 then 0 else 16) else (bif Nat.blt k 87 then 17 else 16)))
noncomputable def kyE_h1_h3 (k : Nat) : Nat := (bif Nat.blt k 92 then (bif Nat.blt k 90 then (bif Nat.blt k 89 then 4 else 2) else (bif Nat.blt k 91 then 2 else 18)) else (bif Nat.blt k 94 then (bif Nat.blt k 93 then 17 else 19) else (bif Nat.blt k 95 then 19 else 20)))
noncomputable def kyE_h1_h4 (k : Nat) : Nat := (bif Nat.blt k 100 then (bif Nat.blt k 98 then (bif Nat.blt k 97 then 7 else 21) else (bif Nat.blt k 99 then 0 else 0)) else (bif Nat.blt k 102 then (bif Nat.blt k 101 then 16 else 22) else (bif Nat.blt k 103 then 23 else 23)))
noncomputable def kyE_h1_h5 (k : Nat) : Nat := (bif Nat.blt k 108 then (bif Nat.blt k 106 then (bif Nat.blt k 105 then 23 else 10) else (bif Nat.blt k 107 then 2 else 4)) else (bif Nat.blt k 110 then (bif Nat.blt k 109 then 2 else 3) else (bif Nat.blt k 111 then 4 else 0)))
noncomputable def kyE_h1_h6 (k : Nat) : Nat := (bif Nat.blt k 116 then (bif Nat.blt k 114 then (bif Nat.blt k 113 then 24 else 2) else (bif Nat.blt k 115 then 10 else 0)) else (bif Nat.blt k 118 then (bif Nat.blt k 117 then 25 else 26) else (bif Nat.blt k 119 then 27 else 28)))
noncomputable def kyE_h1_h7 (k : Nat) : Nat := (bif Nat.blt k 124 then (bif Nat.blt k 122 then (bif Nat.blt k 121 then 29 else 25) else (bif Nat.blt k 123 then 15 else 17)) else (bif Nat.blt k 126 then (bif Nat.blt k 125 then 0 else 17) else (bif Nat.blt k 127 then 30 else 30)))
noncomputable def kyE_h1 (k : Nat) : Nat := (bif Nat.blt k 96 then (bif Nat.blt k 80 then (bif Nat.blt k 72 then (kyE_h1_h0 k) else (kyE_h1_h1 k)) else (bif Nat.blt k 88 then (kyE_h1_h2 k) else (kyE_h1_h3 k))) else (bif Nat.blt k 112 then (bif Nat.blt k 104 then (kyE_h1_h4 k) else (kyE_h1_h5 k)) else (bif Nat.blt k 120 then (kyE_h1_h6 k) else (kyE_h1_h7 k))))
noncomputable def kyE_h2_h0 (k : Nat) : Nat := (bif Nat.blt k 132 then (bif Nat.blt k 130 then (bif Nat.blt k 129 then 19 else 31) else (bif Nat.blt k 131 then 32 else 5)) else (bif Nat.blt k 134 then (bif Nat.blt k 133 then 0 else 16) else (bif Nat.blt k 135 then 16 else 16)))
noncomputable def kyE_h2_h1 (k : Nat) : Nat := (bif Nat.blt k 140 then (bif Nat.blt k 138 then (bif Nat.blt k 137 then 16 else 16) else (bif Nat.blt k 139 then 16 else 16)) else (bif Nat.blt k 142 then (bif Nat.blt k 141 then 31 else 4) else (bif Nat.blt k 143 then 33 else 4)))
noncomputable def kyE_h2_h2 (k : Nat) : Nat := (bif Nat.blt k 148 then (bif Nat.blt k 146 then (bif Nat.blt k 145 then 34 else 0) else (bif Nat.blt k 147 then 35 else 36)) else (bif Nat.blt k 150 then (bif Nat.blt k 149 then 37 else 38) else (bif Nat.blt k 151 then 39 else 40)))
noncomputable def kyE_h2_h3 (k : Nat) : Nat := (bif Nat.blt k 156 then (bif Nat.blt k 154 then (bif Nat.blt k 153 then 41 else 0) else (bif Nat.blt k 155 then 28 else 28)) else (bif Nat.blt k 158 then (bif Nat.blt k 157 then 4 else 5) else (bif Nat.blt k 159 then 33 else 0)))
noncomputable def kyE_h2_h4 (k : Nat) : Nat := (bif Nat.blt k 164 then (bif Nat.blt k 162 then (bif Nat.blt k 161 then 23 else 23) else (bif Nat.blt k 163 then 2 else 2)) else (bif Nat.blt k 166 then (bif Nat.blt k 165 then 40 else 42) else (bif Nat.blt k 167 then 43 else 44)))
noncomputable def kyE_h2_h5 (k : Nat) : Nat := (bif Nat.blt k 172 then (bif Nat.blt k 170 then (bif Nat.blt k 169 then 45 else 46) else (bif Nat.blt k 171 then 45 else 3)) else (bif Nat.blt k 174 then (bif Nat.blt k 173 then 0 else 47) else (bif Nat.blt k 175 then 48 else 49)))
noncomputable def kyE_h2_h6 (k : Nat) : Nat := (bif Nat.blt k 180 then (bif Nat.blt k 178 then (bif Nat.blt k 177 then 5 else 19) else (bif Nat.blt k 179 then 17 else 17)) else (bif Nat.blt k 182 then (bif Nat.blt k 181 then 15 else 17) else (bif Nat.blt k 183 then 19 else 17)))
noncomputable def kyE_h2_h7 (k : Nat) : Nat := (bif Nat.blt k 188 then (bif Nat.blt k 186 then (bif Nat.blt k 185 then 0 else 35) else (bif Nat.blt k 187 then 2 else 0)) else (bif Nat.blt k 190 then (bif Nat.blt k 189 then 0 else 5) else (bif Nat.blt k 191 then 2 else 50)))
noncomputable def kyE_h2 (k : Nat) : Nat := (bif Nat.blt k 160 then (bif Nat.blt k 144 then (bif Nat.blt k 136 then (kyE_h2_h0 k) else (kyE_h2_h1 k)) else (bif Nat.blt k 152 then (kyE_h2_h2 k) else (kyE_h2_h3 k))) else (bif Nat.blt k 176 then (bif Nat.blt k 168 then (kyE_h2_h4 k) else (kyE_h2_h5 k)) else (bif Nat.blt k 184 then (kyE_h2_h6 k) else (kyE_h2_h7 k))))
noncomputable def kyE_h3_h0 (k : Nat) : Nat := (bif Nat.blt k 196 then (bif Nat.blt k 194 then (bif Nat.blt k 193 then 0 else 51) else (bif Nat.blt k 195 then 2 else 4)) else (bif Nat.blt k 198 then (bif Nat.blt k 197 then 2 else 2) else (bif Nat.blt k 199 then 22 else 23)))
noncomputable def kyE_h3_h1 (k : Nat) : Nat := (bif Nat.blt k 204 then (bif Nat.blt k 202 then (bif Nat.blt k 201 then 10 else 23) else (bif Nat.blt k 203 then 23 else 52)) else (bif Nat.blt k 206 then (bif Nat.blt k 205 then 2 else 4) else (bif Nat.blt k 207 then 2 else 4)))
noncomputable def kyE_h3_h2 (k : Nat) : Nat := (bif Nat.blt k 212 then (bif Nat.blt k 210 then (bif Nat.blt k 209 then 4 else 3) else (bif Nat.blt k 211 then 1 else 2)) else (bif Nat.blt k 214 then (bif Nat.blt k 213 then 2 else 0) else (bif Nat.blt k 215 then 22 else 35)))
noncomputable def kyE_h3_h3 (k : Nat) : Nat := (bif Nat.blt k 220 then (bif Nat.blt k 218 then (bif Nat.blt k 217 then 50 else 50) else (bif Nat.blt k 219 then 34 else 4)) else (bif Nat.blt k 222 then (bif Nat.blt k 221 then 53 else 2) else (bif Nat.blt k 223 then 3 else 2)))
noncomputable def kyE_h3_h4 (k : Nat) : Nat := (bif Nat.blt k 228 then (bif Nat.blt k 226 then (bif Nat.blt k 225 then 3 else 0) else (bif Nat.blt k 227 then 0 else 2)) else (bif Nat.blt k 230 then (bif Nat.blt k 229 then 0 else 0) else (bif Nat.blt k 231 then 0 else 0)))
noncomputable def kyE_h3_h5 (k : Nat) : Nat := (bif Nat.blt k 236 then (bif Nat.blt k 234 then (bif Nat.blt k 233 then 0 else 3) else (bif Nat.blt k 235 then 3 else 10)) else (bif Nat.blt k 238 then (bif Nat.blt k 237 then 35 else 0) else (bif Nat.blt k 239 then 0 else 5)))
noncomputable def kyE_h3_h6 (k : Nat) : Nat := (bif Nat.blt k 244 then (bif Nat.blt k 242 then (bif Nat.blt k 241 then 4 else 45) else (bif Nat.blt k 243 then 10 else 4)) else (bif Nat.blt k 246 then (bif Nat.blt k 245 then 2 else 4) else (bif Nat.blt k 247 then 4 else 4)))
noncomputable def kyE_h3_h7 (k : Nat) : Nat := (bif Nat.blt k 252 then (bif Nat.blt k 250 then (bif Nat.blt k 249 then 4 else 5) else (bif Nat.blt k 251 then 2 else 2)) else (bif Nat.blt k 254 then (bif Nat.blt k 253 then 2 else 4) else (bif Nat.blt k 255 then 4 else 4)))
noncomputable def kyE_h3 (k : Nat) : Nat := (bif Nat.blt k 224 then (bif Nat.blt k 208 then (bif Nat.blt k 200 then (kyE_h3_h0 k) else (kyE_h3_h1 k)) else (bif Nat.blt k 216 then (kyE_h3_h2 k) else (kyE_h3_h3 k))) else (bif Nat.blt k 240 then (bif Nat.blt k 232 then (kyE_h3_h4 k) else (kyE_h3_h5 k)) else (bif Nat.blt k 248 then (kyE_h3_h6 k) else (kyE_h3_h7 k))))
noncomputable def kyE_h4_h0 (k : Nat) : Nat := (bif Nat.blt k 260 then (bif Nat.blt k 258 then (bif Nat.blt k 257 then 4 else 2) else (bif Nat.blt k 259 then 2 else 2)) else (bif Nat.blt k 262 then (bif Nat.blt k 261 then 2 else 4) else (bif Nat.blt k 263 then 4 else 2)))
noncomputable def kyE_h4_h1 (k : Nat) : Nat := (bif Nat.blt k 268 then (bif Nat.blt k 266 then (bif Nat.blt k 265 then 45 else 5) else (bif Nat.blt k 267 then 5 else 4)) else (bif Nat.blt k 270 then (bif Nat.blt k 269 then 4 else 4) else (bif Nat.blt k 271 then 4 else 2)))
noncomputable def kyE_h4_h2 (k : Nat) : Nat := (bif Nat.blt k 276 then (bif Nat.blt k 274 then (bif Nat.blt k 273 then 10 else 2) else (bif Nat.blt k 275 then 2 else 2)) else (bif Nat.blt k 278 then (bif Nat.blt k 277 then 10 else 4) else (bif Nat.blt k 279 then 2 else 4)))
noncomputable def kyE_h4_h3 (k : Nat) : Nat := (bif Nat.blt k 284 then (bif Nat.blt k 282 then (bif Nat.blt k 281 then 4 else 4) else (bif Nat.blt k 283 then 2 else 3)) else (bif Nat.blt k 286 then (bif Nat.blt k 285 then 45 else 2) else (bif Nat.blt k 287 then 4 else 4)))
noncomputable def kyE_h4_h4 (k : Nat) : Nat := (bif Nat.blt k 292 then (bif Nat.blt k 290 then (bif Nat.blt k 289 then 4 else 4) else (bif Nat.blt k 291 then 4 else 6)) else (bif Nat.blt k 294 then (bif Nat.blt k 293 then 3 else 5) else (bif Nat.blt k 295 then 6 else 45)))
noncomputable def kyE_h4_h5 (k : Nat) : Nat := (bif Nat.blt k 300 then (bif Nat.blt k 298 then (bif Nat.blt k 297 then 5 else 4) else (bif Nat.blt k 299 then 4 else 4)) else (bif Nat.blt k 302 then (bif Nat.blt k 301 then 40 else 5) else (bif Nat.blt k 303 then 42 else 5)))
noncomputable def kyE_h4_h6 (k : Nat) : Nat := (bif Nat.blt k 308 then (bif Nat.blt k 306 then (bif Nat.blt k 305 then 6 else 54) else (bif Nat.blt k 307 then 35 else 23)) else (bif Nat.blt k 310 then (bif Nat.blt k 309 then 2 else 2) else (bif Nat.blt k 311 then 33 else 4)))
noncomputable def kyE_h4_h7 (k : Nat) : Nat := (bif Nat.blt k 316 then (bif Nat.blt k 314 then (bif Nat.blt k 313 then 2 else 10) else (bif Nat.blt k 315 then 2 else 2)) else (bif Nat.blt k 318 then (bif Nat.blt k 317 then 4 else 2) else (bif Nat.blt k 319 then 2 else 2)))
noncomputable def kyE_h4 (k : Nat) : Nat := (bif Nat.blt k 288 then (bif Nat.blt k 272 then (bif Nat.blt k 264 then (kyE_h4_h0 k) else (kyE_h4_h1 k)) else (bif Nat.blt k 280 then (kyE_h4_h2 k) else (kyE_h4_h3 k))) else (bif Nat.blt k 304 then (bif Nat.blt k 296 then (kyE_h4_h4 k) else (kyE_h4_h5 k)) else (bif Nat.blt k 312 then (kyE_h4_h6 k) else (kyE_h4_h7 k))))
noncomputable def kyE_h5_h0 (k : Nat) : Nat := (bif Nat.blt k 324 then (bif Nat.blt k 322 then (bif Nat.blt k 321 then 5 else 5) else (bif Nat.blt k 323 then 4 else 23)) else (bif Nat.blt k 326 then (bif Nat.blt k 325 then 22 else 2) else (bif Nat.blt k 327 then 2 else 2)))
noncomputable def kyE_h5_h1 (k : Nat) : Nat := (bif Nat.blt k 332 then (bif Nat.blt k 330 then (bif Nat.blt k 329 then 41 else 7) else (bif Nat.blt k 331 then 7 else 55)) else (bif Nat.blt k 334 then (bif Nat.blt k 333 then 23 else 5) else (bif Nat.blt k 335 then 6 else 2)))
noncomputable def kyE_h5_h2 (k : Nat) : Nat := (bif Nat.blt k 340 then (bif Nat.blt k 338 then (bif Nat.blt k 337 then 23 else 44) else (bif Nat.blt k 339 then 5 else 9)) else (bif Nat.blt k 342 then (bif Nat.blt k 341 then 1 else 4) else (bif Nat.blt k 343 then 4 else 2)))
noncomputable def kyE_h5_h3 (k : Nat) : Nat := (bif Nat.blt k 348 then (bif Nat.blt k 346 then (bif Nat.blt k 345 then 2 else 3) else (bif Nat.blt k 347 then 56 else 57)) else (bif Nat.blt k 350 then (bif Nat.blt k 349 then 22 else 58) else (bif Nat.blt k 351 then 33 else 59)))
noncomputable def kyE_h5 (k : Nat) : Nat := (bif Nat.blt k 336 then (bif Nat.blt k 328 then (kyE_h5_h0 k) else (kyE_h5_h1 k)) else (bif Nat.blt k 344 then (kyE_h5_h2 k) else (kyE_h5_h3 k)))
noncomputable def kyE (k : Nat) : Nat := (bif Nat.blt k 192 then (bif Nat.blt k 64 then (kyE_h0 k) else (bif Nat.blt k 128 then (kyE_h1 k) else (kyE_h2 k))) else (bif Nat.blt k 256 then (kyE_h3 k) else (bif Nat.blt k 320 then (kyE_h4 k) else (kyE_h5 k))))
noncomputable def kyW0_h0 (k : Nat) : Nat := (bif Nat.blt k 4 then (bif Nat.blt k 2 then (bif Nat.blt k 1 then 1 else 7) else (bif Nat.blt k 3 then 5 else 4)) else (bif Nat.blt k 6 then (bif Nat.blt k 5 then 10 else 11) else (bif Nat.blt k 7 then 2 else 13)))
noncomputable def kyW0_h1 (k : Nat) : Nat := (bif Nat.blt k 12 then (bif Nat.blt k 10 then (bif Nat.blt k 9 then 9 else 8) else (bif Nat.blt k 11 then 6 else 3)) else (bif Nat.blt k 14 then (bif Nat.blt k 13 then 12 else 18) else (bif Nat.blt k 15 then 19 else 14)))
noncomputable def kyW0_h2 (k : Nat) : Nat := (bif Nat.blt k 17 then 15 else 16)
noncomputable def kyW0 (k : Nat) : Nat := (bif Nat.blt k 8 then (kyW0_h0 k) else (bif Nat.blt k 16 then (kyW0_h1 k) else (kyW0_h2 k)))
noncomputable def eqIM (o : Option Cond) (m : MethodName) : Bool := match o with
  | some (.instanceMethod x) => decide (x = m)
  | _ => false
noncomputable def eqST (o : Option Cond) (m : MethodName) : Bool := match o with
  | some (.static x) => decide (x = m)
  | _ => false
noncomputable def eqSE (o : Option Cond) (m : MethodName) : Bool := match o with
  | some (.selects c x y) => decide (c = m.cls) && (decide (x = m) && decide (y = m))
  | _ => false
theorem eqIM_ok {o : Option Cond} {m : MethodName} (h : eqIM o m = true) : o = some (.instanceMethod m) := by
  unfold eqIM at h
  split at h
  · rw [of_decide_eq_true h]
  · cases h
theorem eqST_ok {o : Option Cond} {m : MethodName} (h : eqST o m = true) : o = some (.static m) := by
  unfold eqST at h
  split at h
  · rw [of_decide_eq_true h]
  · cases h
theorem eqSE_ok {o : Option Cond} {m : MethodName} (h : eqSE o m = true) : o = some (.selects m.cls m m) := by
  unfold eqSE at h
  split at h
  · rw [Bool.and_eq_true, Bool.and_eq_true] at h
    rw [of_decide_eq_true h.1, of_decide_eq_true h.2.1, of_decide_eq_true h.2.2]
  · cases h
theorem wAt_of {n : Nat} {w : Cond} (h : (tch n)[n % 240]? = some w) (g : goodWord w = true) : wAt (n : Int) w = true := by
  unfold wAt
  rw [Bool.and_eq_true]
  refine ⟨decide_eq_true ?_, g⟩
  rw [Int.toNat_natCast]
  exact h
/-- the word that a method is what a call of it selects: by its place -/
noncomputable def selB (k : Nat) : Bool := bif Nat.blt (mW k).2.2.2 109 then decide (lw_tbl[(mW k).2.2.2]? = some (Cond.selects (mY k).cls (mY k) (mY k))) else eqSE ((tch ((mW k).2.2.2 - 109))[((mW k).2.2.2 - 109) % 240]?) (mY k)
theorem selB_in {k : Nat} (h : selB k = true) : Cond.selects (mY k).cls (mY k) (mY k) ∈ lw_tbl := by
  unfold selB at h
  cases hb : Nat.blt (mW k).2.2.2 109 with
  | true =>
    rw [hb, cond_true] at h
    exact List.mem_of_getElem? (of_decide_eq_true h)
  | false =>
    rw [hb, cond_false] at h
    exact tbl_in (tch_in (List.mem_of_getElem? (eqSE_ok h)))
noncomputable def okY (k : Nat) : Bool := goodWord (Cond.code (mY k) (mCode k) (mML k) (mRet k)) && wAt (mW k).2.1 (Cond.initialized (mY k).cls) && decide ((mY k).cls ≠ "java/lang/invoke/MethodHandle") && decide ((mY k).cls ≠ "java/lang/invoke/VarHandle") && decide ((parseMethodDescriptor (mY k).desc).map (fun d => d.parameters.length) = some (mN k)) && plainFor (mY k) && Nat.ble (mML k) 21 && decide ((mY k).cls = mOwn k)
  && (bif Nat.beq (mKind k) 0 then wAt (mW k).2.2.1 (Cond.instanceMethod (mY k)) && selB k else bif Nat.beq (mKind k) 1 then wAt (mW k).2.2.1 (Cond.static (mY k)) else wAt (mW k).2.2.1 (Cond.instanceMethod (mY k)) && decide ((mY k).name = "<init>"))
noncomputable def kyP (o : Nat) : Bool := decide (kyC o ≠ "java/lang/invoke/MethodHandle") && decide (kyC o ≠ "java/lang/invoke/VarHandle") && plainName (kyC o) && wAt (kyW0 o) (Cond.initialized (kyC o))
set_option maxRecDepth 100000 in
theorem kyP_all : (List.range 13).all kyP = true := by decide +kernel
set_option maxRecDepth 100000 in
theorem kyD_all : (List.range 60).all (fun e => decide ((parseMethodDescriptor (kyD e)).map (fun d => d.parameters.length) = some (kyN e))) = true := by decide +kernel
noncomputable def okYF (k : Nat) : Bool := bif Nat.blt (kyO k) 13 then Nat.beq (mW k).2.1 (kyW0 (kyO k)) && decide ((mY k).cls = kyC (kyO k)) && (Nat.blt (kyE k) 60 && decide ((mY k).desc = kyD (kyE k))) && Nat.beq (kyN (kyE k)) (mN k) && Nat.ble (mML k) 21
  && (bif Nat.beq (mKind k) 0 then eqIM ((tch (mW k).2.2.1)[(mW k).2.2.1 % 240]?) (mY k) && selB k else bif Nat.beq (mKind k) 1 then eqST ((tch (mW k).2.2.1)[(mW k).2.2.1 % 240]?) (mY k) else eqIM ((tch (mW k).2.2.1)[(mW k).2.2.1 % 240]?) (mY k) && decide ((mY k).name = "<init>")) else okY k
theorem okYF_ok {k : Nat} (hk : k < 352) (h : okYF k = true) : okY k = true := by
  unfold okYF at h
  cases ho : Nat.blt (kyO k) 13 with
  | false =>
    rw [ho, cond_false] at h
    exact h
  | true =>
    rw [ho, cond_true] at h
    rw [Bool.and_eq_true, Bool.and_eq_true, Bool.and_eq_true, Bool.and_eq_true, Bool.and_eq_true] at h
    obtain ⟨⟨⟨⟨⟨h1, h2⟩, h3⟩, h4⟩, h5⟩, h6⟩ := h
    rw [Bool.and_eq_true] at h3
    have P := List.all_eq_true.mp kyP_all (kyO k) (List.mem_range.mpr (Nat.blt_eq.mp ho))
    unfold kyP at P
    rw [Bool.and_eq_true, Bool.and_eq_true, Bool.and_eq_true] at P
    obtain ⟨⟨⟨p1, p2⟩, p3⟩, p4⟩ := P
    have q := of_decide_eq_true (List.all_eq_true.mp kyD_all (kyE k) (List.mem_range.mpr (Nat.blt_eq.mp h3.1)))
    have e1 : (mY k).cls = kyC (kyO k) := of_decide_eq_true h2
    have e2 : (mW k).2.1 = kyW0 (kyO k) := Nat.eq_of_beq_eq_true h1
    have e3 : (mY k).desc = kyD (kyE k) := of_decide_eq_true h3.2
    have e4 : kyN (kyE k) = mN k := Nat.eq_of_beq_eq_true h4
    unfold okY
    rw [Bool.and_eq_true, Bool.and_eq_true, Bool.and_eq_true, Bool.and_eq_true, Bool.and_eq_true, Bool.and_eq_true, Bool.and_eq_true, Bool.and_eq_true]
    refine ⟨⟨⟨⟨⟨⟨⟨⟨rfl, ?_⟩, ?_⟩, ?_⟩, ?_⟩, ?_⟩, h5⟩, ?_⟩, ?_⟩
    · rw [e2, e1]
      exact p4
    · rw [e1]
      exact p1
    · rw [e1]
      exact p2
    · apply decide_eq_true
      rw [e3, ← e4]
      exact q
    · unfold plainFor
      rw [e1, p3]
      rfl
    · exact decide_eq_true (e1.trans (kyO_eq hk).symm)
    · cases hz : Nat.beq (mKind k) 0 with
      | true =>
        rw [hz, cond_true, Bool.and_eq_true] at h6
        rw [cond_true, Bool.and_eq_true]
        exact ⟨wAt_of (eqIM_ok h6.1) rfl, h6.2⟩
      | false =>
        rw [hz, cond_false] at h6
        rw [cond_false]
        cases h1 : Nat.beq (mKind k) 1 with
        | true =>
          rw [h1, cond_true] at h6
          rw [cond_true]
          exact wAt_of (eqST_ok h6) rfl
        | false =>
          rw [h1, cond_false, Bool.and_eq_true] at h6
          rw [cond_false, Bool.and_eq_true]
          exact ⟨wAt_of (eqIM_ok h6.1) rfl, h6.2⟩
noncomputable def mCi_h0_h0 (k : Nat) : Nat := (bif Nat.blt k 4 then (bif Nat.blt k 2 then (bif Nat.blt k 1 then 10 else 10) else (bif Nat.blt k 3 then 10 else 10)) else (bif Nat.blt k 6 then (bif Nat.blt k 5 then 10 else 10) else (bif Nat.blt k 7 then 10 else 10)))
noncomputable def mCi_h0_h1 (k : Nat) : Nat := (bif Nat.blt k 12 then (bif Nat.blt k 10 then (bif Nat.blt k 9 then 10 else 10) else (bif Nat.blt k 11 then 10 else 10)) else (bif Nat.blt k 14 then (bif Nat.blt k 13 then 10 else 10) else (bif Nat.blt k 15 then 10 else 10)))
noncomputable def mCi_h0_h2 (k : Nat) : Nat := (bif Nat.blt k 20 then (bif Nat.blt k 18 then (bif Nat.blt k 17 then 10 else 10) else (bif Nat.blt k 19 then 10 else 10)) else (bif Nat.blt k 22 then (bif Nat.blt k 21 then 10 else 10) else (bif Nat.blt k 23 then 10 else 10)))
noncomputable def mCi_h0_h3 (k : Nat) : Nat := (bif Nat.blt k 28 then (bif Nat.blt k 26 then (bif Nat.blt k 25 then 10 else 10) else (bif Nat.blt k 27 then 10 else 10)) else (bif Nat.blt k 30 then (bif Nat.blt k 29 then 10 else 10) else (bif Nat.blt k 31 then 10 else 10)))
noncomputable def mCi_h0_h4 (k : Nat) : Nat := (bif Nat.blt k 36 then (bif Nat.blt k 34 then (bif Nat.blt k 33 then 10 else 10) else (bif Nat.blt k 35 then 10 else 10)) else (bif Nat.blt k 38 then (bif Nat.blt k 37 then 10 else 10) else (bif Nat.blt k 39 then 10 else 10)))
noncomputable def mCi_h0_h5 (k : Nat) : Nat := (bif Nat.blt k 44 then (bif Nat.blt k 42 then (bif Nat.blt k 41 then 10 else 10) else (bif Nat.blt k 43 then 10 else 10)) else (bif Nat.blt k 46 then (bif Nat.blt k 45 then 10 else 10) else (bif Nat.blt k 47 then 10 else 10)))
noncomputable def mCi_h0_h6 (k : Nat) : Nat := (bif Nat.blt k 52 then (bif Nat.blt k 50 then (bif Nat.blt k 49 then 10 else 10) else (bif Nat.blt k 51 then 10 else 10)) else (bif Nat.blt k 54 then (bif Nat.blt k 53 then 10 else 10) else (bif Nat.blt k 55 then 10 else 10)))
noncomputable def mCi_h0_h7 (k : Nat) : Nat := (bif Nat.blt k 60 then (bif Nat.blt k 58 then (bif Nat.blt k 57 then 10 else 10) else (bif Nat.blt k 59 then 10 else 10)) else (bif Nat.blt k 62 then (bif Nat.blt k 61 then 10 else 10) else (bif Nat.blt k 63 then 10 else 10)))
noncomputable def mCi_h0 (k : Nat) : Nat := (bif Nat.blt k 32 then (bif Nat.blt k 16 then (bif Nat.blt k 8 then (mCi_h0_h0 k) else (mCi_h0_h1 k)) else (bif Nat.blt k 24 then (mCi_h0_h2 k) else (mCi_h0_h3 k))) else (bif Nat.blt k 48 then (bif Nat.blt k 40 then (mCi_h0_h4 k) else (mCi_h0_h5 k)) else (bif Nat.blt k 56 then (mCi_h0_h6 k) else (mCi_h0_h7 k))))
noncomputable def mCi_h1_h0 (k : Nat) : Nat := (bif Nat.blt k 68 then (bif Nat.blt k 66 then (bif Nat.blt k 65 then 10 else 10) else (bif Nat.blt k 67 then 10 else 10)) else (bif Nat.blt k 70 then (bif Nat.blt k 69 then 10 else 10) else (bif Nat.blt k 71 then 10 else 10)))
noncomputable def mCi_h1_h1 (k : Nat) : Nat := (bif Nat.blt k 76 then (bif Nat.blt k 74 then (bif Nat.blt k 73 then 10 else 10) else (bif Nat.blt k 75 then 10 else 10)) else (bif Nat.blt k 78 then (bif Nat.blt k 77 then 10 else 0) else (bif Nat.blt k 79 then 0 else 0)))
noncomputable def mCi_h1_h2 (k : Nat) : Nat := (bif Nat.blt k 84 then (bif Nat.blt k 82 then (bif Nat.blt k 81 then 0 else 0) else (bif Nat.blt k 83 then 0 else 0)) else (bif Nat.blt k 86 then (bif Nat.blt k 85 then 1 else 1) else (bif Nat.blt k 87 then 1 else 1)))
noncomputable def mCi_h1_h3 (k : Nat) : Nat := (bif Nat.blt k 92 then (bif Nat.blt k 90 then (bif Nat.blt k 89 then 1 else 1) else (bif Nat.blt k 91 then 1 else 1)) else (bif Nat.blt k 94 then (bif Nat.blt k 93 then 1 else 1) else (bif Nat.blt k 95 then 1 else 1)))
noncomputable def mCi_h1_h4 (k : Nat) : Nat := (bif Nat.blt k 100 then (bif Nat.blt k 98 then (bif Nat.blt k 97 then 1 else 1) else (bif Nat.blt k 99 then 2 else 2)) else (bif Nat.blt k 102 then (bif Nat.blt k 101 then 2 else 2) else (bif Nat.blt k 103 then 2 else 2)))
noncomputable def mCi_h1_h5 (k : Nat) : Nat := (bif Nat.blt k 108 then (bif Nat.blt k 106 then (bif Nat.blt k 105 then 2 else 2) else (bif Nat.blt k 107 then 2 else 2)) else (bif Nat.blt k 110 then (bif Nat.blt k 109 then 2 else 2) else (bif Nat.blt k 111 then 2 else 2)))
noncomputable def mCi_h1_h6 (k : Nat) : Nat := (bif Nat.blt k 116 then (bif Nat.blt k 114 then (bif Nat.blt k 113 then 2 else 2) else (bif Nat.blt k 115 then 2 else 3)) else (bif Nat.blt k 118 then (bif Nat.blt k 117 then 3 else 3) else (bif Nat.blt k 119 then 3 else 3)))
noncomputable def mCi_h1_h7 (k : Nat) : Nat := (bif Nat.blt k 124 then (bif Nat.blt k 122 then (bif Nat.blt k 121 then 3 else 3) else (bif Nat.blt k 123 then 3 else 3)) else (bif Nat.blt k 126 then (bif Nat.blt k 125 then 4 else 4) else (bif Nat.blt k 127 then 4 else 4)))
noncomputable def mCi_h1 (k : Nat) : Nat := (bif Nat.blt k 96 then (bif Nat.blt k 80 then (bif Nat.blt k 72 then (mCi_h1_h0 k) else (mCi_h1_h1 k)) else (bif Nat.blt k 88 then (mCi_h1_h2 k) else (mCi_h1_h3 k))) else (bif Nat.blt k 112 then (bif Nat.blt k 104 then (mCi_h1_h4 k) else (mCi_h1_h5 k)) else (bif Nat.blt k 120 then (mCi_h1_h6 k) else (mCi_h1_h7 k))))
noncomputable def mCi_h2_h0 (k : Nat) : Nat := (bif Nat.blt k 132 then (bif Nat.blt k 130 then (bif Nat.blt k 129 then 4 else 4) else (bif Nat.blt k 131 then 4 else 4)) else (bif Nat.blt k 134 then (bif Nat.blt k 133 then 5 else 5) else (bif Nat.blt k 135 then 5 else 5)))
noncomputable def mCi_h2_h1 (k : Nat) : Nat := (bif Nat.blt k 140 then (bif Nat.blt k 138 then (bif Nat.blt k 137 then 5 else 5) else (bif Nat.blt k 139 then 5 else 5)) else (bif Nat.blt k 142 then (bif Nat.blt k 141 then 5 else 5) else (bif Nat.blt k 143 then 5 else 5)))
noncomputable def mCi_h2_h2 (k : Nat) : Nat := (bif Nat.blt k 148 then (bif Nat.blt k 146 then (bif Nat.blt k 145 then 5 else 5) else (bif Nat.blt k 147 then 5 else 99)) else (bif Nat.blt k 150 then (bif Nat.blt k 149 then 99 else 99) else (bif Nat.blt k 151 then 99 else 99)))
noncomputable def mCi_h2_h3 (k : Nat) : Nat := (bif Nat.blt k 156 then (bif Nat.blt k 154 then (bif Nat.blt k 153 then 99 else 6) else (bif Nat.blt k 155 then 6 else 6)) else (bif Nat.blt k 158 then (bif Nat.blt k 157 then 6 else 6) else (bif Nat.blt k 159 then 6 else 7)))
noncomputable def mCi_h2_h4 (k : Nat) : Nat := (bif Nat.blt k 164 then (bif Nat.blt k 162 then (bif Nat.blt k 161 then 7 else 7) else (bif Nat.blt k 163 then 7 else 7)) else (bif Nat.blt k 166 then (bif Nat.blt k 165 then 7 else 7) else (bif Nat.blt k 167 then 7 else 7)))
noncomputable def mCi_h2_h5 (k : Nat) : Nat := (bif Nat.blt k 172 then (bif Nat.blt k 170 then (bif Nat.blt k 169 then 7 else 7) else (bif Nat.blt k 171 then 7 else 7)) else (bif Nat.blt k 174 then (bif Nat.blt k 173 then 8 else 8) else (bif Nat.blt k 175 then 8 else 8)))
noncomputable def mCi_h2_h6 (k : Nat) : Nat := (bif Nat.blt k 180 then (bif Nat.blt k 178 then (bif Nat.blt k 177 then 8 else 8) else (bif Nat.blt k 179 then 8 else 8)) else (bif Nat.blt k 182 then (bif Nat.blt k 181 then 8 else 8) else (bif Nat.blt k 183 then 8 else 8)))
noncomputable def mCi_h2_h7 (k : Nat) : Nat := (bif Nat.blt k 188 then (bif Nat.blt k 186 then (bif Nat.blt k 185 then 9 else 9) else (bif Nat.blt k 187 then 9 else 9)) else (bif Nat.blt k 190 then (bif Nat.blt k 189 then 9 else 9) else (bif Nat.blt k 191 then 9 else 9)))
noncomputable def mCi_h2 (k : Nat) : Nat := (bif Nat.blt k 160 then (bif Nat.blt k 144 then (bif Nat.blt k 136 then (mCi_h2_h0 k) else (mCi_h2_h1 k)) else (bif Nat.blt k 152 then (mCi_h2_h2 k) else (mCi_h2_h3 k))) else (bif Nat.blt k 176 then (bif Nat.blt k 168 then (mCi_h2_h4 k) else (mCi_h2_h5 k)) else (bif Nat.blt k 184 then (mCi_h2_h6 k) else (mCi_h2_h7 k))))
noncomputable def mCi_h3_h0 (k : Nat) : Nat := (bif Nat.blt k 196 then (bif Nat.blt k 194 then (bif Nat.blt k 193 then 11 else 11) else (bif Nat.blt k 195 then 11 else 11)) else (bif Nat.blt k 198 then (bif Nat.blt k 197 then 11 else 11) else (bif Nat.blt k 199 then 11 else 11)))
noncomputable def mCi_h3_h1 (k : Nat) : Nat := (bif Nat.blt k 204 then (bif Nat.blt k 202 then (bif Nat.blt k 201 then 11 else 11) else (bif Nat.blt k 203 then 11 else 11)) else (bif Nat.blt k 206 then (bif Nat.blt k 205 then 11 else 11) else (bif Nat.blt k 207 then 11 else 11)))
noncomputable def mCi_h3_h2 (k : Nat) : Nat := (bif Nat.blt k 212 then (bif Nat.blt k 210 then (bif Nat.blt k 209 then 11 else 11) else (bif Nat.blt k 211 then 11 else 11)) else (bif Nat.blt k 214 then (bif Nat.blt k 213 then 11 else 11) else (bif Nat.blt k 215 then 11 else 11)))
noncomputable def mCi_h3_h3 (k : Nat) : Nat := (bif Nat.blt k 220 then (bif Nat.blt k 218 then (bif Nat.blt k 217 then 11 else 11) else (bif Nat.blt k 219 then 11 else 11)) else (bif Nat.blt k 222 then (bif Nat.blt k 221 then 11 else 11) else (bif Nat.blt k 223 then 11 else 11)))
noncomputable def mCi_h3_h4 (k : Nat) : Nat := (bif Nat.blt k 228 then (bif Nat.blt k 226 then (bif Nat.blt k 225 then 11 else 11) else (bif Nat.blt k 227 then 11 else 11)) else (bif Nat.blt k 230 then (bif Nat.blt k 229 then 11 else 11) else (bif Nat.blt k 231 then 11 else 11)))
noncomputable def mCi_h3_h5 (k : Nat) : Nat := (bif Nat.blt k 236 then (bif Nat.blt k 234 then (bif Nat.blt k 233 then 11 else 11) else (bif Nat.blt k 235 then 11 else 11)) else (bif Nat.blt k 238 then (bif Nat.blt k 237 then 11 else 11) else (bif Nat.blt k 239 then 11 else 11)))
noncomputable def mCi_h3_h6 (k : Nat) : Nat := (bif Nat.blt k 244 then (bif Nat.blt k 242 then (bif Nat.blt k 241 then 11 else 11) else (bif Nat.blt k 243 then 11 else 11)) else (bif Nat.blt k 246 then (bif Nat.blt k 245 then 11 else 11) else (bif Nat.blt k 247 then 11 else 11)))
noncomputable def mCi_h3_h7 (k : Nat) : Nat := (bif Nat.blt k 252 then (bif Nat.blt k 250 then (bif Nat.blt k 249 then 11 else 11) else (bif Nat.blt k 251 then 11 else 11)) else (bif Nat.blt k 254 then (bif Nat.blt k 253 then 11 else 11) else (bif Nat.blt k 255 then 11 else 11)))
noncomputable def mCi_h3 (k : Nat) : Nat := (bif Nat.blt k 224 then (bif Nat.blt k 208 then (bif Nat.blt k 200 then (mCi_h3_h0 k) else (mCi_h3_h1 k)) else (bif Nat.blt k 216 then (mCi_h3_h2 k) else (mCi_h3_h3 k))) else (bif Nat.blt k 240 then (bif Nat.blt k 232 then (mCi_h3_h4 k) else (mCi_h3_h5 k)) else (bif Nat.blt k 248 then (mCi_h3_h6 k) else (mCi_h3_h7 k))))
noncomputable def mCi_h4_h0 (k : Nat) : Nat := (bif Nat.blt k 260 then (bif Nat.blt k 258 then (bif Nat.blt k 257 then 11 else 11) else (bif Nat.blt k 259 then 11 else 11)) else (bif Nat.blt k 262 then (bif Nat.blt k 261 then 11 else 11) else (bif Nat.blt k 263 then 11 else 11)))
noncomputable def mCi_h4_h1 (k : Nat) : Nat := (bif Nat.blt k 268 then (bif Nat.blt k 266 then (bif Nat.blt k 265 then 11 else 11) else (bif Nat.blt k 267 then 11 else 11)) else (bif Nat.blt k 270 then (bif Nat.blt k 269 then 11 else 11) else (bif Nat.blt k 271 then 11 else 11)))
noncomputable def mCi_h4_h2 (k : Nat) : Nat := (bif Nat.blt k 276 then (bif Nat.blt k 274 then (bif Nat.blt k 273 then 11 else 11) else (bif Nat.blt k 275 then 11 else 11)) else (bif Nat.blt k 278 then (bif Nat.blt k 277 then 11 else 11) else (bif Nat.blt k 279 then 11 else 11)))
noncomputable def mCi_h4_h3 (k : Nat) : Nat := (bif Nat.blt k 284 then (bif Nat.blt k 282 then (bif Nat.blt k 281 then 11 else 11) else (bif Nat.blt k 283 then 11 else 11)) else (bif Nat.blt k 286 then (bif Nat.blt k 285 then 11 else 11) else (bif Nat.blt k 287 then 11 else 11)))
noncomputable def mCi_h4_h4 (k : Nat) : Nat := (bif Nat.blt k 292 then (bif Nat.blt k 290 then (bif Nat.blt k 289 then 11 else 11) else (bif Nat.blt k 291 then 11 else 11)) else (bif Nat.blt k 294 then (bif Nat.blt k 293 then 11 else 11) else (bif Nat.blt k 295 then 11 else 11)))
noncomputable def mCi_h4_h5 (k : Nat) : Nat := (bif Nat.blt k 300 then (bif Nat.blt k 298 then (bif Nat.blt k 297 then 11 else 11) else (bif Nat.blt k 299 then 11 else 11)) else (bif Nat.blt k 302 then (bif Nat.blt k 301 then 11 else 11) else (bif Nat.blt k 303 then 11 else 11)))
noncomputable def mCi_h4_h6 (k : Nat) : Nat := (bif Nat.blt k 308 then (bif Nat.blt k 306 then (bif Nat.blt k 305 then 11 else 11) else (bif Nat.blt k 307 then 11 else 11)) else (bif Nat.blt k 310 then (bif Nat.blt k 309 then 11 else 11) else (bif Nat.blt k 311 then 11 else 11)))
noncomputable def mCi_h4_h7 (k : Nat) : Nat := (bif Nat.blt k 316 then (bif Nat.blt k 314 then (bif Nat.blt k 313 then 11 else 11) else (bif Nat.blt k 315 then 11 else 11)) else (bif Nat.blt k 318 then (bif Nat.blt k 317 then 11 else 11) else (bif Nat.blt k 319 then 11 else 11)))
noncomputable def mCi_h4 (k : Nat) : Nat := (bif Nat.blt k 288 then (bif Nat.blt k 272 then (bif Nat.blt k 264 then (mCi_h4_h0 k) else (mCi_h4_h1 k)) else (bif Nat.blt k 280 then (mCi_h4_h2 k) else (mCi_h4_h3 k))) else (bif Nat.blt k 304 then (bif Nat.blt k 296 then (mCi_h4_h4 k) else (mCi_h4_h5 k)) else (bif Nat.blt k 312 then (mCi_h4_h6 k) else (mCi_h4_h7 k))))
noncomputable def mCi_h5_h0 (k : Nat) : Nat := (bif Nat.blt k 324 then (bif Nat.blt k 322 then (bif Nat.blt k 321 then 11 else 11) else (bif Nat.blt k 323 then 11 else 11)) else (bif Nat.blt k 326 then (bif Nat.blt k 325 then 11 else 11) else (bif Nat.blt k 327 then 11 else 11)))
noncomputable def mCi_h5_h1 (k : Nat) : Nat := (bif Nat.blt k 332 then (bif Nat.blt k 330 then (bif Nat.blt k 329 then 11 else 11) else (bif Nat.blt k 331 then 11 else 11)) else (bif Nat.blt k 334 then (bif Nat.blt k 333 then 11 else 11) else (bif Nat.blt k 335 then 11 else 11)))
noncomputable def mCi_h5_h2 (k : Nat) : Nat := (bif Nat.blt k 340 then (bif Nat.blt k 338 then (bif Nat.blt k 337 then 11 else 11) else (bif Nat.blt k 339 then 11 else 11)) else (bif Nat.blt k 342 then (bif Nat.blt k 341 then 11 else 99) else (bif Nat.blt k 343 then 99 else 99)))
noncomputable def mCi_h5_h3 (k : Nat) : Nat := (bif Nat.blt k 348 then (bif Nat.blt k 346 then (bif Nat.blt k 345 then 99 else 99) else (bif Nat.blt k 347 then 99 else 99)) else (bif Nat.blt k 350 then (bif Nat.blt k 349 then 99 else 99) else (bif Nat.blt k 351 then 99 else 99)))
noncomputable def mCi_h5 (k : Nat) : Nat := (bif Nat.blt k 336 then (bif Nat.blt k 328 then (mCi_h5_h0 k) else (mCi_h5_h1 k)) else (bif Nat.blt k 344 then (mCi_h5_h2 k) else (mCi_h5_h3 k)))
noncomputable def mCi (k : Nat) : Nat := (bif Nat.blt k 192 then (bif Nat.blt k 64 then (mCi_h0 k) else (bif Nat.blt k 128 then (mCi_h1 k) else (mCi_h2 k))) else (bif Nat.blt k 256 then (mCi_h3 k) else (bif Nat.blt k 320 then (mCi_h4 k) else (mCi_h5 k))))
noncomputable def ciOK (k : Nat) : Bool := !(Nat.beq (mKind k) 0) || Nat.beq (mCi k) 99 || (match vwCl[mCi k]? with | some q => decide (q.1 = (mY k).cls) | none => false)
set_option maxRecDepth 100000 in
theorem ci_all : (List.range 352).all ciOK = true := by decide +kernel
