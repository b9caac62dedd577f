noncomputable def okY (k : Nat) : Bool := goodWord (Cond.code (mY k) (mCode k) (mML k) (mRet k)) && wAt (mW k).2.1 (Cond.initialized (mY k).cls) && decide ((mY k).cls ≠ "java/lang/invoke/MethodHandle") && decide ((mY k).cls ≠ "java/lang/invoke/VarHandle") && decide ((parseMethodDescriptor (mY k).desc).map (fun d => d.parameters.length) = some (mN k)) && plainFor (mY k) && Nat.ble (mML k) 21 && decide ((mY k).cls = mOwn k)
  && (bif Nat.beq (mKind k) 0 then wAt (mW k).2.2.1 (Cond.instanceMethod (mY k)) && decide (lw_tbl[(mW k).2.2.2]? = some (Cond.selects (mY k).cls (mY k) (mY k))) else bif Nat.beq (mKind k) 1 then wAt (mW k).2.2.1 (Cond.static (mY k)) else wAt (mW k).2.2.1 (Cond.instanceMethod (mY k)) && decide ((mY k).name = "<init>"))
noncomputable def mCi_h0_h0 (k : Nat) : Nat := (bif Nat.blt k 4 then (bif Nat.blt k 2 then (bif Nat.blt k 1 then 10 else 10) else (bif Nat.blt k 3 then 10 else 10)) else (bif Nat.blt k 6 then (bif Nat.blt k 5 then 10 else 10) else (bif Nat.blt k 7 then 10 else 10)))
noncomputable def mCi_h0_h1 (k : Nat) : Nat := (bif Nat.blt k 12 then (bif Nat.blt k 10 then (bif Nat.blt k 9 then 10 else 10) else (bif Nat.blt k 11 then 10 else 10)) else (bif Nat.blt k 14 then (bif Nat.blt k 13 then 10 else 10) else (bif Nat.blt k 15 then 10 else 10)))
noncomputable def mCi_h0_h2 (k : Nat) : Nat := (bif Nat.blt k 20 then (bif Nat.blt k 18 then (bif Nat.blt k 17 then 10 else 10) else (bif Nat.blt k 19 then 10 else 10)) else (bif Nat.blt k 22 then (bif Nat.blt k 21 then 10 else 10) else (bif Nat.blt k 23 then 10 else 10)))
noncomputable def mCi_h0_h3 (k : Nat) : Nat := (bif Nat.blt k 28 then (bif Nat.blt k 26 then (bif Nat.blt k 25 then 10 else 10) else (bif Nat.blt k 27 then 10 else 10)) else (bif Nat.blt k 30 then (bif Nat.blt k 29 then 10 else 10) else (bif Nat.blt k 31 then 10 else 10)))
noncomputable def mCi_h0_h4 (k : Nat) : Nat := (bif Nat.blt k 36 then (bif Nat.blt k 34 then (bif Nat.blt k 33 then 10 else 10) else (bif Nat.blt k 35 then 10 else 10)) else (bif Nat.blt k 38 then (bif Nat.blt k 37 then 10 else 10) else (bif Nat.blt k 39 then 10 else 10)))
noncomputable def mCi_h0_h5 (k : Nat) : Nat := (bif Nat.blt k 44 then (bif Nat.blt k 42 then (bif Nat.blt k 41 then 10 else 10) else (bif Nat.blt k 43 then 10 else 10)) else (bif Nat.blt k 46 then (bif Nat.blt k 45 then 10 else 10) else (bif Nat.blt k 47 then 10 else 10)))
noncomputable def mCi_h0_h6 (k : Nat) : Nat := (bif Nat.blt k 52 then (bif Nat.blt k 50 then (bif Nat.blt k 49 then 10 else 10) else (bif Nat.blt k 51 then 10 else 10)) else (bif Nat.blt k 54 then (bif Nat.blt k 53 then 10 else 10) else (bif Nat.blt k 55 then 10 else 10)))
noncomputable def mCi_h0_h7 (k : Nat) : Nat := (bif Nat.blt k 60 then (bif Nat.blt k 58 then (bif Nat.blt k 57 then 10 else 10) else (bif Nat.blt k 59 then 10 else 10)) else (bif Nat.blt k 62 then (bif Nat.blt k 61 then 10 else 10) else (bif Nat.blt k 63 then 10 else 10)))
noncomputable def mCi_h0 (k : Nat) : Nat := (bif Nat.blt k 32 then (bif Nat.blt k 16 then (bif Nat.blt k 8 then (mCi_h0_h0 k) else (mCi_h0_h1 k)) else (bif Nat.blt k 24 then (mCi_h0_h2 k) else (mCi_h0_h3 k))) else (bif Nat.blt k 48 then (bif Nat.blt k 40 then (mCi_h0_h4 k) else (mCi_h0_h5 k)) else (bif Nat.blt k 56 then (mCi_h0_h6 k) else (mCi_h0_h7 k))))
noncomputable def mCi_h1_h0 (k : Nat) : Nat := (bif Nat.blt k 68 then (bif Nat.blt k 66 then (bif Nat.blt k 65 then 10 else 10) else (bif Nat.blt k 67 then 10 else 10)) else (bif Nat.blt k 70 then (bif Nat.blt k 69 then 10 else 10) else (bif Nat.blt k 71 then 10 else 10)))
noncomputable def mCi_h1_h1 (k : Nat) : Nat := (bif Nat.blt k 76 then (bif Nat.blt k 74 then (bif Nat.blt k 73 then 10 else 10) else (bif Nat.blt k 75 then 10 else 10)) else (bif Nat.blt k 78 then (bif Nat.blt k 77 then 10 else 0) else (bif Nat.blt k 79 then 0 else 0)))
noncomputable def mCi_h1_h2 (k : Nat) : Nat := (bif Nat.blt k 84 then (bif Nat.blt k 82 then (bif Nat.blt k 81 then 0 else 0) else (bif Nat.blt k 83 then 0 else 0)) else (bif Nat.blt k 86 then (bif Nat.blt k 85 then 1 else 1) else (bif Nat.blt k 87 then 1 else 1)))
noncomputable def mCi_h1_h3 (k : Nat) : Nat := (bif Nat.blt k 92 then (bif Nat.blt k 90 then (bif Nat.blt k 89 then 1 else 1) else (bif Nat.blt k 91 then 1 else 1)) else (bif Nat.blt k 94 then (bif Nat.blt k 93 then 1 else 1) else (bif Nat.blt k 95 then 1 else 1)))
noncomputable def mCi_h1_h4 (k : Nat) : Nat := (bif Nat.blt k 100 then (bif Nat.blt k 98 then (bif Nat.blt k 97 then 1 else 1) else (bif Nat.blt k 99 then 2 else 2)) else (bif Nat.blt k 102 then (bif Nat.blt k 101 then 2 else 2) else (bif Nat.blt k 103 then 2 else 2)))
noncomputable def mCi_h1_h5 (k : Nat) : Nat := (bif Nat.blt k 108 then (bif Nat.blt k 106 then (bif Nat.blt k 105 then 2 else 2) else (bif Nat.blt k 107 then 2 else 2)) else (bif Nat.blt k 110 then (bif Nat.blt k 109 then 2 else 2) else (bif Nat.blt k 111 then 2 else 2)))
noncomputable def mCi_h1_h6 (k : Nat) : Nat := (bif Nat.blt k 116 then (bif Nat.blt k 114 then (bif Nat.blt k 113 then 2 else 2) else (bif Nat.blt k 115 then 2 else 3)) else (bif Nat.blt k 118 then (bif Nat.blt k 117 then 3 else 3) else (bif Nat.blt k 119 then 3 else 3)))
noncomputable def mCi_h1_h7 (k : Nat) : Nat := (bif Nat.blt k 124 then (bif Nat.blt k 122 then (bif Nat.blt k 121 then 3 else 3) else (bif Nat.blt k 123 then 3 else 3)) else (bif Nat.blt k 126 then (bif Nat.blt k 125 then 4 else 4) else (bif Nat.blt k 127 then 4 else 4)))
noncomputable def mCi_h1 (k : Nat) : Nat := (bif Nat.blt k 96 then (bif Nat.blt k 80 then (bif Nat.blt k 72 then (mCi_h1_h0 k) else (mCi_h1_h1 k)) else (bif Nat.blt k 88 then (mCi_h1_h2 k) else (mCi_h1_h3 k))) else (bif Nat.blt k 112 then (bif Nat.blt k 104 then (mCi_h1_h4 k) else (mCi_h1_h5 k)) else (bif Nat.blt k 120 then (mCi_h1_h6 k) else (mCi_h1_h7 k))))
noncomputable def mCi_h2_h0 (k : Nat) : Nat := (bif Nat.blt k 132 then (bif Nat.blt k 130 then (bif Nat.blt k 129 then 4 else 4) else (bif Nat.blt k 131 then 4 else 4)) else (bif Nat.blt k 134 then (bif Nat.blt k 133 then 5 else 5) else (bif Nat.blt k 135 then 5 else 5)))
noncomputable def mCi_h2_h1 (k : Nat) : Nat := (bif Nat.blt k 140 then (bif Nat.blt k 138 then (bif Nat.blt k 137 then 5 else 5) else (bif Nat.blt k 139 then 5 else 5)) else (bif Nat.blt k 142 then (bif Nat.blt k 141 then 5 else 5) else (bif Nat.blt k 143 then 5 else 5)))
noncomputable def mCi_h2_h2 (k : Nat) : Nat := (bif Nat.blt k 148 then (bif Nat.blt k 146 then (bif Nat.blt k 145 then 5 else 5) else (bif Nat.blt k 147 then 5 else 99)) else (bif Nat.blt k 150 then (bif Nat.blt k 149 then 99 else 99) else (bif Nat.blt k 151 then 99 else 99)))
noncomputable def mCi_h2_h3 (k : Nat) : Nat := (bif Nat.blt k 156 then (bif Nat.blt k 154 then (bif Nat.blt k 153 then 99 else 6) else (bif Nat.blt k 155 then 6 else 6)) else (bif Nat.blt k 158 then (bif Nat.blt k 157 then 6 else 6) else (bif Nat.blt k 159 then 6 else 7)))
noncomputable def mCi_h2_h4 (k : Nat) : Nat := (bif Nat.blt k 164 then (bif Nat.blt k 162 then (bif Nat.blt k 161 then 7 else 7) else (bif Nat.blt k 163 then 7 else 7)) else (bif Nat.blt k 166 then (bif Nat.blt k 165 then 7 else 7) else (bif Nat.blt k 167 then 7 else 7)))
noncomputable def mCi_h2_h5 (k : Nat) : Nat := (bif Nat.blt k 172 then (bif Nat.blt k 170 then (bif Nat.blt k 169 then 7 else 7) else (bif Nat.blt k 171 then 7 else 7)) else (bif Nat.blt k 174 then (bif Nat.blt k 173 then 8 else 8) else (bif Nat.blt k 175 then 8 else 8)))
noncomputable def mCi_h2_h6 (k : Nat) : Nat := (bif Nat.blt k 180 then (bif Nat.blt k 178 then (bif Nat.blt k 177 then 8 else 8) else (bif Nat.blt k 179 then 8 else 8)) else (bif Nat.blt k 182 then (bif Nat.blt k 181 then 8 else 8) else (bif Nat.blt k 183 then 8 else 8)))
noncomputable def mCi_h2_h7 (k : Nat) : Nat := (bif Nat.blt k 188 then (bif Nat.blt k 186 then (bif Nat.blt k 185 then 9 else 9) else (bif Nat.blt k 187 then 9 else 9)) else (bif Nat.blt k 190 then (bif Nat.blt k 189 then 9 else 9) else (bif Nat.blt k 191 then 9 else 9)))
noncomputable def mCi_h2 (k : Nat) : Nat := (bif Nat.blt k 160 then (bif Nat.blt k 144 then (bif Nat.blt k 136 then (mCi_h2_h0 k) else (mCi_h2_h1 k)) else (bif Nat.blt k 152 then (mCi_h2_h2 k) else (mCi_h2_h3 k))) else (bif Nat.blt k 176 then (bif Nat.blt k 168 then (mCi_h2_h4 k) else (mCi_h2_h5 k)) else (bif Nat.blt k 184 then (mCi_h2_h6 k) else (mCi_h2_h7 k))))
noncomputable def mCi_h3_h0 (k : Nat) : Nat := (bif Nat.blt k 196 then (bif Nat.blt k 194 then (bif Nat.blt k 193 then 11 else 11) else (bif Nat.blt k 195 then 11 else 11)) else (bif Nat.blt k 198 then (bif Nat.blt k 197 then 11 else 11) else (bif Nat.blt k 199 then 11 else 11)))
noncomputable def mCi_h3_h1 (k : Nat) : Nat := (bif Nat.blt k 204 then (bif Nat.blt k 202 then (bif Nat.blt k 201 then 11 else 11) else (bif Nat.blt k 203 then 11 else 11)) else (bif Nat.blt k 206 then (bif Nat.blt k 205 then 11 else 11) else (bif Nat.blt k 207 then 11 else 11)))
noncomputable def mCi_h3_h2 (k : Nat) : Nat := (bif Nat.blt k 212 then (bif Nat.blt k 210 then (bif Nat.blt k 209 then 11 else 11) else (bif Nat.blt k 211 then 11 else 11)) else (bif Nat.blt k 214 then (bif Nat.blt k 213 then 11 else 11) else (bif Nat.blt k 215 then 11 else 11)))
noncomputable def mCi_h3_h3 (k : Nat) : Nat := (bif Nat.blt k 220 then (bif Nat.blt k 218 then (bif Nat.blt k 217 then 11 else 11) else (bif Nat.blt k 219 then 11 else 11)) else (bif Nat.blt k 222 then (bif Nat.blt k 221 then 11 else 11) else (bif Nat.blt k 223 then 11 else 11)))
noncomputable def mCi_h3_h4 (k : Nat) : Nat := (bif Nat.blt k 228 then (bif Nat.blt k 226 then (bif Nat.blt k 225 then 11 else 11) else (bif Nat.blt k 227 then 11 else 11)) else (bif Nat.blt k 230 then (bif Nat.blt k 229 then 11 else 11) else (bif Nat.blt k 231 then 11 else 11)))
noncomputable def mCi_h3_h5 (k : Nat) : Nat := (bif Nat.blt k 236 then (bif Nat.blt k 234 then (bif Nat.blt k 233 then 11 else 11) else (bif Nat.blt k 235 then 11 else 11)) else (bif Nat.blt k 238 then (bif Nat.blt k 237 then 11 else 11) else (bif Nat.blt k 239 then 11 else 11)))
noncomputable def mCi_h3_h6 (k : Nat) : Nat := (bif Nat.blt k 244 then (bif Nat.blt k 242 then (bif Nat.blt k 241 then 11 else 11) else (bif Nat.blt k 243 then 11 else 11)) else (bif Nat.blt k 246 then (bif Nat.blt k 245 then 11 else 11) else (bif Nat.blt k 247 then 11 else 11)))
noncomputable def mCi_h3_h7 (k : Nat) : Nat := (bif Nat.blt k 252 then (bif Nat.blt k 250 then (bif Nat.blt k 249 then 11 else 11) else (bif Nat.blt k 251 then 11 else 11)) else (bif Nat.blt k 254 then (bif Nat.blt k 253 then 11 else 11) else (bif Nat.blt k 255 then 11 else 11)))
noncomputable def mCi_h3 (k : Nat) : Nat := (bif Nat.blt k 224 then (bif Nat.blt k 208 then (bif Nat.blt k 200 then (mCi_h3_h0 k) else (mCi_h3_h1 k)) else (bif Nat.blt k 216 then (mCi_h3_h2 k) else (mCi_h3_h3 k))) else (bif Nat.blt k 240 then (bif Nat.blt k 232 then (mCi_h3_h4 k) else (mCi_h3_h5 k)) else (bif Nat.blt k 248 then (mCi_h3_h6 k) else (mCi_h3_h7 k))))
noncomputable def mCi_h4_h0 (k : Nat) : Nat := (bif Nat.blt k 260 then (bif Nat.blt k 258 then (bif Nat.blt k 257 then 11 else 11) else (bif Nat.blt k 259 then 11 else 11)) else (bif Nat.blt k 262 then (bif Nat.blt k 261 then 11 else 11) else (bif Nat.blt k 263 then 11 else 11)))
noncomputable def mCi_h4_h1 (k : Nat) : Nat := (bif Nat.blt k 268 then (bif Nat.blt k 266 then (bif Nat.blt k 265 then 11 else 11) else (bif Nat.blt k 267 then 11 else 11)) else (bif Nat.blt k 270 then (bif Nat.blt k 269 then 11 else 11) else (bif Nat.blt k 271 then 11 else 11)))
noncomputable def mCi_h4_h2 (k : Nat) : Nat := (bif Nat.blt k 276 then (bif Nat.blt k 274 then (bif Nat.blt k 273 then 11 else 11) else (bif Nat.blt k 275 then 11 else 11)) else (bif Nat.blt k 278 then (bif Nat.blt k 277 then 11 else 11) else (bif Nat.blt k 279 then 11 else 11)))
noncomputable def mCi_h4_h3 (k : Nat) : Nat := (bif Nat.blt k 284 then (bif Nat.blt k 282 then (bif Nat.blt k 281 then 11 else 11) else (bif Nat.blt k 283 then 11 else 11)) else (bif Nat.blt k 286 then (bif Nat.blt k 285 then 11 else 11) else (bif Nat.blt k 287 then 11 else 11)))
noncomputable def mCi_h4_h4 (k : Nat) : Nat := (bif Nat.blt k 292 then (bif Nat.blt k 290 then (bif Nat.blt k 289 then 11 else 11) else (bif Nat.blt k 291 then 11 else 11)) else (bif Nat.blt k 294 then (bif Nat.blt k 293 then 11 else 11) else (bif Nat.blt k 295 then 11 else 11)))
noncomputable def mCi_h4_h5 (k : Nat) : Nat := (bif Nat.blt k 300 then (bif Nat.blt k 298 then (bif Nat.blt k 297 then 11 else 11) else (bif Nat.blt k 299 then 11 else 11)) else (bif Nat.blt k 302 then (bif Nat.blt k 301 then 11 else 11) else (bif Nat.blt k 303 then 11 else 11)))
noncomputable def mCi_h4_h6 (k : Nat) : Nat := (bif Nat.blt k 308 then (bif Nat.blt k 306 then (bif Nat.blt k 305 then 11 else 11) else (bif Nat.blt k 307 then 11 else 11)) else (bif Nat.blt k 310 then (bif Nat.blt k 309 then 11 else 11) else (bif Nat.blt k 311 then 11 else 11)))
noncomputable def mCi_h4_h7 (k : Nat) : Nat := (bif Nat.blt k 316 then (bif Nat.blt k 314 then (bif Nat.blt k 313 then 11 else 11) else (bif Nat.blt k 315 then 11 else 11)) else (bif Nat.blt k 318 then (bif Nat.blt k 317 then 11 else 11) else (bif Nat.blt k 319 then 11 else 11)))
noncomputable def mCi_h4 (k : Nat) : Nat := (bif Nat.blt k 288 then (bif Nat.blt k 272 then (bif Nat.blt k 264 then (mCi_h4_h0 k) else (mCi_h4_h1 k)) else (bif Nat.blt k 280 then (mCi_h4_h2 k) else (mCi_h4_h3 k))) else (bif Nat.blt k 304 then (bif Nat.blt k 296 then (mCi_h4_h4 k) else (mCi_h4_h5 k)) else (bif Nat.blt k 312 then (mCi_h4_h6 k) else (mCi_h4_h7 k))))
noncomputable def mCi_h5_h0 (k : Nat) : Nat := (bif Nat.blt k 324 then (bif Nat.blt k 322 then (bif Nat.blt k 321 then 11 else 11) else (bif Nat.blt k 323 then 11 else 11)) else (bif Nat.blt k 326 then (bif Nat.blt k 325 then 11 else 11) else (bif Nat.blt k 327 then 11 else 11)))
noncomputable def mCi_h5_h1 (k : Nat) : Nat := (bif Nat.blt k 332 then (bif Nat.blt k 330 then (bif Nat.blt k 329 then 11 else 11) else (bif Nat.blt k 331 then 11 else 11)) else (bif Nat.blt k 334 then (bif Nat.blt k 333 then 11 else 11) else (bif Nat.blt k 335 then 11 else 11)))
noncomputable def mCi_h5_h2 (k : Nat) : Nat := (bif Nat.blt k 340 then (bif Nat.blt k 338 then (bif Nat.blt k 337 then 11 else 11) else (bif Nat.blt k 339 then 11 else 11)) else (bif Nat.blt k 342 then (bif Nat.blt k 341 then 11 else 99) else (bif Nat.blt k 343 then 99 else 99)))
noncomputable def mCi_h5_h3 (k : Nat) : Nat := (bif Nat.blt k 348 then (bif Nat.blt k 346 then (bif Nat.blt k 345 then 99 else 99) else (bif Nat.blt k 347 then 99 else 99)) else (bif Nat.blt k 350 then (bif Nat.blt k 349 then 99 else 99) else (bif Nat.blt k 351 then 99 else 99)))
noncomputable def mCi_h5 (k : Nat) : Nat := (bif Nat.blt k 336 then (bif Nat.blt k 328 then (mCi_h5_h0 k) else (mCi_h5_h1 k)) else (bif Nat.blt k 344 then (mCi_h5_h2 k) else (mCi_h5_h3 k)))
noncomputable def mCi (k : Nat) : Nat := (bif Nat.blt k 192 then (bif Nat.blt k 64 then (mCi_h0 k) else (bif Nat.blt k 128 then (mCi_h1 k) else (mCi_h2 k))) else (bif Nat.blt k 256 then (mCi_h3 k) else (bif Nat.blt k 320 then (mCi_h4 k) else (mCi_h5 k))))
noncomputable def ciOK (k : Nat) : Bool := !(Nat.beq (mKind k) 0) || Nat.beq (mCi k) 99 || (match vwCl[mCi k]? with | some q => decide (q.1 = (mY k).cls) | none => false)
set_option maxRecDepth 100000 in
theorem ci_all : (List.range 352).all ciOK = true := by decide +kernel
set_option maxRecDepth 100000 in
theorem cy_0 : (List.range' 0 25).all okY = true := by decide +kernel
set_option maxRecDepth 100000 in
theorem cy_25 : (List.range' 25 25).all okY = true := by decide +kernel
set_option maxRecDepth 100000 in
theorem cy_50 : (List.range' 50 25).all okY = true := by decide +kernel
set_option maxRecDepth 100000 in
theorem cy_75 : (List.range' 75 25).all okY = true := by decide +kernel
set_option maxRecDepth 100000 in
theorem cy_100 : (List.range' 100 25).all okY = true := by decide +kernel
set_option maxRecDepth 100000 in
theorem cy_125 : (List.range' 125 25).all okY = true := by decide +kernel
set_option maxRecDepth 100000 in
theorem cy_150 : (List.range' 150 25).all okY = true := by decide +kernel
set_option maxRecDepth 100000 in
theorem cy_175 : (List.range' 175 25).all okY = true := by decide +kernel
set_option maxRecDepth 100000 in
theorem cy_200 : (List.range' 200 25).all okY = true := by decide +kernel
set_option maxRecDepth 100000 in
theorem cy_225 : (List.range' 225 25).all okY = true := by decide +kernel
set_option maxRecDepth 100000 in
theorem cy_250 : (List.range' 250 25).all okY = true := by decide +kernel
set_option maxRecDepth 100000 in
theorem cy_275 : (List.range' 275 25).all okY = true := by decide +kernel
set_option maxRecDepth 100000 in
theorem cy_300 : (List.range' 300 25).all okY = true := by decide +kernel
set_option maxRecDepth 100000 in
theorem cy_325 : (List.range' 325 25).all okY = true := by decide +kernel
set_option maxRecDepth 100000 in
theorem cy_350 : (List.range' 350 2).all okY = true := by decide +kernel
set_option maxRecDepth 100000 in
theorem wc_0 : (List.range' 0 25).map (fun k => (tch (mW k).1)[(mW k).1 % 240]?) = (List.range' 0 25).map (fun k => some (Cond.code (mY k) (mCode k) (mML k) (mRet k))) := rfl
set_option maxRecDepth 100000 in
theorem wc_25 : (List.range' 25 25).map (fun k => (tch (mW k).1)[(mW k).1 % 240]?) = (List.range' 25 25).map (fun k => some (Cond.code (mY k) (mCode k) (mML k) (mRet k))) := rfl
set_option maxRecDepth 100000 in
theorem wc_50 : (List.range' 50 25).map (fun k => (tch (mW k).1)[(mW k).1 % 240]?) = (List.range' 50 25).map (fun k => some (Cond.code (mY k) (mCode k) (mML k) (mRet k))) := rfl
set_option maxRecDepth 100000 in
theorem wc_75 : (List.range' 75 25).map (fun k => (tch (mW k).1)[(mW k).1 % 240]?) = (List.range' 75 25).map (fun k => some (Cond.code (mY k) (mCode k) (mML k) (mRet k))) := rfl
set_option maxRecDepth 100000 in
theorem wc_100 : (List.range' 100 25).map (fun k => (tch (mW k).1)[(mW k).1 % 240]?) = (List.range' 100 25).map (fun k => some (Cond.code (mY k) (mCode k) (mML k) (mRet k))) := rfl
set_option maxRecDepth 100000 in
theorem wc_125 : (List.range' 125 25).map (fun k => (tch (mW k).1)[(mW k).1 % 240]?) = (List.range' 125 25).map (fun k => some (Cond.code (mY k) (mCode k) (mML k) (mRet k))) := rfl
set_option maxRecDepth 100000 in
theorem wc_150 : (List.range' 150 25).map (fun k => (tch (mW k).1)[(mW k).1 % 240]?) = (List.range' 150 25).map (fun k => some (Cond.code (mY k) (mCode k) (mML k) (mRet k))) := rfl
set_option maxRecDepth 100000 in
theorem wc_175 : (List.range' 175 25).map (fun k => (tch (mW k).1)[(mW k).1 % 240]?) = (List.range' 175 25).map (fun k => some (Cond.code (mY k) (mCode k) (mML k) (mRet k))) := rfl
set_option maxRecDepth 100000 in
theorem wc_200 : (List.range' 200 25).map (fun k => (tch (mW k).1)[(mW k).1 % 240]?) = (List.range' 200 25).map (fun k => some (Cond.code (mY k) (mCode k) (mML k) (mRet k))) := rfl
set_option maxRecDepth 100000 in
theorem wc_225 : (List.range' 225 25).map (fun k => (tch (mW k).1)[(mW k).1 % 240]?) = (List.range' 225 25).map (fun k => some (Cond.code (mY k) (mCode k) (mML k) (mRet k))) := rfl
set_option maxRecDepth 100000 in
theorem wc_250 : (List.range' 250 25).map (fun k => (tch (mW k).1)[(mW k).1 % 240]?) = (List.range' 250 25).map (fun k => some (Cond.code (mY k) (mCode k) (mML k) (mRet k))) := rfl
set_option maxRecDepth 100000 in
theorem wc_275 : (List.range' 275 25).map (fun k => (tch (mW k).1)[(mW k).1 % 240]?) = (List.range' 275 25).map (fun k => some (Cond.code (mY k) (mCode k) (mML k) (mRet k))) := rfl
set_option maxRecDepth 100000 in
theorem wc_300 : (List.range' 300 25).map (fun k => (tch (mW k).1)[(mW k).1 % 240]?) = (List.range' 300 25).map (fun k => some (Cond.code (mY k) (mCode k) (mML k) (mRet k))) := rfl
set_option maxRecDepth 100000 in
theorem wc_325 : (List.range' 325 25).map (fun k => (tch (mW k).1)[(mW k).1 % 240]?) = (List.range' 325 25).map (fun k => some (Cond.code (mY k) (mCode k) (mML k) (mRet k))) := rfl
set_option maxRecDepth 100000 in
theorem wc_350 : (List.range' 350 2).map (fun k => (tch (mW k).1)[(mW k).1 % 240]?) = (List.range' 350 2).map (fun k => some (Cond.code (mY k) (mCode k) (mML k) (mRet k))) := rfl
theorem wc_all (k : Nat) (h : k < 352) : (tch (mW k).1)[(mW k).1 % 240]? = some (Cond.code (mY k) (mCode k) (mML k) (mRet k)) := by
  by_cases h25 : k < 25
  · exact List.map_inj_left.mp wc_0 k (by rw [List.mem_range']; exact ⟨k - 0, by omega, by omega⟩)
  by_cases h50 : k < 50
  · exact List.map_inj_left.mp wc_25 k (by rw [List.mem_range']; exact ⟨k - 25, by omega, by omega⟩)
  by_cases h75 : k < 75
  · exact List.map_inj_left.mp wc_50 k (by rw [List.mem_range']; exact ⟨k - 50, by omega, by omega⟩)
  by_cases h100 : k < 100
  · exact List.map_inj_left.mp wc_75 k (by rw [List.mem_range']; exact ⟨k - 75, by omega, by omega⟩)
  by_cases h125 : k < 125
  · exact List.map_inj_left.mp wc_100 k (by rw [List.mem_range']; exact ⟨k - 100, by omega, by omega⟩)
  by_cases h150 : k < 150
  · exact List.map_inj_left.mp wc_125 k (by rw [List.mem_range']; exact ⟨k - 125, by omega, by omega⟩)
  by_cases h175 : k < 175
  · exact List.map_inj_left.mp wc_150 k (by rw [List.mem_range']; exact ⟨k - 150, by omega, by omega⟩)
  by_cases h200 : k < 200
  · exact List.map_inj_left.mp wc_175 k (by rw [List.mem_range']; exact ⟨k - 175, by omega, by omega⟩)
  by_cases h225 : k < 225
  · exact List.map_inj_left.mp wc_200 k (by rw [List.mem_range']; exact ⟨k - 200, by omega, by omega⟩)
  by_cases h250 : k < 250
  · exact List.map_inj_left.mp wc_225 k (by rw [List.mem_range']; exact ⟨k - 225, by omega, by omega⟩)
  by_cases h275 : k < 275
  · exact List.map_inj_left.mp wc_250 k (by rw [List.mem_range']; exact ⟨k - 250, by omega, by omega⟩)
  by_cases h300 : k < 300
  · exact List.map_inj_left.mp wc_275 k (by rw [List.mem_range']; exact ⟨k - 275, by omega, by omega⟩)
  by_cases h325 : k < 325
  · exact List.map_inj_left.mp wc_300 k (by rw [List.mem_range']; exact ⟨k - 300, by omega, by omega⟩)
  by_cases h350 : k < 350
  · exact List.map_inj_left.mp wc_325 k (by rw [List.mem_range']; exact ⟨k - 325, by omega, by omega⟩)
  by_cases h352 : k < 352
  · exact List.map_inj_left.mp wc_350 k (by rw [List.mem_range']; exact ⟨k - 350, by omega, by omega⟩)
  omega
theorem cy_all (k : Nat) (h : k < 352) : okY k = true := by
  by_cases h25 : k < 25
  · exact List.all_eq_true.mp cy_0 k (by rw [List.mem_range']; exact ⟨k - 0, by omega, by omega⟩)
  by_cases h50 : k < 50
  · exact List.all_eq_true.mp cy_25 k (by rw [List.mem_range']; exact ⟨k - 25, by omega, by omega⟩)
  by_cases h75 : k < 75
  · exact List.all_eq_true.mp cy_50 k (by rw [List.mem_range']; exact ⟨k - 50, by omega, by omega⟩)
  by_cases h100 : k < 100
  · exact List.all_eq_true.mp cy_75 k (by rw [List.mem_range']; exact ⟨k - 75, by omega, by omega⟩)
  by_cases h125 : k < 125
  · exact List.all_eq_true.mp cy_100 k (by rw [List.mem_range']; exact ⟨k - 100, by omega, by omega⟩)
  by_cases h150 : k < 150
  · exact List.all_eq_true.mp cy_125 k (by rw [List.mem_range']; exact ⟨k - 125, by omega, by omega⟩)
  by_cases h175 : k < 175
  · exact List.all_eq_true.mp cy_150 k (by rw [List.mem_range']; exact ⟨k - 150, by omega, by omega⟩)
  by_cases h200 : k < 200
  · exact List.all_eq_true.mp cy_175 k (by rw [List.mem_range']; exact ⟨k - 175, by omega, by omega⟩)
  by_cases h225 : k < 225
  · exact List.all_eq_true.mp cy_200 k (by rw [List.mem_range']; exact ⟨k - 200, by omega, by omega⟩)
  by_cases h250 : k < 250
  · exact List.all_eq_true.mp cy_225 k (by rw [List.mem_range']; exact ⟨k - 225, by omega, by omega⟩)
  by_cases h275 : k < 275
  · exact List.all_eq_true.mp cy_250 k (by rw [List.mem_range']; exact ⟨k - 250, by omega, by omega⟩)
  by_cases h300 : k < 300
  · exact List.all_eq_true.mp cy_275 k (by rw [List.mem_range']; exact ⟨k - 275, by omega, by omega⟩)
  by_cases h325 : k < 325
  · exact List.all_eq_true.mp cy_300 k (by rw [List.mem_range']; exact ⟨k - 300, by omega, by omega⟩)
  by_cases h350 : k < 350
  · exact List.all_eq_true.mp cy_325 k (by rw [List.mem_range']; exact ⟨k - 325, by omega, by omega⟩)
  by_cases h352 : k < 352
  · exact List.all_eq_true.mp cy_350 k (by rw [List.mem_range']; exact ⟨k - 350, by omega, by omega⟩)
  omega
