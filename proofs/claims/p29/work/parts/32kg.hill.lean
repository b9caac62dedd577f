section XRM
variable {l : Launch} {D : va_G} {tys : List (ClassId × FieldType)} {A : Nat → Prop} {ad : Nat → Nat} {ws : va_W}
theorem de_hx {F : Nat} (hF : F < 6) : (54 + F < 294 ∧ ¬ (102 ≤ 54 + F ∧ 54 + F < 246)) ∧ 20 = 16 + hxC (54 + F) ∧ F = hxI (54 + F) := by
  have e1 : hxC (54 + F) = 4 := by
    unfold hxC
    rw [if_neg (by omega), if_neg (by omega), if_neg (by omega), if_pos (by omega)]
  have e2 : hxI (54 + F) = F := by
    unfold hxI
    rw [if_neg (by omega), if_neg (by omega), if_neg (by omega), if_pos (by omega)]
    omega
  exact ⟨⟨by omega, by omega⟩, by omega, by omega⟩
theorem fo_hx {F : Nat} (hF : F < 6) : (60 + F < 294 ∧ ¬ (102 ≤ 60 + F ∧ 60 + F < 246)) ∧ 21 = 16 + hxC (60 + F) ∧ F = hxI (60 + F) := by
  have e1 : hxC (60 + F) = 5 := by
    unfold hxC
    rw [if_neg (by omega), if_neg (by omega), if_neg (by omega), if_neg (by omega), if_pos (by omega)]
  have e2 : hxI (60 + F) = F := by
    unfold hxI
    rw [if_neg (by omega), if_neg (by omega), if_neg (by omega), if_neg (by omega), if_pos (by omega)]
    omega
  exact ⟨⟨by omega, by omega⟩, by omega, by omega⟩
theorem rl_7 {n : Nat} {B fr td : Nat → Int} {s : TS} {w0 : va_W} (g : s.2.1 = 0) (b0 : isSp B n xName s = false) (b1 : isSp B n xStam s = false) (b2 : isSp B n xDeaf s = false) (b3 : isSp B n xGoes s = false) (b4 : isSp B n xKnow s = false) (b5 : isSp B n xSays s = false) (b6 : isSp B n xFoe s = false) (h : XA ad tys n B s ws) (q : XR fr td w0 s ws) : V l D tys A 134 7 0 0 (fun r w => r = none ∧ XA ad tys n B (linN B n fr td s).1 w ∧ XR (linN B n fr td s).2.1 (linN B n fr td s).2.2 w0 (linN B n fr td s).1 w) 0 0 240 (lv_args 0 [.ref (ad 1), .ref (ad 16)]) [] ws := by
  have e : linN B n fr td s = (errS 1 s, fr, td) := by
    unfold linN
    rw [if_neg (by rw [b0]; exact Bool.false_ne_true), if_neg (by rw [b1]; exact Bool.false_ne_true), if_neg (by rw [b2]; exact Bool.false_ne_true), if_neg (by rw [b3]; exact Bool.false_ne_true), if_neg (by rw [b4]; exact Bool.false_ne_true), if_neg (by rw [b5]; exact Bool.false_ne_true), if_neg (by rw [b6]; exact Bool.false_ne_true)]
  rw [e]
  refine V_aload (v := ad 1) mi_134_240 (by simp [stL, lv_args, Value.category]) ?_
  refine V_ipush mi_134_241 ?_
  refine V_cO (As := [.int (Int32.ofInt (1))]) (st := []) mi_134_242 (by omega) (by decide +kernel) (by decide +kernel) (by omega) g1o h.1 (failx_ct h XMK_rf (by omega) (by omega)) (by omega) (show 1 = mN 146 by decide +kernel) (by simp [Value.category]) ?_
  rintro r w ⟨rfl, h, O⟩
  exact V_retV mi_134_245 ⟨rfl, h, XR_bad (XR_of (s2 := s) q O (fun g => g)) (err_ok (by decide))⟩
theorem rl_6 {n : Nat} {B fr td : Nat → Int} {s : TS} {w0 : va_W} (g : s.2.1 = 0) (b0 : isSp B n xName s = false) (b1 : isSp B n xStam s = false) (b2 : isSp B n xDeaf s = false) (b3 : isSp B n xGoes s = false) (b4 : isSp B n xKnow s = false) (b5 : isSp B n xSays s = false) (h : XA ad tys n B s ws) (q : XR fr td w0 s ws) : V l D tys A 134 7 0 0 (fun r w => r = none ∧ XA ad tys n B (linN B n fr td s).1 w ∧ XR (linN B n fr td s).2.1 (linN B n fr td s).2.2 w0 (linN B n fr td s).1 w) 0 0 180 (lv_args 0 [.ref (ad 1), .ref (ad 16)]) [] ws := by
  obtain ⟨xe0, xe1, xe2, xe3, xe4, xe5, xe6, -⟩ := xw_eq
  refine V_aload (v := ad 1) mi_134_180 (by simp [stL, lv_args, Value.category]) ?_
  refine V_gR mi_134_181 g1r (by omega) h.1 ?_
  refine V_ldcS mi_134_184 ?_
  refine V_cO (As := [.ref (D.2 1000 6)]) (st := []) mi_134_186 (by omega) (by decide +kernel) (by decide +kernel) (by omega) g2o h.1 (wordx_ct (i := 6) (by omega) h) (by omega) (show 1 = mN 191 by decide +kernel) (by simp [Value.category]) ?_
  rintro r w1 ⟨rfl, b, rfl, hb6⟩
  refine V_beq mi_134_189  (fun c6 => ?_) (fun c6 => ?_)
  · replace hb6 := (hb6 g).symm.trans c6
    rw [xe6] at hb6
    exact rl_7 g b0 b1 b2 b3 b4 b5 hb6 h q
  · replace hb6 := (hb6 g).symm.trans c6
    rw [xe6] at hb6
    have b6 := hb6
    have e : linN B n fr td s = (foT fr B n (advS B n s), foF fr B n (advS B n s), td) := by
      unfold linN
      rw [if_neg (by rw [b0]; exact Bool.false_ne_true), if_neg (by rw [b1]; exact Bool.false_ne_true), if_neg (by rw [b2]; exact Bool.false_ne_true), if_neg (by rw [b3]; exact Bool.false_ne_true), if_neg (by rw [b4]; exact Bool.false_ne_true), if_neg (by rw [b5]; exact Bool.false_ne_true), if_pos b6]
    rw [e]
    replace q : XR fr td w0 (advS B n s) _ := XR_of q XMK_rf (fun g => g)
    replace h := XB_adv h
    clear b6 e
    generalize advS B n s = s at h q
    have f3 : s.2.1 = 0 → 0 ≤ fr 3 ∧ fr 3 ≤ 6 := fun g => (XR_bds h.1 q g).2.2.2.1
    have fI : ∀ t : TS, (t.2.1 = 0 → s.2.1 = 0) → I32 (numR 0 (fr 3 - 1) t) := fun t m => by
      by_cases g : t.2.1 = 0
      · have := f3 (m g)
        rcases numR_bd (lo := 0) (hi := fr 3 - 1) (s := t) with e | e <;> exact ⟨by omega, by omega⟩
      · have e : num2 0 (fr 3 - 1) t = errS 1 t := num2_K (fun q => absurd q g)
        rw [numR_bad (by rw [e]; exact err_ok (by decide))]
        exact ⟨by omega, by omega⟩
    refine V_aload (v := ad 1) mi_134_192 (by simp [stL, lv_args, Value.category]) ?_
    refine V_aload (v := ad 16) mi_134_193 (by simp [stL, lv_args, Value.category]) ?_
    refine V_cO (As := [.ref (ad 16)]) (st := []) mi_134_194 (by omega) (by decide +kernel) (by decide +kernel) (by omega) g1o h.1 (folkx_ct h q) (by omega) (show 1 = mN 140 by decide +kernel) (by simp [Value.category]) ?_
    rintro r w ⟨rfl, h, q⟩
    refine V_istore mi_134_197 ?_
    refine V_aload (v := ad 1) mi_134_198 (by simp [stL, lv_args, Value.category]) ?_
    refine V_aload (v := ad 16) mi_134_199 (by simp [stL, lv_args, Value.category]) ?_
    refine V_cO (As := [.ref (ad 16)]) (st := []) mi_134_200 (by omega) (by decide +kernel) (by decide +kernel) (by omega) g1o h.1 (folkx_ct (s := folkT B n fr s) (XB_num h) (XR_of q XMK_rf (fun g => numT_2ok g))) (by omega) (show 1 = mN 140 by decide +kernel) (by simp [Value.category]) ?_
    rintro r w ⟨rfl, h, q⟩
    refine V_istore mi_134_203 ?_
    refine V_aload (v := ad 1) mi_134_204 (by simp [stL, lv_args, Value.category]) ?_
    refine V_iload (v := Int32.ofInt (folkR fr s)) mi_134_205 (by simp [stL, lv_args, Value.category]) ?_
    refine V_iload (v := Int32.ofInt (folkR fr (folkT B n fr s))) mi_134_206 (by simp [stL, lv_args, Value.category]) ?_
    refine V_cO (As := [.int (Int32.ofInt (folkR fr s)), .int (Int32.ofInt (folkR fr (folkT B n fr s)))]) (st := []) mi_134_207 (by omega) (by decide +kernel) (by decide +kernel) (by omega) g1o h.1 (refx_ct (f := folkR fr s) (o := folkR fr (folkT B n fr s)) (fI s (fun g => g)) (fI _ (fun g => (num_ok g).1)) h XMK_rf) (by omega) (show 2 = mN 142 by decide +kernel) (by simp [Value.category]) ?_
    rintro r w ⟨rfl, h, O⟩
    have f0 : (folkT B n fr s).2.1 = 0 → 0 ≤ folkR fr s ∧ folkR fr s ≤ fr 3 - 1 := fun g => by
      obtain ⟨-, -, k8, k9, -⟩ := num_ok (B := B) (n := n) (s := s) g
      have k9 : folkR fr s = s.1.2.2.2 := k9
      omega
    rw [show (if folkR fr s = folkR fr (folkT B n fr s) then errS 2 (num2 0 (fr 3 - 1) (folkT B n fr s)) else num2 0 (fr 3 - 1) (folkT B n fr s)) = num2 0 (fr 3 - 1) (otheP (folkR fr s) (folkT B n fr s)) from oth_eq f0] at h
    replace q := XR_to q O h (fun g => (oth_ok g).1)
    have h : XA ad tys n B (num2 0 (fr 3 - 1) (otheP (folkR fr s) (folkT B n fr s))) w := h
    refine V_aload (v := ad 16) mi_134_210 (by simp [stL, lv_args, Value.category]) ?_
    refine V_gR mi_134_211 g16r10 (by omega) h.1 ?_
    refine V_iload (v := Int32.ofInt (folkR fr (folkT B n fr s))) mi_134_214 (by simp [stL, lv_args, Value.category]) ?_
    refine V_aload (v := ad 16) mi_134_215 (by simp [stL, lv_args, Value.category]) ?_
    refine V_gR mi_134_216 g16r10 (by omega) h.1 ?_
    refine V_iload (v := Int32.ofInt (folkR fr (folkT B n fr s))) mi_134_219 (by simp [stL, lv_args, Value.category]) ?_
    refine V_stat (As := [.ref (ad 21), .int (Int32.ofInt (folkR fr (folkT B n fr s)))]) (st := [.int (Int32.ofInt (folkR fr (folkT B n fr s))), .ref (ad 21)]) mi_134_220 (by omega) (atx_ct a21 h.1 (by omega)) (by omega) (show 2 = mN 147 by decide +kernel) (by simp [Value.category]) ⟨Nat.le_refl _, Nat.le_refl _⟩ ?_
    rintro r w1 ⟨rfl, v, rfl, hv⟩
    refine V_ipush mi_134_223 ?_
    refine V_iload (v := Int32.ofInt (folkR fr s)) mi_134_224 (by simp [stL, lv_args, Value.category]) ?_
    refine V_ibin mi_134_225 (by omega) ?_
    refine V_ibin mi_134_226 (by omega) ?_
    refine V_stat (As := [.ref (ad 21), .int (Int32.ofInt (folkR fr (folkT B n fr s))), .int (ibF 6 (v) (ibF 8 (Int32.ofInt (1)) (Int32.ofInt (folkR fr s))))]) (st := []) mi_134_227 (by omega) (putx_ct a21 h.1 (by omega) (i32b _).1 (i32b _).2) (by omega) (show 3 = mN 148 by decide +kernel) (by simp [Value.category]) ⟨Nat.le_refl _, Nat.le_refl _⟩ ?_
    rintro r w' ⟨rfl, G1, o, u⟩
    have gi : (num2 0 (fr 3 - 1) (otheP (folkR fr s) (folkT B n fr s))).2.1 = 0 → (60 + foO fr B n s < 294 ∧ ¬ (102 ≤ 60 + foO fr B n s ∧ 60 + foO fr B n s < 246)) ∧ 21 = 16 + hxC (60 + foO fr B n s) ∧ Upd1 w1 w' 21 (hxI (60 + foO fr B n s)) (.int (Int32.ofInt (bitO (fr (60 + foO fr B n s)) (folkR fr s)))) ∧ (0 ≤ bitO (fr (60 + foO fr B n s)) (folkR fr s) ∧ bitO (fr (60 + foO fr B n s)) (folkR fr s) ≤ 4095) ∧ (60 ≤ 60 + foO fr B n s ∧ 60 + foO fr B n s < 102 → bitO (fr (60 + foO fr B n s)) (folkR fr s) ≤ 127) := fun g => by
      obtain ⟨o1, o2, -⟩ := oth_ok g
      obtain ⟨k1, -, k2, k3, -⟩ := num2_ok o1
      have k3 : folkR fr (folkT B n fr s) = (folkT B n fr s).1.2.2.2 := k3
      obtain ⟨gs, -, k4, k5, -⟩ := num_ok (B := B) (n := n) (lo := 0) (hi := fr 3 - 1) (s := s) k1
      have k5 : folkR fr s = s.1.2.2.2 := k5
      have b3 := f3 gs
      have e : foO fr B n s = (numR 0 (fr 3 - 1) (folkT B n fr s)).toNat := by
        rw [o2]
        rfl
      have e : foO fr B n s = (folkR fr (folkT B n fr s)).toNat := e
      have ei : folkR fr (folkT B n fr s) = (foO fr B n s : Int) := by omega
      have hx := fo_hx (F := foO fr B n s) (by omega)
      have hv := hv (foO fr B n s) (by omega) (by rw [ei])
      obtain ⟨ve, v0, v1⟩ := XR_at (p := v.toInt) (j := 60 + foO fr B n s) q (by rw [Int32.ofInt_toInt]; exact hv) (i32b v) g hx.1.1 hx.1.2 hx.2.1 hx.2.2
      have U := u (foO fr B n s) (by omega) (by rw [ei])
      rw [show v = Int32.ofInt (fr (60 + foO fr B n s)) by rw [← ve, Int32.ofInt_toInt], show ibF 6 (Int32.ofInt (fr (60 + foO fr B n s))) (ibF 8 (Int32.ofInt 1) (Int32.ofInt (folkR fr s))) = Int32.ofInt (bitO (fr (60 + foO fr B n s)) (folkR fr s)) by unfold bitO; rw [Int32.ofInt_toInt]] at U
      have bb := bitO_b2 (a := fr (60 + foO fr B n s)) (i := folkR fr s) v0 (XR_bit q g (by omega)) (by omega) (by omega)
      rw [← hx.2.2]
      exact ⟨hx.1, hx.2.1, U, ⟨bb.1, by omega⟩, fun _ => bb.2⟩
    replace q := XR_put (j := 60 + foO fr B n s) q o (by omega) (by omega) gi
    replace h := XA_keep h G1 (fun c i hc => o c i (by omega))
    refine V_aload (v := ad 1) mi_134_230 (by simp [stL, lv_args, Value.category]) ?_
    refine V_gR mi_134_231 g1r (by omega) h.1 ?_
    refine V_cO (As := []) (st := []) mi_134_234 (by omega) (by decide +kernel) (by decide +kernel) (by omega) g2o h.1 (advx_ct (s := foT fr B n s) (XB_num h) XMK_rf) (by omega) (show 0 = mN 188 by decide +kernel) (by simp [Value.category]) ?_
    rintro r w ⟨rfl, h, O⟩
    refine V_goto mi_134_237 ?_
    refine V_retV mi_134_245 ⟨rfl, h, XR_cg (XR_to q O h (fun g => numT_2ok g)) (fun g => ⟨?_, rfl⟩)⟩
    unfold foF
    rw [if_pos g]
theorem rl_5 {n : Nat} {B fr td : Nat → Int} {s : TS} {w0 : va_W} (g : s.2.1 = 0) (b0 : isSp B n xName s = false) (b1 : isSp B n xStam s = false) (b2 : isSp B n xDeaf s = false) (b3 : isSp B n xGoes s = false) (b4 : isSp B n xKnow s = false) (h : XA ad tys n B s ws) (q : XR fr td w0 s ws) : V l D tys A 134 7 0 0 (fun r w => r = none ∧ XA ad tys n B (linN B n fr td s).1 w ∧ XR (linN B n fr td s).2.1 (linN B n fr td s).2.2 w0 (linN B n fr td s).1 w) 0 0 160 (lv_args 0 [.ref (ad 1), .ref (ad 16)]) [] ws := by
  obtain ⟨xe0, xe1, xe2, xe3, xe4, xe5, xe6, -⟩ := xw_eq
  refine V_aload (v := ad 1) mi_134_160 (by simp [stL, lv_args, Value.category]) ?_
  refine V_gR mi_134_161 g1r (by omega) h.1 ?_
  refine V_ldcS mi_134_164 ?_
  refine V_cO (As := [.ref (D.2 1000 5)]) (st := []) mi_134_166 (by omega) (by decide +kernel) (by decide +kernel) (by omega) g2o h.1 (wordx_ct (i := 5) (by omega) h) (by omega) (show 1 = mN 191 by decide +kernel) (by simp [Value.category]) ?_
  rintro r w1 ⟨rfl, b, rfl, hb5⟩
  refine V_beq mi_134_169  (fun c5 => ?_) (fun c5 => ?_)
  · replace hb5 := (hb5 g).symm.trans c5
    rw [xe5] at hb5
    exact rl_6 g b0 b1 b2 b3 b4 hb5 h q
  · replace hb5 := (hb5 g).symm.trans c5
    rw [xe5] at hb5
    have b5 := hb5
    by_cases e12 : fr 4 = 12
    · have e : linN B n fr td s = (errS 3 s, fr, td) := by
        unfold linN
        rw [if_neg (by rw [b0]; exact Bool.false_ne_true), if_neg (by rw [b1]; exact Bool.false_ne_true), if_neg (by rw [b2]; exact Bool.false_ne_true), if_neg (by rw [b3]; exact Bool.false_ne_true), if_neg (by rw [b4]; exact Bool.false_ne_true), if_pos b5, if_pos e12]
      rw [e]
      refine V_aload (v := ad 1) mi_134_172 (by simp [stL, lv_args, Value.category]) ?_
      refine V_aload (v := ad 16) mi_134_173 (by simp [stL, lv_args, Value.category]) ?_
      refine V_cO (As := [.ref (ad 16)]) (st := []) mi_134_174 (by omega) (by decide +kernel) (by decide +kernel) (by omega) g1o h.1 (rsf_ct g e12 h q) (by omega) (show 1 = mN 139 by decide +kernel) (by simp [Value.category]) ?_
      rintro r w ⟨rfl, h, q⟩
      refine V_goto mi_134_177 ?_
      exact V_retV mi_134_245 ⟨rfl, h, q⟩
    · have bb4 := (XR_bds h.1 q g).2.2.2.2.1
      have e : linN B n fr td s = (saT fr B n (advS B n s), saG fr B n (advS B n s), td) := by
        unfold linN
        rw [if_neg (by rw [b0]; exact Bool.false_ne_true), if_neg (by rw [b1]; exact Bool.false_ne_true), if_neg (by rw [b2]; exact Bool.false_ne_true), if_neg (by rw [b3]; exact Bool.false_ne_true), if_neg (by rw [b4]; exact Bool.false_ne_true), if_pos b5, if_neg e12]
      rw [e]
      refine V_aload (v := ad 1) mi_134_172 (by simp [stL, lv_args, Value.category]) ?_
      refine V_aload (v := ad 16) mi_134_173 (by simp [stL, lv_args, Value.category]) ?_
      refine V_cO (As := [.ref (ad 16)]) (st := []) mi_134_174 (by omega) (by decide +kernel) (by decide +kernel) (by omega) g1o h.1 (rsx_ct g (by omega) h q) (by omega) (show 1 = mN 139 by decide +kernel) (by simp [Value.category]) ?_
      rintro r w ⟨rfl, h, q⟩
      refine V_goto mi_134_177 ?_
      exact V_retV mi_134_245 ⟨rfl, h, q⟩
theorem rl_4 {n : Nat} {B fr td : Nat → Int} {s : TS} {w0 : va_W} (g : s.2.1 = 0) (b0 : isSp B n xName s = false) (b1 : isSp B n xStam s = false) (b2 : isSp B n xDeaf s = false) (b3 : isSp B n xGoes s = false) (h : XA ad tys n B s ws) (q : XR fr td w0 s ws) : V l D tys A 134 7 0 0 (fun r w => r = none ∧ XA ad tys n B (linN B n fr td s).1 w ∧ XR (linN B n fr td s).2.1 (linN B n fr td s).2.2 w0 (linN B n fr td s).1 w) 0 0 140 (lv_args 0 [.ref (ad 1), .ref (ad 16)]) [] ws := by
  obtain ⟨xe0, xe1, xe2, xe3, xe4, xe5, xe6, -⟩ := xw_eq
  refine V_aload (v := ad 1) mi_134_140 (by simp [stL, lv_args, Value.category]) ?_
  refine V_gR mi_134_141 g1r (by omega) h.1 ?_
  refine V_ldcS mi_134_144 ?_
  refine V_cO (As := [.ref (D.2 1000 4)]) (st := []) mi_134_146 (by omega) (by decide +kernel) (by decide +kernel) (by omega) g2o h.1 (wordx_ct (i := 4) (by omega) h) (by omega) (show 1 = mN 191 by decide +kernel) (by simp [Value.category]) ?_
  rintro r w1 ⟨rfl, b, rfl, hb4⟩
  refine V_beq mi_134_149  (fun c4 => ?_) (fun c4 => ?_)
  · replace hb4 := (hb4 g).symm.trans c4
    rw [xe4] at hb4
    exact rl_5 g b0 b1 b2 b3 hb4 h q
  · replace hb4 := (hb4 g).symm.trans c4
    rw [xe4] at hb4
    have b4 := hb4
    have e : linN B n fr td s = (knT fr B n (advS B n s), knG fr B n (advS B n s), td) := by
      unfold linN
      rw [if_neg (by rw [b0]; exact Bool.false_ne_true), if_neg (by rw [b1]; exact Bool.false_ne_true), if_neg (by rw [b2]; exact Bool.false_ne_true), if_neg (by rw [b3]; exact Bool.false_ne_true), if_pos b4]
    rw [e]
    refine V_aload (v := ad 1) mi_134_152 (by simp [stL, lv_args, Value.category]) ?_
    refine V_aload (v := ad 16) mi_134_153 (by simp [stL, lv_args, Value.category]) ?_
    refine V_cO (As := [.ref (ad 16)]) (st := []) mi_134_154 (by omega) (by decide +kernel) (by decide +kernel) (by omega) g1o h.1 (rkx_ct (XB_adv h) (XR_of (s2 := advS B n s) q XMK_rf (fun g => g))) (by omega) (show 1 = mN 138 by decide +kernel) (by simp [Value.category]) ?_
    rintro r w ⟨rfl, h, q⟩
    refine V_goto mi_134_157 ?_
    exact V_retV mi_134_245 ⟨rfl, h, q⟩
theorem rl_3 {n : Nat} {B fr td : Nat → Int} {s : TS} {w0 : va_W} (g : s.2.1 = 0) (b0 : isSp B n xName s = false) (b1 : isSp B n xStam s = false) (b2 : isSp B n xDeaf s = false) (h : XA ad tys n B s ws) (q : XR fr td w0 s ws) : V l D tys A 134 7 0 0 (fun r w => r = none ∧ XA ad tys n B (linN B n fr td s).1 w ∧ XR (linN B n fr td s).2.1 (linN B n fr td s).2.2 w0 (linN B n fr td s).1 w) 0 0 120 (lv_args 0 [.ref (ad 1), .ref (ad 16)]) [] ws := by
  obtain ⟨xe0, xe1, xe2, xe3, xe4, xe5, xe6, -⟩ := xw_eq
  refine V_aload (v := ad 1) mi_134_120 (by simp [stL, lv_args, Value.category]) ?_
  refine V_gR mi_134_121 g1r (by omega) h.1 ?_
  refine V_ldcS mi_134_124 ?_
  refine V_cO (As := [.ref (D.2 1000 3)]) (st := []) mi_134_126 (by omega) (by decide +kernel) (by decide +kernel) (by omega) g2o h.1 (wordx_ct (i := 3) (by omega) h) (by omega) (show 1 = mN 191 by decide +kernel) (by simp [Value.category]) ?_
  rintro r w1 ⟨rfl, b, rfl, hb3⟩
  refine V_beq mi_134_129  (fun c3 => ?_) (fun c3 => ?_)
  · replace hb3 := (hb3 g).symm.trans c3
    rw [xe3] at hb3
    exact rl_4 g b0 b1 b2 hb3 h q
  · replace hb3 := (hb3 g).symm.trans c3
    rw [xe3] at hb3
    have b3 := hb3
    have e : linN B n fr td s = (goT fr B n (advS B n s), fr, goD fr td B n (advS B n s)) := by
      unfold linN
      rw [if_neg (by rw [b0]; exact Bool.false_ne_true), if_neg (by rw [b1]; exact Bool.false_ne_true), if_neg (by rw [b2]; exact Bool.false_ne_true), if_pos b3]
    rw [e]
    refine V_aload (v := ad 1) mi_134_132 (by simp [stL, lv_args, Value.category]) ?_
    refine V_aload (v := ad 16) mi_134_133 (by simp [stL, lv_args, Value.category]) ?_
    refine V_cO (As := [.ref (ad 16)]) (st := []) mi_134_134 (by omega) (by decide +kernel) (by decide +kernel) (by omega) g1o h.1 (rgx_ct (XB_adv h) (XR_of (s2 := advS B n s) q XMK_rf (fun g => g))) (by omega) (show 1 = mN 137 by decide +kernel) (by simp [Value.category]) ?_
    rintro r w ⟨rfl, h, q⟩
    refine V_goto mi_134_137 ?_
    exact V_retV mi_134_245 ⟨rfl, h, q⟩
theorem rl_2 {n : Nat} {B fr td : Nat → Int} {s : TS} {w0 : va_W} (g : s.2.1 = 0) (b0 : isSp B n xName s = false) (b1 : isSp B n xStam s = false) (h : XA ad tys n B s ws) (q : XR fr td w0 s ws) : V l D tys A 134 7 0 0 (fun r w => r = none ∧ XA ad tys n B (linN B n fr td s).1 w ∧ XR (linN B n fr td s).2.1 (linN B n fr td s).2.2 w0 (linN B n fr td s).1 w) 0 0 77 (lv_args 0 [.ref (ad 1), .ref (ad 16)]) [] ws := by
  obtain ⟨xe0, xe1, xe2, xe3, xe4, xe5, xe6, -⟩ := xw_eq
  refine V_aload (v := ad 1) mi_134_77 (by simp [stL, lv_args, Value.category]) ?_
  refine V_gR mi_134_78 g1r (by omega) h.1 ?_
  refine V_ldcS mi_134_81 ?_
  refine V_cO (As := [.ref (D.2 1000 2)]) (st := []) mi_134_83 (by omega) (by decide +kernel) (by decide +kernel) (by omega) g2o h.1 (wordx_ct (i := 2) (by omega) h) (by omega) (show 1 = mN 191 by decide +kernel) (by simp [Value.category]) ?_
  rintro r w1 ⟨rfl, b, rfl, hb2⟩
  refine V_beq mi_134_86  (fun c2 => ?_) (fun c2 => ?_)
  · replace hb2 := (hb2 g).symm.trans c2
    rw [xe2] at hb2
    exact rl_3 g b0 b1 hb2 h q
  · replace hb2 := (hb2 g).symm.trans c2
    rw [xe2] at hb2
    have b2 := hb2
    have e : linN B n fr td s = (deT fr B n (advS B n s), deF fr B n (advS B n s), td) := by
      unfold linN
      rw [if_neg (by rw [b0]; exact Bool.false_ne_true), if_neg (by rw [b1]; exact Bool.false_ne_true), if_pos b2]
    rw [e]
    replace q : XR fr td w0 (advS B n s) _ := XR_of q XMK_rf (fun g => g)
    replace h := XB_adv h
    generalize advS B n s = s at h q
    refine V_aload (v := ad 1) mi_134_89 (by simp [stL, lv_args, Value.category]) ?_
    refine V_aload (v := ad 16) mi_134_90 (by simp [stL, lv_args, Value.category]) ?_
    refine V_cO (As := [.ref (ad 16)]) (st := []) mi_134_91 (by omega) (by decide +kernel) (by decide +kernel) (by omega) g1o h.1 (folkx_ct h q) (by omega) (show 1 = mN 140 by decide +kernel) (by simp [Value.category]) ?_
    rintro r w ⟨rfl, h, q⟩
    refine V_istore mi_134_94 ?_
    refine V_aload (v := ad 16) mi_134_95 (by simp [stL, lv_args, Value.category]) ?_
    refine V_gR mi_134_96 g16r9 (by omega) h.1 ?_
    refine V_iload (v := Int32.ofInt (folkR fr s)) mi_134_99 (by simp [stL, lv_args, Value.category]) ?_
    refine V_aload (v := ad 1) mi_134_100 (by simp [stL, lv_args, Value.category]) ?_
    refine V_ipush mi_134_101 ?_
    refine V_ipush mi_134_102 ?_
    refine V_cO (As := [.int (Int32.ofInt (0)), .int (Int32.ofInt (100))]) (st := [.int (Int32.ofInt (folkR fr s)), .ref (ad 20)]) mi_134_104 (by omega) (by decide +kernel) (by decide +kernel) (by omega) g1o h.1 (expx_ct (lo := 0) (hi := 100) (s := folkT B n fr s) ⟨by omega, by omega⟩ ⟨by omega, by omega⟩ (by omega) (XB_num h) XMK_rf) (by omega) (show 2 = mN 141 by decide +kernel) (by simp [Value.category]) ?_
    rintro r w ⟨rfl, h, O⟩
    replace q := XR_to q O h (fun g => numT_2ok (num2_ok g).1)
    change V l D tys A 134 7 0 0 _ 0 0 _ _ (.int (Int32.ofInt (numR 0 100 (folkT B n fr s))) :: _) _
    refine V_stat (As := [.ref (ad 20), .int (Int32.ofInt (folkR fr s)), .int (Int32.ofInt (numR 0 100 (folkT B n fr s)))]) (st := []) mi_134_107 (by omega) (putx_ct a20 h.1 (by omega) (i32b _).1 (i32b _).2) (by omega) (show 3 = mN 148 by decide +kernel) (by simp [Value.category]) ⟨Nat.le_refl _, Nat.le_refl _⟩ ?_
    rintro r w1 ⟨rfl, G2, o2, u2⟩
    replace q := XR_put (j := 54 + (folkR fr s).toNat) (z := numR 0 100 (folkT B n fr s)) q o2 (by omega) (by omega) (fun g2 => by
      obtain ⟨k5, -, k6, k7, -⟩ := num2_ok g2
      obtain ⟨-, -, k8, k9, -⟩ := num_ok (B := B) (n := n) (s := s) k5
      have k9 : folkR fr s = s.1.2.2.2 := k9
      have b3 := (XR_bds h.1 q g2).2.2.2.1
      have hx := de_hx (F := (folkR fr s).toNat) (by omega)
      refine ⟨hx.1, hx.2.1, ?_, ⟨by omega, by omega⟩, fun _ => by omega⟩
      rw [← hx.2.2]
      exact u2 _ (by omega) (by rw [Int.toNat_of_nonneg (by omega)]))
    replace h := XA_keep h G2 (fun c i hc => o2 c i (by omega))
    refine V_aload (v := ad 1) mi_134_110 (by simp [stL, lv_args, Value.category]) ?_
    refine V_gR mi_134_111 g1r (by omega) h.1 ?_
    refine V_cO (As := []) (st := []) mi_134_114 (by omega) (by decide +kernel) (by decide +kernel) (by omega) g2o h.1 (advx_ct (s := deT fr B n s) (XB_num h) XMK_rf) (by omega) (show 0 = mN 188 by decide +kernel) (by simp [Value.category]) ?_
    rintro r w ⟨rfl, h, O⟩
    refine V_goto mi_134_117 ?_
    refine V_retV mi_134_245 ⟨rfl, h, XR_cg (XR_to q O h (fun g => numT_2ok g)) (fun g => ⟨?_, rfl⟩)⟩
    unfold deF
    rw [if_pos g]
theorem rl_1 {n : Nat} {B fr td : Nat → Int} {s : TS} {w0 : va_W} (g : s.2.1 = 0) (b0 : isSp B n xName s = false) (h : XA ad tys n B s ws) (q : XR fr td w0 s ws) : V l D tys A 134 7 0 0 (fun r w => r = none ∧ XA ad tys n B (linN B n fr td s).1 w ∧ XR (linN B n fr td s).2.1 (linN B n fr td s).2.2 w0 (linN B n fr td s).1 w) 0 0 35 (lv_args 0 [.ref (ad 1), .ref (ad 16)]) [] ws := by
  obtain ⟨xe0, xe1, xe2, xe3, xe4, xe5, xe6, -⟩ := xw_eq
  refine V_aload (v := ad 1) mi_134_35 (by simp [stL, lv_args, Value.category]) ?_
  refine V_gR mi_134_36 g1r (by omega) h.1 ?_
  refine V_ldcS mi_134_39 ?_
  refine V_cO (As := [.ref (D.2 1000 1)]) (st := []) mi_134_41 (by omega) (by decide +kernel) (by decide +kernel) (by omega) g2o h.1 (wordx_ct (i := 1) (by omega) h) (by omega) (show 1 = mN 191 by decide +kernel) (by simp [Value.category]) ?_
  rintro r w1 ⟨rfl, b, rfl, hb1⟩
  refine V_beq mi_134_44  (fun c1 => ?_) (fun c1 => ?_)
  · replace hb1 := (hb1 g).symm.trans c1
    rw [xe1] at hb1
    exact rl_2 g b0 hb1 h q
  · replace hb1 := (hb1 g).symm.trans c1
    rw [xe1] at hb1
    have b1 := hb1
    have e : linN B n fr td s = (stT fr B n (advS B n s), stF fr B n (advS B n s), td) := by
      unfold linN
      rw [if_neg (by rw [b0]; exact Bool.false_ne_true), if_pos b1]
    rw [e]
    replace q : XR fr td w0 (advS B n s) _ := XR_of q XMK_rf (fun g => g)
    replace h := XB_adv h
    generalize advS B n s = s at h q
    refine V_aload (v := ad 1) mi_134_47 (by simp [stL, lv_args, Value.category]) ?_
    refine V_aload (v := ad 16) mi_134_48 (by simp [stL, lv_args, Value.category]) ?_
    refine V_cO (As := [.ref (ad 16)]) (st := []) mi_134_49 (by omega) (by decide +kernel) (by decide +kernel) (by omega) g1o h.1 (folkx_ct h q) (by omega) (show 1 = mN 140 by decide +kernel) (by simp [Value.category]) ?_
    rintro r w ⟨rfl, h, q⟩
    refine V_istore mi_134_52 ?_
    refine V_aload (v := ad 16) mi_134_53 (by simp [stL, lv_args, Value.category]) ?_
    refine V_gR mi_134_54 g16r8 (by omega) h.1 ?_
    refine V_iload (v := Int32.ofInt (folkR fr s)) mi_134_57 (by simp [stL, lv_args, Value.category]) ?_
    refine V_aload (v := ad 1) mi_134_58 (by simp [stL, lv_args, Value.category]) ?_
    refine V_ipush mi_134_59 ?_
    refine V_ipush mi_134_60 ?_
    refine V_cO (As := [.int (Int32.ofInt (1)), .int (Int32.ofInt (4))]) (st := [.int (Int32.ofInt (folkR fr s)), .ref (ad 19)]) mi_134_61 (by omega) (by decide +kernel) (by decide +kernel) (by omega) g1o h.1 (expx_ct (lo := 1) (hi := 4) (s := folkT B n fr s) ⟨by omega, by omega⟩ ⟨by omega, by omega⟩ (by omega) (XB_num h) XMK_rf) (by omega) (show 2 = mN 141 by decide +kernel) (by simp [Value.category]) ?_
    rintro r w ⟨rfl, h, O⟩
    replace q := XR_to q O h (fun g => numT_2ok (num2_ok g).1)
    change V l D tys A 134 7 0 0 _ 0 0 _ _ (.int (Int32.ofInt (numR 1 4 (folkT B n fr s))) :: _) _
    refine V_stat (As := [.ref (ad 19), .int (Int32.ofInt (folkR fr s)), .int (Int32.ofInt (numR 1 4 (folkT B n fr s)))]) (st := []) mi_134_64 (by omega) (putx_ct a19 h.1 (by omega) (i32b _).1 (i32b _).2) (by omega) (show 3 = mN 148 by decide +kernel) (by simp [Value.category]) ⟨Nat.le_refl _, Nat.le_refl _⟩ ?_
    rintro r w1 ⟨rfl, G2, o2, u2⟩
    replace q := XR_put (j := 48 + (folkR fr s).toNat) (z := numR 1 4 (folkT B n fr s)) q o2 (by omega) (by omega) (fun g2 => by
      obtain ⟨k5, -, k6, k7, -⟩ := num2_ok g2
      obtain ⟨-, -, k8, k9, -⟩ := num_ok (B := B) (n := n) (s := s) k5
      have k9 : folkR fr s = s.1.2.2.2 := k9
      have b3 := (XR_bds h.1 q g2).2.2.2.1
      have hx := st_hx (F := (folkR fr s).toNat) (by omega)
      refine ⟨hx.1, hx.2.1, ?_, ⟨by omega, by omega⟩, fun _ => by omega⟩
      rw [← hx.2.2]
      exact u2 _ (by omega) (by rw [Int.toNat_of_nonneg (by omega)]))
    replace h := XA_keep h G2 (fun c i hc => o2 c i (by omega))
    refine V_aload (v := ad 1) mi_134_67 (by simp [stL, lv_args, Value.category]) ?_
    refine V_gR mi_134_68 g1r (by omega) h.1 ?_
    refine V_cO (As := []) (st := []) mi_134_71 (by omega) (by decide +kernel) (by decide +kernel) (by omega) g2o h.1 (advx_ct (s := stT fr B n s) (XB_num h) XMK_rf) (by omega) (show 0 = mN 188 by decide +kernel) (by simp [Value.category]) ?_
    rintro r w ⟨rfl, h, O⟩
    refine V_goto mi_134_74 ?_
    refine V_retV mi_134_245 ⟨rfl, h, XR_cg (XR_to q O h (fun g => numT_2ok g)) (fun g => ⟨?_, rfl⟩)⟩
    unfold stF
    rw [if_pos g]
theorem rl_0 {n : Nat} {B fr td : Nat → Int} {s : TS} {w0 : va_W} (g : s.2.1 = 0)  (h : XA ad tys n B s ws) (q : XR fr td w0 s ws) : V l D tys A 134 7 0 0 (fun r w => r = none ∧ XA ad tys n B (linN B n fr td s).1 w ∧ XR (linN B n fr td s).2.1 (linN B n fr td s).2.2 w0 (linN B n fr td s).1 w) 0 0 15 (lv_args 0 [.ref (ad 1), .ref (ad 16)]) [] ws := by
  obtain ⟨xe0, xe1, xe2, xe3, xe4, xe5, xe6, -⟩ := xw_eq
  refine V_aload (v := ad 1) mi_134_15 (by simp [stL, lv_args, Value.category]) ?_
  refine V_gR mi_134_16 g1r (by omega) h.1 ?_
  refine V_ldcS mi_134_19 ?_
  refine V_cO (As := [.ref (D.2 1000 0)]) (st := []) mi_134_21 (by omega) (by decide +kernel) (by decide +kernel) (by omega) g2o h.1 (wordx_ct (i := 0) (by omega) h) (by omega) (show 1 = mN 191 by decide +kernel) (by simp [Value.category]) ?_
  rintro r w1 ⟨rfl, b, rfl, hb0⟩
  refine V_beq mi_134_24  (fun c0 => ?_) (fun c0 => ?_)
  · replace hb0 := (hb0 g).symm.trans c0
    rw [xe0] at hb0
    exact rl_1 g hb0 h q
  · replace hb0 := (hb0 g).symm.trans c0
    rw [xe0] at hb0
    have b0 := hb0
    by_cases e6 : fr 3 = 6
    · have e : linN B n fr td s = (errS 3 s, fr, td) := by
        unfold linN
        rw [if_pos b0, if_pos e6]
      rw [e]
      refine V_aload (v := ad 1) mi_134_27 (by simp [stL, lv_args, Value.category]) ?_
      refine V_aload (v := ad 16) mi_134_28 (by simp [stL, lv_args, Value.category]) ?_
      refine V_cO (As := [.ref (ad 16)]) (st := []) mi_134_29 (by omega) (by decide +kernel) (by decide +kernel) (by omega) g1o h.1 (rnf_ct g e6 h q) (by omega) (show 1 = mN 136 by decide +kernel) (by simp [Value.category]) ?_
      rintro r w ⟨rfl, h, q⟩
      refine V_goto mi_134_32 ?_
      exact V_retV mi_134_245 ⟨rfl, h, q⟩
    · have b3 := (XR_bds h.1 q g).2.2.2.1
      have e : linN B n fr td s = ((namW B n (fr 0) (fr 3).toNat 7 0 (advS B n s) fr).1, namZ (fr 3).toNat (namW B n (fr 0) (fr 3).toNat 7 0 (advS B n s) fr), td) := by
        unfold linN
        rw [if_pos b0, if_neg e6]
      rw [e]
      refine V_aload (v := ad 1) mi_134_27 (by simp [stL, lv_args, Value.category]) ?_
      refine V_aload (v := ad 16) mi_134_28 (by simp [stL, lv_args, Value.category]) ?_
      refine V_cO (As := [.ref (ad 16)]) (st := []) mi_134_29 (by omega) (by decide +kernel) (by decide +kernel) (by omega) g1o h.1 (rnx_ct (F := (fr 3).toNat) (by omega) g (by rw [Int.toNat_of_nonneg (by omega)]) h q) (by omega) (show 1 = mN 136 by decide +kernel) (by simp [Value.category]) ?_
      rintro r w ⟨rfl, h, q⟩
      refine V_goto mi_134_32 ?_
      exact V_retV mi_134_245 ⟨rfl, h, q⟩
theorem rlx_ct {n : Nat} {B fr td : Nat → Int} {s : TS} {w0 : va_W} (g : s.2.1 = 0) (h : XA ad tys n B s ws) (q : XR fr td w0 s ws) : CT l D tys A 134 7 0 0 [.ref (ad 1), .ref (ad 16)] ws (fun r w => r = none ∧ XA ad tys n B (linW B n fr td s).1 w ∧ XR (linW B n fr td s).2.1 (linW B n fr td s).2.2 w0 (linW B n fr td s).1 w) := by
  refine CT_of_V (by omega) (show (2 : Nat) ≤ mML 134 by decide +kernel) ?_
  refine V_aload (v := ad 16) mi_134_0 (by simp [stL, lv_args, Value.category]) ?_
  obtain ⟨L, hL, L0, L1⟩ := celO h.1 g16f0 (by omega)
  have eL : L = fr 5 := (XR_at (j := 5) q hL ⟨by omega, by omega⟩ g (by omega) (by omega) rfl rfl).1
  refine V_gO mi_134_1 g16o h.1 (hL) ?_
  refine V_zne mi_134_4 ⟨by omega, by omega⟩ (fun q1 => ?_) (fun q1 => ?_)
  · have e : linW B n fr td s = linN B n fr td s := by
      unfold linW
      rw [if_neg (by omega)]
    rw [e]
    exact rl_0 g h q
  · have e : linW B n fr td s = (firT B n s, firF B n fr s, td) := by
      unfold linW
      rw [if_pos (by omega)]
    rw [e]
    refine V_aload (v := ad 1) mi_134_7 (by simp [stL, lv_args, Value.category]) ?_
    refine V_aload (v := ad 16) mi_134_8 (by simp [stL, lv_args, Value.category]) ?_
    refine V_cO (As := [.ref (ad 16)]) (st := []) mi_134_9 (by omega) (by decide +kernel) (by decide +kernel) (by omega) g1o h.1 (rhx_ct h q) (by omega) (show 1 = mN 135 by decide +kernel) (by simp [Value.category]) ?_
    rintro r w ⟨rfl, h, q⟩
    refine V_goto mi_134_12 ?_
    exact V_retV mi_134_245 ⟨rfl, h, q⟩
end XRM
section XMO
variable {l : Launch} {D : va_G} {tys : List (ClassId × FieldType)} {A : Nat → Prop} {ad : Nat → Nat} {ws : va_W}
theorem ismF_ct {n : Nat} {B fr td : Nat → Int} {s : TS} {w0 : va_W} {i : Nat} (hi : i < 24) (h : MSF ad tys n B fr td w0 s ws) : CT l D tys A 216 4 0 0 [.ref (ad 90), .ref (D.2 1000 i)] ws (fun r w => w = ws ∧ r = some (.int (bI (isSp B n (xw i) s)))) := by
  obtain ⟨p1, p2, p3⟩ := xq hi
  exact ism_ct p1 p2 p3 (MSF_q h)
theorem takF_ct {n : Nat} {B fr td : Nat → Int} {s : TS} {w0 : va_W} {i : Nat} (hi : i < 24) (h : MSF ad tys n B fr td w0 s ws) : CT l D tys A 217 5 0 0 [.ref (ad 90), .ref (D.2 1000 i)] ws (fun r w => r = some (.int (bI (isSp B n (xw i) s))) ∧ MSF ad tys n B fr td w0 (takeS B n (xw i) s) w) := by
  obtain ⟨p1, p2, p3⟩ := xq hi
  refine CT_post (takem_ct p1 p2 p3 (MSF_q h)) ?_
  rintro r w ⟨e1, e2⟩
  exact ⟨e1, MSF_of h e2⟩
theorem goodF_ct {n : Nat} {B fr td : Nat → Int} {s : TS} {w0 : va_W} (h : MSF ad tys n B fr td w0 s ws) : CT l D tys A 214 0 0 0 [.ref (ad 90)] ws (fun r w => w = ws ∧ r = some (.int (bI (decide (s.2.1 = 0))))) := by
  obtain ⟨hG, ⟨T, ok, h10, h9, h8, h11, h12, h13⟩, f12, O⟩ := id h
  obtain ⟨b1, b2, b3, b4⟩ := ok
  refine CT_post (good_ct hG h12 b4.1 b4.2) ?_
  rintro r w ⟨rfl, rfl⟩
  refine ⟨rfl, ?_⟩
  by_cases g : s.2.1 = 0
  · rw [if_pos g, decide_eq_true g]
    rfl
  · rw [if_neg g, decide_eq_false g]
    rfl
theorem advF_ct {n : Nat} {B fr td : Nat → Int} {s : TS} {w0 : va_W} (h : MSF ad tys n B fr td w0 s ws) : CT l D tys A 213 1 0 0 [.ref (ad 90)] ws (fun r w => r = none ∧ MSF ad tys n B fr td w0 (advS B n s) w) := by
  refine CT_post (advm_ct (MSF_q h)) ?_
  rintro r w ⟨e1, e2⟩
  exact ⟨e1, MSF_of h e2⟩
theorem errF_ct {n : Nat} {B fr td : Nat → Int} {s : TS} {w0 : va_W} {e : Int} (h : MSF ad tys n B fr td w0 s ws) (e1 : 1 ≤ e) (e3 : e ≤ 3) : CT l D tys A 215 1 0 0 [.ref (ad 90), .int (Int32.ofInt e)] ws (fun r w => r = none ∧ MSF ad tys n B fr td w0 (errS e s) w) := by
  refine CT_post (errm_ct (MSF_q h) e1 e3) ?_
  rintro r w ⟨e1, e2⟩
  exact ⟨e1, MSF_of h e2⟩
theorem numF_ct {n : Nat} {B fr td : Nat → Int} {s : TS} {w0 : va_W} {lo hi : Int} (a : I32 lo) (b : I32 hi) (h : MSF ad tys n B fr td w0 s ws) : CT l D tys A 219 2 0 0 [.ref (ad 90), .int (Int32.ofInt lo), .int (Int32.ofInt hi)] ws (fun r w => r = some (.int (Int32.ofInt (numR lo hi s))) ∧ MSF ad tys n B fr td w0 (numT B n lo hi s) w) := by
  refine CT_post (numm_ct a.1 a.2 b.1 b.2 (MSF_q h)) ?_
  rintro r w ⟨e1, e2⟩
  exact ⟨e1, MSF_of h e2⟩
theorem sp_bad {B : Nat → Int} {n : Nat} {cs : List Int32} {s : TS} (h : ¬ s.2.1 = 0) : isSp B n cs s = false := by
  unfold isSp isB
  rw [decide_eq_false h, Bool.false_and]
theorem wdR_ext {B : Nat → Int} {n S : Nat} {cs ds : List Int32} : ∀ {m j : Nat}, wdR B n S cs m j = true → wdR B n S ds m j = true → ∀ i, j ≤ i → i < j + m → cs.getD i 0 = ds.getD i 0
  | 0, j, _, _, i, h1, h2 => by omega
  | m + 1, j, h1, h2, i, h3, h4 => by
    unfold wdR at h1 h2
    rw [Bool.and_eq_true, decide_eq_true_eq] at h1 h2
    by_cases e : i = j
    · subst e
      have q : (cs.getD i 0).toInt = (ds.getD i 0).toInt := h1.1.symm.trans h2.1
      rw [← Int32.ofInt_toInt (cs.getD i 0), q, Int32.ofInt_toInt]
    · exact wdR_ext h1.2 h2.2 i (by omega) (by omega)
theorem sp_uniq {B : Nat → Int} {n : Nat} {cs ds : List Int32} {s : TS} (h1 : isSp B n cs s = true) (h2 : isSp B n ds s = true) : cs = ds := by
  unfold isSp isB wdS at h1 h2
  simp only [Bool.and_eq_true, decide_eq_true_eq] at h1 h2
  have hl : cs.length = ds.length := by omega
  have q := wdR_ext h1.2.2.2 (hl ▸ h2.2.2.2)
  refine List.ext_getElem hl (fun i a b => ?_)
  have := q i (by omega) (by omega)
  rw [List.getD_eq_getElem?_getD, List.getD_eq_getElem?_getD, List.getElem?_eq_getElem a, List.getElem?_eq_getElem b] at this
  exact this
theorem says_not : xName ≠ xSays ∧ xStam ≠ xSays ∧ xDeaf ≠ xSays ∧ xGoes ≠ xSays ∧ xKnow ≠ xSays ∧ xFoe ≠ xSays := by decide +kernel
theorem nl_6 {n : Nat} {B fr td : Nat → Int} {s : TS} {w0 : va_W} (b0 : isSp B n xName s = false) (b1 : isSp B n xStam s = false) (b2 : isSp B n xDeaf s = false) (b3 : isSp B n xGoes s = false) (b4 : isSp B n xKnow s = false) (b5 : isSp B n xSays s = false) (b6 : isSp B n xFoe s = true) (h : MSF ad tys n B fr td w0 s ws) : V l D tys A 231 8 0 0 (fun r w => r = none ∧ MSF ad tys n B (linN B n fr td s).2.1 (linN B n fr td s).2.2 w0 (linN B n fr td s).1 w) 0 0 278 (lv_args 0 [.ref (ad 90)]) [] ws := by
  obtain ⟨s96, e96, gN, gD, s3, s0, s4, s5⟩ := g96n
  have e : linN B n fr td s = (foT fr B n (advS B n s), foF fr B n (advS B n s), td) := by
    unfold linN
    rw [if_neg (by rw [b0]; exact Bool.false_ne_true), if_neg (by rw [b1]; exact Bool.false_ne_true), if_neg (by rw [b2]; exact Bool.false_ne_true), if_neg (by rw [b3]; exact Bool.false_ne_true), if_neg (by rw [b4]; exact Bool.false_ne_true), if_neg (by rw [b5]; exact Bool.false_ne_true), if_pos b6]
  rw [e]
  refine V_aload (v := ad 90) mi_231_278 (by simp [stL, lv_args, Value.category]) ?_
  refine V_callM (As := []) (st := []) mi_231_279 (by omega) (by decide +kernel) (by decide +kernel) h.1 (advF_ct h) (by omega) (show 0 = mN 213 by decide +kernel) (by simp [Value.category]) ?_
  rintro r w ⟨rfl, h⟩
  generalize advS B n s = s at h
  have c3 := fr_seg h e96 (by omega) s3 (by omega) (by omega)
  have bf : folkR fr s = 0 ∨ (0 ≤ folkR fr s ∧ folkR fr s ≤ fr 3 - 1) := numR_bd
  refine V_aload (v := ad 90) mi_231_282 (by simp [stL, lv_args, Value.category]) ?_
  refine V_callM (As := []) (st := []) mi_231_283 (by omega) (by decide +kernel) (by decide +kernel) h.1 (folkm_ct h) (by omega) (show 0 = mN 222 by decide +kernel) (by simp [Value.category]) ?_
  rintro r w ⟨rfl, h⟩
  refine V_istore mi_231_286 ?_
  refine V_aload (v := ad 90) mi_231_287 (by simp [stL, lv_args, Value.category]) ?_
  refine V_iload (v := Int32.ofInt (folkR fr s)) mi_231_288 (by simp [stL, lv_args, Value.category]) ?_
  refine V_callM (As := [.int (Int32.ofInt (folkR fr s))]) (st := []) mi_231_289 (by omega) (by decide +kernel) (by decide +kernel) h.1 (othem_ct (by omega) (by omega) h) (by omega) (show 1 = mN 223 by decide +kernel) (by simp [Value.category]) ?_
  rintro r w ⟨rfl, h⟩
  have h : MSF ad tys n B fr td w0 (foT fr B n s) w := h
  change V l D tys A 231 8 0 0 _ 0 0 _ _ ((some (Value.int (Int32.ofInt (otheR fr (folkR fr s) (folkT B n fr s))))).toList ++ []) _
  refine V_istore mi_231_292 ?_
  refine V_aload (v := ad 90) mi_231_293 (by simp [stL, lv_args, Value.category]) ?_
  refine V_callM (As := []) (st := []) mi_231_294 (by omega) (by decide +kernel) (by decide +kernel) h.1 (goodF_ct h) (by omega) (show 0 = mN 214 by decide +kernel) (by simp [Value.category]) ?_
  rintro r w1 ⟨rfl, rfl⟩
  refine V_beq mi_231_297  (fun c => ?_) (fun c => ?_)
  · have g2 : ¬ (foT fr B n s).2.1 = 0 := of_decide_eq_false c
    have e : foF fr B n s = fr := by
      unfold foF
      rw [if_neg g2]
    rw [e]
    exact V_retV mi_231_315 ⟨rfl, h⟩
  · have g2 : (foT fr B n s).2.1 = 0 := of_decide_eq_true c
    obtain ⟨o1, o2, o3⟩ := oth_ok (numT_2ok g2)
    obtain ⟨k1, -, k2, k3, -⟩ := num2_ok o1
    obtain ⟨gs, -, k4, k5, -⟩ := num_ok (B := B) (n := n) (lo := 0) (hi := fr 3 - 1) (s := s) k1
    have k5 : folkR fr s = s.1.2.2.2 := k5
    have eo : otheR fr (folkR fr s) (folkT B n fr s) = (foO fr B n s : Int) := by
      have : otheR fr (folkR fr s) (folkT B n fr s) = (folkT B n fr s).1.2.2.2 := o2.symm.trans k3
      unfold foO
      rw [Int.toNat_of_nonneg (by omega)]
    have o6 : foO fr B n s < 6 := by
      have : otheR fr (folkR fr s) (folkT B n fr s) = (folkT B n fr s).1.2.2.2 := o2.symm.trans k3
      omega
    rw [eo]
    refine V_aload (v := ad 90) mi_231_300 (by simp [stL, lv_args, Value.category]) ?_
    refine V_getI mi_231_301 h.1 (rref gr14 (by omega) h.1) ?_
    refine V_ipush mi_231_304 ?_
    refine V_iload (v := Int32.ofInt ((foO fr B n s : Int))) mi_231_306 (by simp [stL, lv_args, Value.category]) ?_
    refine V_ibin mi_231_307 (by omega) ?_
    rw [ib0]
    refine V_dup2 mi_231_308 (by simp [Value.category]) (by simp [Value.category]) ?_
    refine V_fresh (a := 0) (x := 0) h (j := 60 + foO fr B n s) (by omega) (by rw [show (60) + ((foO fr B n s : Int)) = ((60 + foO fr B n s : Nat) : Int) by omega]) mi_231_309 ?_
    refine V_ipush mi_231_310 ?_
    refine V_iload (v := Int32.ofInt (folkR fr s)) mi_231_311 (by simp [stL, lv_args, Value.category]) ?_
    refine V_ibin mi_231_312 (by omega) ?_
    refine V_ibin mi_231_313 (by omega) ?_
    have bk := fr_seg h e96 (by omega) (gD _ o6).2.2 (by omega) (by omega)
    have bb := bitO_bd bk.1 bk.2 (i := folkR fr s) (by omega) (by omega)
    rw [show ibF 6 (Int32.ofInt (fr (60 + foO fr B n s))) (ibF 8 (Int32.ofInt 1) (Int32.ofInt (folkR fr s))) = Int32.ofInt (bitO (fr (60 + foO fr B n s)) (folkR fr s)) by unfold bitO; rw [Int32.ofInt_toInt]]
    refine V_fst (z := bitO (fr (60 + foO fr B n s)) (folkR fr s)) h e96 (j := 60 + foO fr B n s) (by omega) (by rw [show (60) + ((foO fr B n s : Int)) = ((60 + foO fr B n s : Nat) : Int) by omega]) mi_231_314 (gD _ o6).2.2 bb.1 bb.2 bb.1 (by omega) (fun w h => ?_)
    have e : foF fr B n s = updI fr (60 + foO fr B n s) (bitO (fr (60 + foO fr B n s)) (folkR fr s)) := by
      unfold foF
      rw [if_pos g2]
    rw [e]
    exact V_retV mi_231_315 ⟨rfl, h⟩
theorem nl_5 {n : Nat} {B fr td : Nat → Int} {s : TS} {w0 : va_W} (b0 : isSp B n xName s = false) (b1 : isSp B n xStam s = false) (b2 : isSp B n xDeaf s = false) (b3 : isSp B n xGoes s = false) (b4 : isSp B n xKnow s = false) (bt : isSp B n xFoe s = false → isSp B n xName s = true ∨ isSp B n xStam s = true ∨ isSp B n xDeaf s = true ∨ isSp B n xGoes s = true ∨ isSp B n xKnow s = true ∨ isSp B n xSays s = true) (n12 : isSp B n xSays s = true → ¬ fr 4 = 12) (h : MSF ad tys n B fr td w0 s ws) : V l D tys A 231 8 0 0 (fun r w => r = none ∧ MSF ad tys n B (linN B n fr td s).2.1 (linN B n fr td s).2.2 w0 (linN B n fr td s).1 w) 0 0 262 (lv_args 0 [.ref (ad 90)]) [] ws := by
  obtain ⟨s96, e96, gN, gD, s3, s0, s4, s5⟩ := g96n
  refine V_aload (v := ad 90) mi_231_262 (by simp [stL, lv_args, Value.category]) ?_
  refine V_ldcS mi_231_263 ?_
  refine V_callM (As := [.ref (D.2 1000 22)]) (st := []) mi_231_265 (by omega) (by decide +kernel) (by decide +kernel) h.1 (takF_ct (i := 22) (by omega) h) (by omega) (show 1 = mN 217 by decide +kernel) (by simp [Value.category]) ?_
  rintro r w ⟨rfl, h⟩
  change V l D tys A 231 8 0 0 _ 0 0 _ _ (.int (bI (isSp B n xSays s)) :: []) w
  refine V_beq mi_231_268  (fun b5 => ?_) (fun b5 => ?_)
  · replace h : MSF ad tys n B fr td w0 s w := by
      have e : takeS B n xSays s = s := by
        unfold takeS
        rw [if_neg (by rw [b5]; exact Bool.false_ne_true)]
      rw [← e]
      exact h
    have b6 : isSp B n xFoe s = true := by
      by_cases q : isSp B n xFoe s = true
      · exact q
      · have := bt (Bool.eq_false_iff.mpr q)
        rw [b0, b1, b2, b3, b4, b5] at this
        simp at this
    exact nl_6 b0 b1 b2 b3 b4 b5 b6 h
  · replace n12 := n12 b5
    replace h : MSF ad tys n B fr td w0 (advS B n s) w := by
      have e : takeS B n xSays s = advS B n s := by
        unfold takeS
        rw [if_pos b5]
      rw [← e]
      exact h
    have e : linN B n fr td s = (saT fr B n (advS B n s), saG fr B n (advS B n s), td) := by
      unfold linN
      rw [if_neg (by rw [b0]; exact Bool.false_ne_true), if_neg (by rw [b1]; exact Bool.false_ne_true), if_neg (by rw [b2]; exact Bool.false_ne_true), if_neg (by rw [b3]; exact Bool.false_ne_true), if_neg (by rw [b4]; exact Bool.false_ne_true), if_pos b5, if_neg n12]
    rw [e]
    have c4 := fr_seg h e96 (by omega) s4 (by omega) (by omega)
    refine V_aload (v := ad 90) mi_231_271 (by simp [stL, lv_args, Value.category]) ?_
    refine V_callM (As := []) (st := []) mi_231_272 (by omega) (by decide +kernel) (by decide +kernel) h.1 (sam_ct (by omega) h) (by omega) (show 0 = mN 230 by decide +kernel) (by simp [Value.category]) ?_
    rintro r w ⟨rfl, h⟩
    refine V_goto mi_231_275 ?_
    exact V_retV mi_231_315 ⟨rfl, h⟩
theorem nl_4 {n : Nat} {B fr td : Nat → Int} {s : TS} {w0 : va_W} (b0 : isSp B n xName s = false) (b1 : isSp B n xStam s = false) (b2 : isSp B n xDeaf s = false) (b3 : isSp B n xGoes s = false) (bt : isSp B n xFoe s = false → isSp B n xName s = true ∨ isSp B n xStam s = true ∨ isSp B n xDeaf s = true ∨ isSp B n xGoes s = true ∨ isSp B n xKnow s = true ∨ isSp B n xSays s = true) (n12 : isSp B n xSays s = true → ¬ fr 4 = 12) (h : MSF ad tys n B fr td w0 s ws) : V l D tys A 231 8 0 0 (fun r w => r = none ∧ MSF ad tys n B (linN B n fr td s).2.1 (linN B n fr td s).2.2 w0 (linN B n fr td s).1 w) 0 0 246 (lv_args 0 [.ref (ad 90)]) [] ws := by
  obtain ⟨s96, e96, gN, gD, s3, s0, s4, s5⟩ := g96n
  refine V_aload (v := ad 90) mi_231_246 (by simp [stL, lv_args, Value.category]) ?_
  refine V_ldcS mi_231_247 ?_
  refine V_callM (As := [.ref (D.2 1000 21)]) (st := []) mi_231_249 (by omega) (by decide +kernel) (by decide +kernel) h.1 (takF_ct (i := 21) (by omega) h) (by omega) (show 1 = mN 217 by decide +kernel) (by simp [Value.category]) ?_
  rintro r w ⟨rfl, h⟩
  change V l D tys A 231 8 0 0 _ 0 0 _ _ (.int (bI (isSp B n xKnow s)) :: []) w
  refine V_beq mi_231_252  (fun b4 => ?_) (fun b4 => ?_)
  · replace h : MSF ad tys n B fr td w0 s w := by
      have e : takeS B n xKnow s = s := by
        unfold takeS
        rw [if_neg (by rw [b4]; exact Bool.false_ne_true)]
      rw [← e]
      exact h
    exact nl_5 b0 b1 b2 b3 b4 bt n12 h
  · replace h : MSF ad tys n B fr td w0 (advS B n s) w := by
      have e : takeS B n xKnow s = advS B n s := by
        unfold takeS
        rw [if_pos b4]
      rw [← e]
      exact h
    have e : linN B n fr td s = (knT fr B n (advS B n s), knG fr B n (advS B n s), td) := by
      unfold linN
      rw [if_neg (by rw [b0]; exact Bool.false_ne_true), if_neg (by rw [b1]; exact Bool.false_ne_true), if_neg (by rw [b2]; exact Bool.false_ne_true), if_neg (by rw [b3]; exact Bool.false_ne_true), if_pos b4]
    rw [e]
    refine V_aload (v := ad 90) mi_231_255 (by simp [stL, lv_args, Value.category]) ?_
    refine V_callM (As := []) (st := []) mi_231_256 (by omega) (by decide +kernel) (by decide +kernel) h.1 (knm_ct h) (by omega) (show 0 = mN 229 by decide +kernel) (by simp [Value.category]) ?_
    rintro r w ⟨rfl, h⟩
    refine V_goto mi_231_259 ?_
    exact V_retV mi_231_315 ⟨rfl, h⟩
theorem nl_3 {n : Nat} {B fr td : Nat → Int} {s : TS} {w0 : va_W} (b0 : isSp B n xName s = false) (b1 : isSp B n xStam s = false) (b2 : isSp B n xDeaf s = false) (bt : isSp B n xFoe s = false → isSp B n xName s = true ∨ isSp B n xStam s = true ∨ isSp B n xDeaf s = true ∨ isSp B n xGoes s = true ∨ isSp B n xKnow s = true ∨ isSp B n xSays s = true) (n12 : isSp B n xSays s = true → ¬ fr 4 = 12) (h : MSF ad tys n B fr td w0 s ws) : V l D tys A 231 8 0 0 (fun r w => r = none ∧ MSF ad tys n B (linN B n fr td s).2.1 (linN B n fr td s).2.2 w0 (linN B n fr td s).1 w) 0 0 230 (lv_args 0 [.ref (ad 90)]) [] ws := by
  obtain ⟨s96, e96, gN, gD, s3, s0, s4, s5⟩ := g96n
  refine V_aload (v := ad 90) mi_231_230 (by simp [stL, lv_args, Value.category]) ?_
  refine V_ldcS mi_231_231 ?_
  refine V_callM (As := [.ref (D.2 1000 20)]) (st := []) mi_231_233 (by omega) (by decide +kernel) (by decide +kernel) h.1 (takF_ct (i := 20) (by omega) h) (by omega) (show 1 = mN 217 by decide +kernel) (by simp [Value.category]) ?_
  rintro r w ⟨rfl, h⟩
  change V l D tys A 231 8 0 0 _ 0 0 _ _ (.int (bI (isSp B n xGoes s)) :: []) w
  refine V_beq mi_231_236  (fun b3 => ?_) (fun b3 => ?_)
  · replace h : MSF ad tys n B fr td w0 s w := by
      have e : takeS B n xGoes s = s := by
        unfold takeS
        rw [if_neg (by rw [b3]; exact Bool.false_ne_true)]
      rw [← e]
      exact h
    exact nl_4 b0 b1 b2 b3 bt n12 h
  · replace h : MSF ad tys n B fr td w0 (advS B n s) w := by
      have e : takeS B n xGoes s = advS B n s := by
        unfold takeS
        rw [if_pos b3]
      rw [← e]
      exact h
    have e : linN B n fr td s = (goT fr B n (advS B n s), fr, goD fr td B n (advS B n s)) := by
      unfold linN
      rw [if_neg (by rw [b0]; exact Bool.false_ne_true), if_neg (by rw [b1]; exact Bool.false_ne_true), if_neg (by rw [b2]; exact Bool.false_ne_true), if_pos b3]
    rw [e]
    refine V_aload (v := ad 90) mi_231_239 (by simp [stL, lv_args, Value.category]) ?_
    refine V_callM (As := []) (st := []) mi_231_240 (by omega) (by decide +kernel) (by decide +kernel) h.1 (gom_ct h) (by omega) (show 0 = mN 228 by decide +kernel) (by simp [Value.category]) ?_
    rintro r w ⟨rfl, h⟩
    refine V_goto mi_231_243 ?_
    exact V_retV mi_231_315 ⟨rfl, h⟩
theorem nl_2 {n : Nat} {B fr td : Nat → Int} {s : TS} {w0 : va_W} (b0 : isSp B n xName s = false) (b1 : isSp B n xStam s = false) (bt : isSp B n xFoe s = false → isSp B n xName s = true ∨ isSp B n xStam s = true ∨ isSp B n xDeaf s = true ∨ isSp B n xGoes s = true ∨ isSp B n xKnow s = true ∨ isSp B n xSays s = true) (n12 : isSp B n xSays s = true → ¬ fr 4 = 12) (h : MSF ad tys n B fr td w0 s ws) : V l D tys A 231 8 0 0 (fun r w => r = none ∧ MSF ad tys n B (linN B n fr td s).2.1 (linN B n fr td s).2.2 w0 (linN B n fr td s).1 w) 0 0 188 (lv_args 0 [.ref (ad 90)]) [] ws := by
  obtain ⟨s96, e96, gN, gD, s3, s0, s4, s5⟩ := g96n
  refine V_aload (v := ad 90) mi_231_188 (by simp [stL, lv_args, Value.category]) ?_
  refine V_ldcS mi_231_189 ?_
  refine V_callM (As := [.ref (D.2 1000 19)]) (st := []) mi_231_191 (by omega) (by decide +kernel) (by decide +kernel) h.1 (takF_ct (i := 19) (by omega) h) (by omega) (show 1 = mN 217 by decide +kernel) (by simp [Value.category]) ?_
  rintro r w ⟨rfl, h⟩
  change V l D tys A 231 8 0 0 _ 0 0 _ _ (.int (bI (isSp B n xDeaf s)) :: []) w
  refine V_beq mi_231_194  (fun b2 => ?_) (fun b2 => ?_)
  · replace h : MSF ad tys n B fr td w0 s w := by
      have e : takeS B n xDeaf s = s := by
        unfold takeS
        rw [if_neg (by rw [b2]; exact Bool.false_ne_true)]
      rw [← e]
      exact h
    exact nl_3 b0 b1 b2 bt n12 h
  · replace h : MSF ad tys n B fr td w0 (advS B n s) w := by
      have e : takeS B n xDeaf s = advS B n s := by
        unfold takeS
        rw [if_pos b2]
      rw [← e]
      exact h
    have e : linN B n fr td s = (deT fr B n (advS B n s), deF fr B n (advS B n s), td) := by
      unfold linN
      rw [if_neg (by rw [b0]; exact Bool.false_ne_true), if_neg (by rw [b1]; exact Bool.false_ne_true), if_pos b2]
    rw [e]
    generalize advS B n s = s at h
    refine V_aload (v := ad 90) mi_231_197 (by simp [stL, lv_args, Value.category]) ?_
    refine V_callM (As := []) (st := []) mi_231_198 (by omega) (by decide +kernel) (by decide +kernel) h.1 (folkm_ct h) (by omega) (show 0 = mN 222 by decide +kernel) (by simp [Value.category]) ?_
    rintro r w ⟨rfl, h⟩
    refine V_istore mi_231_201 ?_
    refine V_aload (v := ad 90) mi_231_202 (by simp [stL, lv_args, Value.category]) ?_
    refine V_ipush mi_231_203 ?_
    refine V_ipush mi_231_204 ?_
    refine V_callM (As := [.int (Int32.ofInt (0)), .int (Int32.ofInt (100))]) (st := []) mi_231_206 (by omega) (by decide +kernel) (by decide +kernel) h.1 (numF_ct ⟨by omega, by omega⟩ ⟨by omega, by omega⟩ h) (by omega) (show 2 = mN 219 by decide +kernel) (by simp [Value.category]) ?_
    rintro r w ⟨rfl, h⟩
    have h : MSF ad tys n B fr td w0 (deT fr B n s) w := h
    refine V_istore mi_231_209 ?_
    refine V_aload (v := ad 90) mi_231_210 (by simp [stL, lv_args, Value.category]) ?_
    refine V_callM (As := []) (st := []) mi_231_211 (by omega) (by decide +kernel) (by decide +kernel) h.1 (goodF_ct h) (by omega) (show 0 = mN 214 by decide +kernel) (by simp [Value.category]) ?_
    rintro r w1 ⟨rfl, rfl⟩
    refine V_beq mi_231_214  (fun c => ?_) (fun c => ?_)
    · have g2 : ¬ (deT fr B n s).2.1 = 0 := of_decide_eq_false c
      refine V_goto mi_231_227 ?_
      have e : deF fr B n s = fr := by
        unfold deF
        rw [if_neg g2]
      rw [e]
      exact V_retV mi_231_315 ⟨rfl, h⟩
    · have g2 : (deT fr B n s).2.1 = 0 := of_decide_eq_true c
      obtain ⟨k5, -, k6, k7, -⟩ := num_ok (B := B) (n := n) (s := folkT B n fr s) g2
      obtain ⟨-, -, k8, k9, -⟩ := num_ok (B := B) (n := n) (s := s) k5
      have k9 : folkR fr s = s.1.2.2.2 := k9
      have c3 := fr_seg h e96 (by omega) s3 (by omega) (by omega)
      have i6 : (folkR fr s).toNat < 6 := by omega
      refine V_aload (v := ad 90) mi_231_217 (by simp [stL, lv_args, Value.category]) ?_
      refine V_getI mi_231_218 h.1 (rref gr14 (by omega) h.1) ?_
      refine V_ipush mi_231_221 ?_
      refine V_iload (v := Int32.ofInt (folkR fr s)) mi_231_223 (by simp [stL, lv_args, Value.category]) ?_
      refine V_ibin mi_231_224 (by omega) ?_
      rw [ib0]
      refine V_iload (v := Int32.ofInt (numR 0 100 (folkT B n fr s))) mi_231_225 (by simp [stL, lv_args, Value.category]) ?_
      refine V_fst (z := numR 0 100 (folkT B n fr s)) h e96 (j := 54 + (folkR fr s).toNat) (by omega) (by rw [show (54) + (folkR fr s) = ((54 + (folkR fr s).toNat : Nat) : Int) by omega]) mi_231_226 (gD _ i6).2.1 (by omega) (by omega) (by omega) (by omega) (fun w h => ?_)
      refine V_goto mi_231_227 ?_
      have e : deF fr B n s = updI fr (54 + (folkR fr s).toNat) (numR 0 100 (folkT B n fr s)) := by
        unfold deF
        rw [if_pos g2]
      rw [e]
      exact V_retV mi_231_315 ⟨rfl, h⟩
theorem nl_1 {n : Nat} {B fr td : Nat → Int} {s : TS} {w0 : va_W} (b0 : isSp B n xName s = false) (bt : isSp B n xFoe s = false → isSp B n xName s = true ∨ isSp B n xStam s = true ∨ isSp B n xDeaf s = true ∨ isSp B n xGoes s = true ∨ isSp B n xKnow s = true ∨ isSp B n xSays s = true) (n12 : isSp B n xSays s = true → ¬ fr 4 = 12) (h : MSF ad tys n B fr td w0 s ws) : V l D tys A 231 8 0 0 (fun r w => r = none ∧ MSF ad tys n B (linN B n fr td s).2.1 (linN B n fr td s).2.2 w0 (linN B n fr td s).1 w) 0 0 147 (lv_args 0 [.ref (ad 90)]) [] ws := by
  obtain ⟨s96, e96, gN, gD, s3, s0, s4, s5⟩ := g96n
  refine V_aload (v := ad 90) mi_231_147 (by simp [stL, lv_args, Value.category]) ?_
  refine V_ldcS mi_231_148 ?_
  refine V_callM (As := [.ref (D.2 1000 18)]) (st := []) mi_231_150 (by omega) (by decide +kernel) (by decide +kernel) h.1 (takF_ct (i := 18) (by omega) h) (by omega) (show 1 = mN 217 by decide +kernel) (by simp [Value.category]) ?_
  rintro r w ⟨rfl, h⟩
  change V l D tys A 231 8 0 0 _ 0 0 _ _ (.int (bI (isSp B n xStam s)) :: []) w
  refine V_beq mi_231_153  (fun b1 => ?_) (fun b1 => ?_)
  · replace h : MSF ad tys n B fr td w0 s w := by
      have e : takeS B n xStam s = s := by
        unfold takeS
        rw [if_neg (by rw [b1]; exact Bool.false_ne_true)]
      rw [← e]
      exact h
    exact nl_2 b0 b1 bt n12 h
  · replace h : MSF ad tys n B fr td w0 (advS B n s) w := by
      have e : takeS B n xStam s = advS B n s := by
        unfold takeS
        rw [if_pos b1]
      rw [← e]
      exact h
    have e : linN B n fr td s = (stT fr B n (advS B n s), stF fr B n (advS B n s), td) := by
      unfold linN
      rw [if_neg (by rw [b0]; exact Bool.false_ne_true), if_pos b1]
    rw [e]
    generalize advS B n s = s at h
    refine V_aload (v := ad 90) mi_231_156 (by simp [stL, lv_args, Value.category]) ?_
    refine V_callM (As := []) (st := []) mi_231_157 (by omega) (by decide +kernel) (by decide +kernel) h.1 (folkm_ct h) (by omega) (show 0 = mN 222 by decide +kernel) (by simp [Value.category]) ?_
    rintro r w ⟨rfl, h⟩
    refine V_istore mi_231_160 ?_
    refine V_aload (v := ad 90) mi_231_161 (by simp [stL, lv_args, Value.category]) ?_
    refine V_ipush mi_231_162 ?_
    refine V_ipush mi_231_163 ?_
    refine V_callM (As := [.int (Int32.ofInt (1)), .int (Int32.ofInt (4))]) (st := []) mi_231_164 (by omega) (by decide +kernel) (by decide +kernel) h.1 (numF_ct ⟨by omega, by omega⟩ ⟨by omega, by omega⟩ h) (by omega) (show 2 = mN 219 by decide +kernel) (by simp [Value.category]) ?_
    rintro r w ⟨rfl, h⟩
    have h : MSF ad tys n B fr td w0 (stT fr B n s) w := h
    refine V_istore mi_231_167 ?_
    refine V_aload (v := ad 90) mi_231_168 (by simp [stL, lv_args, Value.category]) ?_
    refine V_callM (As := []) (st := []) mi_231_169 (by omega) (by decide +kernel) (by decide +kernel) h.1 (goodF_ct h) (by omega) (show 0 = mN 214 by decide +kernel) (by simp [Value.category]) ?_
    rintro r w1 ⟨rfl, rfl⟩
    refine V_beq mi_231_172  (fun c => ?_) (fun c => ?_)
    · have g2 : ¬ (stT fr B n s).2.1 = 0 := of_decide_eq_false c
      refine V_goto mi_231_185 ?_
      have e : stF fr B n s = fr := by
        unfold stF
        rw [if_neg g2]
      rw [e]
      exact V_retV mi_231_315 ⟨rfl, h⟩
    · have g2 : (stT fr B n s).2.1 = 0 := of_decide_eq_true c
      obtain ⟨k5, -, k6, k7, -⟩ := num_ok (B := B) (n := n) (s := folkT B n fr s) g2
      obtain ⟨-, -, k8, k9, -⟩ := num_ok (B := B) (n := n) (s := s) k5
      have k9 : folkR fr s = s.1.2.2.2 := k9
      have c3 := fr_seg h e96 (by omega) s3 (by omega) (by omega)
      have i6 : (folkR fr s).toNat < 6 := by omega
      refine V_aload (v := ad 90) mi_231_175 (by simp [stL, lv_args, Value.category]) ?_
      refine V_getI mi_231_176 h.1 (rref gr14 (by omega) h.1) ?_
      refine V_ipush mi_231_179 ?_
      refine V_iload (v := Int32.ofInt (folkR fr s)) mi_231_181 (by simp [stL, lv_args, Value.category]) ?_
      refine V_ibin mi_231_182 (by omega) ?_
      rw [ib0]
      refine V_iload (v := Int32.ofInt (numR 1 4 (folkT B n fr s))) mi_231_183 (by simp [stL, lv_args, Value.category]) ?_
      refine V_fst (z := numR 1 4 (folkT B n fr s)) h e96 (j := 48 + (folkR fr s).toNat) (by omega) (by rw [show (48) + (folkR fr s) = ((48 + (folkR fr s).toNat : Nat) : Int) by omega]) mi_231_184 (gD _ i6).1 (by omega) (by omega) (by omega) (by omega) (fun w h => ?_)
      refine V_goto mi_231_185 ?_
      have e : stF fr B n s = updI fr (48 + (folkR fr s).toNat) (numR 1 4 (folkT B n fr s)) := by
        unfold stF
        rw [if_pos g2]
      rw [e]
      exact V_retV mi_231_315 ⟨rfl, h⟩
theorem nl_0 {n : Nat} {B fr td : Nat → Int} {s : TS} {w0 : va_W}  (bt : isSp B n xFoe s = false → isSp B n xName s = true ∨ isSp B n xStam s = true ∨ isSp B n xDeaf s = true ∨ isSp B n xGoes s = true ∨ isSp B n xKnow s = true ∨ isSp B n xSays s = true) (n6 : isSp B n xName s = true → ¬ fr 3 = 6) (n12 : isSp B n xSays s = true → ¬ fr 4 = 12) (h : MSF ad tys n B fr td w0 s ws) : V l D tys A 231 8 0 0 (fun r w => r = none ∧ MSF ad tys n B (linN B n fr td s).2.1 (linN B n fr td s).2.2 w0 (linN B n fr td s).1 w) 0 0 131 (lv_args 0 [.ref (ad 90)]) [] ws := by
  obtain ⟨s96, e96, gN, gD, s3, s0, s4, s5⟩ := g96n
  refine V_aload (v := ad 90) mi_231_131 (by simp [stL, lv_args, Value.category]) ?_
  refine V_ldcS mi_231_132 ?_
  refine V_callM (As := [.ref (D.2 1000 17)]) (st := []) mi_231_134 (by omega) (by decide +kernel) (by decide +kernel) h.1 (takF_ct (i := 17) (by omega) h) (by omega) (show 1 = mN 217 by decide +kernel) (by simp [Value.category]) ?_
  rintro r w ⟨rfl, h⟩
  change V l D tys A 231 8 0 0 _ 0 0 _ _ (.int (bI (isSp B n xName s)) :: []) w
  refine V_beq mi_231_137  (fun b0 => ?_) (fun b0 => ?_)
  · replace h : MSF ad tys n B fr td w0 s w := by
      have e : takeS B n xName s = s := by
        unfold takeS
        rw [if_neg (by rw [b0]; exact Bool.false_ne_true)]
      rw [← e]
      exact h
    exact nl_1 b0 bt n12 h
  · replace n6 := n6 b0
    replace h : MSF ad tys n B fr td w0 (advS B n s) w := by
      have e : takeS B n xName s = advS B n s := by
        unfold takeS
        rw [if_pos b0]
      rw [← e]
      exact h
    have e : linN B n fr td s = ((namW B n (fr 0) (fr 3).toNat 7 0 (advS B n s) fr).1, namZ (fr 3).toNat (namW B n (fr 0) (fr 3).toNat 7 0 (advS B n s) fr), td) := by
      unfold linN
      rw [if_pos b0, if_neg n6]
    rw [e]
    have c3 := fr_seg h e96 (by omega) s3 (by omega) (by omega)
    refine V_aload (v := ad 90) mi_231_140 (by simp [stL, lv_args, Value.category]) ?_
    refine V_callM (As := []) (st := []) mi_231_141 (by omega) (by decide +kernel) (by decide +kernel) h.1 (namm_ct (F := (fr 3).toNat) (by omega) (by rw [Int.toNat_of_nonneg (by omega)]) h) (by omega) (show 0 = mN 226 by decide +kernel) (by simp [Value.category]) ?_
    rintro r w ⟨rfl, h⟩
    refine V_goto mi_231_144 ?_
    exact V_retV mi_231_315 ⟨rfl, h⟩
theorem nx_bad {n : Nat} {B fr td : Nat → Int} {t : TS} {w0 : va_W} {kn : Bool} (g : ¬ t.2.1 = 0) (h : MSF ad tys n B fr td w0 t ws) : V l D tys A 231 8 0 0 (fun r w => r = none ∧ MSF ad tys n B fr td w0 t w) 0 0 123 (stL 1 (.int (bI kn)) (lv_args 0 [.ref (ad 90)])) [] ws := by
  refine V_aload (v := ad 90) mi_231_123 (by simp [stL, lv_args, Value.category]) ?_
  refine V_callM (As := []) (st := []) mi_231_124 (by omega) (by decide +kernel) (by decide +kernel) h.1 (goodF_ct h) (by omega) (show 0 = mN 214 by decide +kernel) (by simp [Value.category]) ?_
  rintro r w1 ⟨rfl, rfl⟩
  rw [decide_eq_false g]
  refine V_bne mi_231_127 (fun c => absurd c Bool.false_ne_true) (fun _ => ?_)
  exact V_retV mi_231_130 ⟨rfl, h⟩
theorem nx_118 {n : Nat} {B fr td : Nat → Int} {s : TS} {w0 : va_W} {kn : Bool} (e : linN B n fr td s = (errS 3 s, fr, td)) (h : MSF ad tys n B fr td w0 s ws) : V l D tys A 231 8 0 0 (fun r w => r = none ∧ MSF ad tys n B (linN B n fr td s).2.1 (linN B n fr td s).2.2 w0 (linN B n fr td s).1 w) 0 0 118 (stL 1 (.int (bI kn)) (lv_args 0 [.ref (ad 90)])) [] ws := by
  refine V_aload (v := ad 90) mi_231_118 (by simp [stL, lv_args, Value.category]) ?_
  refine V_ipush mi_231_119 ?_
  refine V_callM (As := [.int (Int32.ofInt (3))]) (st := []) mi_231_120 (by omega) (by decide +kernel) (by decide +kernel) h.1 (errF_ct h (by omega) (by omega)) (by omega) (show 1 = mN 215 by decide +kernel) (by simp [Value.category]) ?_
  rintro r w ⟨rfl, h⟩
  rw [e]
  exact nx_bad (err_ok (by decide)) h
theorem nx_123 {n : Nat} {B fr td : Nat → Int} {s : TS} {w0 : va_W} {kn : Bool} (g : s.2.1 = 0) (bt : isSp B n xFoe s = false → isSp B n xName s = true ∨ isSp B n xStam s = true ∨ isSp B n xDeaf s = true ∨ isSp B n xGoes s = true ∨ isSp B n xKnow s = true ∨ isSp B n xSays s = true) (n6 : isSp B n xName s = true → ¬ fr 3 = 6) (n12 : isSp B n xSays s = true → ¬ fr 4 = 12) (h : MSF ad tys n B fr td w0 s ws) : V l D tys A 231 8 0 0 (fun r w => r = none ∧ MSF ad tys n B (linN B n fr td s).2.1 (linN B n fr td s).2.2 w0 (linN B n fr td s).1 w) 0 0 123 (stL 1 (.int (bI kn)) (lv_args 0 [.ref (ad 90)])) [] ws := by
  refine V_aload (v := ad 90) mi_231_123 (by simp [stL, lv_args, Value.category]) ?_
  refine V_callM (As := []) (st := []) mi_231_124 (by omega) (by decide +kernel) (by decide +kernel) h.1 (goodF_ct h) (by omega) (show 0 = mN 214 by decide +kernel) (by simp [Value.category]) ?_
  rintro r w1 ⟨rfl, rfl⟩
  rw [decide_eq_true g]
  refine V_bne mi_231_127 (fun _ => ?_) (fun c => absurd c.symm Bool.false_ne_true)
  refine V_sub (lv' := lv_args 0 [.ref (ad 90)]) (fun q hq => ?_) (nl_0 bt n6 n12 h)
  simp only [lv_args, List.mem_cons, List.not_mem_nil, or_false] at hq
  subst hq
  simp [stL, lv_args, Value.category]
theorem nx_98 {n : Nat} {B fr td : Nat → Int} {s : TS} {w0 : va_W} {kn : Bool} (g : s.2.1 = 0) (bt : isSp B n xFoe s = false → isSp B n xName s = true ∨ isSp B n xStam s = true ∨ isSp B n xDeaf s = true ∨ isSp B n xGoes s = true ∨ isSp B n xKnow s = true ∨ isSp B n xSays s = true) (n6 : isSp B n xName s = true → ¬ fr 3 = 6) (h : MSF ad tys n B fr td w0 s ws) : V l D tys A 231 8 0 0 (fun r w => r = none ∧ MSF ad tys n B (linN B n fr td s).2.1 (linN B n fr td s).2.2 w0 (linN B n fr td s).1 w) 0 0 98 (stL 1 (.int (bI kn)) (lv_args 0 [.ref (ad 90)])) [] ws := by
  obtain ⟨s96, e96, gN, gD, s3, s0, s4, s5⟩ := g96n
  have c4 := fr_seg h e96 (by omega) s4 (by omega) (by omega)
  refine V_aload (v := ad 90) mi_231_98 (by simp [stL, lv_args, Value.category]) ?_
  refine V_ldcS mi_231_99 ?_
  refine V_callM (As := [.ref (D.2 1000 22)]) (st := []) mi_231_101 (by omega) (by decide +kernel) (by decide +kernel) h.1 (ismF_ct (i := 22) (by omega) h) (by omega) (show 1 = mN 216 by decide +kernel) (by simp [Value.category]) ?_
  rintro r w1 ⟨rfl, rfl⟩
  change V l D tys A 231 8 0 0 _ 0 0 _ _ (.int (bI (isSp B n xSays s)) :: []) w1
  refine V_beq mi_231_104  (fun c => ?_) (fun c => ?_)
  · exact nx_123 g bt n6 (fun q => absurd (c.symm.trans q) Bool.false_ne_true) h
  · refine V_aload (v := ad 90) mi_231_107 (by simp [stL, lv_args, Value.category]) ?_
    refine V_getI mi_231_108 h.1 (rref gr14 (by omega) h.1) ?_
    refine V_ipush mi_231_111 ?_
    refine V_fresh (a := 0) (x := 0) h (j := 4) (by omega) rfl mi_231_112 ?_
    refine V_ipush mi_231_113 ?_
    refine V_cne mi_231_115 ⟨by have := c4; omega, by have := c4; omega⟩ ⟨by omega, by omega⟩ (fun q => ?_) (fun q => ?_)
    · exact nx_123 g bt n6 (fun _ => q) h
    · have nn : ∀ ds : List Int32, ds ≠ xSays → isSp B n ds s = false := fun ds hd => Bool.eq_false_iff.mpr (fun e => hd (sp_uniq e c))
      obtain ⟨d0, d1, d2, d3, d4, d6⟩ := says_not
      have b0 := nn _ d0
      have b1 := nn _ d1
      have b2 := nn _ d2
      have b3 := nn _ d3
      have b4 := nn _ d4
      have b5 := c
      refine nx_118 ?_ h
      unfold linN
      rw [if_neg (by rw [b0]; exact Bool.false_ne_true), if_neg (by rw [b1]; exact Bool.false_ne_true), if_neg (by rw [b2]; exact Bool.false_ne_true), if_neg (by rw [b3]; exact Bool.false_ne_true), if_neg (by rw [b4]; exact Bool.false_ne_true), if_pos b5, if_pos q]
theorem nx_78 {n : Nat} {B fr td : Nat → Int} {s : TS} {w0 : va_W} {kn : Bool} (g : s.2.1 = 0) (bt : isSp B n xFoe s = false → isSp B n xName s = true ∨ isSp B n xStam s = true ∨ isSp B n xDeaf s = true ∨ isSp B n xGoes s = true ∨ isSp B n xKnow s = true ∨ isSp B n xSays s = true) (h : MSF ad tys n B fr td w0 s ws) : V l D tys A 231 8 0 0 (fun r w => r = none ∧ MSF ad tys n B (linN B n fr td s).2.1 (linN B n fr td s).2.2 w0 (linN B n fr td s).1 w) 0 0 78 (stL 1 (.int (bI kn)) (lv_args 0 [.ref (ad 90)])) [] ws := by
  obtain ⟨s96, e96, gN, gD, s3, s0, s4, s5⟩ := g96n
  have c3 := fr_seg h e96 (by omega) s3 (by omega) (by omega)
  refine V_aload (v := ad 90) mi_231_78 (by simp [stL, lv_args, Value.category]) ?_
  refine V_ldcS mi_231_79 ?_
  refine V_callM (As := [.ref (D.2 1000 17)]) (st := []) mi_231_81 (by omega) (by decide +kernel) (by decide +kernel) h.1 (ismF_ct (i := 17) (by omega) h) (by omega) (show 1 = mN 216 by decide +kernel) (by simp [Value.category]) ?_
  rintro r w1 ⟨rfl, rfl⟩
  change V l D tys A 231 8 0 0 _ 0 0 _ _ (.int (bI (isSp B n xName s)) :: []) w1
  refine V_beq mi_231_84  (fun c => ?_) (fun c => ?_)
  · exact nx_98 g bt (fun q => absurd (c.symm.trans q) Bool.false_ne_true) h
  · refine V_aload (v := ad 90) mi_231_87 (by simp [stL, lv_args, Value.category]) ?_
    refine V_getI mi_231_88 h.1 (rref gr14 (by omega) h.1) ?_
    refine V_ipush mi_231_91 ?_
    refine V_fresh (a := 0) (x := 0) h (j := 3) (by omega) rfl mi_231_92 ?_
    refine V_ipush mi_231_93 ?_
    refine V_ceq mi_231_95 ⟨by have := c3; omega, by have := c3; omega⟩ ⟨by omega, by omega⟩ (fun q => ?_) (fun q => ?_)
    · have b0 := c
      refine nx_118 ?_ h
      unfold linN
      rw [if_pos b0, if_pos q]
    · exact nx_98 g bt (fun _ => q) h
theorem nx_78b {n : Nat} {B fr td : Nat → Int} {t : TS} {w0 : va_W} {kn : Bool} (g : ¬ t.2.1 = 0) (h : MSF ad tys n B fr td w0 t ws) : V l D tys A 231 8 0 0 (fun r w => r = none ∧ MSF ad tys n B fr td w0 t w) 0 0 78 (stL 1 (.int (bI kn)) (lv_args 0 [.ref (ad 90)])) [] ws := by
  refine V_aload (v := ad 90) mi_231_78 (by simp [stL, lv_args, Value.category]) ?_
  refine V_ldcS mi_231_79 ?_
  refine V_callM (As := [.ref (D.2 1000 17)]) (st := []) mi_231_81 (by omega) (by decide +kernel) (by decide +kernel) h.1 (ismF_ct (i := 17) (by omega) h) (by omega) (show 1 = mN 216 by decide +kernel) (by simp [Value.category]) ?_
  rintro r w1 ⟨rfl, rfl⟩
  rw [sp_bad g]
  refine V_beq mi_231_84 (fun _ => ?_) (fun c => absurd c Bool.false_ne_true)
  refine V_aload (v := ad 90) mi_231_98 (by simp [stL, lv_args, Value.category]) ?_
  refine V_ldcS mi_231_99 ?_
  refine V_callM (As := [.ref (D.2 1000 22)]) (st := []) mi_231_101 (by omega) (by decide +kernel) (by decide +kernel) h.1 (ismF_ct (i := 22) (by omega) h) (by omega) (show 1 = mN 216 by decide +kernel) (by simp [Value.category]) ?_
  rintro r w2 ⟨rfl, rfl⟩
  rw [sp_bad g]
  refine V_beq mi_231_104 (fun _ => ?_) (fun c => absurd c Bool.false_ne_true)
  exact nx_bad g h
theorem nx_68 {n : Nat} {B fr td : Nat → Int} {s : TS} {w0 : va_W} {kn : Bool} (g : s.2.1 = 0) (bt : kn = true → isSp B n xFoe s = false → isSp B n xName s = true ∨ isSp B n xStam s = true ∨ isSp B n xDeaf s = true ∨ isSp B n xGoes s = true ∨ isSp B n xKnow s = true ∨ isSp B n xSays s = true) (un : kn = false → linN B n fr td s = (errS 1 s, fr, td)) (h : MSF ad tys n B fr td w0 s ws) : V l D tys A 231 8 0 0 (fun r w => r = none ∧ MSF ad tys n B (linN B n fr td s).2.1 (linN B n fr td s).2.2 w0 (linN B n fr td s).1 w) 0 0 68 (lv_args 0 [.ref (ad 90)]) [.int (bI kn)] ws := by
  refine V_istore mi_231_68 ?_
  refine V_iload (v := bI kn) mi_231_69 (by simp [stL, lv_args, Value.category]) ?_
  refine V_bne mi_231_70  (fun c => ?_) (fun c => ?_)
  · exact nx_78 g (bt c) h
  · refine V_aload (v := ad 90) mi_231_73 (by simp [stL, lv_args, Value.category]) ?_
    refine V_ipush mi_231_74 ?_
    refine V_callM (As := [.int (Int32.ofInt (1))]) (st := []) mi_231_75 (by omega) (by decide +kernel) (by decide +kernel) h.1 (errF_ct h (by omega) (by omega)) (by omega) (show 1 = mN 215 by decide +kernel) (by simp [Value.category]) ?_
    rintro r w ⟨rfl, h⟩
    have e : linN B n fr td s = (errS 1 s, fr, td) := un c
    rw [e]
    exact nx_78b (err_ok (by decide)) h
theorem nxm_ct {n : Nat} {B fr td : Nat → Int} {s : TS} {w0 : va_W} (g : s.2.1 = 0) (h : MSF ad tys n B fr td w0 s ws) : CT l D tys A 231 8 0 0 [.ref (ad 90)] ws (fun r w => r = none ∧ MSF ad tys n B (linN B n fr td s).2.1 (linN B n fr td s).2.2 w0 (linN B n fr td s).1 w) := by
  refine CT_of_V (by omega) (show (1 : Nat) ≤ mML 231 by decide +kernel) ?_
  have t63 : (isSp B n xFoe s = false → isSp B n xName s = true ∨ isSp B n xStam s = true ∨ isSp B n xDeaf s = true ∨ isSp B n xGoes s = true ∨ isSp B n xKnow s = true ∨ isSp B n xSays s = true) → V l D tys A 231 8 0 0 (fun r w => r = none ∧ MSF ad tys n B (linN B n fr td s).2.1 (linN B n fr td s).2.2 w0 (linN B n fr td s).1 w) 0 0 63 (lv_args 0 [.ref (ad 90)]) [] ws := fun bt => by
    refine V_ipush mi_231_63 ?_
    refine V_goto mi_231_64 ?_
    exact nx_68 (kn := true) g (fun _ => bt) (fun c => absurd c.symm Bool.false_ne_true) h
  refine V_aload (v := ad 90) mi_231_0 (by simp [stL, lv_args, Value.category]) ?_
  refine V_ldcS mi_231_1 ?_
  refine V_callM (As := [.ref (D.2 1000 17)]) (st := []) mi_231_3 (by omega) (by decide +kernel) (by decide +kernel) h.1 (ismF_ct (i := 17) (by omega) h) (by omega) (show 1 = mN 216 by decide +kernel) (by simp [Value.category]) ?_
  rintro r w1 ⟨e, rfl⟩
  subst e
  change V l D tys A 231 8 0 0 _ 0 0 _ _ (.int (bI (isSp B n xName s)) :: []) _
  refine V_bne mi_231_6  (fun c0 => ?_) (fun c0 => ?_)
  · exact t63 (fun _ => Or.inl c0)
  · refine V_aload (v := ad 90) mi_231_9 (by simp [stL, lv_args, Value.category]) ?_
    refine V_ldcS mi_231_10 ?_
    refine V_callM (As := [.ref (D.2 1000 18)]) (st := []) mi_231_12 (by omega) (by decide +kernel) (by decide +kernel) h.1 (ismF_ct (i := 18) (by omega) h) (by omega) (show 1 = mN 216 by decide +kernel) (by simp [Value.category]) ?_
    rintro r w1 ⟨e, rfl⟩
    subst e
    change V l D tys A 231 8 0 0 _ 0 0 _ _ (.int (bI (isSp B n xStam s)) :: []) _
    refine V_bne mi_231_15  (fun c1 => ?_) (fun c1 => ?_)
    · exact t63 (fun _ => Or.inr (Or.inl c1))
    · refine V_aload (v := ad 90) mi_231_18 (by simp [stL, lv_args, Value.category]) ?_
      refine V_ldcS mi_231_19 ?_
      refine V_callM (As := [.ref (D.2 1000 19)]) (st := []) mi_231_21 (by omega) (by decide +kernel) (by decide +kernel) h.1 (ismF_ct (i := 19) (by omega) h) (by omega) (show 1 = mN 216 by decide +kernel) (by simp [Value.category]) ?_
      rintro r w1 ⟨e, rfl⟩
      subst e
      change V l D tys A 231 8 0 0 _ 0 0 _ _ (.int (bI (isSp B n xDeaf s)) :: []) _
      refine V_bne mi_231_24  (fun c2 => ?_) (fun c2 => ?_)
      · exact t63 (fun _ => Or.inr (Or.inr (Or.inl c2)))
      · refine V_aload (v := ad 90) mi_231_27 (by simp [stL, lv_args, Value.category]) ?_
        refine V_ldcS mi_231_28 ?_
        refine V_callM (As := [.ref (D.2 1000 20)]) (st := []) mi_231_30 (by omega) (by decide +kernel) (by decide +kernel) h.1 (ismF_ct (i := 20) (by omega) h) (by omega) (show 1 = mN 216 by decide +kernel) (by simp [Value.category]) ?_
        rintro r w1 ⟨e, rfl⟩
        subst e
        change V l D tys A 231 8 0 0 _ 0 0 _ _ (.int (bI (isSp B n xGoes s)) :: []) _
        refine V_bne mi_231_33  (fun c3 => ?_) (fun c3 => ?_)
        · exact t63 (fun _ => Or.inr (Or.inr (Or.inr (Or.inl c3))))
        · refine V_aload (v := ad 90) mi_231_36 (by simp [stL, lv_args, Value.category]) ?_
          refine V_ldcS mi_231_37 ?_
          refine V_callM (As := [.ref (D.2 1000 21)]) (st := []) mi_231_39 (by omega) (by decide +kernel) (by decide +kernel) h.1 (ismF_ct (i := 21) (by omega) h) (by omega) (show 1 = mN 216 by decide +kernel) (by simp [Value.category]) ?_
          rintro r w1 ⟨e, rfl⟩
          subst e
          change V l D tys A 231 8 0 0 _ 0 0 _ _ (.int (bI (isSp B n xKnow s)) :: []) _
          refine V_bne mi_231_42  (fun c4 => ?_) (fun c4 => ?_)
          · exact t63 (fun _ => Or.inr (Or.inr (Or.inr (Or.inr (Or.inl c4)))))
          · refine V_aload (v := ad 90) mi_231_45 (by simp [stL, lv_args, Value.category]) ?_
            refine V_ldcS mi_231_46 ?_
            refine V_callM (As := [.ref (D.2 1000 22)]) (st := []) mi_231_48 (by omega) (by decide +kernel) (by decide +kernel) h.1 (ismF_ct (i := 22) (by omega) h) (by omega) (show 1 = mN 216 by decide +kernel) (by simp [Value.category]) ?_
            rintro r w1 ⟨e, rfl⟩
            subst e
            change V l D tys A 231 8 0 0 _ 0 0 _ _ (.int (bI (isSp B n xSays s)) :: []) _
            refine V_bne mi_231_51  (fun c5 => ?_) (fun c5 => ?_)
            · exact t63 (fun _ => Or.inr (Or.inr (Or.inr (Or.inr (Or.inr (c5))))))
            · refine V_aload (v := ad 90) mi_231_54 (by simp [stL, lv_args, Value.category]) ?_
              refine V_ldcS mi_231_55 ?_
              refine V_callM (As := [.ref (D.2 1000 23)]) (st := []) mi_231_57 (by omega) (by decide +kernel) (by decide +kernel) h.1 (ismF_ct (i := 23) (by omega) h) (by omega) (show 1 = mN 216 by decide +kernel) (by simp [Value.category]) ?_
              rintro r w1 ⟨e, rfl⟩
              subst e
              change V l D tys A 231 8 0 0 _ 0 0 _ _ (.int (bI (isSp B n xFoe s)) :: []) _
              refine V_beq mi_231_60  (fun c6 => ?_) (fun c6 => ?_)
              · refine V_ipush mi_231_67 ?_
                refine nx_68 (kn := false) g (fun c => absurd c Bool.false_ne_true) (fun _ => ?_) h
                unfold linN
                rw [if_neg (by rw [c0]; exact Bool.false_ne_true), if_neg (by rw [c1]; exact Bool.false_ne_true), if_neg (by rw [c2]; exact Bool.false_ne_true), if_neg (by rw [c3]; exact Bool.false_ne_true), if_neg (by rw [c4]; exact Bool.false_ne_true), if_neg (by rw [c5]; exact Bool.false_ne_true), if_neg (by rw [c6]; exact Bool.false_ne_true)]
              · exact t63 (fun e => absurd (e.symm.trans c6) Bool.false_ne_true)
end XMO
