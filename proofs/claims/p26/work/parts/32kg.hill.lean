section
section XRM
variable {l : Launch} {D : va_G} {tys : List (ClassId × FieldType)} {A : Nat → Prop} {ad : Nat → Nat} {ws : va_W}
theorem de_hx {F : Nat} (hF : F < 6) : (54 + F < 294 ∧ ¬ (102 ≤ 54 + F ∧ 54 + F < 246)) ∧ 20 = 16 + hxC (54 + F) ∧ F = hxI (54 + F) := by
  have e1 : hxC (54 + F) = 4 := by
    unfold hxC
    rw [if_neg (by omega), if_neg (by omega), if_neg (by omega), if_pos (by omega)]
  have e2 : hxI (54 + F) = F := by
    unfold hxI
    rw [if_neg (by omega), if_neg (by omega), if_neg (by omega), if_pos (by omega)]
    omega
  exact ⟨⟨by omega, by omega⟩, by omega, by omega⟩
theorem fo_hx {F : Nat} (hF : F < 6) : (60 + F < 294 ∧ ¬ (102 ≤ 60 + F ∧ 60 + F < 246)) ∧ 21 = 16 + hxC (60 + F) ∧ F = hxI (60 + F) := by
  have e1 : hxC (60 + F) = 5 := by
    unfold hxC
    rw [if_neg (by omega), if_neg (by omega), if_neg (by omega), if_neg (by omega), if_pos (by omega)]
  have e2 : hxI (60 + F) = F := by
    unfold hxI
    rw [if_neg (by omega), if_neg (by omega), if_neg (by omega), if_neg (by omega), if_pos (by omega)]
    omega
  exact ⟨⟨by omega, by omega⟩, by omega, by omega⟩
theorem rl_7 {n : Nat} {B fr td : Nat → Int} {s : TS} {w0 : va_W} (g : s.2.1 = 0) (b0 : isSp B n xName s = false) (b1 : isSp B n xStam s = false) (b2 : isSp B n xDeaf s = false) (b3 : isSp B n xGoes s = false) (b4 : isSp B n xKnow s = false) (b5 : isSp B n xSays s = false) (b6 : isSp B n xFoe s = false) (h : XA ad tys n B s ws) (q : XR fr td w0 s ws) : V l D tys A 134 7 0 0 (fun r w => r = none ∧ XA ad tys n B (linN B n fr td s).1 w ∧ XR (linN B n fr td s).2.1 (linN B n fr td s).2.2 w0 (linN B n fr td s).1 w) 0 0 240 (lv_args 0 [.ref (ad 1), .ref (ad 16)]) [] ws := by
  have e : linN B n fr td s = (errS 1 s, fr, td) := by
    unfold linN
    rw [if_neg (by rw [b0]; exact Bool.false_ne_true), if_neg (by rw [b1]; exact Bool.false_ne_true), if_neg (by rw [b2]; exact Bool.false_ne_true), if_neg (by rw [b3]; exact Bool.false_ne_true), if_neg (by rw [b4]; exact Bool.false_ne_true), if_neg (by rw [b5]; exact Bool.false_ne_true), if_neg (by rw [b6]; exact Bool.false_ne_true)]
  rw [e]
  refine V_aload (v := ad 1) mi_134_240 (by simp [stL, lv_args, Value.category]) ?_
  refine V_ipush mi_134_241 ?_
  refine V_cO (As := [.int (Int32.ofInt (1))]) (st := []) mi_134_242 (by omega) (by decide +kernel) (by decide +kernel) (by omega) g1o h.1 (failx_ct h XMK_rf (by omega) (by omega)) (by omega) (show 1 = mN 146 by decide +kernel) (by simp [Value.category]) ?_
  rintro r w ⟨rfl, h, O⟩
  exact V_retV mi_134_245 ⟨rfl, h, XR_bad (XR_of (s2 := s) q O (fun g => g)) (err_ok (by decide))⟩
theorem rl_6 {n : Nat} {B fr td : Nat → Int} {s : TS} {w0 : va_W} (g : s.2.1 = 0) (b0 : isSp B n xName s = false) (b1 : isSp B n xStam s = false) (b2 : isSp B n xDeaf s = false) (b3 : isSp B n xGoes s = false) (b4 : isSp B n xKnow s = false) (b5 : isSp B n xSays s = false) (h : XA ad tys n B s ws) (q : XR fr td w0 s ws) : V l D tys A 134 7 0 0 (fun r w => r = none ∧ XA ad tys n B (linN B n fr td s).1 w ∧ XR (linN B n fr td s).2.1 (linN B n fr td s).2.2 w0 (linN B n fr td s).1 w) 0 0 180 (lv_args 0 [.ref (ad 1), .ref (ad 16)]) [] ws := by
  obtain ⟨xe0, xe1, xe2, xe3, xe4, xe5, xe6, -⟩ := xw_eq
  refine V_aload (v := ad 1) mi_134_180 (by simp [stL, lv_args, Value.category]) ?_
  refine V_gR mi_134_181 g1r (by omega) h.1 ?_
  refine V_ldcS mi_134_184 ?_
  refine V_cO (As := [.ref (D.2 1000 6)]) (st := []) mi_134_186 (by omega) (by decide +kernel) (by decide +kernel) (by omega) g2o h.1 (wordx_ct (i := 6) (by omega) h) (by omega) (show 1 = mN 191 by decide +kernel) (by simp [Value.category]) ?_
  rintro r w1 ⟨rfl, b, rfl, hb6⟩
  refine V_beq mi_134_189  (fun c6 => ?_) (fun c6 => ?_)
  · replace hb6 := (hb6 g).symm.trans c6
    rw [xe6] at hb6
    exact rl_7 g b0 b1 b2 b3 b4 b5 hb6 h q
  · replace hb6 := (hb6 g).symm.trans c6
    rw [xe6] at hb6
    have b6 := hb6
    have e : linN B n fr td s = (foT fr B n (advS B n s), foF fr B n (advS B n s), td) := by
      unfold linN
      rw [if_neg (by rw [b0]; exact Bool.false_ne_true), if_neg (by rw [b1]; exact Bool.false_ne_true), if_neg (by rw [b2]; exact Bool.false_ne_true), if_neg (by rw [b3]; exact Bool.false_ne_true), if_neg (by rw [b4]; exact Bool.false_ne_true), if_neg (by rw [b5]; exact Bool.false_ne_true), if_pos b6]
    rw [e]
    replace q : XR fr td w0 (advS B n s) _ := XR_of q XMK_rf (fun g => g)
    replace h := XB_adv h
    clear b6 e
    generalize advS B n s = s at h q
    have f3 : s.2.1 = 0 → 0 ≤ fr 3 ∧ fr 3 ≤ 6 := fun g => (XR_bds h.1 q g).2.2.2.1
    have fI : ∀ t : TS, (t.2.1 = 0 → s.2.1 = 0) → I32 (numR 0 (fr 3 - 1) t) := fun t m => by
      by_cases g : t.2.1 = 0
      · have := f3 (m g)
        rcases numR_bd (lo := 0) (hi := fr 3 - 1) (s := t) with e | e <;> exact ⟨by omega, by omega⟩
      · have e : num2 0 (fr 3 - 1) t = errS 1 t := num2_K (fun q => absurd q g)
        rw [numR_bad (by rw [e]; exact err_ok (by decide))]
        exact ⟨by omega, by omega⟩
    refine V_aload (v := ad 1) mi_134_192 (by simp [stL, lv_args, Value.category]) ?_
    refine V_aload (v := ad 16) mi_134_193 (by simp [stL, lv_args, Value.category]) ?_
    refine V_cO (As := [.ref (ad 16)]) (st := []) mi_134_194 (by omega) (by decide +kernel) (by decide +kernel) (by omega) g1o h.1 (folkx_ct h q) (by omega) (show 1 = mN 140 by decide +kernel) (by simp [Value.category]) ?_
    rintro r w ⟨rfl, h, q⟩
    refine V_istore mi_134_197 ?_
    refine V_aload (v := ad 1) mi_134_198 (by simp [stL, lv_args, Value.category]) ?_
    refine V_aload (v := ad 16) mi_134_199 (by simp [stL, lv_args, Value.category]) ?_
    refine V_cO (As := [.ref (ad 16)]) (st := []) mi_134_200 (by omega) (by decide +kernel) (by decide +kernel) (by omega) g1o h.1 (folkx_ct (s := folkT B n fr s) (XB_num h) (XR_of q XMK_rf (fun g => numT_2ok g))) (by omega) (show 1 = mN 140 by decide +kernel) (by simp [Value.category]) ?_
    rintro r w ⟨rfl, h, q⟩
    refine V_istore mi_134_203 ?_
    refine V_aload (v := ad 1) mi_134_204 (by simp [stL, lv_args, Value.category]) ?_
    refine V_iload (v := Int32.ofInt (folkR fr s)) mi_134_205 (by simp [stL, lv_args, Value.category]) ?_
    refine V_iload (v := Int32.ofInt (folkR fr (folkT B n fr s))) mi_134_206 (by simp [stL, lv_args, Value.category]) ?_
    refine V_cO (As := [.int (Int32.ofInt (folkR fr s)), .int (Int32.ofInt (folkR fr (folkT B n fr s)))]) (st := []) mi_134_207 (by omega) (by decide +kernel) (by decide +kernel) (by omega) g1o h.1 (refx_ct (f := folkR fr s) (o := folkR fr (folkT B n fr s)) (fI s (fun g => g)) (fI _ (fun g => (num_ok g).1)) h XMK_rf) (by omega) (show 2 = mN 142 by decide +kernel) (by simp [Value.category]) ?_
    rintro r w ⟨rfl, h, O⟩
    have f0 : (folkT B n fr s).2.1 = 0 → 0 ≤ folkR fr s ∧ folkR fr s ≤ fr 3 - 1 := fun g => by
      obtain ⟨-, -, k8, k9, -⟩ := num_ok (B := B) (n := n) (s := s) g
      have k9 : folkR fr s = s.1.2.2.2 := k9
      omega
    rw [show (if folkR fr s = folkR fr (folkT B n fr s) then errS 2 (num2 0 (fr 3 - 1) (folkT B n fr s)) else num2 0 (fr 3 - 1) (folkT B n fr s)) = num2 0 (fr 3 - 1) (otheP (folkR fr s) (folkT B n fr s)) from oth_eq f0] at h
    replace q := XR_to q O h (fun g => (oth_ok g).1)
    have h : XA ad tys n B (num2 0 (fr 3 - 1) (otheP (folkR fr s) (folkT B n fr s))) w := h
    refine V_aload (v := ad 16) mi_134_210 (by simp [stL, lv_args, Value.category]) ?_
    refine V_gR mi_134_211 g16r10 (by omega) h.1 ?_
    refine V_iload (v := Int32.ofInt (folkR fr (folkT B n fr s))) mi_134_214 (by simp [stL, lv_args, Value.category]) ?_
    refine V_aload (v := ad 16) mi_134_215 (by simp [stL, lv_args, Value.category]) ?_
    refine V_gR mi_134_216 g16r10 (by omega) h.1 ?_
    refine V_iload (v := Int32.ofInt (folkR fr (folkT B n fr s))) mi_134_219 (by simp [stL, lv_args, Value.category]) ?_
    refine V_stat (As := [.ref (ad 21), .int (Int32.ofInt (folkR fr (folkT B n fr s)))]) (st := [.int (Int32.ofInt (folkR fr (folkT B n fr s))), .ref (ad 21)]) mi_134_220 (by omega) (atx_ct a21 h.1 (by omega)) (by omega) (show 2 = mN 147 by decide +kernel) (by simp [Value.category]) ⟨Nat.le_refl _, Nat.le_refl _⟩ ?_
    rintro r w1 ⟨rfl, v, rfl, hv⟩
    refine V_ipush mi_134_223 ?_
    refine V_iload (v := Int32.ofInt (folkR fr s)) mi_134_224 (by simp [stL, lv_args, Value.category]) ?_
    refine V_ibin mi_134_225 (by omega) ?_
    refine V_ibin mi_134_226 (by omega) ?_
    refine V_stat (As := [.ref (ad 21), .int (Int32.ofInt (folkR fr (folkT B n fr s))), .int (ibF 6 (v) (ibF 8 (Int32.ofInt (1)) (Int32.ofInt (folkR fr s))))]) (st := []) mi_134_227 (by omega) (putx_ct a21 h.1 (by omega) (i32b _).1 (i32b _).2) (by omega) (show 3 = mN 148 by decide +kernel) (by simp [Value.category]) ⟨Nat.le_refl _, Nat.le_refl _⟩ ?_
    rintro r w' ⟨rfl, G1, o, u⟩
    have gi : (num2 0 (fr 3 - 1) (otheP (folkR fr s) (folkT B n fr s))).2.1 = 0 → (60 + foO fr B n s < 294 ∧ ¬ (102 ≤ 60 + foO fr B n s ∧ 60 + foO fr B n s < 246)) ∧ 21 = 16 + hxC (60 + foO fr B n s) ∧ Upd1 w1 w' 21 (hxI (60 + foO fr B n s)) (.int (Int32.ofInt (bitO (fr (60 + foO fr B n s)) (folkR fr s)))) ∧ (0 ≤ bitO (fr (60 + foO fr B n s)) (folkR fr s) ∧ bitO (fr (60 + foO fr B n s)) (folkR fr s) ≤ 4095) ∧ (60 ≤ 60 + foO fr B n s ∧ 60 + foO fr B n s < 102 → bitO (fr (60 + foO fr B n s)) (folkR fr s) ≤ 127) := fun g => by
      obtain ⟨o1, o2, -⟩ := oth_ok g
      obtain ⟨k1, -, k2, k3, -⟩ := num2_ok o1
      have k3 : folkR fr (folkT B n fr s) = (folkT B n fr s).1.2.2.2 := k3
      obtain ⟨gs, -, k4, k5, -⟩ := num_ok (B := B) (n := n) (lo := 0) (hi := fr 3 - 1) (s := s) k1
      have k5 : folkR fr s = s.1.2.2.2 := k5
      have b3 := f3 gs
      have e : foO fr B n s = (numR 0 (fr 3 - 1) (folkT B n fr s)).toNat := by
        rw [o2]
        rfl
      have e : foO fr B n s = (folkR fr (folkT B n fr s)).toNat := e
      have ei : folkR fr (folkT B n fr s) = (foO fr B n s : Int) := by omega
      have hx := fo_hx (F := foO fr B n s) (by omega)
      have hv := hv (foO fr B n s) (by omega) (by rw [ei])
      obtain ⟨ve, v0, v1⟩ := XR_at (p := v.toInt) (j := 60 + foO fr B n s) q (by rw [Int32.ofInt_toInt]; exact hv) (i32b v) g hx.1.1 hx.1.2 hx.2.1 hx.2.2
      have U := u (foO fr B n s) (by omega) (by rw [ei])
      rw [show v = Int32.ofInt (fr (60 + foO fr B n s)) by rw [← ve, Int32.ofInt_toInt], show ibF 6 (Int32.ofInt (fr (60 + foO fr B n s))) (ibF 8 (Int32.ofInt 1) (Int32.ofInt (folkR fr s))) = Int32.ofInt (bitO (fr (60 + foO fr B n s)) (folkR fr s)) by unfold bitO; rw [Int32.ofInt_toInt]] at U
      have bb := bitO_b2 (a := fr (60 + foO fr B n s)) (i := folkR fr s) v0 (XR_bit q g (by omega)) (by omega) (by omega)
      rw [← hx.2.2]
      exact ⟨hx.1, hx.2.1, U, ⟨bb.1, by omega⟩, fun _ => bb.2⟩
    replace q := XR_put (j := 60 + foO fr B n s) q o (by omega) (by omega) gi
    replace h := XA_keep h G1 (fun c i hc => o c i (by omega))
    refine V_aload (v := ad 1) mi_134_230 (by simp [stL, lv_args, Value.category]) ?_
    refine V_gR mi_134_231 g1r (by omega) h.1 ?_
    refine V_cO (As := []) (st := []) mi_134_234 (by omega) (by decide +kernel) (by decide +kernel) (by omega) g2o h.1 (advx_ct (s := foT fr B n s) (XB_num h) XMK_rf) (by omega) (show 0 = mN 188 by decide +kernel) (by simp [Value.category]) ?_
    rintro r w ⟨rfl, h, O⟩
    refine V_goto mi_134_237 ?_
    refine V_retV mi_134_245 ⟨rfl, h, XR_cg (XR_to q O h (fun g => numT_2ok g)) (fun g => ⟨?_, rfl⟩)⟩
    unfold foF
    rw [if_pos g]
theorem rl_5 {n : Nat} {B fr td : Nat → Int} {s : TS} {w0 : va_W} (g : s.2.1 = 0) (b0 : isSp B n xName s = false) (b1 : isSp B n xStam s = false) (b2 : isSp B n xDeaf s = false) (b3 : isSp B n xGoes s = false) (b4 : isSp B n xKnow s = false) (h : XA ad tys n B s ws) (q : XR fr td w0 s ws) : V l D tys A 134 7 0 0 (fun r w => r = none ∧ XA ad tys n B (linN B n fr td s).1 w ∧ XR (linN B n fr td s).2.1 (linN B n fr td s).2.2 w0 (linN B n fr td s).1 w) 0 0 160 (lv_args 0 [.ref (ad 1), .ref (ad 16)]) [] ws := by
  obtain ⟨xe0, xe1, xe2, xe3, xe4, xe5, xe6, -⟩ := xw_eq
  refine V_aload (v := ad 1) mi_134_160 (by simp [stL, lv_args, Value.category]) ?_
  refine V_gR mi_134_161 g1r (by omega) h.1 ?_
  refine V_ldcS mi_134_164 ?_
  refine V_cO (As := [.ref (D.2 1000 5)]) (st := []) mi_134_166 (by omega) (by decide +kernel) (by decide +kernel) (by omega) g2o h.1 (wordx_ct (i := 5) (by omega) h) (by omega) (show 1 = mN 191 by decide +kernel) (by simp [Value.category]) ?_
  rintro r w1 ⟨rfl, b, rfl, hb5⟩
  refine V_beq mi_134_169  (fun c5 => ?_) (fun c5 => ?_)
  · replace hb5 := (hb5 g).symm.trans c5
    rw [xe5] at hb5
    exact rl_6 g b0 b1 b2 b3 b4 hb5 h q
  · replace hb5 := (hb5 g).symm.trans c5
    rw [xe5] at hb5
    have b5 := hb5
    by_cases e12 : fr 4 = 12
    · have e : linN B n fr td s = (errS 3 s, fr, td) := by
        unfold linN
        rw [if_neg (by rw [b0]; exact Bool.false_ne_true), if_neg (by rw [b1]; exact Bool.false_ne_true), if_neg (by rw [b2]; exact Bool.false_ne_true), if_neg (by rw [b3]; exact Bool.false_ne_true), if_neg (by rw [b4]; exact Bool.false_ne_true), if_pos b5, if_pos e12]
      rw [e]
      refine V_aload (v := ad 1) mi_134_172 (by simp [stL, lv_args, Value.category]) ?_
      refine V_aload (v := ad 16) mi_134_173 (by simp [stL, lv_args, Value.category]) ?_
      refine V_cO (As := [.ref (ad 16)]) (st := []) mi_134_174 (by omega) (by decide +kernel) (by decide +kernel) (by omega) g1o h.1 (rsf_ct g e12 h q) (by omega) (show 1 = mN 139 by decide +kernel) (by simp [Value.category]) ?_
      rintro r w ⟨rfl, h, q⟩
      refine V_goto mi_134_177 ?_
      exact V_retV mi_134_245 ⟨rfl, h, q⟩
    · have bb4 := (XR_bds h.1 q g).2.2.2.2.1
      have e : linN B n fr td s = (saT fr B n (advS B n s), saG fr B n (advS B n s), td) := by
        unfold linN
        rw [if_neg (by rw [b0]; exact Bool.false_ne_true), if_neg (by rw [b1]; exact Bool.false_ne_true), if_neg (by rw [b2]; exact Bool.false_ne_true), if_neg (by rw [b3]; exact Bool.false_ne_true), if_neg (by rw [b4]; exact Bool.false_ne_true), if_pos b5, if_neg e12]
      rw [e]
      refine V_aload (v := ad 1) mi_134_172 (by simp [stL, lv_args, Value.category]) ?_
      refine V_aload (v := ad 16) mi_134_173 (by simp [stL, lv_args, Value.category]) ?_
      refine V_cO (As := [.ref (ad 16)]) (st := []) mi_134_174 (by omega) (by decide +kernel) (by decide +kernel) (by omega) g1o h.1 (rsx_ct g (by omega) h q) (by omega) (show 1 = mN 139 by decide +kernel) (by simp [Value.category]) ?_
      rintro r w ⟨rfl, h, q⟩
      refine V_goto mi_134_177 ?_
      exact V_retV mi_134_245 ⟨rfl, h, q⟩
theorem rl_4 {n : Nat} {B fr td : Nat → Int} {s : TS} {w0 : va_W} (g : s.2.1 = 0) (b0 : isSp B n xName s = false) (b1 : isSp B n xStam s = false) (b2 : isSp B n xDeaf s = false) (b3 : isSp B n xGoes s = false) (h : XA ad tys n B s ws) (q : XR fr td w0 s ws) : V l D tys A 134 7 0 0 (fun r w => r = none ∧ XA ad tys n B (linN B n fr td s).1 w ∧ XR (linN B n fr td s).2.1 (linN B n fr td s).2.2 w0 (linN B n fr td s).1 w) 0 0 140 (lv_args 0 [.ref (ad 1), .ref (ad 16)]) [] ws := by
  obtain ⟨xe0, xe1, xe2, xe3, xe4, xe5, xe6, -⟩ := xw_eq
  refine V_aload (v := ad 1) mi_134_140 (by simp [stL, lv_args, Value.category]) ?_
  refine V_gR mi_134_141 g1r (by omega) h.1 ?_
  refine V_ldcS mi_134_144 ?_
  refine V_cO (As := [.ref (D.2 1000 4)]) (st := []) mi_134_146 (by omega) (by decide +kernel) (by decide +kernel) (by omega) g2o h.1 (wordx_ct (i := 4) (by omega) h) (by omega) (show 1 = mN 191 by decide +kernel) (by simp [Value.category]) ?_
  rintro r w1 ⟨rfl, b, rfl, hb4⟩
  refine V_beq mi_134_149  (fun c4 => ?_) (fun c4 => ?_)
  · replace hb4 := (hb4 g).symm.trans c4
    rw [xe4] at hb4
    exact rl_5 g b0 b1 b2 b3 hb4 h q
  · replace hb4 := (hb4 g).symm.trans c4
    rw [xe4] at hb4
    have b4 := hb4
    have e : linN B n fr td s = (knT fr B n (advS B n s), knG fr B n (advS B n s), td) := by
      unfold linN
      rw [if_neg (by rw [b0]; exact Bool.false_ne_true), if_neg (by rw [b1]; exact Bool.false_ne_true), if_neg (by rw [b2]; exact Bool.false_ne_true), if_neg (by rw [b3]; exact Bool.false_ne_true), if_pos b4]
    rw [e]
    refine V_aload (v := ad 1) mi_134_152 (by simp [stL, lv_args, Value.category]) ?_
    refine V_aload (v := ad 16) mi_134_153 (by simp [stL, lv_args, Value.category]) ?_
    refine V_cO (As := [.ref (ad 16)]) (st := []) mi_134_154 (by omega) (by decide +kernel) (by decide +kernel) (by omega) g1o h.1 (rkx_ct (XB_adv h) (XR_of (s2 := advS B n s) q XMK_rf (fun g => g))) (by omega) (show 1 = mN 138 by decide +kernel) (by simp [Value.category]) ?_
    rintro r w ⟨rfl, h, q⟩
    refine V_goto mi_134_157 ?_
    exact V_retV mi_134_245 ⟨rfl, h, q⟩
theorem rl_3 {n : Nat} {B fr td : Nat → Int} {s : TS} {w0 : va_W} (g : s.2.1 = 0) (b0 : isSp B n xName s = false) (b1 : isSp B n xStam s = false) (b2 : isSp B n xDeaf s = false) (h : XA ad tys n B s ws) (q : XR fr td w0 s ws) : V l D tys A 134 7 0 0 (fun r w => r = none ∧ XA ad tys n B (linN B n fr td s).1 w ∧ XR (linN B n fr td s).2.1 (linN B n fr td s).2.2 w0 (linN B n fr td s).1 w) 0 0 120 (lv_args 0 [.ref (ad 1), .ref (ad 16)]) [] ws := by
  obtain ⟨xe0, xe1, xe2, xe3, xe4, xe5, xe6, -⟩ := xw_eq
  refine V_aload (v := ad 1) mi_134_120 (by simp [stL, lv_args, Value.category]) ?_
  refine V_gR mi_134_121 g1r (by omega) h.1 ?_
  refine V_ldcS mi_134_124 ?_
  refine V_cO (As := [.ref (D.2 1000 3)]) (st := []) mi_134_126 (by omega) (by decide +kernel) (by decide +kernel) (by omega) g2o h.1 (wordx_ct (i := 3) (by omega) h) (by omega) (show 1 = mN 191 by decide +kernel) (by simp [Value.category]) ?_
  rintro r w1 ⟨rfl, b, rfl, hb3⟩
  refine V_beq mi_134_129  (fun c3 => ?_) (fun c3 => ?_)
  · replace hb3 := (hb3 g).symm.trans c3
    rw [xe3] at hb3
    exact rl_4 g b0 b1 b2 hb3 h q
  · replace hb3 := (hb3 g).symm.trans c3
    rw [xe3] at hb3
    have b3 := hb3
    have e : linN B n fr td s = (goT fr B n (advS B n s), fr, goD fr td B n (advS B n s)) := by
      unfold linN
      rw [if_neg (by rw [b0]; exact Bool.false_ne_true), if_neg (by rw [b1]; exact Bool.false_ne_true), if_neg (by rw [b2]; exact Bool.false_ne_true), if_pos b3]
    rw [e]
    refine V_aload (v := ad 1) mi_134_132 (by simp [stL, lv_args, Value.category]) ?_
    refine V_aload (v := ad 16) mi_134_133 (by simp [stL, lv_args, Value.category]) ?_
    refine V_cO (As := [.ref (ad 16)]) (st := []) mi_134_134 (by omega) (by decide +kernel) (by decide +kernel) (by omega) g1o h.1 (rgx_ct (XB_adv h) (XR_of (s2 := advS B n s) q XMK_rf (fun g => g))) (by omega) (show 1 = mN 137 by decide +kernel) (by simp [Value.category]) ?_
    rintro r w ⟨rfl, h, q⟩
    refine V_goto mi_134_137 ?_
    exact V_retV mi_134_245 ⟨rfl, h, q⟩
theorem rl_2 {n : Nat} {B fr td : Nat → Int} {s : TS} {w0 : va_W} (g : s.2.1 = 0) (b0 : isSp B n xName s = false) (b1 : isSp B n xStam s = false) (h : XA ad tys n B s ws) (q : XR fr td w0 s ws) : V l D tys A 134 7 0 0 (fun r w => r = none ∧ XA ad tys n B (linN B n fr td s).1 w ∧ XR (linN B n fr td s).2.1 (linN B n fr td s).2.2 w0 (linN B n fr td s).1 w) 0 0 77 (lv_args 0 [.ref (ad 1), .ref (ad 16)]) [] ws := by
  obtain ⟨xe0, xe1, xe2, xe3, xe4, xe5, xe6, -⟩ := xw_eq
  refine V_aload (v := ad 1) mi_134_77 (by simp [stL, lv_args, Value.category]) ?_
  refine V_gR mi_134_78 g1r (by omega) h.1 ?_
  refine V_ldcS mi_134_81 ?_
  refine V_cO (As := [.ref (D.2 1000 2)]) (st := []) mi_134_83 (by omega) (by decide +kernel) (by decide +kernel) (by omega) g2o h.1 (wordx_ct (i := 2) (by omega) h) (by omega) (show 1 = mN 191 by decide +kernel) (by simp [Value.category]) ?_
  rintro r w1 ⟨rfl, b, rfl, hb2⟩
  refine V_beq mi_134_86  (fun c2 => ?_) (fun c2 => ?_)
  · replace hb2 := (hb2 g).symm.trans c2
    rw [xe2] at hb2
    exact rl_3 g b0 b1 hb2 h q
  · replace hb2 := (hb2 g).symm.trans c2
    rw [xe2] at hb2
    have b2 := hb2
    have e : linN B n fr td s = (deT fr B n (advS B n s), deF fr B n (advS B n s), td) := by
      unfold linN
      rw [if_neg (by rw [b0]; exact Bool.false_ne_true), if_neg (by rw [b1]; exact Bool.false_ne_true), if_pos b2]
    rw [e]
    replace q : XR fr td w0 (advS B n s) _ := XR_of q XMK_rf (fun g => g)
    replace h := XB_adv h
    generalize advS B n s = s at h q
    refine V_aload (v := ad 1) mi_134_89 (by simp [stL, lv_args, Value.category]) ?_
    refine V_aload (v := ad 16) mi_134_90 (by simp [stL, lv_args, Value.category]) ?_
    refine V_cO (As := [.ref (ad 16)]) (st := []) mi_134_91 (by omega) (by decide +kernel) (by decide +kernel) (by omega) g1o h.1 (folkx_ct h q) (by omega) (show 1 = mN 140 by decide +kernel) (by simp [Value.category]) ?_
    rintro r w ⟨rfl, h, q⟩
    refine V_istore mi_134_94 ?_
    refine V_aload (v := ad 16) mi_134_95 (by simp [stL, lv_args, Value.category]) ?_
    refine V_gR mi_134_96 g16r9 (by omega) h.1 ?_
    refine V_iload (v := Int32.ofInt (folkR fr s)) mi_134_99 (by simp [stL, lv_args, Value.category]) ?_
    refine V_aload (v := ad 1) mi_134_100 (by simp [stL, lv_args, Value.category]) ?_
    refine V_ipush mi_134_101 ?_
    refine V_ipush mi_134_102 ?_
    refine V_cO (As := [.int (Int32.ofInt (0)), .int (Int32.ofInt (100))]) (st := [.int (Int32.ofInt (folkR fr s)), .ref (ad 20)]) mi_134_104 (by omega) (by decide +kernel) (by decide +kernel) (by omega) g1o h.1 (expx_ct (lo := 0) (hi := 100) (s := folkT B n fr s) ⟨by omega, by omega⟩ ⟨by omega, by omega⟩ (by omega) (XB_num h) XMK_rf) (by omega) (show 2 = mN 141 by decide +kernel) (by simp [Value.category]) ?_
    rintro r w ⟨rfl, h, O⟩
    replace q := XR_to q O h (fun g => numT_2ok (num2_ok g).1)
    change V l D tys A 134 7 0 0 _ 0 0 _ _ (.int (Int32.ofInt (numR 0 100 (folkT B n fr s))) :: _) _
    refine V_stat (As := [.ref (ad 20), .int (Int32.ofInt (folkR fr s)), .int (Int32.ofInt (numR 0 100 (folkT B n fr s)))]) (st := []) mi_134_107 (by omega) (putx_ct a20 h.1 (by omega) (i32b _).1 (i32b _).2) (by omega) (show 3 = mN 148 by decide +kernel) (by simp [Value.category]) ⟨Nat.le_refl _, Nat.le_refl _⟩ ?_
    rintro r w1 ⟨rfl, G2, o2, u2⟩
    replace q := XR_put (j := 54 + (folkR fr s).toNat) (z := numR 0 100 (folkT B n fr s)) q o2 (by omega) (by omega) (fun g2 => by
      obtain ⟨k5, -, k6, k7, -⟩ := num2_ok g2
      obtain ⟨-, -, k8, k9, -⟩ := num_ok (B := B) (n := n) (s := s) k5
      have k9 : folkR fr s = s.1.2.2.2 := k9
      have b3 := (XR_bds h.1 q g2).2.2.2.1
      have hx := de_hx (F := (folkR fr s).toNat) (by omega)
      refine ⟨hx.1, hx.2.1, ?_, ⟨by omega, by omega⟩, fun _ => by omega⟩
      rw [← hx.2.2]
      exact u2 _ (by omega) (by rw [Int.toNat_of_nonneg (by omega)]))
    replace h := XA_keep h G2 (fun c i hc => o2 c i (by omega))
    refine V_aload (v := ad 1) mi_134_110 (by simp [stL, lv_args, Value.category]) ?_
    refine V_gR mi_134_111 g1r (by omega) h.1 ?_
    refine V_cO (As := []) (st := []) mi_134_114 (by omega) (by decide +kernel) (by decide +kernel) (by omega) g2o h.1 (advx_ct (s := deT fr B n s) (XB_num h) XMK_rf) (by omega) (show 0 = mN 188 by decide +kernel) (by simp [Value.category]) ?_
    rintro r w ⟨rfl, h, O⟩
    refine V_goto mi_134_117 ?_
    refine V_retV mi_134_245 ⟨rfl, h, XR_cg (XR_to q O h (fun g => numT_2ok g)) (fun g => ⟨?_, rfl⟩)⟩
    unfold deF
    rw [if_pos g]
theorem rl_1 {n : Nat} {B fr td : Nat → Int} {s : TS} {w0 : va_W} (g : s.2.1 = 0) (b0 : isSp B n xName s = false) (h : XA ad tys n B s ws) (q : XR fr td w0 s ws) : V l D tys A 134 7 0 0 (fun r w => r = none ∧ XA ad tys n B (linN B n fr td s).1 w ∧ XR (linN B n fr td s).2.1 (linN B n fr td s).2.2 w0 (linN B n fr td s).1 w) 0 0 35 (lv_args 0 [.ref (ad 1), .ref (ad 16)]) [] ws := by
  obtain ⟨xe0, xe1, xe2, xe3, xe4, xe5, xe6, -⟩ := xw_eq
  refine V_aload (v := ad 1) mi_134_35 (by simp [stL, lv_args, Value.category]) ?_
  refine V_gR mi_134_36 g1r (by omega) h.1 ?_
  refine V_ldcS mi_134_39 ?_
  refine V_cO (As := [.ref (D.2 1000 1)]) (st := []) mi_134_41 (by omega) (by decide +kernel) (by decide +kernel) (by omega) g2o h.1 (wordx_ct (i := 1) (by omega) h) (by omega) (show 1 = mN 191 by decide +kernel) (by simp [Value.category]) ?_
  rintro r w1 ⟨rfl, b, rfl, hb1⟩
  refine V_beq mi_134_44  (fun c1 => ?_) (fun c1 => ?_)
  · replace hb1 := (hb1 g).symm.trans c1
    rw [xe1] at hb1
    exact rl_2 g b0 hb1 h q
  · replace hb1 := (hb1 g).symm.trans c1
    rw [xe1] at hb1
    have b1 := hb1
    have e : linN B n fr td s = (stT fr B n (advS B n s), stF fr B n (advS B n s), td) := by
      unfold linN
      rw [if_neg (by rw [b0]; exact Bool.false_ne_true), if_pos b1]
    rw [e]
    replace q : XR fr td w0 (advS B n s) _ := XR_of q XMK_rf (fun g => g)
    replace h := XB_adv h
    generalize advS B n s = s at h q
    refine V_aload (v := ad 1) mi_134_47 (by simp [stL, lv_args, Value.category]) ?_
    refine V_aload (v := ad 16) mi_134_48 (by simp [stL, lv_args, Value.category]) ?_
    refine V_cO (As := [.ref (ad 16)]) (st := []) mi_134_49 (by omega) (by decide +kernel) (by decide +kernel) (by omega) g1o h.1 (folkx_ct h q) (by omega) (show 1 = mN 140 by decide +kernel) (by simp [Value.category]) ?_
    rintro r w ⟨rfl, h, q⟩
    refine V_istore mi_134_52 ?_
    refine V_aload (v := ad 16) mi_134_53 (by simp [stL, lv_args, Value.category]) ?_
    refine V_gR mi_134_54 g16r8 (by omega) h.1 ?_
    refine V_iload (v := Int32.ofInt (folkR fr s)) mi_134_57 (by simp [stL, lv_args, Value.category]) ?_
    refine V_aload (v := ad 1) mi_134_58 (by simp [stL, lv_args, Value.category]) ?_
    refine V_ipush mi_134_59 ?_
    refine V_ipush mi_134_60 ?_
    refine V_cO (As := [.int (Int32.ofInt (1)), .int (Int32.ofInt (4))]) (st := [.int (Int32.ofInt (folkR fr s)), .ref (ad 19)]) mi_134_61 (by omega) (by decide +kernel) (by decide +kernel) (by omega) g1o h.1 (expx_ct (lo := 1) (hi := 4) (s := folkT B n fr s) ⟨by omega, by omega⟩ ⟨by omega, by omega⟩ (by omega) (XB_num h) XMK_rf) (by omega) (show 2 = mN 141 by decide +kernel) (by simp [Value.category]) ?_
    rintro r w ⟨rfl, h, O⟩
    replace q := XR_to q O h (fun g => numT_2ok (num2_ok g).1)
    change V l D tys A 134 7 0 0 _ 0 0 _ _ (.int (Int32.ofInt (numR 1 4 (folkT B n fr s))) :: _) _
    refine V_stat (As := [.ref (ad 19), .int (Int32.ofInt (folkR fr s)), .int (Int32.ofInt (numR 1 4 (folkT B n fr s)))]) (st := []) mi_134_64 (by omega) (putx_ct a19 h.1 (by omega) (i32b _).1 (i32b _).2) (by omega) (show 3 = mN 148 by decide +kernel) (by simp [Value.category]) ⟨Nat.le_refl _, Nat.le_refl _⟩ ?_
    rintro r w1 ⟨rfl, G2, o2, u2⟩
    replace q := XR_put (j := 48 + (folkR fr s).toNat) (z := numR 1 4 (folkT B n fr s)) q o2 (by omega) (by omega) (fun g2 => by
      obtain ⟨k5, -, k6, k7, -⟩ := num2_ok g2
      obtain ⟨-, -, k8, k9, -⟩ := num_ok (B := B) (n := n) (s := s) k5
      have k9 : folkR fr s = s.1.2.2.2 := k9
      have b3 := (XR_bds h.1 q g2).2.2.2.1
      have hx := st_hx (F := (folkR fr s).toNat) (by omega)
      refine ⟨hx.1, hx.2.1, ?_, ⟨by omega, by omega⟩, fun _ => by omega⟩
      rw [← hx.2.2]
      exact u2 _ (by omega) (by rw [Int.toNat_of_nonneg (by omega)]))
    replace h := XA_keep h G2 (fun c i hc => o2 c i (by omega))
    refine V_aload (v := ad 1) mi_134_67 (by simp [stL, lv_args, Value.category]) ?_
    refine V_gR mi_134_68 g1r (by omega) h.1 ?_
    refine V_cO (As := []) (st := []) mi_134_71 (by omega) (by decide +kernel) (by decide +kernel) (by omega) g2o h.1 (advx_ct (s := stT fr B n s) (XB_num h) XMK_rf) (by omega) (show 0 = mN 188 by decide +kernel) (by simp [Value.category]) ?_
    rintro r w ⟨rfl, h, O⟩
    refine V_goto mi_134_74 ?_
    refine V_retV mi_134_245 ⟨rfl, h, XR_cg (XR_to q O h (fun g => numT_2ok g)) (fun g => ⟨?_, rfl⟩)⟩
    unfold stF
    rw [if_pos g]
theorem rl_0 {n : Nat} {B fr td : Nat → Int} {s : TS} {w0 : va_W} (g : s.2.1 = 0)  (h : XA ad tys n B s ws) (q : XR fr td w0 s ws) : V l D tys A 134 7 0 0 (fun r w => r = none ∧ XA ad tys n B (linN B n fr td s).1 w ∧ XR (linN B n fr td s).2.1 (linN B n fr td s).2.2 w0 (linN B n fr td s).1 w) 0 0 15 (lv_args 0 [.ref (ad 1), .ref (ad 16)]) [] ws := by
  obtain ⟨xe0, xe1, xe2, xe3, xe4, xe5, xe6, -⟩ := xw_eq
  refine V_aload (v := ad 1) mi_134_15 (by simp [stL, lv_args, Value.category]) ?_
  refine V_gR mi_134_16 g1r (by omega) h.1 ?_
  refine V_ldcS mi_134_19 ?_
  refine V_cO (As := [.ref (D.2 1000 0)]) (st := []) mi_134_21 (by omega) (by decide +kernel) (by decide +kernel) (by omega) g2o h.1 (wordx_ct (i := 0) (by omega) h) (by omega) (show 1 = mN 191 by decide +kernel) (by simp [Value.category]) ?_
  rintro r w1 ⟨rfl, b, rfl, hb0⟩
  refine V_beq mi_134_24  (fun c0 => ?_) (fun c0 => ?_)
  · replace hb0 := (hb0 g).symm.trans c0
    rw [xe0] at hb0
    exact rl_1 g hb0 h q
  · replace hb0 := (hb0 g).symm.trans c0
    rw [xe0] at hb0
    have b0 := hb0
    by_cases e6 : fr 3 = 6
    · have e : linN B n fr td s = (errS 3 s, fr, td) := by
        unfold linN
        rw [if_pos b0, if_pos e6]
      rw [e]
      refine V_aload (v := ad 1) mi_134_27 (by simp [stL, lv_args, Value.category]) ?_
      refine V_aload (v := ad 16) mi_134_28 (by simp [stL, lv_args, Value.category]) ?_
      refine V_cO (As := [.ref (ad 16)]) (st := []) mi_134_29 (by omega) (by decide +kernel) (by decide +kernel) (by omega) g1o h.1 (rnf_ct g e6 h q) (by omega) (show 1 = mN 136 by decide +kernel) (by simp [Value.category]) ?_
      rintro r w ⟨rfl, h, q⟩
      refine V_goto mi_134_32 ?_
      exact V_retV mi_134_245 ⟨rfl, h, q⟩
    · have b3 := (XR_bds h.1 q g).2.2.2.1
      have e : linN B n fr td s = ((namW B n (fr 0) (fr 3).toNat 7 0 (advS B n s) fr).1, namZ (fr 3).toNat (namW B n (fr 0) (fr 3).toNat 7 0 (advS B n s) fr), td) := by
        unfold linN
        rw [if_pos b0, if_neg e6]
      rw [e]
      refine V_aload (v := ad 1) mi_134_27 (by simp [stL, lv_args, Value.category]) ?_
      refine V_aload (v := ad 16) mi_134_28 (by simp [stL, lv_args, Value.category]) ?_
      refine V_cO (As := [.ref (ad 16)]) (st := []) mi_134_29 (by omega) (by decide +kernel) (by decide +kernel) (by omega) g1o h.1 (rnx_ct (F := (fr 3).toNat) (by omega) g (by rw [Int.toNat_of_nonneg (by omega)]) h q) (by omega) (show 1 = mN 136 by decide +kernel) (by simp [Value.category]) ?_
      rintro r w ⟨rfl, h, q⟩
      refine V_goto mi_134_32 ?_
      exact V_retV mi_134_245 ⟨rfl, h, q⟩
theorem rlx_ct {n : Nat} {B fr td : Nat → Int} {s : TS} {w0 : va_W} (g : s.2.1 = 0) (h : XA ad tys n B s ws) (q : XR fr td w0 s ws) : CT l D tys A 134 7 0 0 [.ref (ad 1), .ref (ad 16)] ws (fun r w => r = none ∧ XA ad tys n B (linW B n fr td s).1 w ∧ XR (linW B n fr td s).2.1 (linW B n fr td s).2.2 w0 (linW B n fr td s).1 w) := by
  refine CT_of_V (by omega) (show (2 : Nat) ≤ mML 134 by decide +kernel) ?_
  refine V_aload (v := ad 16) mi_134_0 (by simp [stL, lv_args, Value.category]) ?_
  obtain ⟨L, hL, L0, L1⟩ := celO h.1 g16f0 (by omega)
  have eL : L = fr 5 := (XR_at (j := 5) q hL ⟨by omega, by omega⟩ g (by omega) (by omega) rfl rfl).1
  refine V_gO mi_134_1 g16o h.1 (hL) ?_
  refine V_zne mi_134_4 ⟨by omega, by omega⟩ (fun q1 => ?_) (fun q1 => ?_)
  · have e : linW B n fr td s = linN B n fr td s := by
      unfold linW
      rw [if_neg (by omega)]
    rw [e]
    exact rl_0 g h q
  · have e : linW B n fr td s = (firT B n s, firF B n fr s, td) := by
      unfold linW
      rw [if_pos (by omega)]
    rw [e]
    refine V_aload (v := ad 1) mi_134_7 (by simp [stL, lv_args, Value.category]) ?_
    refine V_aload (v := ad 16) mi_134_8 (by simp [stL, lv_args, Value.category]) ?_
    refine V_cO (As := [.ref (ad 16)]) (st := []) mi_134_9 (by omega) (by decide +kernel) (by decide +kernel) (by omega) g1o h.1 (rhx_ct h q) (by omega) (show 1 = mN 135 by decide +kernel) (by simp [Value.category]) ?_
    rintro r w ⟨rfl, h, q⟩
    refine V_goto mi_134_12 ?_
    exact V_retV mi_134_245 ⟨rfl, h, q⟩
end XRM
section XMO
variable {l : Launch} {D : va_G} {tys : List (ClassId × FieldType)} {A : Nat → Prop} {ad : Nat → Nat} {ws : va_W}
theorem ismF_ct {n : Nat} {B fr td : Nat → Int} {s : TS} {w0 : va_W} {i : Nat} (hi : i < 24) (h : MSF ad tys n B fr td w0 s ws) : CT l D tys A 216 4 0 0 [.ref (ad 90), .ref (D.2 1000 i)] ws (fun r w => w = ws ∧ r = some (.int (bI (isSp B n (xw i) s)))) := by
  obtain ⟨p1, p2, p3⟩ := xq hi
  exact ism_ct p1 p2 p3 (MSF_q h)
theorem takF_ct {n : Nat} {B fr td : Nat → Int} {s : TS} {w0 : va_W} {i : Nat} (hi : i < 24) (h : MSF ad tys n B fr td w0 s ws) : CT l D tys A 217 5 0 0 [.ref (ad 90), .ref (D.2 1000 i)] ws (fun r w => r = some (.int (bI (isSp B n (xw i) s))) ∧ MSF ad tys n B fr td w0 (takeS B n (xw i) s) w) := by
  obtain ⟨p1, p2, p3⟩ := xq hi
  refine CT_post (takem_ct p1 p2 p3 (MSF_q h)) ?_
  rintro r w ⟨e1, e2⟩
  exact ⟨e1, MSF_of h e2⟩
theorem goodF_ct {n : Nat} {B fr td : Nat → Int} {s : TS} {w0 : va_W} (h : MSF ad tys n B fr td w0 s ws) : CT l D tys A 214 0 0 0 [.ref (ad 90)] ws (fun r w => w = ws ∧ r = some (.int (bI (decide (s.2.1 = 0))))) := by
  obtain ⟨hG, ⟨T, ok, h10, h9, h8, h11, h12, h13⟩, f12, O⟩ := id h
  obtain ⟨b1, b2, b3, b4⟩ := ok
  refine CT_post (good_ct hG h12 b4.1 b4.2) ?_
  rintro r w ⟨rfl, rfl⟩
  refine ⟨rfl, ?_⟩
  by_cases g : s.2.1 = 0
  · rw [if_pos g, decide_eq_true g]
    rfl
  · rw [if_neg g, decide_eq_false g]
    rfl
theorem advF_ct {n : Nat} {B fr td : Nat → Int} {s : TS} {w0 : va_W} (h : MSF ad tys n B fr td w0 s ws) : CT l D tys A 213 1 0 0 [.ref (ad 90)] ws (fun r w => r = none ∧ MSF ad tys n B fr td w0 (advS B n s) w) := by
  refine CT_post (advm_ct (MSF_q h)) ?_
  rintro r w ⟨e1, e2⟩
  exact ⟨e1, MSF_of h e2⟩
theorem errF_ct {n : Nat} {B fr td : Nat → Int} {s : TS} {w0 : va_W} {e : Int} (h : MSF ad tys n B fr td w0 s ws) (e1 : 1 ≤ e) (e3 : e ≤ 3) : CT l D tys A 215 1 0 0 [.ref (ad 90), .int (Int32.ofInt e)] ws (fun r w => r = none ∧ MSF ad tys n B fr td w0 (errS e s) w) := by
  refine CT_post (errm_ct (MSF_q h) e1 e3) ?_
  rintro r w ⟨e1, e2⟩
  exact ⟨e1, MSF_of h e2⟩
theorem numF_ct {n : Nat} {B fr td : Nat → Int} {s : TS} {w0 : va_W} {lo hi : Int} (a : I32 lo) (b : I32 hi) (h : MSF ad tys n B fr td w0 s ws) : CT l D tys A 219 2 0 0 [.ref (ad 90), .int (Int32.ofInt lo), .int (Int32.ofInt hi)] ws (fun r w => r = some (.int (Int32.ofInt (numR lo hi s))) ∧ MSF ad tys n B fr td w0 (numT B n lo hi s) w) := by
  refine CT_post (numm_ct a.1 a.2 b.1 b.2 (MSF_q h)) ?_
  rintro r w ⟨e1, e2⟩
  exact ⟨e1, MSF_of h e2⟩
theorem sp_bad {B : Nat → Int} {n : Nat} {cs : List Int32} {s : TS} (h : ¬ s.2.1 = 0) : isSp B n cs s = false := by
  unfold isSp isB
  rw [decide_eq_false h, Bool.false_and]
theorem wdR_ext {B : Nat → Int} {n S : Nat} {cs ds : List Int32} : ∀ {m j : Nat}, wdR B n S cs m j = true → wdR B n S ds m j = true → ∀ i, j ≤ i → i < j + m → cs.getD i 0 = ds.getD i 0
  | 0, j, _, _, i, h1, h2 => by omega
  | m + 1, j, h1, h2, i, h3, h4 => by
    unfold wdR at h1 h2
    rw [Bool.and_eq_true, decide_eq_true_eq] at h1 h2
    by_cases e : i = j
    · subst e
      have q : (cs.getD i 0).toInt = (ds.getD i 0).toInt := h1.1.symm.trans h2.1
      rw [← Int32.ofInt_toInt (cs.getD i 0), q, Int32.ofInt_toInt]
    · exact wdR_ext h1.2 h2.2 i (by omega) (by omega)
theorem sp_uniq {B : Nat → Int} {n : Nat} {cs ds : List Int32} {s : TS} (h1 : isSp B n cs s = true) (h2 : isSp B n ds s = true) : cs = ds := by
  unfold isSp isB wdS at h1 h2
  simp only [Bool.and_eq_true, decide_eq_true_eq] at h1 h2
  have hl : cs.length = ds.length := by omega
  have q := wdR_ext h1.2.2.2 (hl ▸ h2.2.2.2)
  refine List.ext_getElem hl (fun i a b => ?_)
  have := q i (by omega) (by omega)
  rw [List.getD_eq_getElem?_getD, List.getD_eq_getElem?_getD, List.getElem?_eq_getElem a, List.getElem?_eq_getElem b] at this
  exact this
theorem says_not : xName ≠ xSays ∧ xStam ≠ xSays ∧ xDeaf ≠ xSays ∧ xGoes ≠ xSays ∧ xKnow ≠ xSays ∧ xFoe ≠ xSays := by decide +kernel
theorem nl_6 {n : Nat} {B fr td : Nat → Int} {s : TS} {w0 : va_W} (b0 : isSp B n xName s = false) (b1 : isSp B n xStam s = false) (b2 : isSp B n xDeaf s = false) (b3 : isSp B n xGoes s = false) (b4 : isSp B n xKnow s = false) (b5 : isSp B n xSays s = false) (b6 : isSp B n xFoe s = true) (h : MSF ad tys n B fr td w0 s ws) : V l D tys A 231 8 0 0 (fun r w => r = none ∧ MSF ad tys n B (linN B n fr td s).2.1 (linN B n fr td s).2.2 w0 (linN B n fr td s).1 w) 0 0 278 (lv_args 0 [.ref (ad 90)]) [] ws := by
  obtain ⟨s96, e96, gN, gD, s3, s0, s4, s5⟩ := g96n
  have e : linN B n fr td s = (foT fr B n (advS B n s), foF fr B n (advS B n s), td) := by
    unfold linN
    rw [if_neg (by rw [b0]; exact Bool.false_ne_true), if_neg (by rw [b1]; exact Bool.false_ne_true), if_neg (by rw [b2]; exact Bool.false_ne_true), if_neg (by rw [b3]; exact Bool.false_ne_true), if_neg (by rw [b4]; exact Bool.false_ne_true), if_neg (by rw [b5]; exact Bool.false_ne_true), if_pos b6]
  rw [e]
  refine V_aload (v := ad 90) mi_231_278 (by simp [stL, lv_args, Value.category]) ?_
  refine V_callM (As := []) (st := []) mi_231_279 (by omega) (by decide +kernel) (by decide +kernel) h.1 (advF_ct h) (by omega) (show 0 = mN 213 by decide +kernel) (by simp [Value.category]) ?_
  rintro r w ⟨rfl, h⟩
  generalize advS B n s = s at h
  have c3 := fr_seg h e96 (by omega) s3 (by omega) (by omega)
  have bf : folkR fr s = 0 ∨ (0 ≤ folkR fr s ∧ folkR fr s ≤ fr 3 - 1) := numR_bd
  refine V_aload (v := ad 90) mi_231_282 (by simp [stL, lv_args, Value.category]) ?_
  refine V_callM (As := []) (st := []) mi_231_283 (by omega) (by decide +kernel) (by decide +kernel) h.1 (folkm_ct h) (by omega) (show 0 = mN 222 by decide +kernel) (by simp [Value.category]) ?_
  rintro r w ⟨rfl, h⟩
  refine V_istore mi_231_286 ?_
  refine V_aload (v := ad 90) mi_231_287 (by simp [stL, lv_args, Value.category]) ?_
  refine V_iload (v := Int32.ofInt (folkR fr s)) mi_231_288 (by simp [stL, lv_args, Value.category]) ?_
  refine V_callM (As := [.int (Int32.ofInt (folkR fr s))]) (st := []) mi_231_289 (by omega) (by decide +kernel) (by decide +kernel) h.1 (othem_ct (by omega) (by omega) h) (by omega) (show 1 = mN 223 by decide +kernel) (by simp [Value.category]) ?_
  rintro r w ⟨rfl, h⟩
  have h : MSF ad tys n B fr td w0 (foT fr B n s) w := h
  change V l D tys A 231 8 0 0 _ 0 0 _ _ ((some (Value.int (Int32.ofInt (otheR fr (folkR fr s) (folkT B n fr s))))).toList ++ []) _
  refine V_istore mi_231_292 ?_
  refine V_aload (v := ad 90) mi_231_293 (by simp [stL, lv_args, Value.category]) ?_
  refine V_callM (As := []) (st := []) mi_231_294 (by omega) (by decide +kernel) (by decide +kernel) h.1 (goodF_ct h) (by omega) (show 0 = mN 214 by decide +kernel) (by simp [Value.category]) ?_
  rintro r w1 ⟨rfl, rfl⟩
  refine V_beq mi_231_297  (fun c => ?_) (fun c => ?_)
  · have g2 : ¬ (foT fr B n s).2.1 = 0 := of_decide_eq_false c
    have e : foF fr B n s = fr := by
      unfold foF
      rw [if_neg g2]
    rw [e]
    exact V_retV mi_231_315 ⟨rfl, h⟩
  · have g2 : (foT fr B n s).2.1 = 0 := of_decide_eq_true c
    obtain ⟨o1, o2, o3⟩ := oth_ok (numT_2ok g2)
    obtain ⟨k1, -, k2, k3, -⟩ := num2_ok o1
    obtain ⟨gs, -, k4, k5, -⟩ := num_ok (B := B) (n := n) (lo := 0) (hi := fr 3 - 1) (s := s) k1
    have k5 : folkR fr s = s.1.2.2.2 := k5
    have eo : otheR fr (folkR fr s) (folkT B n fr s) = (foO fr B n s : Int) := by
      have : otheR fr (folkR fr s) (folkT B n fr s) = (folkT B n fr s).1.2.2.2 := o2.symm.trans k3
      unfold foO
      rw [Int.toNat_of_nonneg (by omega)]
    have o6 : foO fr B n s < 6 := by
      have : otheR fr (folkR fr s) (folkT B n fr s) = (folkT B n fr s).1.2.2.2 := o2.symm.trans k3
      omega
    rw [eo]
    refine V_aload (v := ad 90) mi_231_300 (by simp [stL, lv_args, Value.category]) ?_
    refine V_getI mi_231_301 h.1 (rref gr14 (by omega) h.1) ?_
    refine V_ipush mi_231_304 ?_
    refine V_iload (v := Int32.ofInt ((foO fr B n s : Int))) mi_231_306 (by simp [stL, lv_args, Value.category]) ?_
    refine V_ibin mi_231_307 (by omega) ?_
    rw [ib0]
    refine V_dup2 mi_231_308 (by simp [Value.category]) (by simp [Value.category]) ?_
    refine V_fresh (a := 0) (x := 0) h (j := 60 + foO fr B n s) (by omega) (by rw [show (60) + ((foO fr B n s : Int)) = ((60 + foO fr B n s : Nat) : Int) by omega]) mi_231_309 ?_
    refine V_ipush mi_231_310 ?_
    refine V_iload (v := Int32.ofInt (folkR fr s)) mi_231_311 (by simp [stL, lv_args, Value.category]) ?_
    refine V_ibin mi_231_312 (by omega) ?_
    refine V_ibin mi_231_313 (by omega) ?_
    have bk := fr_seg h e96 (by omega) (gD _ o6).2.2 (by omega) (by omega)
    have bb := bitO_bd bk.1 bk.2 (i := folkR fr s) (by omega) (by omega)
    rw [show ibF 6 (Int32.ofInt (fr (60 + foO fr B n s))) (ibF 8 (Int32.ofInt 1) (Int32.ofInt (folkR fr s))) = Int32.ofInt (bitO (fr (60 + foO fr B n s)) (folkR fr s)) by unfold bitO; rw [Int32.ofInt_toInt]]
    refine V_fst (z := bitO (fr (60 + foO fr B n s)) (folkR fr s)) h e96 (j := 60 + foO fr B n s) (by omega) (by rw [show (60) + ((foO fr B n s : Int)) = ((60 + foO fr B n s : Nat) : Int) by omega]) mi_231_314 (gD _ o6).2.2 bb.1 bb.2 bb.1 (by omega) (fun w h => ?_)
    have e : foF fr B n s = updI fr (60 + foO fr B n s) (bitO (fr (60 + foO fr B n s)) (folkR fr s)) := by
      unfold foF
      rw [if_pos g2]
    rw [e]
    exact V_retV mi_231_315 ⟨rfl, h⟩
theorem nl_5 {n : Nat} {B fr td : Nat → Int} {s : TS} {w0 : va_W} (b0 : isSp B n xName s = false) (b1 : isSp B n xStam s = false) (b2 : isSp B n xDeaf s = false) (b3 : isSp B n xGoes s = false) (b4 : isSp B n xKnow s = false) (bt : isSp B n xFoe s = false → isSp B n xName s = true ∨ isSp B n xStam s = true ∨ isSp B n xDeaf s = true ∨ isSp B n xGoes s = true ∨ isSp B n xKnow s = true ∨ isSp B n xSays s = true) (n12 : isSp B n xSays s = true → ¬ fr 4 = 12) (h : MSF ad tys n B fr td w0 s ws) : V l D tys A 231 8 0 0 (fun r w => r = none ∧ MSF ad tys n B (linN B n fr td s).2.1 (linN B n fr td s).2.2 w0 (linN B n fr td s).1 w) 0 0 262 (lv_args 0 [.ref (ad 90)]) [] ws := by
  obtain ⟨s96, e96, gN, gD, s3, s0, s4, s5⟩ := g96n
  refine V_aload (v := ad 90) mi_231_262 (by simp [stL, lv_args, Value.category]) ?_
  refine V_ldcS mi_231_263 ?_
  refine V_callM (As := [.ref (D.2 1000 22)]) (st := []) mi_231_265 (by omega) (by decide +kernel) (by decide +kernel) h.1 (takF_ct (i := 22) (by omega) h) (by omega) (show 1 = mN 217 by decide +kernel) (by simp [Value.category]) ?_
  rintro r w ⟨rfl, h⟩
  change V l D tys A 231 8 0 0 _ 0 0 _ _ (.int (bI (isSp B n xSays s)) :: []) w
  refine V_beq mi_231_268  (fun b5 => ?_) (fun b5 => ?_)
  · replace h : MSF ad tys n B fr td w0 s w := by
      have e : takeS B n xSays s = s := by
        unfold takeS
        rw [if_neg (by rw [b5]; exact Bool.false_ne_true)]
      rw [← e]
      exact h
    have b6 : isSp B n xFoe s = true := by
      by_cases q : isSp B n xFoe s = true
      · exact q
      · have := bt (Bool.eq_false_iff.mpr q)
        rw [b0, b1, b2, b3, b4, b5] at this
        simp at this
    exact nl_6 b0 b1 b2 b3 b4 b5 b6 h
  · replace n12 := n12 b5
    replace h : MSF ad tys n B fr td w0 (advS B n s) w := by
      have e : takeS B n xSays s = advS B n s := by
        unfold takeS
        rw [if_pos b5]
      rw [← e]
      exact h
    have e : linN B n fr td s = (saT fr B n (advS B n s), saG fr B n (advS B n s), td) := by
      unfold linN
      rw [if_neg (by rw [b0]; exact Bool.false_ne_true), if_neg (by rw [b1]; exact Bool.false_ne_true), if_neg (by rw [b2]; exact Bool.false_ne_true), if_neg (by rw [b3]; exact Bool.false_ne_true), if_neg (by rw [b4]; exact Bool.false_ne_true), if_pos b5, if_neg n12]
    rw [e]
    have c4 := fr_seg h e96 (by omega) s4 (by omega) (by omega)
    refine V_aload (v := ad 90) mi_231_271 (by simp [stL, lv_args, Value.category]) ?_
    refine V_callM (As := []) (st := []) mi_231_272 (by omega) (by decide +kernel) (by decide +kernel) h.1 (sam_ct (by omega) h) (by omega) (show 0 = mN 230 by decide +kernel) (by simp [Value.category]) ?_
    rintro r w ⟨rfl, h⟩
    refine V_goto mi_231_275 ?_
    exact V_retV mi_231_315 ⟨rfl, h⟩
theorem nl_4 {n : Nat} {B fr td : Nat → Int} {s : TS} {w0 : va_W} (b0 : isSp B n xName s = false) (b1 : isSp B n xStam s = false) (b2 : isSp B n xDeaf s = false) (b3 : isSp B n xGoes s = false) (bt : isSp B n xFoe s = false → isSp B n xName s = true ∨ isSp B n xStam s = true ∨ isSp B n xDeaf s = true ∨ isSp B n xGoes s = true ∨ isSp B n xKnow s = true ∨ isSp B n xSays s = true) (n12 : isSp B n xSays s = true → ¬ fr 4 = 12) (h : MSF ad tys n B fr td w0 s ws) : V l D tys A 231 8 0 0 (fun r w => r = none ∧ MSF ad tys n B (linN B n fr td s).2.1 (linN B n fr td s).2.2 w0 (linN B n fr td s).1 w) 0 0 246 (lv_args 0 [.ref (ad 90)]) [] ws := by
  obtain ⟨s96, e96, gN, gD, s3, s0, s4, s5⟩ := g96n
  refine V_aload (v := ad 90) mi_231_246 (by simp [stL, lv_args, Value.category]) ?_
  refine V_ldcS mi_231_247 ?_
  refine V_callM (As := [.ref (D.2 1000 21)]) (st := []) mi_231_249 (by omega) (by decide +kernel) (by decide +kernel) h.1 (takF_ct (i := 21) (by omega) h) (by omega) (show 1 = mN 217 by decide +kernel) (by simp [Value.category]) ?_
  rintro r w ⟨rfl, h⟩
  change V l D tys A 231 8 0 0 _ 0 0 _ _ (.int (bI (isSp B n xKnow s)) :: []) w
  refine V_beq mi_231_252  (fun b4 => ?_) (fun b4 => ?_)
  · replace h : MSF ad tys n B fr td w0 s w := by
      have e : takeS B n xKnow s = s := by
        unfold takeS
        rw [if_neg (by rw [b4]; exact Bool.false_ne_true)]
      rw [← e]
      exact h
    exact nl_5 b0 b1 b2 b3 b4 bt n12 h
  · replace h : MSF ad tys n B fr td w0 (advS B n s) w := by
      have e : takeS B n xKnow s = advS B n s := by
        unfold takeS
        rw [if_pos b4]
      rw [← e]
      exact h
    have e : linN B n fr td s = (knT fr B n (advS B n s), knG fr B n (advS B n s), td) := by
      unfold linN
      rw [if_neg (by rw [b0]; exact Bool.false_ne_true), if_neg (by rw [b1]; exact Bool.false_ne_true), if_neg (by rw [b2]; exact Bool.false_ne_true), if_neg (by rw [b3]; exact Bool.false_ne_true), if_pos b4]
    rw [e]
    refine V_aload (v := ad 90) mi_231_255 (by simp [stL, lv_args, Value.category]) ?_
    refine V_callM (As := []) (st := []) mi_231_256 (by omega) (by decide +kernel) (by decide +kernel) h.1 (knm_ct h) (by omega) (show 0 = mN 229 by decide +kernel) (by simp [Value.category]) ?_
    rintro r w ⟨rfl, h⟩
    refine V_goto mi_231_259 ?_
    exact V_retV mi_231_315 ⟨rfl, h⟩
theorem nl_3 {n : Nat} {B fr td : Nat → Int} {s : TS} {w0 : va_W} (b0 : isSp B n xName s = false) (b1 : isSp B n xStam s = false) (b2 : isSp B n xDeaf s = false) (bt : isSp B n xFoe s = false → isSp B n xName s = true ∨ isSp B n xStam s = true ∨ isSp B n xDeaf s = true ∨ isSp B n xGoes s = true ∨ isSp B n xKnow s = true ∨ isSp B n xSays s = true) (n12 : isSp B n xSays s = true → ¬ fr 4 = 12) (h : MSF ad tys n B fr td w0 s ws) : V l D tys A 231 8 0 0 (fun r w => r = none ∧ MSF ad tys n B (linN B n fr td s).2.1 (linN B n fr td s).2.2 w0 (linN B n fr td s).1 w) 0 0 230 (lv_args 0 [.ref (ad 90)]) [] ws := by
  obtain ⟨s96, e96, gN, gD, s3, s0, s4, s5⟩ := g96n
  refine V_aload (v := ad 90) mi_231_230 (by simp [stL, lv_args, Value.category]) ?_
  refine V_ldcS mi_231_231 ?_
  refine V_callM (As := [.ref (D.2 1000 20)]) (st := []) mi_231_233 (by omega) (by decide +kernel) (by decide +kernel) h.1 (takF_ct (i := 20) (by omega) h) (by omega) (show 1 = mN 217 by decide +kernel) (by simp [Value.category]) ?_
  rintro r w ⟨rfl, h⟩
  change V l D tys A 231 8 0 0 _ 0 0 _ _ (.int (bI (isSp B n xGoes s)) :: []) w
  refine V_beq mi_231_236  (fun b3 => ?_) (fun b3 => ?_)
  · replace h : MSF ad tys n B fr td w0 s w := by
      have e : takeS B n xGoes s = s := by
        unfold takeS
        rw [if_neg (by rw [b3]; exact Bool.false_ne_true)]
      rw [← e]
      exact h
    exact nl_4 b0 b1 b2 b3 bt n12 h
  · replace h : MSF ad tys n B fr td w0 (advS B n s) w := by
      have e : takeS B n xGoes s = advS B n s := by
        unfold takeS
        rw [if_pos b3]
      rw [← e]
      exact h
    have e : linN B n fr td s = (goT fr B n (advS B n s), fr, goD fr td B n (advS B n s)) := by
      unfold linN
      rw [if_neg (by rw [b0]; exact Bool.false_ne_true), if_neg (by rw [b1]; exact Bool.false_ne_true), if_neg (by rw [b2]; exact Bool.false_ne_true), if_pos b3]
    rw [e]
    refine V_aload (v := ad 90) mi_231_239 (by simp [stL, lv_args, Value.category]) ?_
    refine V_callM (As := []) (st := []) mi_231_240 (by omega) (by decide +kernel) (by decide +kernel) h.1 (gom_ct h) (by omega) (show 0 = mN 228 by decide +kernel) (by simp [Value.category]) ?_
    rintro r w ⟨rfl, h⟩
    refine V_goto mi_231_243 ?_
    exact V_retV mi_231_315 ⟨rfl, h⟩
theorem nl_2 {n : Nat} {B fr td : Nat → Int} {s : TS} {w0 : va_W} (b0 : isSp B n xName s = false) (b1 : isSp B n xStam s = false) (bt : isSp B n xFoe s = false → isSp B n xName s = true ∨ isSp B n xStam s = true ∨ isSp B n xDeaf s = true ∨ isSp B n xGoes s = true ∨ isSp B n xKnow s = true ∨ isSp B n xSays s = true) (n12 : isSp B n xSays s = true → ¬ fr 4 = 12) (h : MSF ad tys n B fr td w0 s ws) : V l D tys A 231 8 0 0 (fun r w => r = none ∧ MSF ad tys n B (linN B n fr td s).2.1 (linN B n fr td s).2.2 w0 (linN B n fr td s).1 w) 0 0 188 (lv_args 0 [.ref (ad 90)]) [] ws := by
  obtain ⟨s96, e96, gN, gD, s3, s0, s4, s5⟩ := g96n
  refine V_aload (v := ad 90) mi_231_188 (by simp [stL, lv_args, Value.category]) ?_
  refine V_ldcS mi_231_189 ?_
  refine V_callM (As := [.ref (D.2 1000 19)]) (st := []) mi_231_191 (by omega) (by decide +kernel) (by decide +kernel) h.1 (takF_ct (i := 19) (by omega) h) (by omega) (show 1 = mN 217 by decide +kernel) (by simp [Value.category]) ?_
  rintro r w ⟨rfl, h⟩
  change V l D tys A 231 8 0 0 _ 0 0 _ _ (.int (bI (isSp B n xDeaf s)) :: []) w
  refine V_beq mi_231_194  (fun b2 => ?_) (fun b2 => ?_)
  · replace h : MSF ad tys n B fr td w0 s w := by
      have e : takeS B n xDeaf s = s := by
        unfold takeS
        rw [if_neg (by rw [b2]; exact Bool.false_ne_true)]
      rw [← e]
      exact h
    exact nl_3 b0 b1 b2 bt n12 h
  · replace h : MSF ad tys n B fr td w0 (advS B n s) w := by
      have e : takeS B n xDeaf s = advS B n s := by
        unfold takeS
        rw [if_pos b2]
      rw [← e]
      exact h
    have e : linN B n fr td s = (deT fr B n (advS B n s), deF fr B n (advS B n s), td) := by
      unfold linN
      rw [if_neg (by rw [b0]; exact Bool.false_ne_true), if_neg (by rw [b1]; exact Bool.false_ne_true), if_pos b2]
    rw [e]
    generalize advS B n s = s at h
    refine V_aload (v := ad 90) mi_231_197 (by simp [stL, lv_args, Value.category]) ?_
    refine V_callM (As := []) (st := []) mi_231_198 (by omega) (by decide +kernel) (by decide +kernel) h.1 (folkm_ct h) (by omega) (show 0 = mN 222 by decide +kernel) (by simp [Value.category]) ?_
    rintro r w ⟨rfl, h⟩
    refine V_istore mi_231_201 ?_
    refine V_aload (v := ad 90) mi_231_202 (by simp [stL, lv_args, Value.category]) ?_
    refine V_ipush mi_231_203 ?_
    refine V_ipush mi_231_204 ?_
    refine V_callM (As := [.int (Int32.ofInt (0)), .int (Int32.ofInt (100))]) (st := []) mi_231_206 (by omega) (by decide +kernel) (by decide +kernel) h.1 (numF_ct ⟨by omega, by omega⟩ ⟨by omega, by omega⟩ h) (by omega) (show 2 = mN 219 by decide +kernel) (by simp [Value.category]) ?_
    rintro r w ⟨rfl, h⟩
    have h : MSF ad tys n B fr td w0 (deT fr B n s) w := h
    refine V_istore mi_231_209 ?_
    refine V_aload (v := ad 90) mi_231_210 (by simp [stL, lv_args, Value.category]) ?_
    refine V_callM (As := []) (st := []) mi_231_211 (by omega) (by decide +kernel) (by decide +kernel) h.1 (goodF_ct h) (by omega) (show 0 = mN 214 by decide +kernel) (by simp [Value.category]) ?_
    rintro r w1 ⟨rfl, rfl⟩
    refine V_beq mi_231_214  (fun c => ?_) (fun c => ?_)
    · have g2 : ¬ (deT fr B n s).2.1 = 0 := of_decide_eq_false c
      refine V_goto mi_231_227 ?_
      have e : deF fr B n s = fr := by
        unfold deF
        rw [if_neg g2]
      rw [e]
      exact V_retV mi_231_315 ⟨rfl, h⟩
    · have g2 : (deT fr B n s).2.1 = 0 := of_decide_eq_true c
      obtain ⟨k5, -, k6, k7, -⟩ := num_ok (B := B) (n := n) (s := folkT B n fr s) g2
      obtain ⟨-, -, k8, k9, -⟩ := num_ok (B := B) (n := n) (s := s) k5
      have k9 : folkR fr s = s.1.2.2.2 := k9
      have c3 := fr_seg h e96 (by omega) s3 (by omega) (by omega)
      have i6 : (folkR fr s).toNat < 6 := by omega
      refine V_aload (v := ad 90) mi_231_217 (by simp [stL, lv_args, Value.category]) ?_
      refine V_getI mi_231_218 h.1 (rref gr14 (by omega) h.1) ?_
      refine V_ipush mi_231_221 ?_
      refine V_iload (v := Int32.ofInt (folkR fr s)) mi_231_223 (by simp [stL, lv_args, Value.category]) ?_
      refine V_ibin mi_231_224 (by omega) ?_
      rw [ib0]
      refine V_iload (v := Int32.ofInt (numR 0 100 (folkT B n fr s))) mi_231_225 (by simp [stL, lv_args, Value.category]) ?_
      refine V_fst (z := numR 0 100 (folkT B n fr s)) h e96 (j := 54 + (folkR fr s).toNat) (by omega) (by rw [show (54) + (folkR fr s) = ((54 + (folkR fr s).toNat : Nat) : Int) by omega]) mi_231_226 (gD _ i6).2.1 (by omega) (by omega) (by omega) (by omega) (fun w h => ?_)
      refine V_goto mi_231_227 ?_
      have e : deF fr B n s = updI fr (54 + (folkR fr s).toNat) (numR 0 100 (folkT B n fr s)) := by
        unfold deF
        rw [if_pos g2]
      rw [e]
      exact V_retV mi_231_315 ⟨rfl, h⟩
theorem nl_1 {n : Nat} {B fr td : Nat → Int} {s : TS} {w0 : va_W} (b0 : isSp B n xName s = false) (bt : isSp B n xFoe s = false → isSp B n xName s = true ∨ isSp B n xStam s = true ∨ isSp B n xDeaf s = true ∨ isSp B n xGoes s = true ∨ isSp B n xKnow s = true ∨ isSp B n xSays s = true) (n12 : isSp B n xSays s = true → ¬ fr 4 = 12) (h : MSF ad tys n B fr td w0 s ws) : V l D tys A 231 8 0 0 (fun r w => r = none ∧ MSF ad tys n B (linN B n fr td s).2.1 (linN B n fr td s).2.2 w0 (linN B n fr td s).1 w) 0 0 147 (lv_args 0 [.ref (ad 90)]) [] ws := by
  obtain ⟨s96, e96, gN, gD, s3, s0, s4, s5⟩ := g96n
  refine V_aload (v := ad 90) mi_231_147 (by simp [stL, lv_args, Value.category]) ?_
  refine V_ldcS mi_231_148 ?_
  refine V_callM (As := [.ref (D.2 1000 18)]) (st := []) mi_231_150 (by omega) (by decide +kernel) (by decide +kernel) h.1 (takF_ct (i := 18) (by omega) h) (by omega) (show 1 = mN 217 by decide +kernel) (by simp [Value.category]) ?_
  rintro r w ⟨rfl, h⟩
  change V l D tys A 231 8 0 0 _ 0 0 _ _ (.int (bI (isSp B n xStam s)) :: []) w
  refine V_beq mi_231_153  (fun b1 => ?_) (fun b1 => ?_)
  · replace h : MSF ad tys n B fr td w0 s w := by
      have e : takeS B n xStam s = s := by
        unfold takeS
        rw [if_neg (by rw [b1]; exact Bool.false_ne_true)]
      rw [← e]
      exact h
    exact nl_2 b0 b1 bt n12 h
  · replace h : MSF ad tys n B fr td w0 (advS B n s) w := by
      have e : takeS B n xStam s = advS B n s := by
        unfold takeS
        rw [if_pos b1]
      rw [← e]
      exact h
    have e : linN B n fr td s = (stT fr B n (advS B n s), stF fr B n (advS B n s), td) := by
      unfold linN
      rw [if_neg (by rw [b0]; exact Bool.false_ne_true), if_pos b1]
    rw [e]
    generalize advS B n s = s at h
    refine V_aload (v := ad 90) mi_231_156 (by simp [stL, lv_args, Value.category]) ?_
    refine V_callM (As := []) (st := []) mi_231_157 (by omega) (by decide +kernel) (by decide +kernel) h.1 (folkm_ct h) (by omega) (show 0 = mN 222 by decide +kernel) (by simp [Value.category]) ?_
    rintro r w ⟨rfl, h⟩
    refine V_istore mi_231_160 ?_
    refine V_aload (v := ad 90) mi_231_161 (by simp [stL, lv_args, Value.category]) ?_
    refine V_ipush mi_231_162 ?_
    refine V_ipush mi_231_163 ?_
    refine V_callM (As := [.int (Int32.ofInt (1)), .int (Int32.ofInt (4))]) (st := []) mi_231_164 (by omega) (by decide +kernel) (by decide +kernel) h.1 (numF_ct ⟨by omega, by omega⟩ ⟨by omega, by omega⟩ h) (by omega) (show 2 = mN 219 by decide +kernel) (by simp [Value.category]) ?_
    rintro r w ⟨rfl, h⟩
    have h : MSF ad tys n B fr td w0 (stT fr B n s) w := h
    refine V_istore mi_231_167 ?_
    refine V_aload (v := ad 90) mi_231_168 (by simp [stL, lv_args, Value.category]) ?_
    refine V_callM (As := []) (st := []) mi_231_169 (by omega) (by decide +kernel) (by decide +kernel) h.1 (goodF_ct h) (by omega) (show 0 = mN 214 by decide +kernel) (by simp [Value.category]) ?_
    rintro r w1 ⟨rfl, rfl⟩
    refine V_beq mi_231_172  (fun c => ?_) (fun c => ?_)
    · have g2 : ¬ (stT fr B n s).2.1 = 0 := of_decide_eq_false c
      refine V_goto mi_231_185 ?_
      have e : stF fr B n s = fr := by
        unfold stF
        rw [if_neg g2]
      rw [e]
      exact V_retV mi_231_315 ⟨rfl, h⟩
    · have g2 : (stT fr B n s).2.1 = 0 := of_decide_eq_true c
      obtain ⟨k5, -, k6, k7, -⟩ := num_ok (B := B) (n := n) (s := folkT B n fr s) g2
      obtain ⟨-, -, k8, k9, -⟩ := num_ok (B := B) (n := n) (s := s) k5
      have k9 : folkR fr s = s.1.2.2.2 := k9
      have c3 := fr_seg h e96 (by omega) s3 (by omega) (by omega)
      have i6 : (folkR fr s).toNat < 6 := by omega
      refine V_aload (v := ad 90) mi_231_175 (by simp [stL, lv_args, Value.category]) ?_
      refine V_getI mi_231_176 h.1 (rref gr14 (by omega) h.1) ?_
      refine V_ipush mi_231_179 ?_
      refine V_iload (v := Int32.ofInt (folkR fr s)) mi_231_181 (by simp [stL, lv_args, Value.category]) ?_
      refine V_ibin mi_231_182 (by omega) ?_
      rw [ib0]
      refine V_iload (v := Int32.ofInt (numR 1 4 (folkT B n fr s))) mi_231_183 (by simp [stL, lv_args, Value.category]) ?_
      refine V_fst (z := numR 1 4 (folkT B n fr s)) h e96 (j := 48 + (folkR fr s).toNat) (by omega) (by rw [show (48) + (folkR fr s) = ((48 + (folkR fr s).toNat : Nat) : Int) by omega]) mi_231_184 (gD _ i6).1 (by omega) (by omega) (by omega) (by omega) (fun w h => ?_)
      refine V_goto mi_231_185 ?_
      have e : stF fr B n s = updI fr (48 + (folkR fr s).toNat) (numR 1 4 (folkT B n fr s)) := by
        unfold stF
        rw [if_pos g2]
      rw [e]
      exact V_retV mi_231_315 ⟨rfl, h⟩
theorem nl_0 {n : Nat} {B fr td : Nat → Int} {s : TS} {w0 : va_W}  (bt : isSp B n xFoe s = false → isSp B n xName s = true ∨ isSp B n xStam s = true ∨ isSp B n xDeaf s = true ∨ isSp B n xGoes s = true ∨ isSp B n xKnow s = true ∨ isSp B n xSays s = true) (n6 : isSp B n xName s = true → ¬ fr 3 = 6) (n12 : isSp B n xSays s = true → ¬ fr 4 = 12) (h : MSF ad tys n B fr td w0 s ws) : V l D tys A 231 8 0 0 (fun r w => r = none ∧ MSF ad tys n B (linN B n fr td s).2.1 (linN B n fr td s).2.2 w0 (linN B n fr td s).1 w) 0 0 131 (lv_args 0 [.ref (ad 90)]) [] ws := by
  obtain ⟨s96, e96, gN, gD, s3, s0, s4, s5⟩ := g96n
  refine V_aload (v := ad 90) mi_231_131 (by simp [stL, lv_args, Value.category]) ?_
  refine V_ldcS mi_231_132 ?_
  refine V_callM (As := [.ref (D.2 1000 17)]) (st := []) mi_231_134 (by omega) (by decide +kernel) (by decide +kernel) h.1 (takF_ct (i := 17) (by omega) h) (by omega) (show 1 = mN 217 by decide +kernel) (by simp [Value.category]) ?_
  rintro r w ⟨rfl, h⟩
  change V l D tys A 231 8 0 0 _ 0 0 _ _ (.int (bI (isSp B n xName s)) :: []) w
  refine V_beq mi_231_137  (fun b0 => ?_) (fun b0 => ?_)
  · replace h : MSF ad tys n B fr td w0 s w := by
      have e : takeS B n xName s = s := by
        unfold takeS
        rw [if_neg (by rw [b0]; exact Bool.false_ne_true)]
      rw [← e]
      exact h
    exact nl_1 b0 bt n12 h
  · replace n6 := n6 b0
    replace h : MSF ad tys n B fr td w0 (advS B n s) w := by
      have e : takeS B n xName s = advS B n s := by
        unfold takeS
        rw [if_pos b0]
      rw [← e]
      exact h
    have e : linN B n fr td s = ((namW B n (fr 0) (fr 3).toNat 7 0 (advS B n s) fr).1, namZ (fr 3).toNat (namW B n (fr 0) (fr 3).toNat 7 0 (advS B n s) fr), td) := by
      unfold linN
      rw [if_pos b0, if_neg n6]
    rw [e]
    have c3 := fr_seg h e96 (by omega) s3 (by omega) (by omega)
    refine V_aload (v := ad 90) mi_231_140 (by simp [stL, lv_args, Value.category]) ?_
    refine V_callM (As := []) (st := []) mi_231_141 (by omega) (by decide +kernel) (by decide +kernel) h.1 (namm_ct (F := (fr 3).toNat) (by omega) (by rw [Int.toNat_of_nonneg (by omega)]) h) (by omega) (show 0 = mN 226 by decide +kernel) (by simp [Value.category]) ?_
    rintro r w ⟨rfl, h⟩
    refine V_goto mi_231_144 ?_
    exact V_retV mi_231_315 ⟨rfl, h⟩
theorem nx_bad {n : Nat} {B fr td : Nat → Int} {t : TS} {w0 : va_W} {kn : Bool} (g : ¬ t.2.1 = 0) (h : MSF ad tys n B fr td w0 t ws) : V l D tys A 231 8 0 0 (fun r w => r = none ∧ MSF ad tys n B fr td w0 t w) 0 0 123 (stL 1 (.int (bI kn)) (lv_args 0 [.ref (ad 90)])) [] ws := by
  refine V_aload (v := ad 90) mi_231_123 (by simp [stL, lv_args, Value.category]) ?_
  refine V_callM (As := []) (st := []) mi_231_124 (by omega) (by decide +kernel) (by decide +kernel) h.1 (goodF_ct h) (by omega) (show 0 = mN 214 by decide +kernel) (by simp [Value.category]) ?_
  rintro r w1 ⟨rfl, rfl⟩
  rw [decide_eq_false g]
  refine V_bne mi_231_127 (fun c => absurd c Bool.false_ne_true) (fun _ => ?_)
  exact V_retV mi_231_130 ⟨rfl, h⟩
theorem nx_118 {n : Nat} {B fr td : Nat → Int} {s : TS} {w0 : va_W} {kn : Bool} (e : linN B n fr td s = (errS 3 s, fr, td)) (h : MSF ad tys n B fr td w0 s ws) : V l D tys A 231 8 0 0 (fun r w => r = none ∧ MSF ad tys n B (linN B n fr td s).2.1 (linN B n fr td s).2.2 w0 (linN B n fr td s).1 w) 0 0 118 (stL 1 (.int (bI kn)) (lv_args 0 [.ref (ad 90)])) [] ws := by
  refine V_aload (v := ad 90) mi_231_118 (by simp [stL, lv_args, Value.category]) ?_
  refine V_ipush mi_231_119 ?_
  refine V_callM (As := [.int (Int32.ofInt (3))]) (st := []) mi_231_120 (by omega) (by decide +kernel) (by decide +kernel) h.1 (errF_ct h (by omega) (by omega)) (by omega) (show 1 = mN 215 by decide +kernel) (by simp [Value.category]) ?_
  rintro r w ⟨rfl, h⟩
  rw [e]
  exact nx_bad (err_ok (by decide)) h
theorem nx_123 {n : Nat} {B fr td : Nat → Int} {s : TS} {w0 : va_W} {kn : Bool} (g : s.2.1 = 0) (bt : isSp B n xFoe s = false → isSp B n xName s = true ∨ isSp B n xStam s = true ∨ isSp B n xDeaf s = true ∨ isSp B n xGoes s = true ∨ isSp B n xKnow s = true ∨ isSp B n xSays s = true) (n6 : isSp B n xName s = true → ¬ fr 3 = 6) (n12 : isSp B n xSays s = true → ¬ fr 4 = 12) (h : MSF ad tys n B fr td w0 s ws) : V l D tys A 231 8 0 0 (fun r w => r = none ∧ MSF ad tys n B (linN B n fr td s).2.1 (linN B n fr td s).2.2 w0 (linN B n fr td s).1 w) 0 0 123 (stL 1 (.int (bI kn)) (lv_args 0 [.ref (ad 90)])) [] ws := by
  refine V_aload (v := ad 90) mi_231_123 (by simp [stL, lv_args, Value.category]) ?_
  refine V_callM (As := []) (st := []) mi_231_124 (by omega) (by decide +kernel) (by decide +kernel) h.1 (goodF_ct h) (by omega) (show 0 = mN 214 by decide +kernel) (by simp [Value.category]) ?_
  rintro r w1 ⟨rfl, rfl⟩
  rw [decide_eq_true g]
  refine V_bne mi_231_127 (fun _ => ?_) (fun c => absurd c.symm Bool.false_ne_true)
  refine V_sub (lv' := lv_args 0 [.ref (ad 90)]) (fun q hq => ?_) (nl_0 bt n6 n12 h)
  simp only [lv_args, List.mem_cons, List.not_mem_nil, or_false] at hq
  subst hq
  simp [stL, lv_args, Value.category]
theorem nx_98 {n : Nat} {B fr td : Nat → Int} {s : TS} {w0 : va_W} {kn : Bool} (g : s.2.1 = 0) (bt : isSp B n xFoe s = false → isSp B n xName s = true ∨ isSp B n xStam s = true ∨ isSp B n xDeaf s = true ∨ isSp B n xGoes s = true ∨ isSp B n xKnow s = true ∨ isSp B n xSays s = true) (n6 : isSp B n xName s = true → ¬ fr 3 = 6) (h : MSF ad tys n B fr td w0 s ws) : V l D tys A 231 8 0 0 (fun r w => r = none ∧ MSF ad tys n B (linN B n fr td s).2.1 (linN B n fr td s).2.2 w0 (linN B n fr td s).1 w) 0 0 98 (stL 1 (.int (bI kn)) (lv_args 0 [.ref (ad 90)])) [] ws := by
  obtain ⟨s96, e96, gN, gD, s3, s0, s4, s5⟩ := g96n
  have c4 := fr_seg h e96 (by omega) s4 (by omega) (by omega)
  refine V_aload (v := ad 90) mi_231_98 (by simp [stL, lv_args, Value.category]) ?_
  refine V_ldcS mi_231_99 ?_
  refine V_callM (As := [.ref (D.2 1000 22)]) (st := []) mi_231_101 (by omega) (by decide +kernel) (by decide +kernel) h.1 (ismF_ct (i := 22) (by omega) h) (by omega) (show 1 = mN 216 by decide +kernel) (by simp [Value.category]) ?_
  rintro r w1 ⟨rfl, rfl⟩
  change V l D tys A 231 8 0 0 _ 0 0 _ _ (.int (bI (isSp B n xSays s)) :: []) w1
  refine V_beq mi_231_104  (fun c => ?_) (fun c => ?_)
  · exact nx_123 g bt n6 (fun q => absurd (c.symm.trans q) Bool.false_ne_true) h
  · refine V_aload (v := ad 90) mi_231_107 (by simp [stL, lv_args, Value.category]) ?_
    refine V_getI mi_231_108 h.1 (rref gr14 (by omega) h.1) ?_
    refine V_ipush mi_231_111 ?_
    refine V_fresh (a := 0) (x := 0) h (j := 4) (by omega) rfl mi_231_112 ?_
    refine V_ipush mi_231_113 ?_
    refine V_cne mi_231_115 ⟨by have := c4; omega, by have := c4; omega⟩ ⟨by omega, by omega⟩ (fun q => ?_) (fun q => ?_)
    · exact nx_123 g bt n6 (fun _ => q) h
    · have nn : ∀ ds : List Int32, ds ≠ xSays → isSp B n ds s = false := fun ds hd => Bool.eq_false_iff.mpr (fun e => hd (sp_uniq e c))
      obtain ⟨d0, d1, d2, d3, d4, d6⟩ := says_not
      have b0 := nn _ d0
      have b1 := nn _ d1
      have b2 := nn _ d2
      have b3 := nn _ d3
      have b4 := nn _ d4
      have b5 := c
      refine nx_118 ?_ h
      unfold linN
      rw [if_neg (by rw [b0]; exact Bool.false_ne_true), if_neg (by rw [b1]; exact Bool.false_ne_true), if_neg (by rw [b2]; exact Bool.false_ne_true), if_neg (by rw [b3]; exact Bool.false_ne_true), if_neg (by rw [b4]; exact Bool.false_ne_true), if_pos b5, if_pos q]
theorem nx_78 {n : Nat} {B fr td : Nat → Int} {s : TS} {w0 : va_W} {kn : Bool} (g : s.2.1 = 0) (bt : isSp B n xFoe s = false → isSp B n xName s = true ∨ isSp B n xStam s = true ∨ isSp B n xDeaf s = true ∨ isSp B n xGoes s = true ∨ isSp B n xKnow s = true ∨ isSp B n xSays s = true) (h : MSF ad tys n B fr td w0 s ws) : V l D tys A 231 8 0 0 (fun r w => r = none ∧ MSF ad tys n B (linN B n fr td s).2.1 (linN B n fr td s).2.2 w0 (linN B n fr td s).1 w) 0 0 78 (stL 1 (.int (bI kn)) (lv_args 0 [.ref (ad 90)])) [] ws := by
  obtain ⟨s96, e96, gN, gD, s3, s0, s4, s5⟩ := g96n
  have c3 := fr_seg h e96 (by omega) s3 (by omega) (by omega)
  refine V_aload (v := ad 90) mi_231_78 (by simp [stL, lv_args, Value.category]) ?_
  refine V_ldcS mi_231_79 ?_
  refine V_callM (As := [.ref (D.2 1000 17)]) (st := []) mi_231_81 (by omega) (by decide +kernel) (by decide +kernel) h.1 (ismF_ct (i := 17) (by omega) h) (by omega) (show 1 = mN 216 by decide +kernel) (by simp [Value.category]) ?_
  rintro r w1 ⟨rfl, rfl⟩
  change V l D tys A 231 8 0 0 _ 0 0 _ _ (.int (bI (isSp B n xName s)) :: []) w1
  refine V_beq mi_231_84  (fun c => ?_) (fun c => ?_)
  · exact nx_98 g bt (fun q => absurd (c.symm.trans q) Bool.false_ne_true) h
  · refine V_aload (v := ad 90) mi_231_87 (by simp [stL, lv_args, Value.category]) ?_
    refine V_getI mi_231_88 h.1 (rref gr14 (by omega) h.1) ?_
    refine V_ipush mi_231_91 ?_
    refine V_fresh (a := 0) (x := 0) h (j := 3) (by omega) rfl mi_231_92 ?_
    refine V_ipush mi_231_93 ?_
    refine V_ceq mi_231_95 ⟨by have := c3; omega, by have := c3; omega⟩ ⟨by omega, by omega⟩ (fun q => ?_) (fun q => ?_)
    · have b0 := c
      refine nx_118 ?_ h
      unfold linN
      rw [if_pos b0, if_pos q]
    · exact nx_98 g bt (fun _ => q) h
theorem nx_78b {n : Nat} {B fr td : Nat → Int} {t : TS} {w0 : va_W} {kn : Bool} (g : ¬ t.2.1 = 0) (h : MSF ad tys n B fr td w0 t ws) : V l D tys A 231 8 0 0 (fun r w => r = none ∧ MSF ad tys n B fr td w0 t w) 0 0 78 (stL 1 (.int (bI kn)) (lv_args 0 [.ref (ad 90)])) [] ws := by
  refine V_aload (v := ad 90) mi_231_78 (by simp [stL, lv_args, Value.category]) ?_
  refine V_ldcS mi_231_79 ?_
  refine V_callM (As := [.ref (D.2 1000 17)]) (st := []) mi_231_81 (by omega) (by decide +kernel) (by decide +kernel) h.1 (ismF_ct (i := 17) (by omega) h) (by omega) (show 1 = mN 216 by decide +kernel) (by simp [Value.category]) ?_
  rintro r w1 ⟨rfl, rfl⟩
  rw [sp_bad g]
  refine V_beq mi_231_84 (fun _ => ?_) (fun c => absurd c Bool.false_ne_true)
  refine V_aload (v := ad 90) mi_231_98 (by simp [stL, lv_args, Value.category]) ?_
  refine V_ldcS mi_231_99 ?_
  refine V_callM (As := [.ref (D.2 1000 22)]) (st := []) mi_231_101 (by omega) (by decide +kernel) (by decide +kernel) h.1 (ismF_ct (i := 22) (by omega) h) (by omega) (show 1 = mN 216 by decide +kernel) (by simp [Value.category]) ?_
  rintro r w2 ⟨rfl, rfl⟩
  rw [sp_bad g]
  refine V_beq mi_231_104 (fun _ => ?_) (fun c => absurd c Bool.false_ne_true)
  exact nx_bad g h
theorem nx_68 {n : Nat} {B fr td : Nat → Int} {s : TS} {w0 : va_W} {kn : Bool} (g : s.2.1 = 0) (bt : kn = true → isSp B n xFoe s = false → isSp B n xName s = true ∨ isSp B n xStam s = true ∨ isSp B n xDeaf s = true ∨ isSp B n xGoes s = true ∨ isSp B n xKnow s = true ∨ isSp B n xSays s = true) (un : kn = false → linN B n fr td s = (errS 1 s, fr, td)) (h : MSF ad tys n B fr td w0 s ws) : V l D tys A 231 8 0 0 (fun r w => r = none ∧ MSF ad tys n B (linN B n fr td s).2.1 (linN B n fr td s).2.2 w0 (linN B n fr td s).1 w) 0 0 68 (lv_args 0 [.ref (ad 90)]) [.int (bI kn)] ws := by
  refine V_istore mi_231_68 ?_
  refine V_iload (v := bI kn) mi_231_69 (by simp [stL, lv_args, Value.category]) ?_
  refine V_bne mi_231_70  (fun c => ?_) (fun c => ?_)
  · exact nx_78 g (bt c) h
  · refine V_aload (v := ad 90) mi_231_73 (by simp [stL, lv_args, Value.category]) ?_
    refine V_ipush mi_231_74 ?_
    refine V_callM (As := [.int (Int32.ofInt (1))]) (st := []) mi_231_75 (by omega) (by decide +kernel) (by decide +kernel) h.1 (errF_ct h (by omega) (by omega)) (by omega) (show 1 = mN 215 by decide +kernel) (by simp [Value.category]) ?_
    rintro r w ⟨rfl, h⟩
    have e : linN B n fr td s = (errS 1 s, fr, td) := un c
    rw [e]
    exact nx_78b (err_ok (by decide)) h
theorem nxm_ct {n : Nat} {B fr td : Nat → Int} {s : TS} {w0 : va_W} (g : s.2.1 = 0) (h : MSF ad tys n B fr td w0 s ws) : CT l D tys A 231 8 0 0 [.ref (ad 90)] ws (fun r w => r = none ∧ MSF ad tys n B (linN B n fr td s).2.1 (linN B n fr td s).2.2 w0 (linN B n fr td s).1 w) := by
  refine CT_of_V (by omega) (show (1 : Nat) ≤ mML 231 by decide +kernel) ?_
  have t63 : (isSp B n xFoe s = false → isSp B n xName s = true ∨ isSp B n xStam s = true ∨ isSp B n xDeaf s = true ∨ isSp B n xGoes s = true ∨ isSp B n xKnow s = true ∨ isSp B n xSays s = true) → V l D tys A 231 8 0 0 (fun r w => r = none ∧ MSF ad tys n B (linN B n fr td s).2.1 (linN B n fr td s).2.2 w0 (linN B n fr td s).1 w) 0 0 63 (lv_args 0 [.ref (ad 90)]) [] ws := fun bt => by
    refine V_ipush mi_231_63 ?_
    refine V_goto mi_231_64 ?_
    exact nx_68 (kn := true) g (fun _ => bt) (fun c => absurd c.symm Bool.false_ne_true) h
  refine V_aload (v := ad 90) mi_231_0 (by simp [stL, lv_args, Value.category]) ?_
  refine V_ldcS mi_231_1 ?_
  refine V_callM (As := [.ref (D.2 1000 17)]) (st := []) mi_231_3 (by omega) (by decide +kernel) (by decide +kernel) h.1 (ismF_ct (i := 17) (by omega) h) (by omega) (show 1 = mN 216 by decide +kernel) (by simp [Value.category]) ?_
  rintro r w1 ⟨e, rfl⟩
  subst e
  change V l D tys A 231 8 0 0 _ 0 0 _ _ (.int (bI (isSp B n xName s)) :: []) _
  refine V_bne mi_231_6  (fun c0 => ?_) (fun c0 => ?_)
  · exact t63 (fun _ => Or.inl c0)
  · refine V_aload (v := ad 90) mi_231_9 (by simp [stL, lv_args, Value.category]) ?_
    refine V_ldcS mi_231_10 ?_
    refine V_callM (As := [.ref (D.2 1000 18)]) (st := []) mi_231_12 (by omega) (by decide +kernel) (by decide +kernel) h.1 (ismF_ct (i := 18) (by omega) h) (by omega) (show 1 = mN 216 by decide +kernel) (by simp [Value.category]) ?_
    rintro r w1 ⟨e, rfl⟩
    subst e
    change V l D tys A 231 8 0 0 _ 0 0 _ _ (.int (bI (isSp B n xStam s)) :: []) _
    refine V_bne mi_231_15  (fun c1 => ?_) (fun c1 => ?_)
    · exact t63 (fun _ => Or.inr (Or.inl c1))
    · refine V_aload (v := ad 90) mi_231_18 (by simp [stL, lv_args, Value.category]) ?_
      refine V_ldcS mi_231_19 ?_
      refine V_callM (As := [.ref (D.2 1000 19)]) (st := []) mi_231_21 (by omega) (by decide +kernel) (by decide +kernel) h.1 (ismF_ct (i := 19) (by omega) h) (by omega) (show 1 = mN 216 by decide +kernel) (by simp [Value.category]) ?_
      rintro r w1 ⟨e, rfl⟩
      subst e
      change V l D tys A 231 8 0 0 _ 0 0 _ _ (.int (bI (isSp B n xDeaf s)) :: []) _
      refine V_bne mi_231_24  (fun c2 => ?_) (fun c2 => ?_)
      · exact t63 (fun _ => Or.inr (Or.inr (Or.inl c2)))
      · refine V_aload (v := ad 90) mi_231_27 (by simp [stL, lv_args, Value.category]) ?_
        refine V_ldcS mi_231_28 ?_
        refine V_callM (As := [.ref (D.2 1000 20)]) (st := []) mi_231_30 (by omega) (by decide +kernel) (by decide +kernel) h.1 (ismF_ct (i := 20) (by omega) h) (by omega) (show 1 = mN 216 by decide +kernel) (by simp [Value.category]) ?_
        rintro r w1 ⟨e, rfl⟩
        subst e
        change V l D tys A 231 8 0 0 _ 0 0 _ _ (.int (bI (isSp B n xGoes s)) :: []) _
        refine V_bne mi_231_33  (fun c3 => ?_) (fun c3 => ?_)
        · exact t63 (fun _ => Or.inr (Or.inr (Or.inr (Or.inl c3))))
        · refine V_aload (v := ad 90) mi_231_36 (by simp [stL, lv_args, Value.category]) ?_
          refine V_ldcS mi_231_37 ?_
          refine V_callM (As := [.ref (D.2 1000 21)]) (st := []) mi_231_39 (by omega) (by decide +kernel) (by decide +kernel) h.1 (ismF_ct (i := 21) (by omega) h) (by omega) (show 1 = mN 216 by decide +kernel) (by simp [Value.category]) ?_
          rintro r w1 ⟨e, rfl⟩
          subst e
          change V l D tys A 231 8 0 0 _ 0 0 _ _ (.int (bI (isSp B n xKnow s)) :: []) _
          refine V_bne mi_231_42  (fun c4 => ?_) (fun c4 => ?_)
          · exact t63 (fun _ => Or.inr (Or.inr (Or.inr (Or.inr (Or.inl c4)))))
          · refine V_aload (v := ad 90) mi_231_45 (by simp [stL, lv_args, Value.category]) ?_
            refine V_ldcS mi_231_46 ?_
            refine V_callM (As := [.ref (D.2 1000 22)]) (st := []) mi_231_48 (by omega) (by decide +kernel) (by decide +kernel) h.1 (ismF_ct (i := 22) (by omega) h) (by omega) (show 1 = mN 216 by decide +kernel) (by simp [Value.category]) ?_
            rintro r w1 ⟨e, rfl⟩
            subst e
            change V l D tys A 231 8 0 0 _ 0 0 _ _ (.int (bI (isSp B n xSays s)) :: []) _
            refine V_bne mi_231_51  (fun c5 => ?_) (fun c5 => ?_)
            · exact t63 (fun _ => Or.inr (Or.inr (Or.inr (Or.inr (Or.inr (c5))))))
            · refine V_aload (v := ad 90) mi_231_54 (by simp [stL, lv_args, Value.category]) ?_
              refine V_ldcS mi_231_55 ?_
              refine V_callM (As := [.ref (D.2 1000 23)]) (st := []) mi_231_57 (by omega) (by decide +kernel) (by decide +kernel) h.1 (ismF_ct (i := 23) (by omega) h) (by omega) (show 1 = mN 216 by decide +kernel) (by simp [Value.category]) ?_
              rintro r w1 ⟨e, rfl⟩
              subst e
              change V l D tys A 231 8 0 0 _ 0 0 _ _ (.int (bI (isSp B n xFoe s)) :: []) _
              refine V_beq mi_231_60  (fun c6 => ?_) (fun c6 => ?_)
              · refine V_ipush mi_231_67 ?_
                refine nx_68 (kn := false) g (fun c => absurd c Bool.false_ne_true) (fun _ => ?_) h
                unfold linN
                rw [if_neg (by rw [c0]; exact Bool.false_ne_true), if_neg (by rw [c1]; exact Bool.false_ne_true), if_neg (by rw [c2]; exact Bool.false_ne_true), if_neg (by rw [c3]; exact Bool.false_ne_true), if_neg (by rw [c4]; exact Bool.false_ne_true), if_neg (by rw [c5]; exact Bool.false_ne_true), if_neg (by rw [c6]; exact Bool.false_ne_true)]
              · exact t63 (fun e => absurd (e.symm.trans c6) Bool.false_ne_true)
end XMO
end
section
section XPU
/-- a token of the text; and how readers go on -/
noncomputable def TKA (B : Nat → Int) (n : Nat) (s : TS) : Prop := ∃ e, e ≤ n ∧ s.1.1 = tkK B n e ∧ s.1.2.1 = tkI B n e ∧ s.1.2.2.1 = tkE B n e
noncomputable def lS (B : Nat → Int) (n : Nat) (s t : TS) : Prop := tsOK n s → tsOK n t ∧ s.1.2.1 ≤ t.1.2.1 ∧ (TKA B n s → TKA B n t)
theorem lS_rf {B : Nat → Int} {n : Nat} {s : TS} : lS B n s s := fun h => ⟨h, Nat.le_refl _, fun q => q⟩
theorem lS_tr {B : Nat → Int} {n : Nat} {s t u : TS} (h : lS B n s t) (k : lS B n t u) : lS B n s u := fun o => by
  obtain ⟨a, b, c⟩ := h o
  obtain ⟨d, e, f⟩ := k a
  exact ⟨d, Nat.le_trans b e, fun q => f (c q)⟩
theorem lS_adv {B : Nat → Int} {n : Nat} {s : TS} : lS B n s (advS B n s) := fun o => by
  obtain ⟨h1, h2, h3, h4⟩ := id o
  obtain ⟨t1, t2, t3⟩ := tk_bd (B := B) (n := n) (a := s.1.2.2.1) (v := s.1.2.2.2) h2.2 h3.1 h3.2
  exact ⟨adv_OK o, Nat.le_trans h2.1 t2.1, fun _ => ⟨s.1.2.2.1, h2.2, rfl, rfl, rfl⟩⟩
theorem lS_err {B : Nat → Int} {n : Nat} {e : Int} {s : TS} (e1 : 1 ≤ e) (e3 : e ≤ 3) : lS B n s (errS e s) := fun o => by
  refine ⟨err_OK o e1 e3, ?_, fun q => ?_⟩
  · unfold errS
    split <;> exact Nat.le_refl _
  · unfold errS
    split
    · exact q
    · exact q
theorem lS_num2 {B : Nat → Int} {n : Nat} {lo hi : Int} {s : TS} : lS B n s (num2 lo hi s) := by
  unfold num2
  have h1 : lS B n s (num1 s) := by
    unfold num1
    split
    · exact lS_err (by omega) (by omega)
    · exact lS_rf
  split
  · exact lS_tr h1 (lS_err (by omega) (by omega))
  · exact h1
theorem lS_num {B : Nat → Int} {n : Nat} {lo hi : Int} {s : TS} : lS B n s (numT B n lo hi s) := by
  rw [numT_2]
  split
  · exact lS_tr lS_num2 lS_adv
  · exact lS_num2
theorem lS_need {B : Nat → Int} {n : Nat} {cs : List Int32} {s : TS} : lS B n s (needS B n cs s) := by
  unfold needS
  split
  · exact lS_adv
  · exact lS_err (by omega) (by omega)
theorem lS_oth {B : Nat → Int} {n : Nat} {fr : Nat → Int} {f : Int} {s : TS} : lS B n s (otheT B n fr f s) := by
  unfold otheT folkT
  refine lS_tr (t := otheP f s) ?_ lS_num
  unfold otheP
  split
  · exact lS_err (by omega) (by omega)
  · exact lS_rf
theorem lS_nam1 {B : Nat → Int} {n : Nat} {y : Int} {k : Nat} {s : TS} : lS B n s (nam1 y k s) := by
  unfold nam1
  split
  · exact lS_err (by omega) (by omega)
  · exact lS_rf
theorem lS_namW {B : Nat → Int} {n : Nat} {y : Int} {F : Nat} : ∀ {f k : Nat} {s : TS} {g : Nat → Int}, lS B n s (namW B n y F f k s g).1
  | 0, k, s, g => lS_rf
  | f + 1, k, s, g => by
    have h : lS B n s (namN B n y k s) := lS_tr lS_nam1 lS_num
    unfold namW
    split
    · split
      · exact h
      · exact lS_tr h lS_namW
    · exact h
theorem lS_lin {B : Nat → Int} {n : Nat} {fr td : Nat → Int} {s : TS} : lS B n s (linW B n fr td s).1 := by
  unfold linW
  split
  · show lS B n s (firT B n s)
    exact lS_tr lS_need (lS_tr (lS_tr lS_need lS_num) (lS_tr (lS_tr lS_need lS_num) (lS_tr lS_need lS_num)))
  · unfold linN
    split
    · split
      · exact lS_err (by omega) (by omega)
      · exact lS_tr lS_adv lS_namW
    · split
      · exact lS_tr lS_adv (lS_tr lS_num lS_num)
      · split
        · exact lS_tr lS_adv (lS_tr lS_num lS_num)
        · split
          · exact lS_tr lS_adv (lS_tr lS_num (lS_tr lS_num (lS_tr lS_need lS_num)))
          · split
            · exact lS_tr lS_adv (lS_tr lS_num (lS_tr lS_oth lS_num))
            · split
              · split
                · exact lS_err (by omega) (by omega)
                · exact lS_tr lS_adv (lS_tr lS_num (lS_tr lS_num (lS_tr lS_num (lS_tr lS_need lS_num))))
              · split
                · exact lS_tr lS_adv (lS_tr lS_num lS_oth)
                · exact lS_err (by omega) (by omega)
theorem tka_lt {B : Nat → Int} {n : Nat} {s : TS} (h : TKA B n s) (hn : n ≤ 1400) (k : ¬ s.1.1 = 0) : s.1.2.1 < s.1.2.2.1 ∧ s.1.2.1 < n := by
  obtain ⟨e, he, e1, e2, e3⟩ := h
  have i2 : tkI B n e ≤ n := run_le (by decide) he
  rw [e1] at k
  rw [e2, e3]
  unfold tkK at k
  unfold tkE
  by_cases hC : tkC B n e = -1
  · rw [if_pos hC] at k
    exact absurd rfl k
  · have iI : tkI B n e < n := see_lt hC
    rw [if_neg hC]
    by_cases hL : leB (tkC B n e) = true
    · rw [if_pos hL, run_step (by decide) hn i2 hL]
      exact ⟨run_ge, iI⟩
    · rw [if_neg hL]
      by_cases hD : diB (tkC B n e) = true
      · rw [if_pos hD, run_step (by decide) hn i2 hD]
        exact ⟨run_ge, iI⟩
      · rw [if_neg hD]
        exact ⟨by omega, iI⟩
theorem sign_ok {s : TS} (h : (signS s).2.1 = 0) : s.2.1 = 0 ∧ s.1.1 = 3 ∧ signS s = s := by
  unfold signS at h ⊢
  split at h
  · exact absurd h (err_ok (by decide))
  · next q =>
    rw [if_neg q]
    refine ⟨h, ?_, rfl⟩
    by_cases e : s.1.1 = 3
    · exact e
    · exact absurd ⟨h, e⟩ q
/-- a whole line goes on in the text, unless there is a fault -/
theorem lin_up {B : Nat → Int} {n : Nat} {x : TS × (Nat → Int) × (Nat → Int)} (o : tsOK n x.1) (a : TKA B n x.1) (hn : n ≤ 1400) (h : (linS B n x).1.2.1 = 0) : tsOK n (linS B n x).1 ∧ TKA B n (linS B n x).1 ∧ x.1.1.2.1 < (linS B n x).1.1.2.1 := by
  obtain ⟨o1, s1, a1⟩ := lS_lin (B := B) (n := n) (fr := x.2.1) (td := x.2.2) (s := x.1) o
  have g : (signS (linW B n x.2.1 x.2.2 x.1).1).2.1 = 0 := by
    unfold linS at h
    by_cases q : (signS (linW B n x.2.1 x.2.2 x.1).1).2.1 = 0
    · exact q
    · rw [if_neg q] at h
      exact h
  obtain ⟨g1, g2, g3⟩ := sign_ok g
  have e : (linS B n x).1 = advS B n (linW B n x.2.1 x.2.2 x.1).1 := by
    unfold linS
    rw [if_pos g, g3]
  obtain ⟨t1, t2⟩ := tka_lt (a1 a) hn (by rw [g2]; decide)
  obtain ⟨o2, s2, a2⟩ := lS_adv (B := B) (n := n) (s := (linW B n x.2.1 x.2.2 x.1).1) o1
  rw [e]
  refine ⟨o2, a2 (a1 a), ?_⟩
  have i1 : (linW B n x.2.1 x.2.2 x.1).1.1.2.2.1 ≤ (advS B n (linW B n x.2.1 x.2.2 x.1).1).1.2.1 := run_ge
  omega
theorem updI_ne {g : Nat → Int} {i j : Nat} {z : Int} (h : i ≠ j) : updI g j z i = g i := by
  show (if i = j then z else g i) = _
  rw [if_neg h]
theorem namW_5 {B : Nat → Int} {n : Nat} {y : Int} {F : Nat} : ∀ {f k : Nat} {s : TS} {g : Nat → Int}, (namW B n y F f k s g).2.2 5 = g 5
  | 0, k, s, g => rfl
  | f + 1, k, s, g => by
    unfold namW
    split
    · split
      · exact updI_ne (by omega)
      · rw [namW_5]
        exact updI_ne (by omega)
    · rfl
/-- a line doesn't touch the number of lines, until its end -/
theorem lin_5 {B : Nat → Int} {n : Nat} {fr td : Nat → Int} {s : TS} : (linW B n fr td s).2.1 5 = fr 5 := by
  unfold linW
  split
  · show firF B n fr s 5 = fr 5
    unfold firF
    rw [updI_ne (by omega), updI_ne (by omega), updI_ne (by omega)]
  · unfold linN
    split
    · split
      · rfl
      · show namZ _ _ 5 = fr 5
        unfold namZ
        split
        · rw [updI_ne (by omega), updI_ne (by omega), updI_ne (by omega), namW_5]
        · rw [namW_5]
    · split
      · show stF fr B n _ 5 = fr 5
        unfold stF
        split
        · rw [updI_ne (by omega)]
        · rfl
      · split
        · show deF fr B n _ 5 = fr 5
          unfold deF
          split
          · rw [updI_ne (by omega)]
          · rfl
        · split
          · rfl
          · split
            · show knG fr B n _ 5 = fr 5
              unfold knG
              split
              · rw [updI_ne (by unfold knJ; omega)]
              · rfl
            · split
              · split
                · rfl
                · show saG fr B n _ 5 = fr 5
                  unfold saG
                  split
                  · have : ∀ r, 5 ≠ saK fr + r := fun r => by unfold saK; omega
                    rw [updI_ne (by omega), updI_ne (this 3), updI_ne (this 2), updI_ne (this 1)]
                    exact updI_ne (this 0)
                  · rfl
              · split
                · show foF fr B n _ 5 = fr 5
                  unfold foF
                  split
                  · rw [updI_ne (by omega)]
                  · rfl
                · rfl
theorem linS_5 {B : Nat → Int} {n : Nat} {x : TS × (Nat → Int) × (Nat → Int)} : (linS B n x).2.1 5 = x.2.1 5 + 1 := by
  have e : ∀ (g : Nat → Int) (z : Int), updI g 5 z 5 = z := fun g z => if_pos rfl
  show updI (linW B n x.2.1 x.2.2 x.1).2.1 5 ((linW B n x.2.1 x.2.2 x.1).2.1 5 + 1) 5 = _
  rw [e, lin_5]
/-- the stays, spread: where one is told to be, and from then on -/
noncomputable def sprV (td : Nat → Int) (f : Nat) : Nat → Int
  | 0 => 0
  | h + 1 => if td (24 * f + h) = -1 then sprV td f h else td (24 * f + h)
noncomputable def sprT (td : Nat → Int) (j : Nat) : Int := sprV td (j / 24) (j % 24 + 1)
/-- all that is kept at the end -/
noncomputable def endG (x : TS × (Nat → Int) × (Nat → Int)) : Nat → Int := fx x.2.1 (sprT x.2.2)
end XPU
section XMQ
variable {l : Launch} {D : va_G} {tys : List (ClassId × FieldType)} {A : Nat → Prop} {ad : Nat → Nat} {ws : va_W}
theorem ln_40 {n : Nat} {B fr td : Nat → Int} {s : TS} {w0 : va_W} (f5 : fr 5 ≤ 4000) (f0 : 0 ≤ fr 5) (h : MSF ad tys n B fr td w0 s ws) : V l D tys A 232 9 0 0 (fun r w => r = none ∧ MSF ad tys n B (updI fr 5 (fr 5 + 1)) td w0 (if s.2.1 = 0 then advS B n s else s) w) 0 0 40 (lv_args 0 [.ref (ad 90)]) [] ws := by
  obtain ⟨s96, e96, gN, gD, s3, s0, s4, s5⟩ := g96n
  refine V_aload (v := ad 90) mi_232_40 (by simp [stL, lv_args, Value.category]) ?_
  refine V_callM (As := []) (st := []) mi_232_41 (by omega) (by decide +kernel) (by decide +kernel) h.1 (goodF_ct h) (by omega) (show 0 = mN 214 by decide +kernel) (by simp [Value.category]) ?_
  rintro r w1 ⟨rfl, rfl⟩
  refine V_beq mi_232_44  (fun c => ?_) (fun c => ?_)
  · rw [if_neg (of_decide_eq_false c)]
    refine V_aload (v := ad 90) mi_232_51 (by simp [stL, lv_args, Value.category]) ?_
    refine V_getI mi_232_52 h.1 (rref gr14 (by omega) h.1) ?_
    refine V_ipush mi_232_55 ?_
    refine V_dup2 mi_232_56 (by simp [Value.category]) (by simp [Value.category]) ?_
    refine V_fresh (a := 0) (x := 0) h (j := 5) (by omega) rfl mi_232_57 ?_
    refine V_ipush mi_232_58 ?_
    refine V_ibin mi_232_59 (by omega) ?_
    rw [ib0]
    refine V_fst (z := fr 5 + 1) h e96 (j := 5) (by omega) rfl mi_232_60 s5 (by omega) (by omega) (by omega) (by omega) (fun w h => ?_)
    exact V_retV mi_232_61 ⟨rfl, h⟩
  · rw [if_pos (of_decide_eq_true c)]
    refine V_aload (v := ad 90) mi_232_47 (by simp [stL, lv_args, Value.category]) ?_
    refine V_callM (As := []) (st := []) mi_232_48 (by omega) (by decide +kernel) (by decide +kernel) h.1 (advF_ct h) (by omega) (show 0 = mN 213 by decide +kernel) (by simp [Value.category]) ?_
    rintro r w ⟨rfl, h⟩
    refine V_aload (v := ad 90) mi_232_51 (by simp [stL, lv_args, Value.category]) ?_
    refine V_getI mi_232_52 h.1 (rref gr14 (by omega) h.1) ?_
    refine V_ipush mi_232_55 ?_
    refine V_dup2 mi_232_56 (by simp [Value.category]) (by simp [Value.category]) ?_
    refine V_fresh (a := 0) (x := 0) h (j := 5) (by omega) rfl mi_232_57 ?_
    refine V_ipush mi_232_58 ?_
    refine V_ibin mi_232_59 (by omega) ?_
    rw [ib0]
    refine V_fst (z := fr 5 + 1) h e96 (j := 5) (by omega) rfl mi_232_60 s5 (by omega) (by omega) (by omega) (by omega) (fun w h => ?_)
    exact V_retV mi_232_61 ⟨rfl, h⟩
theorem ln_20 {n : Nat} {B fr td : Nat → Int} {s : TS} {w0 : va_W} (f5 : fr 5 ≤ 4000) (f0 : 0 ≤ fr 5) (h : MSF ad tys n B fr td w0 s ws) : V l D tys A 232 9 0 0 (fun r w => r = none ∧ MSF ad tys n B (updI fr 5 (fr 5 + 1)) td w0 (if (signS s).2.1 = 0 then advS B n (signS s) else signS s) w) 0 0 20 (lv_args 0 [.ref (ad 90)]) [] ws := by
  refine V_aload (v := ad 90) mi_232_20 (by simp [stL, lv_args, Value.category]) ?_
  refine V_callM (As := []) (st := []) mi_232_21 (by omega) (by decide +kernel) (by decide +kernel) h.1 (goodF_ct h) (by omega) (show 0 = mN 214 by decide +kernel) (by simp [Value.category]) ?_
  rintro r w1 ⟨rfl, rfl⟩
  refine V_beq mi_232_24  (fun c => ?_) (fun c => ?_)
  · have e : signS s = s := by
      unfold signS
      rw [if_neg (fun q => of_decide_eq_false c q.1)]
    rw [e]
    exact ln_40 f5 f0 h
  · obtain ⟨hG, ⟨T, ok, h10, h9, h8, h11, h12, h13⟩, f12, O⟩ := id h
    obtain ⟨b1, b2, b3, b4⟩ := ok
    refine V_aload (v := ad 90) mi_232_27 (by simp [stL, lv_args, Value.category]) ?_
    refine V_getI mi_232_28 h.1 (h10) ?_
    refine V_ipush mi_232_31 ?_
    refine V_ceq mi_232_32 ⟨by omega, by omega⟩ ⟨by omega, by omega⟩ (fun q => ?_) (fun q => ?_)
    · have e : signS s = s := by
        unfold signS
        rw [if_neg (fun q2 => q2.2 q)]
      rw [e]
      exact ln_40 f5 f0 h
    · refine V_aload (v := ad 90) mi_232_35 (by simp [stL, lv_args, Value.category]) ?_
      refine V_ipush mi_232_36 ?_
      refine V_callM (As := [.int (Int32.ofInt (1))]) (st := []) mi_232_37 (by omega) (by decide +kernel) (by decide +kernel) h.1 (errF_ct h (by omega) (by omega)) (by omega) (show 1 = mN 215 by decide +kernel) (by simp [Value.category]) ?_
      rintro r w ⟨rfl, h⟩
      have e : signS s = errS 1 s := by
        unfold signS
        rw [if_pos ⟨of_decide_eq_true c, q⟩]
      rw [e]
      exact ln_40 f5 f0 h
theorem lim_ct {n : Nat} {B fr td : Nat → Int} {s : TS} {w0 : va_W} (g : s.2.1 = 0) (f5 : fr 5 ≤ 4000) (f0 : 0 ≤ fr 5) (h : MSF ad tys n B fr td w0 s ws) : CT l D tys A 232 9 0 0 [.ref (ad 90)] ws (fun r w => r = none ∧ MSF ad tys n B (linS B n (s, fr, td)).2.1 (linS B n (s, fr, td)).2.2 w0 (linS B n (s, fr, td)).1 w) := by
  refine CT_of_V (by omega) (show (1 : Nat) ≤ mML 232 by decide +kernel) ?_
  refine V_aload (v := ad 90) mi_232_0 (by simp [stL, lv_args, Value.category]) ?_
  refine V_getI mi_232_1 h.1 (rref gr14 (by omega) h.1) ?_
  refine V_ipush mi_232_4 ?_
  refine V_fresh (a := 0) (x := 0) h (j := 5) (by omega) rfl mi_232_5 ?_
  refine V_zne mi_232_6 ⟨by omega, by omega⟩ (fun q => ?_) (fun q => ?_)
  · refine V_aload (v := ad 90) mi_232_16 (by simp [stL, lv_args, Value.category]) ?_
    refine V_callM (As := []) (st := []) mi_232_17 (by omega) (by decide +kernel) (by decide +kernel) h.1 (nxm_ct g h) (by omega) (show 0 = mN 231 by decide +kernel) (by simp [Value.category]) ?_
    rintro r w ⟨rfl, h⟩
    have e : linW B n fr td s = linN B n fr td s := by
      unfold linW
      rw [if_neg q]
    unfold linS
    rw [← e] at h
    exact ln_20 (by rw [lin_5]; omega) (by rw [lin_5]; omega) h
  · refine V_aload (v := ad 90) mi_232_9 (by simp [stL, lv_args, Value.category]) ?_
    refine V_callM (As := []) (st := []) mi_232_10 (by omega) (by decide +kernel) (by decide +kernel) h.1 (firm_ct h) (by omega) (show 0 = mN 225 by decide +kernel) (by simp [Value.category]) ?_
    rintro r w ⟨rfl, h⟩
    refine V_goto mi_232_13 ?_
    have e : linW B n fr td s = (firT B n s, firF B n fr s, td) := by
      unfold linW
      rw [if_pos q]
    unfold linS
    replace h : MSF ad tys n B (linW B n fr td s).2.1 (linW B n fr td s).2.2 w0 (linW B n fr td s).1 w := by rw [e]; exact h
    exact ln_20 (by rw [lin_5]; omega) (by rw [lin_5]; omega) h
theorem goD_td {B : Nat → Int} {n : Nat} {fr td : Nat → Int} {s : TS} (h : tdOK td) (f1 : fr 1 ≤ 4) : tdOK (goD fr td B n s) := by
  unfold goD
  split
  · intro j hj
    show -1 ≤ (if j = _ then _ else td j) ∧ (if j = _ then _ else td j) ≤ 3
    split
    · rcases numR_bd (lo := 0) (hi := fr 1 - 1) (s := folkT B n fr s) with e | e <;> omega
    · exact h j hj
  · exact h
theorem lin_td {B : Nat → Int} {n : Nat} {fr td : Nat → Int} {s : TS} (h : tdOK td) (f1 : fr 1 ≤ 4) : tdOK (linW B n fr td s).2.2 := by
  unfold linW
  split
  · exact h
  · unfold linN
    split
    · split <;> exact h
    · split
      · exact h
      · split
        · exact h
        · split
          · exact goD_td h f1
          · split
            · exact h
            · split
              · split <;> exact h
              · split <;> exact h
theorem hl_78 {n : Nat} {B : Nat → Int} {w0 : va_W} {post : Option Value → va_W → Prop} : ∀ (f : Nat) (x : TS × (Nat → Int) × (Nat → Int)) (w : va_W), (∀ w' : va_W, MSF ad tys n B (linA B n f x).2.1 (linA B n f x).2.2 w0 (linA B n f x).1 w' → tdOK (linA B n f x).2.2 → V l D tys A 233 10 0 0 post 0 0 99 [(0, .ref (ad 90))] [] w') → MSF ad tys n B x.2.1 x.2.2 w0 x.1 w → tdOK x.2.2 → (x.1.2.1 = 0 → TKA B n x.1 ∧ n - x.1.1.2.1 < f ∧ x.2.1 5 ≤ (x.1.1.2.1 : Int)) → V l D tys A 233 10 0 0 post 0 0 78 [(0, .ref (ad 90))] [] w
  | f, x, w, kk, h, t, hm => by
    refine V_aload (v := ad 90) mi_233_78 (by simp [stL, lv_args, Value.category]) ?_
    refine V_callM (As := []) (st := []) mi_233_79 (by omega) (by decide +kernel) (by decide +kernel) h.1 (goodF_ct h) (by omega) (show 0 = mN 214 by decide +kernel) (by simp [Value.category]) ?_
    rintro r w1 ⟨e1, rfl⟩
    subst e1
    refine V_beq mi_233_82  (fun c => ?_) (fun c => ?_)
    · have e : linA B n f x = x := by
        cases f with
        | zero => rfl
        | succ f => unfold linA; rw [if_neg (fun q => of_decide_eq_false c q.1)]
      rw [e] at kk
      exact kk _ h t
    · have g : x.1.2.1 = 0 := of_decide_eq_true c
      obtain ⟨hG, ⟨T, ok, h10, h9, h8, h11, h12, h13⟩, f12, O⟩ := id h
      obtain ⟨b1, b2, b3, b4⟩ := id ok
      obtain ⟨m1, m2, m3⟩ := hm g
      have n14 := T.2.1
      refine V_aload (v := ad 90) mi_233_85 (by simp [stL, lv_args, Value.category]) ?_
      refine V_getI mi_233_86 h.1 (h10) ?_
      refine V_zeq mi_233_89 ⟨by omega, by omega⟩ (fun q => ?_) (fun q => ?_)
      · have e : linA B n f x = x := by
          cases f with
          | zero => rfl
          | succ f => unfold linA; rw [if_neg (fun q2 => q2.2 q)]
        rw [e] at kk
        exact kk _ h t
      · obtain ⟨l1, l2⟩ := tka_lt m1 n14 q
        refine V_aload (v := ad 90) mi_233_92 (by simp [stL, lv_args, Value.category]) ?_
        refine V_callM (As := []) (st := []) mi_233_93 (by omega) (by decide +kernel) (by decide +kernel) h.1 (lim_ct g (by omega) (f12.1 5 (by omega)).2.1 h) (by omega) (show 0 = mN 232 by decide +kernel) (by simp [Value.category]) ?_
        rintro r w2 ⟨rfl, h2⟩
        refine V_goto mi_233_96 ?_
        obtain ⟨s96, e96, -, b96, -⟩ := gf96b
        have f4 := fr_seg h e96 (by omega) b96 (by omega) (by omega)
        cases f with
        | zero => exact absurd m2 (by omega)
        | succ f =>
          have e : linA B n (f + 1) x = linA B n f (linS B n x) := by
            show (if _ then _ else _) = _
            rw [if_pos ⟨g, q⟩]
          rw [e] at kk
          refine hl_78 f (linS B n x) w2 kk h2 (lin_td t f4.2) (fun g2 => ?_)
          obtain ⟨o2, a2, u2⟩ := lin_up (x := x) ok m1 n14 g2
          refine ⟨a2, by omega, ?_⟩
          rw [linS_5]
          omega
end XMQ
section XMH
variable {l : Launch} {D : va_G} {tys : List (ClassId × FieldType)} {A : Nat → Prop} {ad : Nat → Nat} {ws : va_W}
theorem g96t : ∃ s, GG[96]? = some ((1, 0, 294), s) ∧ ∀ j, j < 144 → segAt s (102 + j) = some (0, -1, 3) := by
  refine ⟨_, rfl, fun j hj => ?_⟩
  exact (show ∀ j : Fin 144, segAt _ (102 + j.1) = some (0, -1, 3) by decide +kernel) ⟨j, hj⟩
theorem g96z : ∃ s, GG[96]? = some ((1, 0, 294), s) ∧ ∀ j, j < 294 → ∃ lo hi, segAt s j = some (0, lo, hi) ∧ lo ≤ 0 ∧ 0 ≤ hi := by
  refine ⟨_, rfl, fun j hj => ?_⟩
  have h : ∀ j : Fin 294, (match segAt ((GG.getD 96 ((0, 0, 0), [])).2) j.1 with | some (0, lo, hi) => decide (lo ≤ 0) && decide (0 ≤ hi) | _ => false) = true := by decide +kernel
  have h := h ⟨j, hj⟩
  revert h
  show (match segAt ((GG.getD 96 ((0, 0, 0), [])).2) j with | some (0, lo, hi) => decide (lo ≤ 0) && decide (0 ≤ hi) | _ => false) = true → ∃ lo hi, segAt ((GG.getD 96 ((0, 0, 0), [])).2) j = some (0, lo, hi) ∧ lo ≤ 0 ∧ 0 ≤ hi
  cases segAt ((GG.getD 96 ((0, 0, 0), [])).2) j with
  | none => exact fun h => absurd h Bool.false_ne_true
  | some q =>
    obtain ⟨a, lo, hi⟩ := q
    cases a with
    | zero =>
      intro h
      have h : (decide (lo ≤ 0) && decide (0 ≤ hi)) = true := h
      rw [Bool.and_eq_true, decide_eq_true_eq, decide_eq_true_eq] at h
      exact ⟨lo, hi, rfl, h.1, h.2⟩
    | succ a => exact fun h => absurd h Bool.false_ne_true
theorem sprV_bd {td : Nat → Int} (h : tdOK td) {f : Nat} (hf : f < 6) : ∀ {m : Nat}, m ≤ 24 → 0 ≤ sprV td f m ∧ sprV td f m ≤ 3
  | 0, _ => ⟨by show (0 : Int) ≤ 0; omega, by show (0 : Int) ≤ 3; omega⟩
  | m + 1, hm => by
    have b := h (24 * f + m) (by omega)
    unfold sprV
    split
    · exact sprV_bd h hf (by omega)
    · omega
/-- the stays written so far -/
noncomputable def sg (fr td : Nat → Int) (m j : Nat) : Int := if 102 ≤ j ∧ j < 102 + m then sprT td (j - 102) else fr j
theorem sg_step {fr td : Nat → Int} {f h : Nat} (hh : h < 24) : updI (sg fr td (24 * f + h)) (102 + 24 * f + h) (sprV td f (h + 1)) = sg fr td (24 * f + (h + 1)) := by
  funext i
  show (if i = 102 + 24 * f + h then _ else (if 102 ≤ i ∧ i < 102 + (24 * f + h) then _ else fr i)) = (if 102 ≤ i ∧ i < 102 + (24 * f + (h + 1)) then sprT td (i - 102) else fr i)
  by_cases e : i = 102 + 24 * f + h
  · rw [if_pos e, if_pos (by omega), e]
    unfold sprT
    rw [show (102 + 24 * f + h - 102) / 24 = f by omega, show (102 + 24 * f + h - 102) % 24 = h by omega]
  · rw [if_neg e]
    by_cases q : 102 ≤ i ∧ i < 102 + (24 * f + h)
    · rw [if_pos q, if_pos (by omega)]
    · rw [if_neg q, if_neg (by omega)]
theorem sg_0 {fr td : Nat → Int} : sg fr td 0 = fr := by
  funext i
  unfold sg
  rw [if_neg (by omega)]
theorem sg_end {fr td : Nat → Int} : sg fr td 144 = fx fr (sprT td) := by
  funext i
  rfl
theorem hs_121 {n : Nat} {B fr td : Nat → Int} {s : TS} {w0 : va_W} {post : Option Value → va_W → Prop} (ht : tdOK td) {f : Nat} (hf : f < 6) : ∀ (m h : Nat) (w : va_W), h + m = 24 → MSF ad tys n B (sg fr td (24 * f + h)) td w0 s w → (∀ w' : va_W, MSF ad tys n B (sg fr td (24 * f + 24)) td w0 s w' → V l D tys A 233 10 0 0 post 0 0 179 [(0, .ref (ad 90)), (1, .int (Int32.ofInt (f : Int)))] [] w') → V l D tys A 233 10 0 0 post 0 0 121 [(0, .ref (ad 90)), (1, .int (Int32.ofInt (f : Int))), (2, .int (Int32.ofInt (sprV td f h))), (3, .int (Int32.ofInt (h : Int)))] [] w
  | 0, h, w, hm, hM, kk => by
    have e : h = 24 := by omega
    subst e
    refine V_iload (v := Int32.ofInt ((24 : Nat) : Int)) mi_233_121 (by simp [stL, lv_args, Value.category]) ?_
    refine V_ipush mi_233_122 ?_
    refine V_cge mi_233_124 ⟨by omega, by omega⟩ ⟨by omega, by omega⟩ (fun _ => ?_) (fun q => absurd q (by omega))
    refine V_sub (lv' := [(0, .ref (ad 90)), (1, .int (Int32.ofInt (f : Int)))]) (fun q hq => ?_) (kk w hM)
    simp only [List.mem_cons, List.not_mem_nil, or_false] at hq
    rcases hq with rfl | rfl <;> simp [stL, lv_args, Value.category]
  | m + 1, h, w, hm, hM, kk => by
    obtain ⟨s97, e97, f97⟩ := gf97
    obtain ⟨s96, e96, f96⟩ := g96t
    refine V_iload (v := Int32.ofInt ((h : Int))) mi_233_121 (by simp [stL, lv_args, Value.category]) ?_
    refine V_ipush mi_233_122 ?_
    refine V_cge mi_233_124 ⟨by omega, by omega⟩ ⟨by omega, by omega⟩ (fun q => ?_) (fun q => ?_)
    · exact absurd q (by omega)
    · refine V_aload (v := ad 90) mi_233_127 (by simp [stL, lv_args, Value.category]) ?_
      refine V_getI mi_233_128 hM.1 (rref gr15 (by omega) hM.1) ?_
      refine V_ipush mi_233_131 ?_
      refine V_iload (v := Int32.ofInt ((f : Int))) mi_233_133 (by simp [stL, lv_args, Value.category]) ?_
      refine V_ibin mi_233_134 (by omega) ?_
      rw [ib2]
      refine V_iload (v := Int32.ofInt ((h : Int))) mi_233_135 (by simp [stL, lv_args, Value.category]) ?_
      refine V_ibin mi_233_136 (by omega) ?_
      rw [ib0]
      have hj : 24 * f + h < 144 := by omega
      have bd := ht (24 * f + h) hj
      refine V_aldX (j := 24 * f + h) mi_233_137 (by rw [show ((24) * ((f : Int))) + ((h : Int)) = ((24 * f + h : Nat) : Int) by omega]) hM.1 e97 hj (by omega) (hM.2.2.1.2 _ hj) ?_
      refine V_ipush mi_233_138 ?_
      have st : ∀ v : Int, v = sprV td f (h + 1) → V l D tys A 233 10 0 0 post 0 0 157 [(0, .ref (ad 90)), (1, .int (Int32.ofInt (f : Int))), (2, .int (Int32.ofInt (sprV td f h))), (3, .int (Int32.ofInt (h : Int)))] [.int (Int32.ofInt v)] w := fun v hv => by
        subst hv
        refine V_istore mi_233_157 ?_
        refine V_aload (v := ad 90) mi_233_158 (by simp [stL, lv_args, Value.category]) ?_
        refine V_getI mi_233_159 hM.1 (rref gr14 (by omega) hM.1) ?_
        refine V_ipush mi_233_162 ?_
        refine V_ipush mi_233_164 ?_
        refine V_iload (v := Int32.ofInt ((f : Int))) mi_233_166 (by simp [stL, lv_args, Value.category]) ?_
        refine V_ibin mi_233_167 (by omega) ?_
        rw [ib2]
        refine V_ibin mi_233_168 (by omega) ?_
        rw [ib0]
        refine V_iload (v := Int32.ofInt ((h : Int))) mi_233_169 (by simp [stL, lv_args, Value.category]) ?_
        refine V_ibin mi_233_170 (by omega) ?_
        rw [ib0]
        refine V_iload (v := Int32.ofInt (sprV td f (h + 1))) mi_233_171 (by simp [stL, lv_args, Value.category]) ?_
        have b3 := sprV_bd ht hf (m := h + 1) (by omega)
        refine V_fst (z := sprV td f (h + 1)) hM e96 (j := 102 + 24 * f + h) (by omega) (by rw [show ((102) + ((24) * ((f : Int)))) + ((h : Int)) = ((102 + 24 * f + h : Nat) : Int) by omega]) mi_233_172 (by rw [show 102 + 24 * f + h = 102 + (24 * f + h) by omega]; exact f96 _ hj) (by omega) (by omega) (by omega) (by omega) (fun w2 hM2 => ?_)
        refine V_iinc (v := Int32.ofInt ((h : Int))) mi_233_173 (by simp [stL, lv_args, Value.category]) ?_
        rw [ia2]
        refine V_goto mi_233_176 ?_
        rw [sg_step (by omega)] at hM2
        refine V_sub (lv' := [(0, .ref (ad 90)), (1, .int (Int32.ofInt (f : Int))), (2, .int (Int32.ofInt (sprV td f (h + 1)))), (3, .int (Int32.ofInt ((h + 1 : Nat) : Int)))]) (fun q hq => ?_) ?_
        · simp only [List.mem_cons, List.not_mem_nil, or_false] at hq
          rcases hq with rfl | rfl | rfl | rfl <;> simp [stL, lv_args, Value.category]
        · exact hs_121 ht hf m (h + 1) w2 (by omega) hM2 kk
      refine V_cne mi_233_139 ⟨by omega, by omega⟩ ⟨by omega, by omega⟩ (fun q2 => ?_) (fun q2 => ?_)
      · refine V_aload (v := ad 90) mi_233_146 (by simp [stL, lv_args, Value.category]) ?_
        refine V_getI mi_233_147 hM.1 (rref gr15 (by omega) hM.1) ?_
        refine V_ipush mi_233_150 ?_
        refine V_iload (v := Int32.ofInt ((f : Int))) mi_233_152 (by simp [stL, lv_args, Value.category]) ?_
        refine V_ibin mi_233_153 (by omega) ?_
        rw [ib2]
        refine V_iload (v := Int32.ofInt ((h : Int))) mi_233_154 (by simp [stL, lv_args, Value.category]) ?_
        refine V_ibin mi_233_155 (by omega) ?_
        rw [ib0]
        refine V_aldX (j := 24 * f + h) mi_233_156 (by rw [show ((24) * ((f : Int))) + ((h : Int)) = ((24 * f + h : Nat) : Int) by omega]) hM.1 e97 hj (by omega) (hM.2.2.1.2 _ hj) ?_
        refine st _ ?_
        show td (24 * f + h) = (if _ then _ else _)
        rw [if_neg q2]
      · refine V_iload (v := Int32.ofInt (sprV td f h)) mi_233_142 (by simp [stL, lv_args, Value.category]) ?_
        refine V_goto mi_233_143 ?_
        refine st _ ?_
        show sprV td f h = (if _ then _ else _)
        rw [if_pos q2]
theorem hs_111 {n : Nat} {B fr td : Nat → Int} {s : TS} {w0 : va_W} {post : Option Value → va_W → Prop} (ht : tdOK td) : ∀ (m f : Nat) (w : va_W), f + m = 6 → MSF ad tys n B (sg fr td (24 * f)) td w0 s w → (∀ w' : va_W, MSF ad tys n B (fx fr (sprT td)) td w0 s w' → V l D tys A 233 10 0 0 post 0 0 185 [(0, .ref (ad 90))] [] w') → V l D tys A 233 10 0 0 post 0 0 111 [(0, .ref (ad 90)), (1, .int (Int32.ofInt (f : Int)))] [] w
  | 0, f, w, hm, hM, kk => by
    have e : f = 6 := by omega
    subst e
    refine V_iload (v := Int32.ofInt ((6 : Nat) : Int)) mi_233_111 (by simp [stL, lv_args, Value.category]) ?_
    refine V_ipush mi_233_112 ?_
    refine V_cge mi_233_114 ⟨by omega, by omega⟩ ⟨by omega, by omega⟩ (fun _ => ?_) (fun q => absurd q (by omega))
    rw [show 24 * 6 = 144 from rfl, sg_end] at hM
    refine V_sub (lv' := [(0, .ref (ad 90))]) (fun q hq => ?_) (kk w hM)
    simp only [List.mem_cons, List.not_mem_nil, or_false] at hq
    rcases hq with rfl
    simp [stL, lv_args, Value.category]
  | m + 1, f, w, hm, hM, kk => by
    refine V_iload (v := Int32.ofInt ((f : Int))) mi_233_111 (by simp [stL, lv_args, Value.category]) ?_
    refine V_ipush mi_233_112 ?_
    refine V_cge mi_233_114 ⟨by omega, by omega⟩ ⟨by omega, by omega⟩ (fun q => ?_) (fun q => ?_)
    · exact absurd q (by omega)
    · refine V_ipush mi_233_117 ?_
      refine V_istore mi_233_118 ?_
      refine V_ipush mi_233_119 ?_
      refine V_istore mi_233_120 ?_
      refine V_sub (lv' := [(0, .ref (ad 90)), (1, .int (Int32.ofInt (f : Int))), (2, .int (Int32.ofInt (sprV td f 0))), (3, .int (Int32.ofInt ((0 : Nat) : Int)))]) (fun q hq => ?_) ?_
      · simp only [List.mem_cons, List.not_mem_nil, or_false] at hq
        rcases hq with rfl | rfl | rfl | rfl
        · simp [stL, lv_args, Value.category]
        · simp [stL, lv_args, Value.category]
        · simp [stL, lv_args, Value.category, sprV]
        · simp [stL, lv_args, Value.category]
      refine hs_121 ht (by omega) 24 0 w (by omega) hM (fun w' hM' => ?_)
      refine V_iinc (v := Int32.ofInt ((f : Int))) mi_233_179 (by simp [stL, lv_args, Value.category]) ?_
      rw [ia2]
      refine V_goto mi_233_182 ?_
      refine V_sub (lv' := [(0, .ref (ad 90)), (1, .int (Int32.ofInt ((f + 1 : Nat) : Int)))]) (fun q hq => ?_) ?_
      · simp only [List.mem_cons, List.not_mem_nil, or_false] at hq
        rcases hq with rfl | rfl <;> simp [stL, lv_args, Value.category]
      · exact hs_111 ht m (f + 1) w' (by omega) hM' kk
theorem gw91 : ∃ s s2, GG[91]? = some ((1, 0, 294), s) ∧ GG[96]? = some ((1, 0, 294), s2) ∧ ∀ j, j < 294 → ∃ lo hi, segAt s j = some (0, lo, hi) ∧ segAt s2 j = some (0, lo, hi) ∧ -2147483648 ≤ lo ∧ hi ≤ 2147483647 := by
  refine ⟨_, _, rfl, rfl, fun j hj => ?_⟩
  have h : ∀ j : Fin 294, (match segAt ((GG.getD 91 ((0, 0, 0), [])).2) j.1, segAt ((GG.getD 96 ((0, 0, 0), [])).2) j.1 with | some (0, lo, hi), some (0, lo2, hi2) => decide (lo = lo2) && decide (hi = hi2) && decide (-2147483648 ≤ lo) && decide (hi ≤ 2147483647) | _, _ => false) = true := by decide +kernel
  have h := h ⟨j, hj⟩
  revert h
  show (match segAt ((GG.getD 91 ((0, 0, 0), [])).2) j, segAt ((GG.getD 96 ((0, 0, 0), [])).2) j with | some (0, lo, hi), some (0, lo2, hi2) => decide (lo = lo2) && decide (hi = hi2) && decide (-2147483648 ≤ lo) && decide (hi ≤ 2147483647) | _, _ => false) = true → ∃ lo hi, segAt ((GG.getD 91 ((0, 0, 0), [])).2) j = some (0, lo, hi) ∧ segAt ((GG.getD 96 ((0, 0, 0), [])).2) j = some (0, lo, hi) ∧ -2147483648 ≤ lo ∧ hi ≤ 2147483647
  cases segAt ((GG.getD 91 ((0, 0, 0), [])).2) j with
  | none => exact fun h => absurd h Bool.false_ne_true
  | some q =>
    obtain ⟨a, lo, hi⟩ := q
    cases segAt ((GG.getD 96 ((0, 0, 0), [])).2) j with
    | none =>
      cases a with
      | zero => exact fun h => absurd h Bool.false_ne_true
      | succ a => exact fun h => absurd h Bool.false_ne_true
    | some q2 =>
      obtain ⟨b, lo2, hi2⟩ := q2
      cases a with
      | succ a => exact fun h => absurd h Bool.false_ne_true
      | zero =>
        cases b with
        | succ b => exact fun h => absurd h Bool.false_ne_true
        | zero =>
          intro h
          have h : (decide (lo = lo2) && decide (hi = hi2) && decide (-2147483648 ≤ lo) && decide (hi ≤ 2147483647)) = true := h
          simp only [Bool.and_eq_true, decide_eq_true_eq] at h
          obtain ⟨⟨⟨rfl, rfl⟩, h3⟩, h4⟩ := h
          exact ⟨lo, hi, rfl, rfl, h3, h4⟩
theorem gr1m : ∃ g, GG[90]? = some ((0, 11, 36), g) ∧ segAt g 1 = some (2, ((91 : Nat) : Int), ((91 : Nat) : Int)) := ⟨_, rfl, by decide +kernel⟩
theorem hw_187 {w0 : va_W} {post : Option Value → va_W → Prop} : ∀ (m k : Nat) (w : va_W), k + m = 294 → GOK ad tys GG w → (∀ c j, c ≠ 91 → rd w c j = rd w0 c j) → (∀ j, j < k → rd w 91 j = rd w0 96 j) → (∀ w' : va_W, GOK ad tys GG w' → (∀ c j, c ≠ 91 → rd w' c j = rd w0 c j) → (∀ j, j < 294 → rd w' 91 j = rd w0 96 j) → V l D tys A 233 10 0 0 post 0 0 212 [(0, .ref (ad 90))] [] w') → V l D tys A 233 10 0 0 post 0 0 187 [(0, .ref (ad 90)), (1, .int (Int32.ofInt (k : Int)))] [] w
  | 0, k, w, hm, hG, ho, hd, kk => by
    have e : k = 294 := by omega
    subst e
    refine V_iload (v := Int32.ofInt ((294 : Nat) : Int)) mi_233_187 (by simp [stL, lv_args, Value.category]) ?_
    refine V_ipush mi_233_188 ?_
    refine V_cge mi_233_191 ⟨by omega, by omega⟩ ⟨by omega, by omega⟩ (fun _ => ?_) (fun q => absurd q (by omega))
    refine V_sub (lv' := [(0, .ref (ad 90))]) (fun q hq => ?_) (kk w hG ho hd)
    simp only [List.mem_cons, List.not_mem_nil, or_false] at hq
    rcases hq with rfl
    simp [stL, lv_args, Value.category]
  | m + 1, k, w, hm, hG, ho, hd, kk => by
    obtain ⟨s91, s96, e91, e96, hsg⟩ := gw91
    obtain ⟨lo, hi, q1, q2, l0, h0⟩ := hsg k (by omega)
    obtain ⟨z, hz, z0, z1⟩ := cel hG e96 (by omega) q2
    refine V_iload (v := Int32.ofInt ((k : Int))) mi_233_187 (by simp [stL, lv_args, Value.category]) ?_
    refine V_ipush mi_233_188 ?_
    refine V_cge mi_233_191 ⟨by omega, by omega⟩ ⟨by omega, by omega⟩ (fun q => ?_) (fun q => ?_)
    · exact absurd q (by omega)
    · refine V_aload (v := ad 90) mi_233_194 (by simp [stL, lv_args, Value.category]) ?_
      refine V_getI mi_233_195 hG (rref gr1m (by omega) hG) ?_
      refine V_iload (v := Int32.ofInt ((k : Int))) mi_233_198 (by simp [stL, lv_args, Value.category]) ?_
      refine V_aload (v := ad 90) mi_233_199 (by simp [stL, lv_args, Value.category]) ?_
      refine V_getI mi_233_200 hG (rref gr14 (by omega) hG) ?_
      refine V_iload (v := Int32.ofInt ((k : Int))) mi_233_203 (by simp [stL, lv_args, Value.category]) ?_
      refine V_aldX (j := k) mi_233_204 rfl hG e96 (by omega) (by omega) hz ?_
      refine V_astX (j := k) mi_233_205 rfl hG e91 (by omega) (by omega) q1 (by rw [Int32.toInt_ofInt_of_le (by omega) (by omega)]; omega) (by rw [Int32.toInt_ofInt_of_le (by omega) (by omega)]; omega) (fun w2 G2 U => ?_)
      refine V_iinc (v := Int32.ofInt ((k : Int))) mi_233_206 (by simp [stL, lv_args, Value.category]) ?_
      rw [ia2]
      refine V_goto mi_233_209 ?_
      refine V_sub (lv' := [(0, .ref (ad 90)), (1, .int (Int32.ofInt ((k + 1 : Nat) : Int)))]) (fun q hq => ?_) ?_
      · simp only [List.mem_cons, List.not_mem_nil, or_false] at hq
        rcases hq with rfl | rfl <;> simp [stL, lv_args, Value.category]
      · refine hw_187 m (k + 1) w2 (by omega) G2 (fun c j hc => (upd_ne U (fun e => hc e.1)).trans (ho c j hc)) (fun j hj => ?_) kk
        by_cases e : j = k
        · subst e
          rw [upd_eq U, ← ho 96 j (by omega), hz]
        · exact (upd_ne U (fun q => e q.2)).trans (hd j (by omega))
theorem hz_30 {w0 : va_W} {post : Option Value → va_W → Prop} : ∀ (m k : Nat) (w : va_W), k + m = 294 → GOK ad tys GG w → (∀ c j, c ≠ 96 → rd w c j = rd w0 c j) → (∀ j, j < k → rd w 96 j = some (.int (Int32.ofInt (0)))) → (∀ w' : va_W, GOK ad tys GG w' → (∀ c j, c ≠ 96 → rd w' c j = rd w0 c j) → (∀ j, j < 294 → rd w' 96 j = some (.int (Int32.ofInt (0)))) → V l D tys A 233 10 0 0 post 0 0 50 [(0, .ref (ad 90))] [] w') → V l D tys A 233 10 0 0 post 0 0 30 [(0, .ref (ad 90)), (1, .int (Int32.ofInt (k : Int)))] [] w
  | 0, k, w, hm, hG, ho, hd, kk => by
    have e : k = 294 := by omega
    subst e
    refine V_iload (v := Int32.ofInt (((294 : Nat) : Int))) mi_233_30 (by simp [stL, lv_args, Value.category]) ?_
    refine V_ipush mi_233_31 ?_
    refine V_cge mi_233_34 ⟨by omega, by omega⟩ ⟨by omega, by omega⟩ (fun q => ?_) (fun q => ?_)
    · refine V_sub (lv' := [(0, .ref (ad 90))]) (fun q hq => ?_) (kk w hG ho hd)
      simp only [List.mem_cons, List.not_mem_nil, or_false] at hq
      rcases hq with rfl
      simp [stL, lv_args, Value.category]
    · exact absurd q (by omega)
  | m + 1, k, w, hm, hG, ho, hd, kk => by
    obtain ⟨s96, e96, hsg⟩ := g96z
    obtain ⟨lo, hi, q1, q2, q3⟩ := hsg k (by omega)
    refine V_iload (v := Int32.ofInt ((k : Int))) mi_233_30 (by simp [stL, lv_args, Value.category]) ?_
    refine V_ipush mi_233_31 ?_
    refine V_cge mi_233_34 ⟨by omega, by omega⟩ ⟨by omega, by omega⟩ (fun q => ?_) (fun q => ?_)
    · exact absurd q (by omega)
    · refine V_aload (v := ad 90) mi_233_37 (by simp [stL, lv_args, Value.category]) ?_
      refine V_getI mi_233_38 hG (rref gr14 (by omega) hG) ?_
      refine V_iload (v := Int32.ofInt ((k : Int))) mi_233_41 (by simp [stL, lv_args, Value.category]) ?_
      refine V_ipush mi_233_42 ?_
      refine V_astX (j := k) mi_233_43 rfl hG e96 (by omega) (by omega) q1 (by rw [Int32.toInt_ofInt_of_le (by omega) (by omega)]; omega) (by rw [Int32.toInt_ofInt_of_le (by omega) (by omega)]; omega) (fun w2 G2 U => ?_)
      refine V_iinc (v := Int32.ofInt ((k : Int))) mi_233_44 (by simp [stL, lv_args, Value.category]) ?_
      rw [ia2]
      refine V_goto mi_233_47 ?_
      refine V_sub (lv' := [(0, .ref (ad 90)), (1, .int (Int32.ofInt ((k + 1 : Nat) : Int)))]) (fun q hq => ?_) ?_
      · simp only [List.mem_cons, List.not_mem_nil, or_false] at hq
        rcases hq with rfl | rfl <;> simp [stL, lv_args, Value.category]
      · refine hz_30 m (k + 1) w2 (by omega) G2 (fun c j hc => (upd_ne U (fun e => hc e.1)).trans (ho c j hc)) (fun j hj => ?_) kk
        by_cases e : j = k
        · subst e
          exact upd_eq U
        · exact (upd_ne U (fun q => e q.2)).trans (hd j (by omega))
theorem hz_52 {w0 : va_W} {post : Option Value → va_W → Prop} : ∀ (m k : Nat) (w : va_W), k + m = 144 → GOK ad tys GG w → (∀ c j, c ≠ 97 → rd w c j = rd w0 c j) → (∀ j, j < k → rd w 97 j = some (.int (Int32.ofInt (-1)))) → (∀ w' : va_W, GOK ad tys GG w' → (∀ c j, c ≠ 97 → rd w' c j = rd w0 c j) → (∀ j, j < 144 → rd w' 97 j = some (.int (Int32.ofInt (-1)))) → V l D tys A 233 10 0 0 post 0 0 74 [(0, .ref (ad 90))] [] w') → V l D tys A 233 10 0 0 post 0 0 52 [(0, .ref (ad 90)), (1, .int (Int32.ofInt (k : Int)))] [] w
  | 0, k, w, hm, hG, ho, hd, kk => by
    have e : k = 144 := by omega
    subst e
    obtain ⟨s97, e97, f97⟩ := gf97
    refine V_iload (v := Int32.ofInt (((144 : Nat) : Int))) mi_233_52 (by simp [stL, lv_args, Value.category]) ?_
    refine V_aload (v := ad 90) mi_233_53 (by simp [stL, lv_args, Value.category]) ?_
    refine V_getI mi_233_54 hG (rref gr15 (by omega) hG) ?_
    refine V_lenA mi_233_57 hG e97 ?_
    refine V_cge mi_233_58 ⟨by omega, by omega⟩ ⟨by omega, by omega⟩ (fun q => ?_) (fun q => ?_)
    · refine V_sub (lv' := [(0, .ref (ad 90))]) (fun q hq => ?_) (kk w hG ho hd)
      simp only [List.mem_cons, List.not_mem_nil, or_false] at hq
      rcases hq with rfl
      simp [stL, lv_args, Value.category]
    · exact absurd q (by omega)
  | m + 1, k, w, hm, hG, ho, hd, kk => by
    obtain ⟨s97, e97, f97⟩ := gf97
    refine V_iload (v := Int32.ofInt ((k : Int))) mi_233_52 (by simp [stL, lv_args, Value.category]) ?_
    refine V_aload (v := ad 90) mi_233_53 (by simp [stL, lv_args, Value.category]) ?_
    refine V_getI mi_233_54 hG (rref gr15 (by omega) hG) ?_
    refine V_lenA mi_233_57 hG e97 ?_
    refine V_cge mi_233_58 ⟨by omega, by omega⟩ ⟨by omega, by omega⟩ (fun q => ?_) (fun q => ?_)
    · exact absurd q (by omega)
    · refine V_aload (v := ad 90) mi_233_61 (by simp [stL, lv_args, Value.category]) ?_
      refine V_getI mi_233_62 hG (rref gr15 (by omega) hG) ?_
      refine V_iload (v := Int32.ofInt ((k : Int))) mi_233_65 (by simp [stL, lv_args, Value.category]) ?_
      refine V_ipush mi_233_66 ?_
      refine V_astX (j := k) mi_233_67 rfl hG e97 (by omega) (by omega) (f97 k (by omega)) (by rw [Int32.toInt_ofInt_of_le (by omega) (by omega)]; omega) (by rw [Int32.toInt_ofInt_of_le (by omega) (by omega)]; omega) (fun w2 G2 U => ?_)
      refine V_iinc (v := Int32.ofInt ((k : Int))) mi_233_68 (by simp [stL, lv_args, Value.category]) ?_
      rw [ia2]
      refine V_goto mi_233_71 ?_
      refine V_sub (lv' := [(0, .ref (ad 90)), (1, .int (Int32.ofInt ((k + 1 : Nat) : Int)))]) (fun q hq => ?_) ?_
      · simp only [List.mem_cons, List.not_mem_nil, or_false] at hq
        rcases hq with rfl | rfl <;> simp [stL, lv_args, Value.category]
      · refine hz_52 m (k + 1) w2 (by omega) G2 (fun c j hc => (upd_ne U (fun e => hc e.1)).trans (ho c j hc)) (fun j hj => ?_) kk
        by_cases e : j = k
        · subst e
          exact upd_eq U
        · exact (upd_ne U (fun q => e q.2)).trans (hd j (by omega))
noncomputable def frB (fr : Nat → Int) : Prop := ∀ j, j < 294 → 0 ≤ fr j ∧ fr j ≤ 4095
/-- a text read: from its first token; as the reference's number then stood (it counts only with a number looked at) -/
noncomputable def hill0 (B : Nat → Int) (n : Nat) (v0 : Int) : TS × (Nat → Int) × (Nat → Int) := (((tkK B n 0, tkI B n 0, tkE B n 0, tkV B n 0 v0), (0, -1)), fun _ => 0, fun _ => -1)
noncomputable def hillX (B : Nat → Int) (n : Nat) (v0 : Int) : TS × (Nat → Int) × (Nat → Int) := linA B n 1402 (hill0 B n v0)
noncomputable def HMo (w0 w : va_W) : Prop := ∀ c j, c ≠ 91 → c ≠ 96 → c ≠ 97 → ¬ (c = 90 ∧ (j = 5 ∨ (7 ≤ j ∧ j ≤ 13))) → rd w c j = rd w0 c j
noncomputable def HMP (ad : Nat → Nat) (tys : List (ClassId × FieldType)) (x : TS × (Nat → Int) × (Nat → Int)) (w0 : va_W) (r : Option Value) (w : va_W) : Prop := GOK ad tys GG w ∧ HMo w0 w ∧ rd w 90 5 = some (.int (Int32.ofInt 0)) ∧ rd w 90 12 = some (.int (Int32.ofInt x.1.2.1)) ∧ rd w 90 13 = some (.int (Int32.ofInt x.1.2.2)) ∧ (x.1.2.1 = 0 → r = some (.int (Int32.ofInt (x.2.1 5))) ∧ frB x.2.1 ∧ tdOK x.2.2 ∧ ∀ j, j < 294 → rd w 91 j = some (.int (Int32.ofInt (endG x j)))) ∧ (¬ x.1.2.1 = 0 → r = some (.int (Int32.ofInt (-4))) ∧ ∀ j, rd w 91 j = rd w0 91 j)
theorem hx_99 {n : Nat} {B : Nat → Int} {x : TS × (Nat → Int) × (Nat → Int)} {w0 w : va_W} (ho : ∀ c j, c ≠ 96 → c ≠ 97 → ¬ (c = 90 ∧ (j = 5 ∨ (7 ≤ j ∧ j ≤ 13))) → rd w0 c j = rd ws c j) (h5 : rd w0 90 5 = some (.int (Int32.ofInt 0))) (h : MSF ad tys n B x.2.1 x.2.2 w0 x.1 w) (t : tdOK x.2.2) : V l D tys A 233 10 0 0 (HMP ad tys x ws) 0 0 99 (lv_args 0 [.ref (ad 90)]) [] w := by
  refine V_aload (v := ad 90) mi_233_99 (by simp [stL, lv_args, Value.category]) ?_
  refine V_callM (As := []) (st := []) mi_233_100 (by omega) (by decide +kernel) (by decide +kernel) h.1 (goodF_ct h) (by omega) (show 0 = mN 214 by decide +kernel) (by simp [Value.category]) ?_
  rintro r w1 ⟨e1, rfl⟩
  subst e1
  obtain ⟨hG, ⟨T, ok, h10, h9, h8, h11, h12, h13⟩, f12, O⟩ := id h
  refine V_bne mi_233_103  (fun c => ?_) (fun c => ?_)
  · have g : x.1.2.1 = 0 := of_decide_eq_true c
    refine V_ipush mi_233_109 ?_
    refine V_istore mi_233_110 ?_
    refine V_sub (lv' := [(0, .ref (ad 90)), (1, .int (Int32.ofInt ((0 : Nat) : Int)))]) (fun q hq => ?_) ?_
    · simp only [List.mem_cons, List.not_mem_nil, or_false] at hq
      rcases hq with rfl | rfl <;> simp [stL, lv_args, Value.category]
    refine hs_111 (fr := x.2.1) t 6 0 _ (by omega) (by rw [show 24 * 0 = 0 from rfl, sg_0]; exact h) (fun w2 h2 => ?_)
    refine V_ipush mi_233_185 ?_
    refine V_istore mi_233_186 ?_
    refine V_sub (lv' := [(0, .ref (ad 90)), (1, .int (Int32.ofInt ((0 : Nat) : Int)))]) (fun q hq => ?_) ?_
    · simp only [List.mem_cons, List.not_mem_nil, or_false] at hq
      rcases hq with rfl | rfl <;> simp [stL, lv_args, Value.category]
    refine hw_187 (w0 := w2) 294 0 w2 (by omega) h2.1 (fun _ _ _ => rfl) (fun j hj => by omega) (fun w3 G3 o3 d3 => ?_)
    obtain ⟨s91, s96, e91, e96, hsg⟩ := gw91
    have hc : ∀ j, j < 294 → rd w3 91 j = some (.int (Int32.ofInt (endG x j))) := fun j hj => by
      rw [d3 j hj]
      exact (h2.2.2.1.1 j hj).1
    refine V_aload (v := ad 90) mi_233_212 (by simp [stL, lv_args, Value.category]) ?_
    refine V_getI mi_233_213 G3 (rref gr1m (by omega) G3) ?_
    refine V_ipush mi_233_216 ?_
    refine V_aldX (j := 5) mi_233_217 rfl G3 e91 (by omega) (by omega) (hc 5 (by omega)) ?_
    obtain ⟨-, ⟨-, -, -, -, -, -, k12, k13⟩, -, O2⟩ := h2
    refine V_retI mi_233_218 (fun q => absurd q (by decide +kernel)) ⟨G3, fun c j c1 c2 c3 c4 => ?_, ?_, ?_, ?_, fun _ => ⟨rfl, fun j hj => (f12.1 j hj).2, t, hc⟩, fun q => absurd g q⟩
    · rw [o3 c j c1, O2 c j (by omega)]
      exact ho c j (by omega) (by omega) (fun q => c4 (by omega))
    · rw [o3 _ _ (by omega), O2 _ _ (by omega)]
      exact h5
    · rw [o3 _ _ (by omega)]
      exact k12
    · rw [o3 _ _ (by omega)]
      exact k13
  · have g : ¬ x.1.2.1 = 0 := of_decide_eq_false c
    refine V_ipush mi_233_106 ?_
    refine V_retI mi_233_108 (fun q => absurd q (by decide +kernel)) ⟨hG, fun c j c1 c2 c3 c4 => ?_, ?_, h12, h13, fun q => absurd q g, fun _ => ⟨rfl, fun j => ?_⟩⟩
    · rw [O c j (by omega)]
      exact ho c j (by omega) (by omega) (fun q => c4 (by omega))
    · rw [O _ _ (by omega)]
      exact h5
    · rw [O _ _ (by omega)]
      exact ho _ _ (by omega) (by omega) (by omega)
theorem himx_ct {n : Nat} {B : Nat → Int} {v0 : Int} (hG : GOK ad tys GG ws) (n14 : n ≤ 1400) (h5 : rd ws 90 5 = some (.int (Int32.ofInt (n : Int)))) (hB : TB ws 94 n B) (h11 : rd ws 90 11 = some (.int (Int32.ofInt v0))) (v0I : I32 v0) : CT l D tys A 233 10 0 0 [.ref (ad 90)] ws (HMP ad tys (hillX B n v0) ws) := by
  refine CT_of_V (by omega) (show (1 : Nat) ≤ mML 233 by decide +kernel) ?_
  refine V_aload (v := ad 90) mi_233_0 (by simp [stL, lv_args, Value.category]) ?_
  refine V_aload (v := ad 90) mi_233_1 (by simp [stL, lv_args, Value.category]) ?_
  refine V_getI mi_233_2 hG (h5) ?_
  refine V_putI mi_233_5 hG f7 (by omega) rfl (by decide +kernel) (by rw [Int32.toInt_ofInt_of_le (by omega) (by omega)]; omega) (by rw [Int32.toInt_ofInt_of_le (by omega) (by omega)]; omega) (fun w0 G0 U0 => ?_)
  refine V_aload (v := ad 90) mi_233_8 (by simp [stL, lv_args, Value.category]) ?_
  refine V_ipush mi_233_9 ?_
  refine V_putI mi_233_10 G0 f5 (by omega) rfl (by decide +kernel) (by rw [Int32.toInt_ofInt_of_le (by omega) (by omega)]; omega) (by rw [Int32.toInt_ofInt_of_le (by omega) (by omega)]; omega) (fun w1 G1 U1 => ?_)
  refine V_aload (v := ad 90) mi_233_13 (by simp [stL, lv_args, Value.category]) ?_
  refine V_ipush mi_233_14 ?_
  refine V_putI mi_233_15 G1 f8 (by omega) rfl (by decide +kernel) (by rw [Int32.toInt_ofInt_of_le (by omega) (by omega)]; omega) (by rw [Int32.toInt_ofInt_of_le (by omega) (by omega)]; omega) (fun w2 G2 U2 => ?_)
  refine V_aload (v := ad 90) mi_233_18 (by simp [stL, lv_args, Value.category]) ?_
  refine V_ipush mi_233_19 ?_
  refine V_putI mi_233_20 G2 f12 (by omega) rfl (by decide +kernel) (by rw [Int32.toInt_ofInt_of_le (by omega) (by omega)]; omega) (by rw [Int32.toInt_ofInt_of_le (by omega) (by omega)]; omega) (fun w3 G3 U3 => ?_)
  refine V_aload (v := ad 90) mi_233_23 (by simp [stL, lv_args, Value.category]) ?_
  refine V_ipush mi_233_24 ?_
  refine V_putI mi_233_25 G3 f13 (by omega) rfl (by decide +kernel) (by rw [Int32.toInt_ofInt_of_le (by omega) (by omega)]; omega) (by rw [Int32.toInt_ofInt_of_le (by omega) (by omega)]; omega) (fun w4 G4 U4 => ?_)
  refine V_ipush mi_233_28 ?_
  refine V_istore mi_233_29 ?_
  have o5 : ∀ c j, ¬ (c = 90 ∧ (j = 5 ∨ j = 7 ∨ j = 8 ∨ j = 12 ∨ j = 13)) → rd w4 c j = rd ws c j := fun c j hn => (upd_ne U4 (by omega)).trans ((upd_ne U3 (by omega)).trans ((upd_ne U2 (by omega)).trans ((upd_ne U1 (by omega)).trans (upd_ne U0 (by omega)))))
  have k7 : rd w4 90 7 = some (.int (Int32.ofInt (n : Int))) := (upd_ne U4 (by omega)).trans ((upd_ne U3 (by omega)).trans ((upd_ne U2 (by omega)).trans ((upd_ne U1 (by omega)).trans (upd_eq U0))))
  have k5 : rd w4 90 5 = some (.int (Int32.ofInt 0)) := (upd_ne U4 (by omega)).trans ((upd_ne U3 (by omega)).trans ((upd_ne U2 (by omega)).trans (upd_eq U1)))
  have k8 : rd w4 90 8 = some (.int (Int32.ofInt 0)) := (upd_ne U4 (by omega)).trans ((upd_ne U3 (by omega)).trans (upd_eq U2))
  have k12 : rd w4 90 12 = some (.int (Int32.ofInt 0)) := (upd_ne U4 (by omega)).trans (upd_eq U3)
  have k13 : rd w4 90 13 = some (.int (Int32.ofInt (-1))) := upd_eq U4
  refine V_sub (lv' := [(0, .ref (ad 90)), (1, .int (Int32.ofInt ((0 : Nat) : Int)))]) (fun q hq => ?_) ?_
  · simp only [List.mem_cons, List.not_mem_nil, or_false] at hq
    rcases hq with rfl | rfl <;> simp [stL, lv_args, Value.category]
  refine hz_30 (w0 := w4) 294 0 w4 (by omega) G4 (fun _ _ _ => rfl) (fun j hj => by omega) (fun w5 G5 o6 d6 => ?_)
  refine V_ipush mi_233_50 ?_
  refine V_istore mi_233_51 ?_
  refine V_sub (lv' := [(0, .ref (ad 90)), (1, .int (Int32.ofInt ((0 : Nat) : Int)))]) (fun q hq => ?_) ?_
  · simp only [List.mem_cons, List.not_mem_nil, or_false] at hq
    rcases hq with rfl | rfl <;> simp [stL, lv_args, Value.category]
  refine hz_52 (w0 := w5) 144 0 w5 (by omega) G5 (fun _ _ _ => rfl) (fun j hj => by omega) (fun w6 G6 o7 d7 => ?_)
  have oo : ∀ c j, c ≠ 96 → c ≠ 97 → rd w6 c j = rd w4 c j := fun c j c1 c2 => (o7 c j c2).trans (o6 c j c1)
  have T : TXM w6 n B := ⟨(oo _ _ (by omega) (by omega)).trans k7, n14, fun k hk => ⟨(oo _ _ (by omega) (by omega)).trans ((o5 _ _ (by omega)).trans (hB k hk).1), (hB k hk).2⟩⟩
  refine V_aload (v := ad 90) mi_233_74 (by simp [stL, lv_args, Value.category]) ?_
  refine V_callM (As := []) (st := []) mi_233_75 (by omega) (by decide +kernel) (by decide +kernel) G6 (adm_ct (a := 0) (v0 := v0) G6 T (Nat.zero_le _) ((oo _ _ (by omega) (by omega)).trans k8) ((oo _ _ (by omega) (by omega)).trans ((o5 _ _ (by omega)).trans h11))) (by omega) (show 0 = mN 213 by decide +kernel) (by simp [Value.category]) ?_
  rintro r w7 ⟨rfl, G7, O7, m8, m9, m10, m11⟩
  obtain ⟨t1, t2, t3⟩ := tk_bd (B := B) (n := n) (a := 0) (v := v0) (Nat.zero_le _) v0I.1 v0I.2
  refine V_sub (lv' := [(0, .ref (ad 90))]) (fun q hq => ?_) ?_
  · simp only [List.mem_cons, List.not_mem_nil, or_false] at hq
    subst hq
    simp [stL, lv_args, Value.category]
  refine hl_78 (w0 := w4) 1402 (hill0 B n v0) w7 (fun w8 h8 t8 => hx_99 (fun c j c1 c2 c3 => o5 c j (by omega)) k5 h8 t8) ⟨G7, ⟨⟨(O7 _ _ (by omega)).trans T.1, T.2.1, fun k hk => ⟨(O7 _ _ (by omega)).trans (T.2.2 k hk).1, (T.2.2 k hk).2⟩⟩, ⟨t1, t2.2, t3, by show (0 : Int) ≤ 0; omega, by show (0 : Int) ≤ 3; omega⟩, m10, m9, m8, m11, ?_, ?_⟩, ⟨fun j hj => ⟨?_, by show (0 : Int) ≤ 0; omega, by show (0 : Int) ≤ 4095; omega⟩, fun j hj => ?_⟩, fun c j hn => ?_⟩ (fun j hj => ⟨by show (-1 : Int) ≤ -1; omega, by show (-1 : Int) ≤ 3; omega⟩) (fun _ => ⟨⟨0, Nat.zero_le _, rfl, rfl, rfl⟩, by omega, ?_⟩)
  · exact (O7 _ _ (by omega)).trans ((oo _ _ (by omega) (by omega)).trans k12)
  · exact (O7 _ _ (by omega)).trans ((oo _ _ (by omega) (by omega)).trans k13)
  · exact (O7 _ _ (by omega)).trans ((o7 _ _ (by omega)).trans (d6 j hj))
  · exact (O7 _ _ (by omega)).trans (d7 j hj)
  · exact (O7 _ _ (by omega)).trans (oo _ _ (by omega) (by omega))
  · show (0 : Int) ≤ _
    omega
end XMH
end
section
section XHL
variable {l : Launch} {D : va_G} {tys : List (ClassId × FieldType)} {A : Nat → Prop} {ad : Nat → Nat} {ws : va_W}
theorem g0o : gO 0 10 13 := ⟨_, rfl⟩
theorem g4o : gO 4 2 17 := ⟨_, rfl⟩
theorem g0r0 : gOr 0 10 13 0 1 := ⟨_, rfl, by decide +kernel⟩
theorem g0r1 : gOr 0 10 13 1 2 := ⟨_, rfl, by decide +kernel⟩
theorem g0r2 : gOr 0 10 13 2 4 := ⟨_, rfl, by decide +kernel⟩
theorem g0r3 : gOr 0 10 13 3 16 := ⟨_, rfl, by decide +kernel⟩
theorem g2f1 : gOf 2 9 6 1 0 1400 := ⟨_, rfl, by decide +kernel⟩
theorem g4r6 : gOr 4 2 17 6 5 := ⟨_, rfl, by decide +kernel⟩
theorem g4r7 : gOr 4 2 17 7 6 := ⟨_, rfl, by decide +kernel⟩
theorem g4r8 : gOr 4 2 17 8 7 := ⟨_, rfl, by decide +kernel⟩
theorem g4r9 : gOr 4 2 17 9 8 := ⟨_, rfl, by decide +kernel⟩
theorem g4r10 : gOr 4 2 17 10 9 := ⟨_, rfl, by decide +kernel⟩
theorem g4r11 : gOr 4 2 17 11 10 := ⟨_, rfl, by decide +kernel⟩
theorem g4r12 : gOr 4 2 17 12 11 := ⟨_, rfl, by decide +kernel⟩
theorem g4r13 : gOr 4 2 17 13 12 := ⟨_, rfl, by decide +kernel⟩
theorem g4r14 : gOr 4 2 17 14 13 := ⟨_, rfl, by decide +kernel⟩
theorem g4r15 : gOr 4 2 17 15 14 := ⟨_, rfl, by decide +kernel⟩
theorem g4r16 : gOr 4 2 17 16 15 := ⟨_, rfl, by decide +kernel⟩
theorem g4f0 : gOf 4 2 17 0 (-2147483648) 2147483647 := ⟨_, rfl, by decide +kernel⟩
theorem g4f1 : gOf 4 2 17 1 (0) 9 := ⟨_, rfl, by decide +kernel⟩
theorem g4f2 : gOf 4 2 17 2 (0) 4 := ⟨_, rfl, by decide +kernel⟩
theorem g4f3 : gOf 4 2 17 3 (0) 24 := ⟨_, rfl, by decide +kernel⟩
theorem g4f4 : gOf 4 2 17 4 (0) 6 := ⟨_, rfl, by decide +kernel⟩
theorem g4f5 : gOf 4 2 17 5 (0) 12 := ⟨_, rfl, by decide +kernel⟩
theorem a5 : gA 5 6 0 7 := gA_of rfl
theorem a6 : gA 6 36 (-2147483648) 2147483647 := gA_of rfl
theorem a7 : gA 7 6 (-2147483648) 2147483647 := gA_of rfl
theorem a8 : gA 8 6 (-2147483648) 2147483647 := gA_of rfl
theorem a9 : gA 9 6 (-2147483648) 2147483647 := gA_of rfl
theorem a10 : gA 10 144 (-2147483648) 2147483647 := gA_of rfl
theorem a11 : gA 11 36 (-2147483648) 2147483647 := gA_of rfl
theorem a12 : gA 12 12 (-2147483648) 2147483647 := gA_of rfl
theorem a13 : gA 13 12 (-2147483648) 2147483647 := gA_of rfl
theorem a14 : gA 14 12 (-2147483648) 2147483647 := gA_of rfl
theorem a15 : gA 15 12 (-2147483648) 2147483647 := gA_of rfl
/-- how many places each cell of a hill has -/
noncomputable def hxN (k : Nat) : Nat := [6, 6, 36, 6, 6, 6, 144, 36, 12, 12, 12, 12].getD k 0
theorem hxN_all : (List.range 12).all (fun k => (List.range (hxN k)).all (fun i => decide (hxC (hxJ k i) = k) && decide (hxI (hxJ k i) = i) && decide (hxJ k i < 294) && (decide (k = 6) == (decide (102 ≤ hxJ k i) && decide (hxJ k i < 246))))) = true := by decide +kernel
theorem hxN_k {k i : Nat} (hk : k < 12) (hi : i < hxN k) : hxC (hxJ k i) = k ∧ hxI (hxJ k i) = i ∧ hxJ k i < 294 ∧ (k = 6 ↔ (102 ≤ hxJ k i ∧ hxJ k i < 246)) := by
  have h := List.all_eq_true.mp (List.all_eq_true.mp hxN_all k (List.mem_range.mpr hk)) i (List.mem_range.mpr hi)
  simp only [Bool.and_eq_true, decide_eq_true_eq, beq_iff_eq] at h
  obtain ⟨⟨⟨h1, h2⟩, h3⟩, h4⟩ := h
  refine ⟨h1, h2, h3, ?_⟩
  rw [← Bool.decide_and, decide_eq_decide] at h4
  exact h4
theorem hxN_j : (List.range 294).all (fun j => decide (hxI j < hxN (hxC j))) = true := by decide +kernel
/-- the first m cells of a hill -/
noncomputable def HY (c m : Nat) (g : Nat → Int) (w : va_W) : Prop := ∀ k, k < m → ∀ i, i < hxN k → rd w (c + k) i = some (.int (Int32.ofInt (g (hxJ k i))))
theorem HX_HY {c : Nat} {g : Nat → Int} {w : va_W} (h : HX c g w) : HY c 12 g w := fun k hk i hi => by
  obtain ⟨e1, e2, e3, -⟩ := hxN_k hk hi
  have q := h _ e3
  rw [e1, e2] at q
  exact q
theorem HY_HX {c : Nat} {g : Nat → Int} {w : va_W} (h : HY c 12 g w) : HX c g w := fun j hj => by
  obtain ⟨e1, e2⟩ := hxJ_j hj
  have q := of_decide_eq_true (List.all_eq_true.mp hxN_j j (List.mem_range.mpr hj))
  have r := h _ e2 _ q
  rw [e1] at r
  exact r
theorem HY_step {c m : Nat} {g : Nat → Int} {w w' : va_W} (h : HY c m g w) (o : ∀ c' i, c' ≠ c + m → rd w' c' i = rd w c' i) (d : ∀ i, i < hxN m → rd w' (c + m) i = some (.int (Int32.ofInt (g (hxJ m i))))) : HY c (m + 1) g w' := fun k hk i hi => by
  by_cases e : k = m
  · subst e
    exact d i hi
  · rw [o _ _ (by omega)]
    exact h k (by omega) i hi
theorem fill_2 {c n : Nat} {lo hi v : Int} {segs : List SG} (e : GG[c]? = some ((1, 0, n), segs)) (hs : ∀ j, j < n → segAt segs j = some (0, lo, hi)) (hn : n ≤ 100000) (vI : I32 v) (b1 : lo ≤ v) (b2 : v ≤ hi) : ∀ (m k : Nat) (w : va_W), k + m = n → GOK ad tys GG w → (∀ c' i, c' ≠ c → rd w c' i = rd ws c' i) → (∀ j, j < k → rd w c j = some (.int (Int32.ofInt v))) → V l D tys A 149 0 0 0 (fun r w => r = none ∧ GOK ad tys GG w ∧ (∀ c' i, c' ≠ c → rd w c' i = rd ws c' i) ∧ (∀ j : Nat, j < n → rd w c j = some (.int (Int32.ofInt v)))) 0 0 2 [(0, .ref (ad c)), (1, .int (Int32.ofInt v)), (2, .int (Int32.ofInt (k : Int)))] [] w
  | 0, k, w, hm, hG, ho, hd => by
    refine V_iload (v := Int32.ofInt ((k : Int))) mi_149_2 (by simp [stL, lv_args, Value.category]) ?_
    refine V_aload (v := ad c) mi_149_3 (by simp [stL, lv_args, Value.category]) ?_
    refine V_lenA mi_149_4 hG e ?_
    refine V_cge mi_149_5 ⟨by omega, by omega⟩ ⟨by omega, by omega⟩ (fun q => ?_) (fun q => ?_)
    · exact V_retV mi_149_18 ⟨rfl, hG, ho, fun j hj => hd j (by omega)⟩
    · exact absurd q (by omega)
  | m + 1, k, w, hm, hG, ho, hd => by
    refine V_iload (v := Int32.ofInt ((k : Int))) mi_149_2 (by simp [stL, lv_args, Value.category]) ?_
    refine V_aload (v := ad c) mi_149_3 (by simp [stL, lv_args, Value.category]) ?_
    refine V_lenA mi_149_4 hG e ?_
    refine V_cge mi_149_5 ⟨by omega, by omega⟩ ⟨by omega, by omega⟩ (fun q => ?_) (fun q => ?_)
    · exact absurd q (by omega)
    · refine V_aload (v := ad c) mi_149_8 (by simp [stL, lv_args, Value.category]) ?_
      refine V_iload (v := Int32.ofInt ((k : Int))) mi_149_9 (by simp [stL, lv_args, Value.category]) ?_
      refine V_iload (v := Int32.ofInt (v)) mi_149_10 (by simp [stL, lv_args, Value.category]) ?_
      refine V_astX (j := k) mi_149_11 rfl hG e (by omega) (by omega) (hs k (by omega)) (by rw [Int32.toInt_ofInt_of_le (by omega) (by omega)]; omega) (by rw [Int32.toInt_ofInt_of_le (by omega) (by omega)]; omega) (fun w2 G2 U => ?_)
      refine V_iinc (v := Int32.ofInt ((k : Int))) mi_149_12 (by simp [stL, lv_args, Value.category]) ?_
      rw [ia2]
      refine V_goto mi_149_15 ?_
      refine V_sub (lv' := [(0, .ref (ad c)), (1, .int (Int32.ofInt v)), (2, .int (Int32.ofInt ((k + 1 : Nat) : Int)))]) (fun q hq => ?_) ?_
      · simp only [List.mem_cons, List.not_mem_nil, or_false] at hq
        rcases hq with rfl | rfl | rfl <;> simp [stL, lv_args, Value.category]
      · refine fill_2 e hs hn vI b1 b2 m (k + 1) w2 (by omega) G2 (fun c' i hc => (upd_ne U (fun e => hc e.1)).trans (ho c' i hc)) (fun j hj => ?_)
        by_cases ej : j = k
        · subst ej
          exact upd_eq U
        · exact (upd_ne U (fun q => ej q.2)).trans (hd j (by omega))
theorem fill_ct {c n : Nat} {lo hi v : Int} (hg : gA c n lo hi) (hG : GOK ad tys GG ws) (hn : n ≤ 100000) (vI : I32 v) (b1 : lo ≤ v) (b2 : v ≤ hi) : CT l D tys A 149 0 0 0 [.ref (ad c), .int (Int32.ofInt v)] ws (fun r w => r = none ∧ GOK ad tys GG w ∧ (∀ c' i, c' ≠ c → rd w c' i = rd ws c' i) ∧ (∀ j : Nat, j < n → rd w c j = some (.int (Int32.ofInt v)))) := by
  obtain ⟨segs, e, hs⟩ := hg
  refine CT_of_V (by omega) (show (2 : Nat) ≤ mML 149 by decide +kernel) ?_
  refine V_ipush mi_149_0 ?_
  refine V_istore mi_149_1 ?_
  refine V_sub (lv' := [(0, .ref (ad c)), (1, .int (Int32.ofInt v)), (2, .int (Int32.ofInt ((0 : Nat) : Int)))]) (fun q hq => ?_) (fill_2 e hs hn vI b1 b2 n 0 ws (by omega) hG (fun _ _ _ => rfl) (fun j hj => by omega))
  simp only [List.mem_cons, List.not_mem_nil, or_false] at hq
  rcases hq with rfl | rfl | rfl <;> simp [stL, lv_args, Value.category]
theorem copy_2 {c c2 n : Nat} {lo hi : Int} {segs segs2 : List SG} (e : GG[c]? = some ((1, 0, n), segs)) (e2 : GG[c2]? = some ((1, 0, n), segs2)) (hs : ∀ j, j < n → segAt segs j = some (0, lo, hi)) (hs2 : ∀ j, j < n → segAt segs2 j = some (0, lo, hi)) (hn : n ≤ 100000) (hc : c ≠ c2) (lI : I32 lo) (hI : I32 hi) : ∀ (m k : Nat) (w : va_W), k + m = n → GOK ad tys GG w → (∀ c' i, c' ≠ c2 → rd w c' i = rd ws c' i) → (∀ j, j < k → rd w c2 j = rd ws c j) → V l D tys A 150 0 0 0 (fun r w => r = none ∧ GOK ad tys GG w ∧ (∀ c' i, c' ≠ c2 → rd w c' i = rd ws c' i) ∧ (∀ j : Nat, j < n → rd w c2 j = rd ws c j)) 0 0 2 [(0, .ref (ad c)), (1, .ref (ad c2)), (2, .int (Int32.ofInt (k : Int)))] [] w
  | 0, k, w, hm, hG, ho, hd => by
    refine V_iload (v := Int32.ofInt ((k : Int))) mi_150_2 (by simp [stL, lv_args, Value.category]) ?_
    refine V_aload (v := ad c) mi_150_3 (by simp [stL, lv_args, Value.category]) ?_
    refine V_lenA mi_150_4 hG e ?_
    refine V_cge mi_150_5 ⟨by omega, by omega⟩ ⟨by omega, by omega⟩ (fun q => ?_) (fun q => ?_)
    · exact V_retV mi_150_26 ⟨rfl, hG, ho, fun j hj => hd j (by omega)⟩
    · exact absurd q (by omega)
  | m + 1, k, w, hm, hG, ho, hd => by
    refine V_iload (v := Int32.ofInt ((k : Int))) mi_150_2 (by simp [stL, lv_args, Value.category]) ?_
    refine V_aload (v := ad c) mi_150_3 (by simp [stL, lv_args, Value.category]) ?_
    refine V_lenA mi_150_4 hG e ?_
    refine V_cge mi_150_5 ⟨by omega, by omega⟩ ⟨by omega, by omega⟩ (fun q => ?_) (fun q => ?_)
    · exact absurd q (by omega)
    · refine V_iload (v := Int32.ofInt ((k : Int))) mi_150_8 (by simp [stL, lv_args, Value.category]) ?_
      refine V_aload (v := ad c2) mi_150_9 (by simp [stL, lv_args, Value.category]) ?_
      refine V_lenA mi_150_10 hG e2 ?_
      refine V_cge mi_150_11 ⟨by omega, by omega⟩ ⟨by omega, by omega⟩ (fun q2 => ?_) (fun q2 => ?_)
      · exact absurd q2 (by omega)
      · refine V_aload (v := ad c2) mi_150_14 (by simp [stL, lv_args, Value.category]) ?_
        refine V_iload (v := Int32.ofInt ((k : Int))) mi_150_15 (by simp [stL, lv_args, Value.category]) ?_
        refine V_aload (v := ad c) mi_150_16 (by simp [stL, lv_args, Value.category]) ?_
        refine V_iload (v := Int32.ofInt ((k : Int))) mi_150_17 (by simp [stL, lv_args, Value.category]) ?_
        obtain ⟨z, hz, z0, z1⟩ := cel hG e (j := k) (by omega) (hs k (by omega))
        refine V_aldX (j := k) mi_150_18 rfl hG e (by omega) (by omega) hz ?_
        refine V_astX (j := k) mi_150_19 rfl hG e2 (by omega) (by omega) (hs2 k (by omega)) (by rw [Int32.toInt_ofInt_of_le (by omega) (by omega)]; omega) (by rw [Int32.toInt_ofInt_of_le (by omega) (by omega)]; omega) (fun w2 G2 U => ?_)
        refine V_iinc (v := Int32.ofInt ((k : Int))) mi_150_20 (by simp [stL, lv_args, Value.category]) ?_
        rw [ia2]
        refine V_goto mi_150_23 ?_
        refine V_sub (lv' := [(0, .ref (ad c)), (1, .ref (ad c2)), (2, .int (Int32.ofInt ((k + 1 : Nat) : Int)))]) (fun q hq => ?_) ?_
        · simp only [List.mem_cons, List.not_mem_nil, or_false] at hq
          rcases hq with rfl | rfl | rfl <;> simp [stL, lv_args, Value.category]
        · refine copy_2 e e2 hs hs2 hn hc lI hI m (k + 1) w2 (by omega) G2 (fun c' i hc => (upd_ne U (fun e => hc e.1)).trans (ho c' i hc)) (fun j hj => ?_)
          by_cases ej : j = k
          · subst ej
            rw [upd_eq U, ← ho c j hc, hz]
          · exact (upd_ne U (fun q => ej q.2)).trans (hd j (by omega))
theorem copy_ct {c c2 n : Nat} {lo hi : Int} (hg : gA c n lo hi) (hg2 : gA c2 n lo hi) (hG : GOK ad tys GG ws) (hn : n ≤ 100000) (hc : c ≠ c2) (lI : I32 lo) (hI : I32 hi) : CT l D tys A 150 0 0 0 [.ref (ad c), .ref (ad c2)] ws (fun r w => r = none ∧ GOK ad tys GG w ∧ (∀ c' i, c' ≠ c2 → rd w c' i = rd ws c' i) ∧ (∀ j : Nat, j < n → rd w c2 j = rd ws c j)) := by
  obtain ⟨segs, e, hs⟩ := hg
  obtain ⟨segs2, e2, hs2⟩ := hg2
  refine CT_of_V (by omega) (show (2 : Nat) ≤ mML 150 by decide +kernel) ?_
  refine V_ipush mi_150_0 ?_
  refine V_istore mi_150_1 ?_
  refine V_sub (lv' := [(0, .ref (ad c)), (1, .ref (ad c2)), (2, .int (Int32.ofInt ((0 : Nat) : Int)))]) (fun q hq => ?_) (copy_2 e e2 hs hs2 hn hc lI hI n 0 ws (by omega) hG (fun _ _ _ => rfl) (fun j hj => by omega))
  simp only [List.mem_cons, List.not_mem_nil, or_false] at hq
  rcases hq with rfl | rfl | rfl <;> simp [stL, lv_args, Value.category]
noncomputable def z0 : Nat → Int := fx (fun _ => 0) (fun _ => -1)
theorem z0_k {k i : Nat} (hk : k < 12) (hi : i < hxN k) : z0 (hxJ k i) = if k = 6 then -1 else 0 := by
  obtain ⟨-, -, -, e⟩ := hxN_k hk hi
  unfold z0 fx
  by_cases q : k = 6
  · rw [if_pos (e.mp q), if_pos q]
  · rw [if_neg (fun h => q (e.mpr h)), if_neg q]
theorem clr_ct (hG : GOK ad tys GG ws) : CT l D tys A 99 1 0 0 [.ref (ad 16)] ws (fun r w => r = none ∧ GOK ad tys GG w ∧ HX 16 z0 w ∧ ∀ c i, ¬ (16 ≤ c ∧ c ≤ 27) → rd w c i = rd ws c i) := by
  refine CT_of_V (by omega) (show (1 : Nat) ≤ mML 99 by decide +kernel) ?_
  refine V_aload (v := ad 16) mi_99_0 (by simp [stL, lv_args, Value.category]) ?_
  refine V_ipush mi_99_1 ?_
  refine V_pO mi_99_2 g16f0 (by omega) (by decide +kernel) (by decide +kernel) hG (by rw [Int32.toInt_ofInt_of_le (by omega) (by omega)]; omega) (by rw [Int32.toInt_ofInt_of_le (by omega) (by omega)]; omega) (fun w0 G0 U0 => ?_)
  refine V_aload (v := ad 16) mi_99_5 (by simp [stL, lv_args, Value.category]) ?_
  refine V_ipush mi_99_6 ?_
  refine V_pO mi_99_7 g16f1 (by omega) (by decide +kernel) (by decide +kernel) G0 (by rw [Int32.toInt_ofInt_of_le (by omega) (by omega)]; omega) (by rw [Int32.toInt_ofInt_of_le (by omega) (by omega)]; omega) (fun w1 G1 U1 => ?_)
  refine V_aload (v := ad 16) mi_99_10 (by simp [stL, lv_args, Value.category]) ?_
  refine V_ipush mi_99_11 ?_
  refine V_pO mi_99_12 g16f2 (by omega) (by decide +kernel) (by decide +kernel) G1 (by rw [Int32.toInt_ofInt_of_le (by omega) (by omega)]; omega) (by rw [Int32.toInt_ofInt_of_le (by omega) (by omega)]; omega) (fun w2 G2 U2 => ?_)
  refine V_aload (v := ad 16) mi_99_15 (by simp [stL, lv_args, Value.category]) ?_
  refine V_ipush mi_99_16 ?_
  refine V_pO mi_99_17 g16f3 (by omega) (by decide +kernel) (by decide +kernel) G2 (by rw [Int32.toInt_ofInt_of_le (by omega) (by omega)]; omega) (by rw [Int32.toInt_ofInt_of_le (by omega) (by omega)]; omega) (fun w3 G3 U3 => ?_)
  refine V_aload (v := ad 16) mi_99_20 (by simp [stL, lv_args, Value.category]) ?_
  refine V_ipush mi_99_21 ?_
  refine V_pO mi_99_22 g16f4 (by omega) (by decide +kernel) (by decide +kernel) G3 (by rw [Int32.toInt_ofInt_of_le (by omega) (by omega)]; omega) (by rw [Int32.toInt_ofInt_of_le (by omega) (by omega)]; omega) (fun w4 G4 U4 => ?_)
  refine V_aload (v := ad 16) mi_99_25 (by simp [stL, lv_args, Value.category]) ?_
  refine V_ipush mi_99_26 ?_
  refine V_pO mi_99_27 g16f5 (by omega) (by decide +kernel) (by decide +kernel) G4 (by rw [Int32.toInt_ofInt_of_le (by omega) (by omega)]; omega) (by rw [Int32.toInt_ofInt_of_le (by omega) (by omega)]; omega) (fun w5 G5 U5 => ?_)
  have ho : ∀ c i, c ≠ 16 → rd w5 c i = rd ws c i := fun c i hc => (upd_ne U5 (by omega)).trans ((upd_ne U4 (by omega)).trans ((upd_ne U3 (by omega)).trans ((upd_ne U2 (by omega)).trans ((upd_ne U1 (by omega)).trans (upd_ne U0 (by omega))))))
  have h : HY 16 1 z0 w5 := fun k hk i hi => by
    have k0 : k = 0 := by omega
    subst k0
    rw [z0_k (by omega) hi, if_neg (by omega)]
    have hi : i < 6 := hi
    have e0 : rd w5 16 0 = some (.int (Int32.ofInt 0)) := (upd_ne U5 (by omega)).trans ((upd_ne U4 (by omega)).trans ((upd_ne U3 (by omega)).trans ((upd_ne U2 (by omega)).trans ((upd_ne U1 (by omega)).trans (upd_eq U0)))))
    have e1 : rd w5 16 1 = some (.int (Int32.ofInt 0)) := (upd_ne U5 (by omega)).trans ((upd_ne U4 (by omega)).trans ((upd_ne U3 (by omega)).trans ((upd_ne U2 (by omega)).trans (upd_eq U1))))
    have e2 : rd w5 16 2 = some (.int (Int32.ofInt 0)) := (upd_ne U5 (by omega)).trans ((upd_ne U4 (by omega)).trans ((upd_ne U3 (by omega)).trans (upd_eq U2)))
    have e3 : rd w5 16 3 = some (.int (Int32.ofInt 0)) := (upd_ne U5 (by omega)).trans ((upd_ne U4 (by omega)).trans (upd_eq U3))
    have e4 : rd w5 16 4 = some (.int (Int32.ofInt 0)) := (upd_ne U5 (by omega)).trans (upd_eq U4)
    have e5 : rd w5 16 5 = some (.int (Int32.ofInt 0)) := upd_eq U5
    rcases i with _ | _ | _ | _ | _ | _ | i
    · exact e0
    · exact e1
    · exact e2
    · exact e3
    · exact e4
    · exact e5
    · omega
  refine V_aload (v := ad 16) mi_99_30 (by simp [stL, lv_args, Value.category]) ?_
  refine V_gR mi_99_31 g16r6 (by omega) G5 ?_
  refine V_ipush mi_99_34 ?_
  refine V_stat (As := [.ref (ad 17), .int (Int32.ofInt (0))]) (st := []) mi_99_35 (by omega) (fill_ct (v := 0) a17 G5 (by omega) ⟨by omega, by omega⟩ (by omega) (by omega)) (by omega) (show 2 = mN 149 by decide +kernel) (by simp [Value.category]) ⟨Nat.le_refl _, Nat.le_refl _⟩ ?_
  rintro r v1 ⟨rfl, H1, o1, d1⟩
  replace h := HY_step h o1 (fun i hi => by rw [z0_k (by omega) hi, if_neg (by omega)]; exact d1 i hi)
  replace ho : ∀ c i, ¬ (16 ≤ c ∧ c ≤ 27) → rd v1 c i = rd ws c i := fun c i hc => (o1 c i (by omega)).trans (ho c i (by omega))
  refine V_aload (v := ad 16) mi_99_38 (by simp [stL, lv_args, Value.category]) ?_
  refine V_gR mi_99_39 g16r7 (by omega) H1 ?_
  refine V_ipush mi_99_42 ?_
  refine V_stat (As := [.ref (ad 18), .int (Int32.ofInt (0))]) (st := []) mi_99_43 (by omega) (fill_ct (v := 0) a18 H1 (by omega) ⟨by omega, by omega⟩ (by omega) (by omega)) (by omega) (show 2 = mN 149 by decide +kernel) (by simp [Value.category]) ⟨Nat.le_refl _, Nat.le_refl _⟩ ?_
  rintro r v2 ⟨rfl, H2, o2, d2⟩
  replace h := HY_step h o2 (fun i hi => by rw [z0_k (by omega) hi, if_neg (by omega)]; exact d2 i hi)
  replace ho : ∀ c i, ¬ (16 ≤ c ∧ c ≤ 27) → rd v2 c i = rd ws c i := fun c i hc => (o2 c i (by omega)).trans (ho c i (by omega))
  refine V_aload (v := ad 16) mi_99_46 (by simp [stL, lv_args, Value.category]) ?_
  refine V_gR mi_99_47 g16r8 (by omega) H2 ?_
  refine V_ipush mi_99_50 ?_
  refine V_stat (As := [.ref (ad 19), .int (Int32.ofInt (0))]) (st := []) mi_99_51 (by omega) (fill_ct (v := 0) a19 H2 (by omega) ⟨by omega, by omega⟩ (by omega) (by omega)) (by omega) (show 2 = mN 149 by decide +kernel) (by simp [Value.category]) ⟨Nat.le_refl _, Nat.le_refl _⟩ ?_
  rintro r v3 ⟨rfl, H3, o3, d3⟩
  replace h := HY_step h o3 (fun i hi => by rw [z0_k (by omega) hi, if_neg (by omega)]; exact d3 i hi)
  replace ho : ∀ c i, ¬ (16 ≤ c ∧ c ≤ 27) → rd v3 c i = rd ws c i := fun c i hc => (o3 c i (by omega)).trans (ho c i (by omega))
  refine V_aload (v := ad 16) mi_99_54 (by simp [stL, lv_args, Value.category]) ?_
  refine V_gR mi_99_55 g16r9 (by omega) H3 ?_
  refine V_ipush mi_99_58 ?_
  refine V_stat (As := [.ref (ad 20), .int (Int32.ofInt (0))]) (st := []) mi_99_59 (by omega) (fill_ct (v := 0) a20 H3 (by omega) ⟨by omega, by omega⟩ (by omega) (by omega)) (by omega) (show 2 = mN 149 by decide +kernel) (by simp [Value.category]) ⟨Nat.le_refl _, Nat.le_refl _⟩ ?_
  rintro r v4 ⟨rfl, H4, o4, d4⟩
  replace h := HY_step h o4 (fun i hi => by rw [z0_k (by omega) hi, if_neg (by omega)]; exact d4 i hi)
  replace ho : ∀ c i, ¬ (16 ≤ c ∧ c ≤ 27) → rd v4 c i = rd ws c i := fun c i hc => (o4 c i (by omega)).trans (ho c i (by omega))
  refine V_aload (v := ad 16) mi_99_62 (by simp [stL, lv_args, Value.category]) ?_
  refine V_gR mi_99_63 g16r10 (by omega) H4 ?_
  refine V_ipush mi_99_66 ?_
  refine V_stat (As := [.ref (ad 21), .int (Int32.ofInt (0))]) (st := []) mi_99_67 (by omega) (fill_ct (v := 0) a21 H4 (by omega) ⟨by omega, by omega⟩ (by omega) (by omega)) (by omega) (show 2 = mN 149 by decide +kernel) (by simp [Value.category]) ⟨Nat.le_refl _, Nat.le_refl _⟩ ?_
  rintro r v5 ⟨rfl, H5, o5, d5⟩
  replace h := HY_step h o5 (fun i hi => by rw [z0_k (by omega) hi, if_neg (by omega)]; exact d5 i hi)
  replace ho : ∀ c i, ¬ (16 ≤ c ∧ c ≤ 27) → rd v5 c i = rd ws c i := fun c i hc => (o5 c i (by omega)).trans (ho c i (by omega))
  refine V_aload (v := ad 16) mi_99_70 (by simp [stL, lv_args, Value.category]) ?_
  refine V_gR mi_99_71 g16r11 (by omega) H5 ?_
  refine V_ipush mi_99_74 ?_
  refine V_stat (As := [.ref (ad 22), .int (Int32.ofInt (-1))]) (st := []) mi_99_75 (by omega) (fill_ct (v := (-1)) a22 H5 (by omega) ⟨by omega, by omega⟩ (by omega) (by omega)) (by omega) (show 2 = mN 149 by decide +kernel) (by simp [Value.category]) ⟨Nat.le_refl _, Nat.le_refl _⟩ ?_
  rintro r v6 ⟨rfl, H6, o6, d6⟩
  replace h := HY_step h o6 (fun i hi => by rw [z0_k (by omega) hi, if_pos rfl]; exact d6 i hi)
  replace ho : ∀ c i, ¬ (16 ≤ c ∧ c ≤ 27) → rd v6 c i = rd ws c i := fun c i hc => (o6 c i (by omega)).trans (ho c i (by omega))
  refine V_aload (v := ad 16) mi_99_78 (by simp [stL, lv_args, Value.category]) ?_
  refine V_gR mi_99_79 g16r12 (by omega) H6 ?_
  refine V_ipush mi_99_82 ?_
  refine V_stat (As := [.ref (ad 23), .int (Int32.ofInt (0))]) (st := []) mi_99_83 (by omega) (fill_ct (v := 0) a23 H6 (by omega) ⟨by omega, by omega⟩ (by omega) (by omega)) (by omega) (show 2 = mN 149 by decide +kernel) (by simp [Value.category]) ⟨Nat.le_refl _, Nat.le_refl _⟩ ?_
  rintro r v7 ⟨rfl, H7, o7, d7⟩
  replace h := HY_step h o7 (fun i hi => by rw [z0_k (by omega) hi, if_neg (by omega)]; exact d7 i hi)
  replace ho : ∀ c i, ¬ (16 ≤ c ∧ c ≤ 27) → rd v7 c i = rd ws c i := fun c i hc => (o7 c i (by omega)).trans (ho c i (by omega))
  refine V_aload (v := ad 16) mi_99_86 (by simp [stL, lv_args, Value.category]) ?_
  refine V_gR mi_99_87 g16r13 (by omega) H7 ?_
  refine V_ipush mi_99_90 ?_
  refine V_stat (As := [.ref (ad 24), .int (Int32.ofInt (0))]) (st := []) mi_99_91 (by omega) (fill_ct (v := 0) a24 H7 (by omega) ⟨by omega, by omega⟩ (by omega) (by omega)) (by omega) (show 2 = mN 149 by decide +kernel) (by simp [Value.category]) ⟨Nat.le_refl _, Nat.le_refl _⟩ ?_
  rintro r v8 ⟨rfl, H8, o8, d8⟩
  replace h := HY_step h o8 (fun i hi => by rw [z0_k (by omega) hi, if_neg (by omega)]; exact d8 i hi)
  replace ho : ∀ c i, ¬ (16 ≤ c ∧ c ≤ 27) → rd v8 c i = rd ws c i := fun c i hc => (o8 c i (by omega)).trans (ho c i (by omega))
  refine V_aload (v := ad 16) mi_99_94 (by simp [stL, lv_args, Value.category]) ?_
  refine V_gR mi_99_95 g16r14 (by omega) H8 ?_
  refine V_ipush mi_99_98 ?_
  refine V_stat (As := [.ref (ad 25), .int (Int32.ofInt (0))]) (st := []) mi_99_99 (by omega) (fill_ct (v := 0) a25 H8 (by omega) ⟨by omega, by omega⟩ (by omega) (by omega)) (by omega) (show 2 = mN 149 by decide +kernel) (by simp [Value.category]) ⟨Nat.le_refl _, Nat.le_refl _⟩ ?_
  rintro r v9 ⟨rfl, H9, o9, d9⟩
  replace h := HY_step h o9 (fun i hi => by rw [z0_k (by omega) hi, if_neg (by omega)]; exact d9 i hi)
  replace ho : ∀ c i, ¬ (16 ≤ c ∧ c ≤ 27) → rd v9 c i = rd ws c i := fun c i hc => (o9 c i (by omega)).trans (ho c i (by omega))
  refine V_aload (v := ad 16) mi_99_102 (by simp [stL, lv_args, Value.category]) ?_
  refine V_gR mi_99_103 g16r15 (by omega) H9 ?_
  refine V_ipush mi_99_106 ?_
  refine V_stat (As := [.ref (ad 26), .int (Int32.ofInt (0))]) (st := []) mi_99_107 (by omega) (fill_ct (v := 0) a26 H9 (by omega) ⟨by omega, by omega⟩ (by omega) (by omega)) (by omega) (show 2 = mN 149 by decide +kernel) (by simp [Value.category]) ⟨Nat.le_refl _, Nat.le_refl _⟩ ?_
  rintro r v10 ⟨rfl, H10, o10, d10⟩
  replace h := HY_step h o10 (fun i hi => by rw [z0_k (by omega) hi, if_neg (by omega)]; exact d10 i hi)
  replace ho : ∀ c i, ¬ (16 ≤ c ∧ c ≤ 27) → rd v10 c i = rd ws c i := fun c i hc => (o10 c i (by omega)).trans (ho c i (by omega))
  refine V_aload (v := ad 16) mi_99_110 (by simp [stL, lv_args, Value.category]) ?_
  refine V_gR mi_99_111 g16r16 (by omega) H10 ?_
  refine V_ipush mi_99_114 ?_
  refine V_stat (As := [.ref (ad 27), .int (Int32.ofInt (0))]) (st := []) mi_99_115 (by omega) (fill_ct (v := 0) a27 H10 (by omega) ⟨by omega, by omega⟩ (by omega) (by omega)) (by omega) (show 2 = mN 149 by decide +kernel) (by simp [Value.category]) ⟨Nat.le_refl _, Nat.le_refl _⟩ ?_
  rintro r v11 ⟨rfl, H11, o11, d11⟩
  replace h := HY_step h o11 (fun i hi => by rw [z0_k (by omega) hi, if_neg (by omega)]; exact d11 i hi)
  replace ho : ∀ c i, ¬ (16 ≤ c ∧ c ≤ 27) → rd v11 c i = rd ws c i := fun c i hc => (o11 c i (by omega)).trans (ho c i (by omega))
  exact V_retV mi_99_118 ⟨rfl, H11, HY_HX h, ho⟩
theorem hx0 {c : Nat} {g : Nat → Int} {w : va_W} (h : HX c g w) {i : Nat} (hi : i < 6) : rd w c i = some (.int (Int32.ofInt (g (hxJ 0 i)))) := HX_HY h 0 (by omega) i hi
theorem cpf_ct {g : Nat → Int} (hG : GOK ad tys GG ws) (hX : HX 16 g ws) : CT l D tys A 100 1 0 0 [.ref (ad 4), .ref (ad 16)] ws (fun r w => r = none ∧ GOK ad tys GG w ∧ HX 4 g w ∧ ∀ c i, ¬ (4 ≤ c ∧ c ≤ 15) → rd w c i = rd ws c i) := by
  refine CT_of_V (by omega) (show (2 : Nat) ≤ mML 100 by decide +kernel) ?_
  refine V_aload (v := ad 4) mi_100_0 (by simp [stL, lv_args, Value.category]) ?_
  refine V_aload (v := ad 16) mi_100_1 (by simp [stL, lv_args, Value.category]) ?_
  obtain ⟨p0, hp0, lo0, hi0⟩ := celO hG g16f0 (by omega)
  refine V_gO mi_100_2 g16o hG (hp0) ?_
  refine V_pO mi_100_5 g4f0 (by omega) (by decide +kernel) (by decide +kernel) hG (by rw [Int32.toInt_ofInt_of_le (by omega) (by omega)]; omega) (by rw [Int32.toInt_ofInt_of_le (by omega) (by omega)]; omega) (fun w0 G0 U0 => ?_)
  refine V_aload (v := ad 4) mi_100_8 (by simp [stL, lv_args, Value.category]) ?_
  refine V_aload (v := ad 16) mi_100_9 (by simp [stL, lv_args, Value.category]) ?_
  obtain ⟨p1, hp1, lo1, hi1⟩ := celO hG g16f1 (by omega)
  refine V_gO mi_100_10 g16o G0 ((upd_ne U0 (by omega)).trans hp1) ?_
  refine V_pO mi_100_13 g4f1 (by omega) (by decide +kernel) (by decide +kernel) G0 (by rw [Int32.toInt_ofInt_of_le (by omega) (by omega)]; omega) (by rw [Int32.toInt_ofInt_of_le (by omega) (by omega)]; omega) (fun w1 G1 U1 => ?_)
  refine V_aload (v := ad 4) mi_100_16 (by simp [stL, lv_args, Value.category]) ?_
  refine V_aload (v := ad 16) mi_100_17 (by simp [stL, lv_args, Value.category]) ?_
  obtain ⟨p2, hp2, lo2, hi2⟩ := celO hG g16f2 (by omega)
  refine V_gO mi_100_18 g16o G1 ((upd_ne U1 (by omega)).trans ((upd_ne U0 (by omega)).trans hp2)) ?_
  refine V_pO mi_100_21 g4f2 (by omega) (by decide +kernel) (by decide +kernel) G1 (by rw [Int32.toInt_ofInt_of_le (by omega) (by omega)]; omega) (by rw [Int32.toInt_ofInt_of_le (by omega) (by omega)]; omega) (fun w2 G2 U2 => ?_)
  refine V_aload (v := ad 4) mi_100_24 (by simp [stL, lv_args, Value.category]) ?_
  refine V_aload (v := ad 16) mi_100_25 (by simp [stL, lv_args, Value.category]) ?_
  obtain ⟨p3, hp3, lo3, hi3⟩ := celO hG g16f3 (by omega)
  refine V_gO mi_100_26 g16o G2 ((upd_ne U2 (by omega)).trans ((upd_ne U1 (by omega)).trans ((upd_ne U0 (by omega)).trans hp3))) ?_
  refine V_pO mi_100_29 g4f3 (by omega) (by decide +kernel) (by decide +kernel) G2 (by rw [Int32.toInt_ofInt_of_le (by omega) (by omega)]; omega) (by rw [Int32.toInt_ofInt_of_le (by omega) (by omega)]; omega) (fun w3 G3 U3 => ?_)
  refine V_aload (v := ad 4) mi_100_32 (by simp [stL, lv_args, Value.category]) ?_
  refine V_aload (v := ad 16) mi_100_33 (by simp [stL, lv_args, Value.category]) ?_
  obtain ⟨p4, hp4, lo4, hi4⟩ := celO hG g16f4 (by omega)
  refine V_gO mi_100_34 g16o G3 ((upd_ne U3 (by omega)).trans ((upd_ne U2 (by omega)).trans ((upd_ne U1 (by omega)).trans ((upd_ne U0 (by omega)).trans hp4)))) ?_
  refine V_pO mi_100_37 g4f4 (by omega) (by decide +kernel) (by decide +kernel) G3 (by rw [Int32.toInt_ofInt_of_le (by omega) (by omega)]; omega) (by rw [Int32.toInt_ofInt_of_le (by omega) (by omega)]; omega) (fun w4 G4 U4 => ?_)
  refine V_aload (v := ad 4) mi_100_40 (by simp [stL, lv_args, Value.category]) ?_
  refine V_aload (v := ad 16) mi_100_41 (by simp [stL, lv_args, Value.category]) ?_
  obtain ⟨p5, hp5, lo5, hi5⟩ := celO hG g16f5 (by omega)
  refine V_gO mi_100_42 g16o G4 ((upd_ne U4 (by omega)).trans ((upd_ne U3 (by omega)).trans ((upd_ne U2 (by omega)).trans ((upd_ne U1 (by omega)).trans ((upd_ne U0 (by omega)).trans hp5))))) ?_
  refine V_pO mi_100_45 g4f5 (by omega) (by decide +kernel) (by decide +kernel) G4 (by rw [Int32.toInt_ofInt_of_le (by omega) (by omega)]; omega) (by rw [Int32.toInt_ofInt_of_le (by omega) (by omega)]; omega) (fun w5 G5 U5 => ?_)
  have ho : ∀ c i, c ≠ 4 → rd w5 c i = rd ws c i := fun c i hc => (upd_ne U5 (by omega)).trans ((upd_ne U4 (by omega)).trans ((upd_ne U3 (by omega)).trans ((upd_ne U2 (by omega)).trans ((upd_ne U1 (by omega)).trans (upd_ne U0 (by omega))))))
  have h : HY 4 1 g w5 := fun k hk i hi => by
    have k0 : k = 0 := by omega
    subst k0
    have hi : i < 6 := hi
    rw [← hx0 hX hi]
    have e0 : rd w5 4 0 = rd ws 16 0 := by rw [hp0]; exact (upd_ne U5 (by omega)).trans ((upd_ne U4 (by omega)).trans ((upd_ne U3 (by omega)).trans ((upd_ne U2 (by omega)).trans ((upd_ne U1 (by omega)).trans (upd_eq U0)))))
    have e1 : rd w5 4 1 = rd ws 16 1 := by rw [hp1]; exact (upd_ne U5 (by omega)).trans ((upd_ne U4 (by omega)).trans ((upd_ne U3 (by omega)).trans ((upd_ne U2 (by omega)).trans (upd_eq U1))))
    have e2 : rd w5 4 2 = rd ws 16 2 := by rw [hp2]; exact (upd_ne U5 (by omega)).trans ((upd_ne U4 (by omega)).trans ((upd_ne U3 (by omega)).trans (upd_eq U2)))
    have e3 : rd w5 4 3 = rd ws 16 3 := by rw [hp3]; exact (upd_ne U5 (by omega)).trans ((upd_ne U4 (by omega)).trans (upd_eq U3))
    have e4 : rd w5 4 4 = rd ws 16 4 := by rw [hp4]; exact (upd_ne U5 (by omega)).trans (upd_eq U4)
    have e5 : rd w5 4 5 = rd ws 16 5 := by rw [hp5]; exact upd_eq U5
    rcases i with _ | _ | _ | _ | _ | _ | i
    · exact e0
    · exact e1
    · exact e2
    · exact e3
    · exact e4
    · exact e5
    · omega
  refine V_aload (v := ad 16) mi_100_48 (by simp [stL, lv_args, Value.category]) ?_
  refine V_gR mi_100_49 g16r6 (by omega) G5 ?_
  refine V_aload (v := ad 4) mi_100_52 (by simp [stL, lv_args, Value.category]) ?_
  refine V_gR mi_100_53 g4r6 (by omega) G5 ?_
  refine V_stat (As := [.ref (ad 17), .ref (ad 5)]) (st := []) mi_100_56 (by omega) (copy_ct a17 a5 G5 (by omega) (by omega) ⟨by omega, by omega⟩ ⟨by omega, by omega⟩) (by omega) (show 2 = mN 150 by decide +kernel) (by simp [Value.category]) ⟨Nat.le_refl _, Nat.le_refl _⟩ ?_
  rintro r v1 ⟨rfl, H1, o1, d1⟩
  replace h := HY_step h o1 (fun i hi => by rw [d1 i hi, ho _ _ (by omega)]; exact HX_HY hX 1 (by omega) i hi)
  replace ho : ∀ c i, ¬ (4 ≤ c ∧ c ≤ 15) → rd v1 c i = rd ws c i := fun c i hc => (o1 c i (by omega)).trans (ho c i (by omega))
  refine V_aload (v := ad 16) mi_100_59 (by simp [stL, lv_args, Value.category]) ?_
  refine V_gR mi_100_60 g16r7 (by omega) H1 ?_
  refine V_aload (v := ad 4) mi_100_63 (by simp [stL, lv_args, Value.category]) ?_
  refine V_gR mi_100_64 g4r7 (by omega) H1 ?_
  refine V_stat (As := [.ref (ad 18), .ref (ad 6)]) (st := []) mi_100_67 (by omega) (copy_ct a18 a6 H1 (by omega) (by omega) ⟨by omega, by omega⟩ ⟨by omega, by omega⟩) (by omega) (show 2 = mN 150 by decide +kernel) (by simp [Value.category]) ⟨Nat.le_refl _, Nat.le_refl _⟩ ?_
  rintro r v2 ⟨rfl, H2, o2, d2⟩
  replace h := HY_step h o2 (fun i hi => by rw [d2 i hi, ho _ _ (by omega)]; exact HX_HY hX 2 (by omega) i hi)
  replace ho : ∀ c i, ¬ (4 ≤ c ∧ c ≤ 15) → rd v2 c i = rd ws c i := fun c i hc => (o2 c i (by omega)).trans (ho c i (by omega))
  refine V_aload (v := ad 16) mi_100_70 (by simp [stL, lv_args, Value.category]) ?_
  refine V_gR mi_100_71 g16r8 (by omega) H2 ?_
  refine V_aload (v := ad 4) mi_100_74 (by simp [stL, lv_args, Value.category]) ?_
  refine V_gR mi_100_75 g4r8 (by omega) H2 ?_
  refine V_stat (As := [.ref (ad 19), .ref (ad 7)]) (st := []) mi_100_78 (by omega) (copy_ct a19 a7 H2 (by omega) (by omega) ⟨by omega, by omega⟩ ⟨by omega, by omega⟩) (by omega) (show 2 = mN 150 by decide +kernel) (by simp [Value.category]) ⟨Nat.le_refl _, Nat.le_refl _⟩ ?_
  rintro r v3 ⟨rfl, H3, o3, d3⟩
  replace h := HY_step h o3 (fun i hi => by rw [d3 i hi, ho _ _ (by omega)]; exact HX_HY hX 3 (by omega) i hi)
  replace ho : ∀ c i, ¬ (4 ≤ c ∧ c ≤ 15) → rd v3 c i = rd ws c i := fun c i hc => (o3 c i (by omega)).trans (ho c i (by omega))
  refine V_aload (v := ad 16) mi_100_81 (by simp [stL, lv_args, Value.category]) ?_
  refine V_gR mi_100_82 g16r9 (by omega) H3 ?_
  refine V_aload (v := ad 4) mi_100_85 (by simp [stL, lv_args, Value.category]) ?_
  refine V_gR mi_100_86 g4r9 (by omega) H3 ?_
  refine V_stat (As := [.ref (ad 20), .ref (ad 8)]) (st := []) mi_100_89 (by omega) (copy_ct a20 a8 H3 (by omega) (by omega) ⟨by omega, by omega⟩ ⟨by omega, by omega⟩) (by omega) (show 2 = mN 150 by decide +kernel) (by simp [Value.category]) ⟨Nat.le_refl _, Nat.le_refl _⟩ ?_
  rintro r v4 ⟨rfl, H4, o4, d4⟩
  replace h := HY_step h o4 (fun i hi => by rw [d4 i hi, ho _ _ (by omega)]; exact HX_HY hX 4 (by omega) i hi)
  replace ho : ∀ c i, ¬ (4 ≤ c ∧ c ≤ 15) → rd v4 c i = rd ws c i := fun c i hc => (o4 c i (by omega)).trans (ho c i (by omega))
  refine V_aload (v := ad 16) mi_100_92 (by simp [stL, lv_args, Value.category]) ?_
  refine V_gR mi_100_93 g16r10 (by omega) H4 ?_
  refine V_aload (v := ad 4) mi_100_96 (by simp [stL, lv_args, Value.category]) ?_
  refine V_gR mi_100_97 g4r10 (by omega) H4 ?_
  refine V_stat (As := [.ref (ad 21), .ref (ad 9)]) (st := []) mi_100_100 (by omega) (copy_ct a21 a9 H4 (by omega) (by omega) ⟨by omega, by omega⟩ ⟨by omega, by omega⟩) (by omega) (show 2 = mN 150 by decide +kernel) (by simp [Value.category]) ⟨Nat.le_refl _, Nat.le_refl _⟩ ?_
  rintro r v5 ⟨rfl, H5, o5, d5⟩
  replace h := HY_step h o5 (fun i hi => by rw [d5 i hi, ho _ _ (by omega)]; exact HX_HY hX 5 (by omega) i hi)
  replace ho : ∀ c i, ¬ (4 ≤ c ∧ c ≤ 15) → rd v5 c i = rd ws c i := fun c i hc => (o5 c i (by omega)).trans (ho c i (by omega))
  refine V_aload (v := ad 16) mi_100_103 (by simp [stL, lv_args, Value.category]) ?_
  refine V_gR mi_100_104 g16r11 (by omega) H5 ?_
  refine V_aload (v := ad 4) mi_100_107 (by simp [stL, lv_args, Value.category]) ?_
  refine V_gR mi_100_108 g4r11 (by omega) H5 ?_
  refine V_stat (As := [.ref (ad 22), .ref (ad 10)]) (st := []) mi_100_111 (by omega) (copy_ct a22 a10 H5 (by omega) (by omega) ⟨by omega, by omega⟩ ⟨by omega, by omega⟩) (by omega) (show 2 = mN 150 by decide +kernel) (by simp [Value.category]) ⟨Nat.le_refl _, Nat.le_refl _⟩ ?_
  rintro r v6 ⟨rfl, H6, o6, d6⟩
  replace h := HY_step h o6 (fun i hi => by rw [d6 i hi, ho _ _ (by omega)]; exact HX_HY hX 6 (by omega) i hi)
  replace ho : ∀ c i, ¬ (4 ≤ c ∧ c ≤ 15) → rd v6 c i = rd ws c i := fun c i hc => (o6 c i (by omega)).trans (ho c i (by omega))
  refine V_aload (v := ad 16) mi_100_114 (by simp [stL, lv_args, Value.category]) ?_
  refine V_gR mi_100_115 g16r12 (by omega) H6 ?_
  refine V_aload (v := ad 4) mi_100_118 (by simp [stL, lv_args, Value.category]) ?_
  refine V_gR mi_100_119 g4r12 (by omega) H6 ?_
  refine V_stat (As := [.ref (ad 23), .ref (ad 11)]) (st := []) mi_100_122 (by omega) (copy_ct a23 a11 H6 (by omega) (by omega) ⟨by omega, by omega⟩ ⟨by omega, by omega⟩) (by omega) (show 2 = mN 150 by decide +kernel) (by simp [Value.category]) ⟨Nat.le_refl _, Nat.le_refl _⟩ ?_
  rintro r v7 ⟨rfl, H7, o7, d7⟩
  replace h := HY_step h o7 (fun i hi => by rw [d7 i hi, ho _ _ (by omega)]; exact HX_HY hX 7 (by omega) i hi)
  replace ho : ∀ c i, ¬ (4 ≤ c ∧ c ≤ 15) → rd v7 c i = rd ws c i := fun c i hc => (o7 c i (by omega)).trans (ho c i (by omega))
  refine V_aload (v := ad 16) mi_100_125 (by simp [stL, lv_args, Value.category]) ?_
  refine V_gR mi_100_126 g16r13 (by omega) H7 ?_
  refine V_aload (v := ad 4) mi_100_129 (by simp [stL, lv_args, Value.category]) ?_
  refine V_gR mi_100_130 g4r13 (by omega) H7 ?_
  refine V_stat (As := [.ref (ad 24), .ref (ad 12)]) (st := []) mi_100_133 (by omega) (copy_ct a24 a12 H7 (by omega) (by omega) ⟨by omega, by omega⟩ ⟨by omega, by omega⟩) (by omega) (show 2 = mN 150 by decide +kernel) (by simp [Value.category]) ⟨Nat.le_refl _, Nat.le_refl _⟩ ?_
  rintro r v8 ⟨rfl, H8, o8, d8⟩
  replace h := HY_step h o8 (fun i hi => by rw [d8 i hi, ho _ _ (by omega)]; exact HX_HY hX 8 (by omega) i hi)
  replace ho : ∀ c i, ¬ (4 ≤ c ∧ c ≤ 15) → rd v8 c i = rd ws c i := fun c i hc => (o8 c i (by omega)).trans (ho c i (by omega))
  refine V_aload (v := ad 16) mi_100_136 (by simp [stL, lv_args, Value.category]) ?_
  refine V_gR mi_100_137 g16r14 (by omega) H8 ?_
  refine V_aload (v := ad 4) mi_100_140 (by simp [stL, lv_args, Value.category]) ?_
  refine V_gR mi_100_141 g4r14 (by omega) H8 ?_
  refine V_stat (As := [.ref (ad 25), .ref (ad 13)]) (st := []) mi_100_144 (by omega) (copy_ct a25 a13 H8 (by omega) (by omega) ⟨by omega, by omega⟩ ⟨by omega, by omega⟩) (by omega) (show 2 = mN 150 by decide +kernel) (by simp [Value.category]) ⟨Nat.le_refl _, Nat.le_refl _⟩ ?_
  rintro r v9 ⟨rfl, H9, o9, d9⟩
  replace h := HY_step h o9 (fun i hi => by rw [d9 i hi, ho _ _ (by omega)]; exact HX_HY hX 9 (by omega) i hi)
  replace ho : ∀ c i, ¬ (4 ≤ c ∧ c ≤ 15) → rd v9 c i = rd ws c i := fun c i hc => (o9 c i (by omega)).trans (ho c i (by omega))
  refine V_aload (v := ad 16) mi_100_147 (by simp [stL, lv_args, Value.category]) ?_
  refine V_gR mi_100_148 g16r15 (by omega) H9 ?_
  refine V_aload (v := ad 4) mi_100_151 (by simp [stL, lv_args, Value.category]) ?_
  refine V_gR mi_100_152 g4r15 (by omega) H9 ?_
  refine V_stat (As := [.ref (ad 26), .ref (ad 14)]) (st := []) mi_100_155 (by omega) (copy_ct a26 a14 H9 (by omega) (by omega) ⟨by omega, by omega⟩ ⟨by omega, by omega⟩) (by omega) (show 2 = mN 150 by decide +kernel) (by simp [Value.category]) ⟨Nat.le_refl _, Nat.le_refl _⟩ ?_
  rintro r v10 ⟨rfl, H10, o10, d10⟩
  replace h := HY_step h o10 (fun i hi => by rw [d10 i hi, ho _ _ (by omega)]; exact HX_HY hX 10 (by omega) i hi)
  replace ho : ∀ c i, ¬ (4 ≤ c ∧ c ≤ 15) → rd v10 c i = rd ws c i := fun c i hc => (o10 c i (by omega)).trans (ho c i (by omega))
  refine V_aload (v := ad 16) mi_100_158 (by simp [stL, lv_args, Value.category]) ?_
  refine V_gR mi_100_159 g16r16 (by omega) H10 ?_
  refine V_aload (v := ad 4) mi_100_162 (by simp [stL, lv_args, Value.category]) ?_
  refine V_gR mi_100_163 g4r16 (by omega) H10 ?_
  refine V_stat (As := [.ref (ad 27), .ref (ad 15)]) (st := []) mi_100_166 (by omega) (copy_ct a27 a15 H10 (by omega) (by omega) ⟨by omega, by omega⟩ ⟨by omega, by omega⟩) (by omega) (show 2 = mN 150 by decide +kernel) (by simp [Value.category]) ⟨Nat.le_refl _, Nat.le_refl _⟩ ?_
  rintro r v11 ⟨rfl, H11, o11, d11⟩
  replace h := HY_step h o11 (fun i hi => by rw [d11 i hi, ho _ _ (by omega)]; exact HX_HY hX 11 (by omega) i hi)
  replace ho : ∀ c i, ¬ (4 ≤ c ∧ c ≤ 15) → rd v11 c i = rd ws c i := fun c i hc => (o11 c i (by omega)).trans (ho c i (by omega))
  exact V_retV mi_100_169 ⟨rfl, H11, HY_HX h, ho⟩
end XHL
section XHM
variable {l : Launch} {D : va_G} {tys : List (ClassId × FieldType)} {A : Nat → Prop} {ad : Nat → Nat} {ws : va_W}
/-- the stays while they are spread -/
noncomputable def mx (td : Nat → Int) (m j : Nat) : Int := if j < m then sprT td j else td j
theorem mx_step {td : Nat → Int} {f h : Nat} (hh : h < 24) : updI (mx td (24 * f + h)) (24 * f + h) (sprV td f (h + 1)) = mx td (24 * f + (h + 1)) := by
  funext i
  show (if i = 24 * f + h then _ else (if i < 24 * f + h then _ else td i)) = (if i < 24 * f + (h + 1) then sprT td i else td i)
  by_cases e : i = 24 * f + h
  · rw [if_pos e, if_pos (by omega), e]
    unfold sprT
    rw [show (24 * f + h) / 24 = f by omega, show (24 * f + h) % 24 = h by omega]
  · rw [if_neg e]
    by_cases q : i < 24 * f + h
    · rw [if_pos q, if_pos (by omega)]
    · rw [if_neg q, if_neg (by omega)]
theorem mx_0 {td : Nat → Int} : mx td 0 = td := by
  funext i
  unfold mx
  rw [if_neg (by omega)]
theorem XR_cgT {fr td td' : Nat → Int} {w0 w : va_W} {s : TS} (q : XR fr td w0 s w) (e : ∀ j, j < 144 → td j = td' j) : XR fr td' w0 s w := by
  refine ⟨fun g => ?_, q.2⟩
  obtain ⟨a, b, c⟩ := q.1 g
  refine ⟨HX_eq a (fun j hj => ?_), b, fun j hj => by rw [← e j hj]; exact c j hj⟩
  unfold fx
  split
  · exact e _ (by omega)
  · rfl
theorem stay_hx {j : Nat} (h : j < 144) : hxC (102 + j) = 6 ∧ hxI (102 + j) = j := by
  have e1 : hxC (102 + j) = 6 := by
    unfold hxC
    rw [if_neg (by omega), if_neg (by omega), if_neg (by omega), if_neg (by omega), if_neg (by omega), if_neg (by omega), if_pos (by omega)]
  have e2 : hxI (102 + j) = j := by
    unfold hxI
    rw [if_neg (by omega), if_neg (by omega), if_neg (by omega), if_neg (by omega), if_neg (by omega), if_neg (by omega), if_pos (by omega)]
    omega
  exact ⟨e1, e2⟩
theorem XR_stay {fr td : Nat → Int} {w0 w : va_W} {s : TS} {j : Nat} (q : XR fr td w0 s w) (g : s.2.1 = 0) (h : j < 144) : rd w 22 j = some (.int (Int32.ofInt (td j))) ∧ -1 ≤ td j ∧ td j ≤ 3 := by
  obtain ⟨a, -, c⟩ := q.1 g
  have x := a (102 + j) (by omega)
  rw [(stay_hx h).1, (stay_hx h).2] at x
  have e : fx fr td (102 + j) = td j := by
    unfold fx
    rw [if_pos (by omega), show 102 + j - 102 = j by omega]
  rw [e] at x
  exact ⟨x, c j h⟩
theorem sp_12 {n : Nat} {B fr td : Nat → Int} {s : TS} {w0 : va_W} {post : Option Value → va_W → Prop} {f : Nat} (hf : f < 6) : ∀ (m h : Nat) (wv : Int32) (w : va_W), h + m = 24 → (s.2.1 = 0 → wv = Int32.ofInt (sprV td f h) ∧ 0 ≤ sprV td f h ∧ sprV td f h ≤ 3) → XA ad tys n B s w → XR fr (mx td (24 * f + h)) w0 s w → (∀ w' : va_W, XA ad tys n B s w' → XR fr (mx td (24 * f + 24)) w0 s w' → V l D tys A 111 1 0 0 post 0 0 64 [(0, .ref (ad 16)), (1, .int (Int32.ofInt (f : Int)))] [] w') → V l D tys A 111 1 0 0 post 0 0 12 [(0, .ref (ad 16)), (1, .int (Int32.ofInt (f : Int))), (2, .int wv), (3, .int (Int32.ofInt (h : Int)))] [] w
  | 0, h, wv, w, hm, hw, hA, hR, kk => by
    have e : h = 24 := by omega
    subst e
    refine V_iload (v := Int32.ofInt ((24 : Nat) : Int)) mi_111_12 (by simp [stL, lv_args, Value.category]) ?_
    refine V_ipush mi_111_13 ?_
    refine V_cge mi_111_15 ⟨by omega, by omega⟩ ⟨by omega, by omega⟩ (fun _ => ?_) (fun q => absurd q (by omega))
    refine V_sub (lv' := [(0, .ref (ad 16)), (1, .int (Int32.ofInt (f : Int)))]) (fun q hq => ?_) (kk w hA hR)
    simp only [List.mem_cons, List.not_mem_nil, or_false] at hq
    rcases hq with rfl | rfl <;> simp [stL, lv_args, Value.category]
  | m + 1, h, wv, w, hm, hw, hA, hR, kk => by
    refine V_iload (v := Int32.ofInt ((h : Int))) mi_111_12 (by simp [stL, lv_args, Value.category]) ?_
    refine V_ipush mi_111_13 ?_
    refine V_cge mi_111_15 ⟨by omega, by omega⟩ ⟨by omega, by omega⟩ (fun q1 => ?_) (fun q1 => ?_)
    · exact absurd q1 (by omega)
    · have hj : 24 * f + h < 144 := by omega
      have ei : Int32.ofInt ((f : Int) * 24 + (h : Int)) = Int32.ofInt ((24 * f + h : Nat) : Int) := by rw [show (f : Int) * 24 + (h : Int) = ((24 * f + h : Nat) : Int) by omega]
      have mt : mx td (24 * f + h) (24 * f + h) = td (24 * f + h) := by
        unfold mx
        rw [if_neg (by omega)]
      refine V_iload (v := Int32.ofInt ((f : Int))) mi_111_18 (by simp [stL, lv_args, Value.category]) ?_
      refine V_ipush mi_111_19 ?_
      refine V_ibin mi_111_21 (by omega) ?_
      rw [ib2]
      refine V_iload (v := Int32.ofInt ((h : Int))) mi_111_22 (by simp [stL, lv_args, Value.category]) ?_
      refine V_ibin mi_111_23 (by omega) ?_
      rw [ib0]
      rw [ei]
      refine V_istore mi_111_24 ?_
      refine V_aload (v := ad 16) mi_111_26 (by simp [stL, lv_args, Value.category]) ?_
      refine V_gR mi_111_27 g16r11 (by omega) hA.1 ?_
      refine V_iload (v := Int32.ofInt (((24 * f + h : Nat) : Int))) mi_111_30 (by simp [stL, lv_args, Value.category]) ?_
      refine V_stat (As := [.ref (ad 22), .int (Int32.ofInt (((24 * f + h : Nat) : Int)))]) (st := []) mi_111_32 (by omega) (atx_ct a22 hA.1 (by omega)) (by omega) (show 2 = mN 147 by decide +kernel) (by simp [Value.category]) ⟨Nat.le_refl _, Nat.le_refl _⟩ ?_
      rintro r w1 ⟨rfl, v, rfl, hv⟩
      have vt : s.2.1 = 0 → v.toInt = td (24 * f + h) ∧ -1 ≤ td (24 * f + h) ∧ td (24 * f + h) ≤ 3 := fun g => by
        obtain ⟨y1, y2, y3⟩ := XR_stay hR g hj
        rw [mt] at y1 y2 y3
        rw [hv _ hj rfl] at y1
        simp only [Option.some.injEq, Value.int.injEq] at y1
        rw [y1, Int32.toInt_ofInt_of_le (by omega) (by omega)]
        exact ⟨rfl, y2, y3⟩
      have tail : ∀ nv : Int32, (s.2.1 = 0 → nv = Int32.ofInt (sprV td f (h + 1)) ∧ 0 ≤ sprV td f (h + 1) ∧ sprV td f (h + 1) ≤ 3) → V l D tys A 111 1 0 0 post 0 0 48 [(0, .ref (ad 16)), (1, .int (Int32.ofInt (f : Int))), (2, .int nv), (3, .int (Int32.ofInt (h : Int))), (4, .int (Int32.ofInt ((24 * f + h : Nat) : Int)))] [] w1 := fun nv hnv => by
        refine V_aload (v := ad 16) mi_111_48 (by simp [stL, lv_args, Value.category]) ?_
        refine V_gR mi_111_49 g16r11 (by omega) hA.1 ?_
        refine V_iload (v := Int32.ofInt (((24 * f + h : Nat) : Int))) mi_111_52 (by simp [stL, lv_args, Value.category]) ?_
        refine V_iload (v := nv) mi_111_54 (by simp [stL, lv_args, Value.category]) ?_
        refine V_stat (As := [.ref (ad 22), .int (Int32.ofInt (((24 * f + h : Nat) : Int))), .int (nv)]) (st := []) mi_111_55 (by omega) (putx_ct a22 hA.1 (by omega) (i32b _).1 (i32b _).2) (by omega) (show 3 = mN 148 by decide +kernel) (by simp [Value.category]) ⟨Nat.le_refl _, Nat.le_refl _⟩ ?_
        rintro r w2 ⟨rfl, G2, o2, u2⟩
        have hR2 := XR_ptd (j := 24 * f + h) (z := sprV td f (h + 1)) hR o2 (fun g => by
          obtain ⟨n1, n2, n3⟩ := hnv g
          refine ⟨hj, ?_, by omega, n3⟩
          rw [← n1]
          exact u2 _ hj rfl)
        rw [mx_step (by omega)] at hR2
        have hA2 := XA_keep hA G2 (fun c i hc => o2 c i (by omega))
        refine V_iinc (v := Int32.ofInt ((h : Int))) mi_111_58 (by simp [stL, lv_args, Value.category]) ?_
        rw [ia2]
        refine V_goto mi_111_61 ?_
        refine V_sub (lv' := [(0, .ref (ad 16)), (1, .int (Int32.ofInt (f : Int))), (2, .int nv), (3, .int (Int32.ofInt ((h + 1 : Nat) : Int)))]) (fun q hq => ?_) ?_
        · simp only [List.mem_cons, List.not_mem_nil, or_false] at hq
          rcases hq with rfl | rfl | rfl | rfl <;> simp [stL, lv_args, Value.category]
        · exact sp_12 hf m (h + 1) nv w2 (by omega) (fun g => hnv g) hA2 hR2 kk
      have vb := i32b v
      have ve : v = Int32.ofInt v.toInt := (Int32.ofInt_toInt v).symm
      rw [show (some (Value.int v)).toList = [.int (Int32.ofInt v.toInt)] by rw [← ve]; rfl]
      refine V_zlt mi_111_35 vb (fun q2 => ?_) (fun q2 => ?_)
      · refine V_sub (lv' := [(0, .ref (ad 16)), (1, .int (Int32.ofInt (f : Int))), (2, .int wv), (3, .int (Int32.ofInt (h : Int))), (4, .int (Int32.ofInt ((24 * f + h : Nat) : Int)))]) (fun q hq => ?_) (tail wv (fun g => ?_))
        · simp only [List.mem_cons, List.not_mem_nil, or_false] at hq
          rcases hq with rfl | rfl | rfl | rfl | rfl <;> simp [stL, lv_args, Value.category]
        · obtain ⟨n1, n2, n3⟩ := hw g
          obtain ⟨t1, t2, t3⟩ := vt g
          have e : sprV td f (h + 1) = sprV td f h := by
            show (if _ then _ else _) = _
            rw [if_pos (by omega)]
          rw [e]
          exact ⟨n1, n2, n3⟩
      · refine V_aload (v := ad 16) mi_111_38 (by simp [stL, lv_args, Value.category]) ?_
        refine V_gR mi_111_39 g16r11 (by omega) hA.1 ?_
        refine V_iload (v := Int32.ofInt (((24 * f + h : Nat) : Int))) mi_111_42 (by simp [stL, lv_args, Value.category]) ?_
        refine V_stat (As := [.ref (ad 22), .int (Int32.ofInt (((24 * f + h : Nat) : Int)))]) (st := []) mi_111_44 (by omega) (atx_ct a22 hA.1 (by omega)) (by omega) (show 2 = mN 147 by decide +kernel) (by simp [Value.category]) ⟨Nat.le_refl _, Nat.le_refl _⟩ ?_
        rintro r w2 ⟨rfl, v2, rfl, hv2⟩
        refine V_istore mi_111_47 ?_
        refine V_sub (lv' := [(0, .ref (ad 16)), (1, .int (Int32.ofInt (f : Int))), (2, .int v2), (3, .int (Int32.ofInt (h : Int))), (4, .int (Int32.ofInt ((24 * f + h : Nat) : Int)))]) (fun q hq => ?_) (tail v2 (fun g => ?_))
        · simp only [List.mem_cons, List.not_mem_nil, or_false] at hq
          rcases hq with rfl | rfl | rfl | rfl | rfl <;> simp [stL, lv_args, Value.category]
        · obtain ⟨t1, t2, t3⟩ := vt g
          obtain ⟨y1, y2, y3⟩ := XR_stay hR g hj
          rw [mt, hv2 _ hj rfl] at y1
          simp only [Option.some.injEq, Value.int.injEq] at y1
          have e : sprV td f (h + 1) = td (24 * f + h) := by
            show (if _ then _ else _) = _
            rw [if_neg (by omega)]
          rw [e]
          exact ⟨y1, by omega, t3⟩
theorem sp_2 {n : Nat} {B fr td : Nat → Int} {s : TS} {w0 : va_W} : ∀ (m f : Nat) (w : va_W), f + m = 6 → XA ad tys n B s w → XR fr (mx td (24 * f)) w0 s w → V l D tys A 111 1 0 0 (fun r w => r = none ∧ XA ad tys n B s w ∧ XR fr (sprT td) w0 s w) 0 0 2 [(0, .ref (ad 16)), (1, .int (Int32.ofInt (f : Int)))] [] w
  | 0, f, w, hm, hA, hR => by
    have e : f = 6 := by omega
    subst e
    refine V_iload (v := Int32.ofInt ((6 : Nat) : Int)) mi_111_2 (by simp [stL, lv_args, Value.category]) ?_
    refine V_ipush mi_111_3 ?_
    refine V_cge mi_111_5 ⟨by omega, by omega⟩ ⟨by omega, by omega⟩ (fun _ => ?_) (fun q => absurd q (by omega))
    refine V_retV mi_111_70 ⟨rfl, hA, XR_cgT hR (fun j hj => ?_)⟩
    unfold mx
    rw [if_pos (by omega)]
  | m + 1, f, w, hm, hA, hR => by
    refine V_iload (v := Int32.ofInt ((f : Int))) mi_111_2 (by simp [stL, lv_args, Value.category]) ?_
    refine V_ipush mi_111_3 ?_
    refine V_cge mi_111_5 ⟨by omega, by omega⟩ ⟨by omega, by omega⟩ (fun q1 => ?_) (fun q1 => ?_)
    · exact absurd q1 (by omega)
    · refine V_ipush mi_111_8 ?_
      refine V_istore mi_111_9 ?_
      refine V_ipush mi_111_10 ?_
      refine V_istore mi_111_11 ?_
      refine V_sub (lv' := [(0, .ref (ad 16)), (1, .int (Int32.ofInt (f : Int))), (2, .int (Int32.ofInt 0)), (3, .int (Int32.ofInt ((0 : Nat) : Int)))]) (fun q hq => ?_) ?_
      · simp only [List.mem_cons, List.not_mem_nil, or_false] at hq
        rcases hq with rfl | rfl | rfl | rfl <;> simp [stL, lv_args, Value.category]
      refine sp_12 (n := n) (B := B) (fr := fr) (td := td) (s := s) (w0 := w0) (by omega) 24 0 _ w (by omega) (fun _ => ⟨rfl, by show (0 : Int) ≤ 0; omega, by show (0 : Int) ≤ 3; omega⟩) hA hR (fun w' hA' hR' => ?_)
      refine V_iinc (v := Int32.ofInt ((f : Int))) mi_111_64 (by simp [stL, lv_args, Value.category]) ?_
      rw [ia2]
      refine V_goto mi_111_67 ?_
      refine V_sub (lv' := [(0, .ref (ad 16)), (1, .int (Int32.ofInt ((f + 1 : Nat) : Int)))]) (fun q hq => ?_) ?_
      · simp only [List.mem_cons, List.not_mem_nil, or_false] at hq
        rcases hq with rfl | rfl <;> simp [stL, lv_args, Value.category]
      · exact sp_2 m (f + 1) w' (by omega) hA' hR'
theorem spr_ct {n : Nat} {B fr td : Nat → Int} {s : TS} {w0 : va_W} (hA : XA ad tys n B s ws) (hR : XR fr td w0 s ws) : CT l D tys A 111 1 0 0 [.ref (ad 16)] ws (fun r w => r = none ∧ XA ad tys n B s w ∧ XR fr (sprT td) w0 s w) := by
  refine CT_of_V (by omega) (show (1 : Nat) ≤ mML 111 by decide +kernel) ?_
  refine V_ipush mi_111_0 ?_
  refine V_istore mi_111_1 ?_
  refine V_sub (lv' := [(0, .ref (ad 16)), (1, .int (Int32.ofInt ((0 : Nat) : Int)))]) (fun q hq => ?_) (sp_2 6 0 ws (by omega) hA (by rw [show 24 * 0 = 0 from rfl, mx_0]; exact hR))
  simp only [List.mem_cons, List.not_mem_nil, or_false] at hq
  rcases hq with rfl | rfl <;> simp [stL, lv_args, Value.category]
theorem rew_ct (hG : GOK ad tys GG ws) : CT l D tys A 187 0 0 0 [.ref (ad 2)] ws (fun r w => r = none ∧ GOK ad tys GG w ∧ rd w 2 2 = some (.int (Int32.ofInt 0)) ∧ rd w 2 3 = some (.int (Int32.ofInt 0)) ∧ rd w 2 4 = some (.int (Int32.ofInt 0)) ∧ rd w 2 5 = some (.int (Int32.ofInt 0)) ∧ TXO ws w) := by
  refine CT_of_V (by omega) (show (1 : Nat) ≤ mML 187 by decide +kernel) ?_
  refine V_aload (v := ad 2) mi_187_0 (by simp [stL, lv_args, Value.category]) ?_
  refine V_ipush mi_187_1 ?_
  refine V_pO mi_187_2 g2f2 (by omega) (by decide +kernel) (by decide +kernel) hG (by rw [Int32.toInt_ofInt_of_le (by omega) (by omega)]; omega) (by rw [Int32.toInt_ofInt_of_le (by omega) (by omega)]; omega) (fun w2 G2 U2 => ?_)
  refine V_aload (v := ad 2) mi_187_5 (by simp [stL, lv_args, Value.category]) ?_
  refine V_ipush mi_187_6 ?_
  refine V_pO mi_187_7 g2f3 (by omega) (by decide +kernel) (by decide +kernel) G2 (by rw [Int32.toInt_ofInt_of_le (by omega) (by omega)]; omega) (by rw [Int32.toInt_ofInt_of_le (by omega) (by omega)]; omega) (fun w3 G3 U3 => ?_)
  refine V_aload (v := ad 2) mi_187_10 (by simp [stL, lv_args, Value.category]) ?_
  refine V_ipush mi_187_11 ?_
  refine V_pO mi_187_12 g2f4 (by omega) (by decide +kernel) (by decide +kernel) G3 (by rw [Int32.toInt_ofInt_of_le (by omega) (by omega)]; omega) (by rw [Int32.toInt_ofInt_of_le (by omega) (by omega)]; omega) (fun w4 G4 U4 => ?_)
  refine V_aload (v := ad 2) mi_187_15 (by simp [stL, lv_args, Value.category]) ?_
  refine V_ipush mi_187_16 ?_
  refine V_pO mi_187_17 g2f5 (by omega) (by decide +kernel) (by decide +kernel) G4 (by rw [Int32.toInt_ofInt_of_le (by omega) (by omega)]; omega) (by rw [Int32.toInt_ofInt_of_le (by omega) (by omega)]; omega) (fun w5 G5 U5 => ?_)
  refine V_retV mi_187_20 ⟨rfl, G5, ?_, ?_, ?_, ?_, fun c j hn => ?_⟩
  · exact (upd_ne U5 (by omega)).trans ((upd_ne U4 (by omega)).trans ((upd_ne U3 (by omega)).trans (upd_eq U2)))
  · exact (upd_ne U5 (by omega)).trans ((upd_ne U4 (by omega)).trans (upd_eq U3))
  · exact (upd_ne U5 (by omega)).trans (upd_eq U4)
  · exact upd_eq U5
  · exact (upd_ne U5 (by omega)).trans ((upd_ne U4 (by omega)).trans ((upd_ne U3 (by omega)).trans (upd_ne U2 (by omega))))
theorem rd_30 {n : Nat} {B : Nat → Int} {w0 : va_W} {post : Option Value → va_W → Prop} : ∀ (f : Nat) (x : TS × (Nat → Int) × (Nat → Int)) (i : Nat) (w : va_W), i ≤ 1400 → (∀ w' : va_W, XA ad tys n B (linA B n f x).1 w' → XR (linA B n f x).2.1 (linA B n f x).2.2 w0 (linA B n f x).1 w' → V l D tys A 133 9 0 0 post 0 0 86 [(0, .ref (ad 1)), (1, .ref (ad 16))] [] w') → XA ad tys n B x.1 w → XR x.2.1 x.2.2 w0 x.1 w → (x.1.2.1 = 0 → TKA B n x.1 ∧ n - x.1.1.2.1 < f ∧ x.2.1 5 ≤ (x.1.1.2.1 : Int) ∧ i ≤ x.1.1.2.1) → V l D tys A 133 9 0 0 post 0 0 30 [(0, .ref (ad 1)), (1, .ref (ad 16)), (2, .int (Int32.ofInt (i : Int)))] [] w
  | f, x, i, w, hi, kk, hA, hR, hm => by
    obtain ⟨G, T, ok, F0, K, S, E, N, ⟨⟨w2, w3, w4, w5⟩, wk, we, wn⟩, t⟩ := id hA
    have n14 := T.2.1
    have F3 := F0.2.2
    refine V_iload (v := Int32.ofInt ((i : Int))) mi_133_30 (by simp [stL, lv_args, Value.category]) ?_
    refine V_ipush mi_133_31 ?_
    refine V_cge mi_133_34 ⟨by omega, by omega⟩ ⟨by omega, by omega⟩ (fun q1 => ?_) (fun q1 => ?_)
    · have e : linA B n f x = x := by
        cases f with
        | zero => rfl
        | succ f => unfold linA; rw [if_neg (fun q => by obtain ⟨m1, m2, m3, m4⟩ := hm q.1; have := tka_lt m1 n14 q.2; omega)]
      rw [e] at kk
      refine V_sub (lv' := [(0, .ref (ad 1)), (1, .ref (ad 16))]) (fun q hq => ?_) (kk _ hA hR)
      simp only [List.mem_cons, List.not_mem_nil, or_false] at hq
      rcases hq with rfl | rfl <;> simp [stL, lv_args, Value.category]
    · refine V_aload (v := ad 1) mi_133_37 (by simp [stL, lv_args, Value.category]) ?_
      refine V_gO mi_133_38 g1o hA.1 (F0.1) ?_
      refine V_zne mi_133_41 ⟨by omega, by omega⟩ (fun q2 => ?_) (fun q2 => ?_)
      · have e : linA B n f x = x := by
          cases f with
          | zero => rfl
          | succ f => unfold linA; rw [if_neg (fun q => q2 q.1)]
        rw [e] at kk
        refine V_sub (lv' := [(0, .ref (ad 1)), (1, .ref (ad 16))]) (fun q hq => ?_) (kk _ hA hR)
        simp only [List.mem_cons, List.not_mem_nil, or_false] at hq
        rcases hq with rfl | rfl <;> simp [stL, lv_args, Value.category]
      · obtain ⟨m1, m2, m3, m4⟩ := hm q2
        have kK : K = x.1.1.1 := (t q2).1
        refine V_aload (v := ad 1) mi_133_44 (by simp [stL, lv_args, Value.category]) ?_
        refine V_gR mi_133_45 g1r (by omega) hA.1 ?_
        refine V_gO mi_133_48 g2o hA.1 (w2) ?_
        refine V_zeq mi_133_51 ⟨by omega, by omega⟩ (fun q3 => ?_) (fun q3 => ?_)
        · have e : linA B n f x = x := by
            cases f with
            | zero => rfl
            | succ f => unfold linA; rw [if_neg (fun q => q.2 (kK ▸ q3))]
          rw [e] at kk
          refine V_sub (lv' := [(0, .ref (ad 1)), (1, .ref (ad 16))]) (fun q hq => ?_) (kk _ hA hR)
          simp only [List.mem_cons, List.not_mem_nil, or_false] at hq
          rcases hq with rfl | rfl <;> simp [stL, lv_args, Value.category]
        · obtain ⟨l1, l2⟩ := tka_lt m1 n14 (kK ▸ q3)
          have i5 := ((hR.1 q2).2.1 5 (by omega)).1
          refine V_aload (v := ad 1) mi_133_54 (by simp [stL, lv_args, Value.category]) ?_
          refine V_aload (v := ad 16) mi_133_55 (by simp [stL, lv_args, Value.category]) ?_
          refine V_cO (As := [.ref (ad 16)]) (st := []) mi_133_56 (by omega) (by decide +kernel) (by decide +kernel) (by omega) g1o hA.1 (rlx_ct q2 hA hR) (by omega) (show 1 = mN 134 by decide +kernel) (by simp [Value.category]) ?_
          rintro r w2 ⟨rfl, hA2, hR2⟩
          refine V_aload (v := ad 1) mi_133_59 (by simp [stL, lv_args, Value.category]) ?_
          refine V_cO (As := []) (st := []) mi_133_60 (by omega) (by decide +kernel) (by decide +kernel) (by omega) g1o hA2.1 (signx_ct hA2 XMK_rf) (by omega) (show 0 = mN 145 by decide +kernel) (by simp [Value.category]) ?_
          rintro r w3 ⟨rfl, hA3, O3⟩
          replace hR2 := XR_to hR2 O3 hA3 (fun g => (sign_ok g).1)
          obtain ⟨p, hp, p0, p1⟩ := celO hA3.1 g16f0 (by omega)
          refine V_aload (v := ad 16) mi_133_63 (by simp [stL, lv_args, Value.category]) ?_
          refine V_dup mi_133_64 (by simp [Value.category]) ?_
          refine V_gO mi_133_65 g16o hA3.1 (hp) ?_
          refine V_ipush mi_133_68 ?_
          refine V_ibin mi_133_69 (by omega) ?_
          rw [ib0]
          refine V_pO mi_133_70 g16f0 (by omega) (by decide +kernel) (by decide +kernel) hA3.1 (i32b _).1 (i32b _).2 (fun w4 G4 U4 => ?_)
          have hA4 := XA_keep hA3 G4 (fun c i hc => upd_ne U4 (by omega))
          have hR4 := XR_put (j := 5) (z := (linW B n x.2.1 x.2.2 x.1).2.1 5 + 1) hR2 (fun c i hc => upd_ne U4 (fun e => hc e.1)) (by omega) (by omega) (fun g => by
            have e := (XR_at (j := 5) hR2 hp ⟨p0, p1⟩ g (by omega) (by omega) rfl rfl).1
            rw [← e]
            refine ⟨⟨by omega, by omega⟩, rfl, U4, ?_, fun _ => by omega⟩
            rw [e, lin_5]
            omega)
          refine V_aload (v := ad 1) mi_133_73 (by simp [stL, lv_args, Value.category]) ?_
          refine V_gR mi_133_74 g1r (by omega) hA4.1 ?_
          refine V_cO (As := []) (st := []) mi_133_77 (by omega) (by decide +kernel) (by decide +kernel) (by omega) g2o hA4.1 (advx_ct (XB_adv hA4) XMK_rf) (by omega) (show 0 = mN 188 by decide +kernel) (by simp [Value.category]) ?_
          rintro r w5 ⟨rfl, hA5, O5⟩
          refine V_iinc (v := Int32.ofInt ((i : Int))) mi_133_80 (by simp [stL, lv_args, Value.category]) ?_
          rw [ia2]
          refine V_goto mi_133_83 ?_
          have hR5 := XR_to hR4 O5 hA5 (fun g => g)
          cases f with
          | zero => exact absurd m2 (by omega)
          | succ f =>
            have e : linA B n (f + 1) x = linA B n f (linS B n x) := by
              show (if _ then _ else _) = _
              rw [if_pos ⟨q2, fun e => q3 (kK.trans e)⟩]
            rw [e] at kk
            have hA6 : XA ad tys n B (linS B n x).1 w5 := by
              unfold linS
              by_cases g : (signS (linW B n x.2.1 x.2.2 x.1).1).2.1 = 0
              · rw [if_pos g]
                exact hA5
              · rw [if_neg g]
                exact XA_bad hA5 g hA3.2.2.1 rfl
            have hR6 : XR (linS B n x).2.1 (linS B n x).2.2 w0 (linS B n x).1 w5 := by
              unfold linS
              by_cases g : (signS (linW B n x.2.1 x.2.2 x.1).1).2.1 = 0
              · rw [if_pos g]
                exact hR5
              · rw [if_neg g]
                exact XR_bad hR5 g
            refine V_sub (lv' := [(0, .ref (ad 1)), (1, .ref (ad 16)), (2, .int (Int32.ofInt ((i + 1 : Nat) : Int)))]) (fun q hq => ?_) (rd_30 f (linS B n x) (i + 1) w5 (by omega) kk hA6 hR6 (fun g2 => ?_))
            · simp only [List.mem_cons, List.not_mem_nil, or_false] at hq
              rcases hq with rfl | rfl | rfl <;> simp [stL, lv_args, Value.category]
            · obtain ⟨o2, a2, u2⟩ := lin_up (x := x) ok m1 n14 g2
              refine ⟨a2, by omega, ?_, by omega⟩
              rw [linS_5]
              omega
theorem read_ct {n : Nat} {B : Nat → Int} {v0 : Int} (hG : GOK ad tys GG ws) (T : TXX ws n B) (v0I : I32 v0) : CT l D tys A 133 9 0 0 [.ref (ad 1), .ref (ad 16)] ws (fun r w => r = none ∧ XA ad tys n B (hillX B n v0).1 w ∧ XR (hillX B n v0).2.1 (sprT (hillX B n v0).2.2) ws (hillX B n v0).1 w) := by
  refine CT_of_V (by omega) (show (2 : Nat) ≤ mML 133 by decide +kernel) ?_
  refine V_aload (v := ad 16) mi_133_0 (by simp [stL, lv_args, Value.category]) ?_
  refine V_cO (As := []) (st := []) mi_133_1 (by omega) (by decide +kernel) (by decide +kernel) (by omega) g16o hG (clr_ct hG) (by omega) (show 0 = mN 99 by decide +kernel) (by simp [Value.category]) ?_
  rintro r w1 ⟨rfl, G1, hX, o1⟩
  refine V_aload (v := ad 1) mi_133_4 (by simp [stL, lv_args, Value.category]) ?_
  refine V_ipush mi_133_5 ?_
  refine V_pO mi_133_6 g1f1 (by omega) (by decide +kernel) (by decide +kernel) G1 (by rw [Int32.toInt_ofInt_of_le (by omega) (by omega)]; omega) (by rw [Int32.toInt_ofInt_of_le (by omega) (by omega)]; omega) (fun w2 G2 U2 => ?_)
  refine V_aload (v := ad 1) mi_133_9 (by simp [stL, lv_args, Value.category]) ?_
  refine V_ipush mi_133_10 ?_
  refine V_pO mi_133_11 g1f2 (by omega) (by decide +kernel) (by decide +kernel) G2 (by rw [Int32.toInt_ofInt_of_le (by omega) (by omega)]; omega) (by rw [Int32.toInt_ofInt_of_le (by omega) (by omega)]; omega) (fun w3 G3 U3 => ?_)
  refine V_aload (v := ad 1) mi_133_14 (by simp [stL, lv_args, Value.category]) ?_
  refine V_gR mi_133_15 g1r (by omega) G3 ?_
  refine V_cO (As := []) (st := []) mi_133_18 (by omega) (by decide +kernel) (by decide +kernel) (by omega) g2o G3 (rew_ct G3) (by omega) (show 0 = mN 187 by decide +kernel) (by simp [Value.category]) ?_
  rintro r w4 ⟨rfl, G4, k2, k3, k4, k5, O4⟩
  have o4 : ∀ c j, ¬ ((c = 2 ∧ 2 ≤ j ∧ j ≤ 5) ∨ (c = 1 ∧ 1 ≤ j ∧ j ≤ 2)) → rd w4 c j = rd w1 c j := fun c j hn => (O4 c j (by omega)).trans ((upd_ne U3 (by omega)).trans (upd_ne U2 (by omega)))
  have T4 : TXX w4 n B := ⟨(o4 _ _ (by omega)).trans ((o1 _ _ (by omega)).trans T.1), T.2.1, fun k hk => ⟨(o4 _ _ (by omega)).trans ((o1 _ _ (by omega)).trans (T.2.2 k hk).1), (T.2.2 k hk).2⟩⟩
  obtain ⟨t1, t2, t3⟩ := tk_bd (B := B) (n := n) (a := 0) (v := v0) (Nat.zero_le _) v0I.1 v0I.2
  have hB : XB ad tys n B (hill0 B n v0).1 w4 := ⟨G4, T4, ⟨t1, t2.2, t3, by show (0 : Int) ≤ 0; omega, by show (0 : Int) ≤ 3; omega⟩, ⟨(O4 _ _ (by omega)).trans ((upd_ne U3 (by omega)).trans (upd_eq U2)), (O4 _ _ (by omega)).trans (upd_eq U3), by show (0 : Int) ≤ 0; omega, by show (0 : Int) ≤ 3; omega⟩, 0, 0, 0, 0, ⟨⟨k2, k3, k4, k5⟩, ⟨by omega, by omega⟩, ⟨Nat.le_refl _, Nat.zero_le _⟩, ⟨by omega, by omega⟩⟩, fun _ => ⟨rfl, rfl, rfl, fun q => tkV_2 q⟩⟩
  have hR : XR (hill0 B n v0).2.1 (hill0 B n v0).2.2 ws (hill0 B n v0).1 w4 := ⟨fun _ => ⟨HX_keep hX (fun c i h1 h2 => o4 c i (by omega)), fun j hj => ⟨⟨by show (0 : Int) ≤ 0; omega, by show (0 : Int) ≤ 4095; omega⟩, fun _ => by show (0 : Int) ≤ 127; omega⟩, fun j hj => ⟨by show (-1 : Int) ≤ -1; omega, by show (-1 : Int) ≤ 3; omega⟩⟩, fun c j hn => (o4 c j (by omega)).trans (o1 c j (by omega))⟩
  refine V_aload (v := ad 1) mi_133_21 (by simp [stL, lv_args, Value.category]) ?_
  refine V_gR mi_133_22 g1r (by omega) G4 ?_
  refine V_cO (As := []) (st := []) mi_133_25 (by omega) (by decide +kernel) (by decide +kernel) (by omega) g2o G4 (advx_ct hB XMK_rf) (by omega) (show 0 = mN 188 by decide +kernel) (by simp [Value.category]) ?_
  rintro r w5 ⟨rfl, hA, O5⟩
  replace hR := XR_to hR O5 hA (fun g => g)
  refine V_ipush mi_133_28 ?_
  refine V_istore mi_133_29 ?_
  refine V_sub (lv' := [(0, .ref (ad 1)), (1, .ref (ad 16)), (2, .int (Int32.ofInt ((0 : Nat) : Int)))]) (fun q hq => ?_) (rd_30 1402 (hill0 B n v0) 0 w5 (by omega) (fun w6 hA6 hR6 => ?_) hA hR (fun _ => ⟨⟨0, Nat.zero_le _, rfl, rfl, rfl⟩, by have := T.2.1; omega, by show (0 : Int) ≤ _; omega, Nat.zero_le _⟩))
  · simp only [List.mem_cons, List.not_mem_nil, or_false] at hq
    rcases hq with rfl | rfl | rfl <;> simp [stL, lv_args, Value.category]
  refine V_aload (v := ad 16) mi_133_86 (by simp [stL, lv_args, Value.category]) ?_
  refine V_cO (As := []) (st := []) mi_133_87 (by omega) (by decide +kernel) (by decide +kernel) (by omega) g16o hA6.1 (spr_ct hA6 hR6) (by omega) (show 0 = mN 111 by decide +kernel) (by simp [Value.category]) ?_
  rintro r w7 ⟨rfl, hA7, hR7⟩
  exact V_retV mi_133_90 ⟨rfl, hA7, hR7⟩
noncomputable def cSet : CR := (73, [(2, 0, 0)], [], none, [], [29, 30, 31, 32, 33, 34, 35])
theorem wSet : vrf GG [(4, g78), (5, g76)] [] 300 6 cSet [] = true := by decide +kernel
theorem rSet (hAD : ∀ i : Nat, ad (1000 + i) = D.2 1000 i) : CRok l D tys A ad GG 7 cSet := CR_of_vrf (dep := 6) hAD (List.forall_mem_cons.mpr ⟨r78 hAD, List.forall_mem_cons.mpr ⟨r76 hAD, fun c hc => by cases hc⟩⟩) T2OK_nil wSet
/-- what the class's hill leaves as it was -/
noncomputable def HXo (w0 w : va_W) : Prop := ∀ c j, ¬ ((c = 2 ∧ 1 ≤ j ∧ j ≤ 5) ∨ (c = 1 ∧ 1 ≤ j ∧ j ≤ 2) ∨ (4 ≤ c ∧ c ≤ 27) ∨ (29 ≤ c ∧ c ≤ 35)) → rd w c j = rd w0 c j
noncomputable def HXP (ad : Nat → Nat) (tys : List (ClassId × FieldType)) (x : TS × (Nat → Int) × (Nat → Int)) (w0 : va_W) (r : Option Value) (w : va_W) : Prop := GOK ad tys GG w ∧ HXo w0 w ∧ rd w 2 1 = some (.int (Int32.ofInt 0)) ∧ rd w 1 1 = some (.int (Int32.ofInt x.1.2.1)) ∧ rd w 1 2 = some (.int (Int32.ofInt x.1.2.2)) ∧ (x.1.2.1 = 0 → r = some (.int (Int32.ofInt (x.2.1 5))) ∧ HX 4 (endG x) w) ∧ (¬ x.1.2.1 = 0 → r = some (.int (Int32.ofInt (-4))) ∧ ∀ c j, (4 ≤ c ∧ c ≤ 15) ∨ (29 ≤ c ∧ c ≤ 35) → rd w c j = rd w0 c j)
end XHM
end
section
section XTP
theorem sx8 (x : BitVec 32) (s : Nat) (hs : s ≤ 24) : (x >>> s).signExtend 8 = (x.sshiftRight s).signExtend 8 := by
  apply BitVec.eq_of_getLsbD_eq
  intro i hi
  rw [BitVec.getLsbD_signExtend, BitVec.getLsbD_signExtend, BitVec.getLsbD_ushiftRight, BitVec.getLsbD_sshiftRight]
  have h1 : i < 32 := by omega
  have h2 : s + i < 32 := by omega
  simp [h1, h2, hi]
theorem by_eq (v : Int32) {s : Nat} (hs : s = 0 ∨ s = 8 ∨ s = 16 ∨ s = 24) : (ibF 10 v (Int32.ofInt (s : Int))).toInt8 = (ibF 9 v (Int32.ofInt (s : Int))).toInt8 := by
  apply Int8.toBitVec_inj.mp
  rw [Int32.toBitVec_toInt8, Int32.toBitVec_toInt8]
  have e1 : (ibF 10 v (Int32.ofInt (s : Int))).toBitVec = v.toBitVec >>> s := by
    rcases hs with rfl | rfl | rfl | rfl <;> rfl
  have e2 : (ibF 9 v (Int32.ofInt (s : Int))).toBitVec = v.toBitVec.sshiftRight s := by
    rcases hs with rfl | rfl | rfl | rfl <;> rfl
  rw [e1, e2]
  exact sx8 _ _ (by omega)
/-- a byte of an int, from the highest -/
noncomputable def byS (v : Int32) (j : Nat) : Int := ((ibF 9 v (Int32.ofInt (24 - 8 * (j : Int)))).toInt8).toInt
theorem byS_bd (v : Int32) (j : Nat) : -128 ≤ byS v j ∧ byS v j ≤ 127 := by
  have h1 := Int8.le_toInt ((ibF 9 v (Int32.ofInt (24 - 8 * (j : Int)))).toInt8)
  have h2 := Int8.toInt_lt ((ibF 9 v (Int32.ofInt (24 - 8 * (j : Int)))).toInt8)
  unfold byS
  omega
theorem b32 (x : Int8) : x.toInt32 = Int32.ofInt x.toInt := by
  rw [← Int8.toInt_toInt32, Int32.ofInt_toInt]
theorem byX (v : Int32) {j : Nat} (hj : j < 4) : (ibF 10 v (Int32.ofInt (24 - 8 * (j : Int)))).toInt8.toInt32 = Int32.ofInt (byS v j) := by
  rw [b32]
  unfold byS
  rw [show (24 : Int) - 8 * (j : Int) = ((24 - 8 * j : Nat) : Int) by omega, by_eq v (s := 24 - 8 * j) (by omega)]
theorem byM (v : Int32) (j : Nat) : (ibF 9 v (Int32.ofInt (24 - 8 * (j : Int)))).toInt8.toInt32 = Int32.ofInt (byS v j) := b32 _
/-- the text with 20 bytes more -/
noncomputable def feB (B : Nat → Int) (z : Nat) (a : Nat → Int32) (k : Nat) : Int := if k < z then B k else byS (a ((k - z) / 4)) ((k - z) % 4)
theorem feB_at {B : Nat → Int} {z : Nat} {a : Nat → Int32} {k : Nat} : feB B z a (z + k) = byS (a (k / 4)) (k % 4) := by
  unfold feB
  rw [if_neg (by omega), show z + k - z = k by omega]
variable {l : Launch} {D : va_G} {tys : List (ClassId × FieldType)} {A : Nat → Prop} {ad : Nat → Nat} {ws : va_W} {k d : Nat} {post : Option Value → va_W → Prop} {pc : Nat} {lv : List (Nat × Value)} {st : List Value} {a : Int} {x y z : Nat}
theorem V_bstI {c n j : Nat} {segs : List SG} {ix v : Int32} {b : Int} (hi : mI k pc = (20, a, 1, y, z)) (hix : ix = Int32.ofInt (j : Int)) (hv : v = Int32.ofInt b) (b0 : -128 ≤ b) (b1 : b ≤ 127) (hG : GOK ad tys GG ws) (hg : GG[c]? = some ((1, 1, n), segs)) (hj : j < n) (hn : n ≤ 100000) (hs : segAt segs j = some (0, -128, 127)) (kk : ∀ w : va_W, GOK ad tys GG w → Upd1 ws w c j (.int (Int32.ofInt b)) → V l D tys A k d 0 0 post 0 0 (pc + 1) lv st w) : V l D tys A k d 0 0 post 0 0 pc lv (.int v :: .int ix :: .ref (ad c) :: st) ws := by
  subst hix
  subst hv
  obtain ⟨e, q1, q2, q3⟩ := hG c _ hg
  obtain ⟨cA, f, rfl, c1, c2⟩ := q2
  refine V_bast hi q1 c1 (ix_in hj hn).1 ?_
  rw [(ix_in hj hn).2, byte_fit b0 b1]
  have hu := GOK_upd (j := j) (v := .int (Int32.ofInt b)) (e' := .inl (cA, n, .inl (upd f j (Int32.ofInt b)))) hG hg q1 ⟨cA, _, rfl, c1, c2⟩ (fun j' => by
    show (if j' < n then some (Value.int (upd f j (Int32.ofInt b) j')) else none) = if j' = j then some (Value.int (Int32.ofInt b)) else if j' < n then some (Value.int (f j')) else none
    unfold upd
    by_cases h : j' = j
    · subst h; simp [hj]
    · simp [h]) hs ⟨b, rfl, b0, b1⟩
  exact kk _ hu.1 hu.2
theorem g2r : gOr 2 9 6 0 3 := ⟨_, rfl, by decide +kernel⟩
theorem gr6m : ∃ g, GG[90]? = some ((0, 11, 36), g) ∧ segAt g 6 = some (2, ((95 : Nat) : Int), ((95 : Nat) : Int)) := ⟨_, rfl, by decide +kernel⟩
theorem a95 : gA 95 5 (-2147483648) 2147483647 := gA_of rfl
theorem TB_up {w w' : va_W} {c n : Nat} {B : Nat → Int} (h : TB w c n B) (U : Upd1 w w' c n (.int (Int32.ofInt (B n)))) (b : -128 ≤ B n ∧ B n ≤ 127) : TB w' c (n + 1) B := fun k hk => by
  by_cases e : k = n
  · subst e
    exact ⟨upd_eq U, b⟩
  · exact ⟨(upd_ne U (fun q => e q.2)).trans (h k (by omega)).1, (h k (by omega)).2⟩
theorem TB_ne {w w' : va_W} {c n : Nat} {B : Nat → Int} (h : TB w c n B) (o : ∀ j, rd w' c j = rd w c j) : TB w' c n B := fun k hk => ⟨(o k).trans (h k hk).1, (h k hk).2⟩
theorem TB_cg {w : va_W} {c n : Nat} {B B' : Nat → Int} (h : TB w c n B) (e : ∀ k, k < n → B k = B' k) : TB w c n B' := fun k hk => by
  rw [← e k hk]
  exact h k hk
theorem TB_le {w : va_W} {c n m : Nat} {B : Nat → Int} (h : TB w c n B) (hm : m ≤ n) : TB w c m B := fun k hk => h k (by omega)
theorem ap_3 {z : Nat} {B : Nat → Int} {v : Int32} (hz : z ≤ 1396) (hb : ∀ j, j < 4 → B (z + j) = byS v j) : ∀ (m i : Nat) (w : va_W), i + m = 4 → GOK ad tys GG w → rd w 2 1 = some (.int (Int32.ofInt ((z + i : Nat) : Int))) → TB w 3 (z + i) B → (∀ c j, c ≠ 3 → ¬ (c = 2 ∧ j = 1) → rd w c j = rd ws c j) → V l D tys A 185 1 0 0 (fun r w => r = none ∧ GOK ad tys GG w ∧ (∀ c j, c ≠ 3 → ¬ (c = 2 ∧ j = 1) → rd w c j = rd ws c j) ∧ rd w 2 1 = some (.int (Int32.ofInt ((z + 4 : Nat) : Int))) ∧ TB w 3 (z + 4) B) 0 0 3 [(0, .ref (ad 2)), (1, .int v), (2, .int (Int32.ofInt (24 - 8 * (i : Int))))] [] w
  | 0, i, w, hm, hG, h1, hB, ho => by
    refine V_iload (v := Int32.ofInt (24 - 8 * (i : Int))) mi_185_3 (by simp [stL, lv_args, Value.category]) ?_
    refine V_zlt mi_185_4 ⟨by omega, by omega⟩ (fun q => ?_) (fun q => ?_)
    · refine V_retV mi_185_55 ⟨rfl, hG, ho, ?_, ?_⟩
      · rw [h1, show i = 4 by omega]
      · rw [show i = 4 by omega] at hB
        exact hB
    · exact absurd q (by omega)
  | m + 1, i, w, hm, hG, h1, hB, ho => by
    refine V_iload (v := Int32.ofInt (24 - 8 * (i : Int))) mi_185_3 (by simp [stL, lv_args, Value.category]) ?_
    refine V_zlt mi_185_4 ⟨by omega, by omega⟩ (fun q => ?_) (fun q => ?_)
    · exact absurd q (by omega)
    · refine V_aload (v := ad 2) mi_185_7 (by simp [stL, lv_args, Value.category]) ?_
      refine V_gO mi_185_8 g2o hG (h1) ?_
      refine V_zlt mi_185_11 ⟨by omega, by omega⟩ (fun q2 => ?_) (fun q2 => ?_)
      · exact absurd q2 (by omega)
      · refine V_aload (v := ad 2) mi_185_14 (by simp [stL, lv_args, Value.category]) ?_
        refine V_gO mi_185_15 g2o hG (h1) ?_
        refine V_aload (v := ad 2) mi_185_18 (by simp [stL, lv_args, Value.category]) ?_
        refine V_gR mi_185_19 g2r (by omega) hG ?_
        obtain ⟨s3, e3, f3⟩ := gt3
        refine V_lenA mi_185_22 hG e3 ?_
        refine V_cge mi_185_23 ⟨by omega, by omega⟩ ⟨by omega, by omega⟩ (fun q3 => ?_) (fun q3 => ?_)
        · exact absurd q3 (by omega)
        · refine V_aload (v := ad 2) mi_185_26 (by simp [stL, lv_args, Value.category]) ?_
          refine V_gR mi_185_27 g2r (by omega) hG ?_
          refine V_aload (v := ad 2) mi_185_30 (by simp [stL, lv_args, Value.category]) ?_
          refine V_gO mi_185_31 g2o hG (h1) ?_
          refine V_iload (v := v) mi_185_34 (by simp [stL, lv_args, Value.category]) ?_
          refine V_iload (v := Int32.ofInt (24 - 8 * (i : Int))) mi_185_35 (by simp [stL, lv_args, Value.category]) ?_
          refine V_ibin mi_185_36 (by omega) ?_
          refine V_i2b mi_185_37 ?_
          refine V_bstI (j := z + i) (b := byS v i) mi_185_38 rfl (byX v (by omega)) (byS_bd v i).1 (byS_bd v i).2 hG e3 (by omega) (by omega) (f3 _ (by omega)) (fun w1 G1 U1 => ?_)
          refine V_aload (v := ad 2) mi_185_39 (by simp [stL, lv_args, Value.category]) ?_
          refine V_dup mi_185_40 (by simp [Value.category]) ?_
          refine V_gO mi_185_41 g2o G1 ((upd_ne U1 (by omega)).trans h1) ?_
          refine V_ipush mi_185_44 ?_
          refine V_ibin mi_185_45 (by omega) ?_
          rw [ib0]
          rw [show ((z + i : Nat) : Int) + 1 = ((z + (i + 1) : Nat) : Int) by omega]
          refine V_pO mi_185_46 g2f1 (by omega) (by decide +kernel) (by decide +kernel) G1 (by rw [Int32.toInt_ofInt_of_le (by omega) (by omega)]; omega) (by rw [Int32.toInt_ofInt_of_le (by omega) (by omega)]; omega) (fun w2 G2 U2 => ?_)
          refine V_iinc (v := Int32.ofInt (24 - 8 * (i : Int))) mi_185_49 (by simp [stL, lv_args, Value.category]) ?_
          rw [ia2]
          refine V_goto mi_185_52 ?_
          rw [← hb i (by omega)] at U1
          have t1 := TB_up hB U1 (by rw [hb i (by omega)]; exact byS_bd v i)
          refine V_sub (lv' := [(0, .ref (ad 2)), (1, .int v), (2, .int (Int32.ofInt (24 - 8 * ((i + 1 : Nat) : Int))))]) (fun q hq => ?_) (ap_3 hz hb m (i + 1) w2 (by omega) G2 (upd_eq U2) (TB_ne t1 (fun j => upd_ne U2 (by omega))) (fun c j c3 c2 => (upd_ne U2 c2).trans ((upd_ne U1 (by omega)).trans (ho c j c3 c2))))
          simp only [List.mem_cons, List.not_mem_nil, or_false] at hq
          rw [show (24 : Int) - 8 * ((i + 1 : Nat) : Int) = 24 - 8 * (i : Int) + -8 by omega] at hq
          rcases hq with rfl | rfl | rfl <;> simp [stL, lv_args, Value.category]
theorem appB_ct {z : Nat} {B : Nat → Int} {v : Int32} (hz : z ≤ 1396) (hb : ∀ j, j < 4 → B (z + j) = byS v j) (hG : GOK ad tys GG ws) (h1 : rd ws 2 1 = some (.int (Int32.ofInt (z : Int)))) (hB : TB ws 3 z B) : CT l D tys A 185 1 0 0 [.ref (ad 2), .int v] ws (fun r w => r = none ∧ GOK ad tys GG w ∧ (∀ c j, c ≠ 3 → ¬ (c = 2 ∧ j = 1) → rd w c j = rd ws c j) ∧ rd w 2 1 = some (.int (Int32.ofInt ((z + 4 : Nat) : Int))) ∧ TB w 3 (z + 4) B) := by
  refine CT_of_V (by omega) (show (2 : Nat) ≤ mML 185 by decide +kernel) ?_
  refine V_ipush mi_185_0 ?_
  refine V_istore mi_185_2 ?_
  refine V_sub (lv' := [(0, .ref (ad 2)), (1, .int v), (2, .int (Int32.ofInt (24 - 8 * ((0 : Nat) : Int))))]) (fun q hq => ?_) (ap_3 hz hb 4 0 ws (by omega) hG h1 hB (fun _ _ _ _ => rfl))
  simp only [List.mem_cons, List.not_mem_nil, or_false] at hq
  rcases hq with rfl | rfl | rfl
  · simp [stL, lv_args, Value.category]
  · simp [stL, lv_args, Value.category]
  · rw [show (24 : Int) - 8 * ((0 : Nat) : Int) = 24 by omega]
    simp [stL, lv_args, Value.category]
noncomputable def fe5 (a1 a2 a3 a4 a5 : Int32) (i : Nat) : Int32 := if i = 0 then a1 else if i = 1 then a2 else if i = 2 then a3 else if i = 3 then a4 else a5
theorem feeX_ct {z : Nat} {B : Nat → Int} (a1 a2 a3 a4 a5 : Int32) (hz : z ≤ 1400) (hG : GOK ad tys GG ws) (h1 : rd ws 2 1 = some (.int (Int32.ofInt (z : Int)))) (hB : TB ws 3 z B) : CT l D tys A 1 2 0 0 [.ref (ad 0), .int a1, .int a2, .int a3, .int a4, .int a5] ws (fun r w => GOK ad tys GG w ∧ (∀ c j, c ≠ 3 → ¬ (c = 2 ∧ j = 1) → rd w c j = rd ws c j) ∧ (if z + 20 ≤ 1400 then r = some (.int (Int32.ofInt ((z + 20 : Nat) : Int))) ∧ rd w 2 1 = some (.int (Int32.ofInt ((z + 20 : Nat) : Int))) ∧ TB w 3 (z + 20) (feB B z (fe5 a1 a2 a3 a4 a5)) else r = some (.int (Int32.ofInt (-1))) ∧ rd w 2 1 = some (.int (Int32.ofInt (z : Int))) ∧ TB w 3 z B)) := by
  refine CT_of_V (by omega) (show (6 : Nat) ≤ mML 1 by decide +kernel) ?_
  refine V_aload (v := ad 0) mi_1_0 (by simp [stL, lv_args, Value.category]) ?_
  refine V_gR mi_1_1 g0r1 (by omega) hG ?_
  refine V_gO mi_1_4 g2o hG (h1) ?_
  refine V_ipush mi_1_7 ?_
  refine V_ibin mi_1_9 (by omega) ?_
  rw [ib0]
  refine V_ipush mi_1_10 ?_
  refine V_cle mi_1_13 ⟨by omega, by omega⟩ ⟨by omega, by omega⟩ (fun q => ?_) (fun q => ?_)
  · have t0 : TB ws 3 z (feB B z (fe5 a1 a2 a3 a4 a5)) := TB_cg hB (fun k hk => by unfold feB; rw [if_pos hk])
    refine V_aload (v := ad 0) mi_1_18 (by simp [stL, lv_args, Value.category]) ?_
    refine V_gR mi_1_19 g0r1 (by omega) hG ?_
    refine V_iload (v := a1) mi_1_22 (by simp [stL, lv_args, Value.category]) ?_
    have b0 : ∀ j, j < 4 → (feB B z (fe5 a1 a2 a3 a4 a5)) (z + j) = byS a1 j := fun j hj => by
      rw [show z + j = z + (0 + j) by omega, feB_at, show (0 + j) / 4 = 0 by omega, show (0 + j) % 4 = j by omega]
      rfl
    refine V_cO (As := [.int (a1)]) (st := []) mi_1_23 (by omega) (by decide +kernel) (by decide +kernel) (by omega) g2o hG (appB_ct (z := z) (B := (feB B z (fe5 a1 a2 a3 a4 a5))) (v := a1) (by omega) b0 hG h1 t0) (by omega) (show 1 = mN 185 by decide +kernel) (by simp [Value.category]) ?_
    rintro r w1 ⟨rfl, G1, o1, k1, t1⟩
    refine V_aload (v := ad 0) mi_1_26 (by simp [stL, lv_args, Value.category]) ?_
    refine V_gR mi_1_27 g0r1 (by omega) G1 ?_
    refine V_iload (v := a2) mi_1_30 (by simp [stL, lv_args, Value.category]) ?_
    have b1 : ∀ j, j < 4 → (feB B z (fe5 a1 a2 a3 a4 a5)) (z + 4 + j) = byS a2 j := fun j hj => by
      rw [show z + 4 + j = z + (4 + j) by omega, feB_at, show (4 + j) / 4 = 1 by omega, show (4 + j) % 4 = j by omega]
      rfl
    refine V_cO (As := [.int (a2)]) (st := []) mi_1_31 (by omega) (by decide +kernel) (by decide +kernel) (by omega) g2o G1 (appB_ct (z := z + 4) (B := (feB B z (fe5 a1 a2 a3 a4 a5))) (v := a2) (by omega) b1 G1 k1 t1) (by omega) (show 1 = mN 185 by decide +kernel) (by simp [Value.category]) ?_
    rintro r w2 ⟨rfl, G2, o2, k2, t2⟩
    refine V_aload (v := ad 0) mi_1_34 (by simp [stL, lv_args, Value.category]) ?_
    refine V_gR mi_1_35 g0r1 (by omega) G2 ?_
    refine V_iload (v := a3) mi_1_38 (by simp [stL, lv_args, Value.category]) ?_
    have b2 : ∀ j, j < 4 → (feB B z (fe5 a1 a2 a3 a4 a5)) (z + 8 + j) = byS a3 j := fun j hj => by
      rw [show z + 8 + j = z + (8 + j) by omega, feB_at, show (8 + j) / 4 = 2 by omega, show (8 + j) % 4 = j by omega]
      rfl
    refine V_cO (As := [.int (a3)]) (st := []) mi_1_39 (by omega) (by decide +kernel) (by decide +kernel) (by omega) g2o G2 (appB_ct (z := z + 8) (B := (feB B z (fe5 a1 a2 a3 a4 a5))) (v := a3) (by omega) b2 G2 k2 t2) (by omega) (show 1 = mN 185 by decide +kernel) (by simp [Value.category]) ?_
    rintro r w3 ⟨rfl, G3, o3, k3, t3⟩
    refine V_aload (v := ad 0) mi_1_42 (by simp [stL, lv_args, Value.category]) ?_
    refine V_gR mi_1_43 g0r1 (by omega) G3 ?_
    refine V_iload (v := a4) mi_1_46 (by simp [stL, lv_args, Value.category]) ?_
    have b3 : ∀ j, j < 4 → (feB B z (fe5 a1 a2 a3 a4 a5)) (z + 12 + j) = byS a4 j := fun j hj => by
      rw [show z + 12 + j = z + (12 + j) by omega, feB_at, show (12 + j) / 4 = 3 by omega, show (12 + j) % 4 = j by omega]
      rfl
    refine V_cO (As := [.int (a4)]) (st := []) mi_1_48 (by omega) (by decide +kernel) (by decide +kernel) (by omega) g2o G3 (appB_ct (z := z + 12) (B := (feB B z (fe5 a1 a2 a3 a4 a5))) (v := a4) (by omega) b3 G3 k3 t3) (by omega) (show 1 = mN 185 by decide +kernel) (by simp [Value.category]) ?_
    rintro r w4 ⟨rfl, G4, o4, k4, t4⟩
    refine V_aload (v := ad 0) mi_1_51 (by simp [stL, lv_args, Value.category]) ?_
    refine V_gR mi_1_52 g0r1 (by omega) G4 ?_
    refine V_iload (v := a5) mi_1_55 (by simp [stL, lv_args, Value.category]) ?_
    have b4 : ∀ j, j < 4 → (feB B z (fe5 a1 a2 a3 a4 a5)) (z + 16 + j) = byS a5 j := fun j hj => by
      rw [show z + 16 + j = z + (16 + j) by omega, feB_at, show (16 + j) / 4 = 4 by omega, show (16 + j) % 4 = j by omega]
      rfl
    refine V_cO (As := [.int (a5)]) (st := []) mi_1_57 (by omega) (by decide +kernel) (by decide +kernel) (by omega) g2o G4 (appB_ct (z := z + 16) (B := (feB B z (fe5 a1 a2 a3 a4 a5))) (v := a5) (by omega) b4 G4 k4 t4) (by omega) (show 1 = mN 185 by decide +kernel) (by simp [Value.category]) ?_
    rintro r w5 ⟨rfl, G5, o5, k5, t5⟩
    refine V_aload (v := ad 0) mi_1_60 (by simp [stL, lv_args, Value.category]) ?_
    refine V_gR mi_1_61 g0r1 (by omega) G5 ?_
    refine V_gO mi_1_64 g2o G5 (k5) ?_
    refine V_retI mi_1_67 (fun h => absurd h (by decide +kernel)) ⟨G5, fun c j c3 c2 => (o5 c j c3 c2).trans ((o4 c j c3 c2).trans ((o3 c j c3 c2).trans ((o2 c j c3 c2).trans (o1 c j c3 c2)))), ?_⟩
    rw [if_pos (by omega)]
    exact ⟨rfl, k5, t5⟩
  · refine V_ipush mi_1_16 ?_
    refine V_retI mi_1_17 (fun h => absurd h (by decide +kernel)) ⟨hG, fun _ _ _ _ => rfl, ?_⟩
    rw [if_neg (by omega)]
    exact ⟨rfl, h1, hB⟩
theorem dv4 : (List.range 20).all (fun k => decide (ibF 3 (Int32.ofInt (k : Nat)) (Int32.ofInt 4) = Int32.ofInt ((k / 4 : Nat) : Int)) && decide (ibF 4 (Int32.ofInt (k : Nat)) (Int32.ofInt 4) = Int32.ofInt ((k % 4 : Nat) : Int))) = true := by decide +kernel
theorem dv4_k {k : Nat} (h : k < 20) : ibF 3 (Int32.ofInt (k : Int)) (Int32.ofInt 4) = Int32.ofInt ((k / 4 : Nat) : Int) ∧ ibF 4 (Int32.ofInt (k : Int)) (Int32.ofInt 4) = Int32.ofInt ((k % 4 : Nat) : Int) := by
  have q := List.all_eq_true.mp dv4 k (List.mem_range.mpr h)
  rw [Bool.and_eq_true, decide_eq_true_eq, decide_eq_true_eq] at q
  exact q
theorem fm_55 {z : Nat} {B : Nat → Int} {av : Nat → Int32} {w0 : va_W} {post : Option Value → va_W → Prop} (hz : z ≤ 1380) (hb : ∀ k, k < 20 → B (z + k) = byS (av (k / 4)) (k % 4)) : ∀ (m k : Nat) (w : va_W), k + m = 20 → GOK ad tys GG w → rd w 90 5 = some (.int (Int32.ofInt (z : Int))) → (∀ j, j < 5 → rd w 95 j = some (.int (av j))) → TB w 94 (z + k) B → (∀ c j, c ≠ 94 → rd w c j = rd w0 c j) → (∀ w' : va_W, GOK ad tys GG w' → rd w' 90 5 = some (.int (Int32.ofInt (z : Int))) → TB w' 94 (z + 20) B → (∀ c j, c ≠ 94 → rd w' c j = rd w0 c j) → V l D tys A 210 1 0 0 post 0 0 101 [(0, .ref (ad 90))] [] w') → V l D tys A 210 1 0 0 post 0 0 55 [(0, .ref (ad 90)), (6, .int (Int32.ofInt (k : Int)))] [] w
  | 0, k, w, hm, hG, h5, h95, hB, ho, kk => by
    have e : k = 20 := by omega
    subst e
    refine V_iload (v := Int32.ofInt ((20 : Nat) : Int)) mi_210_55 (by simp [stL, lv_args, Value.category]) ?_
    refine V_ipush mi_210_57 ?_
    refine V_cge mi_210_59 ⟨by omega, by omega⟩ ⟨by omega, by omega⟩ (fun _ => ?_) (fun q => absurd q (by omega))
    refine V_sub (lv' := [(0, .ref (ad 90))]) (fun q hq => ?_) (kk w hG h5 hB ho)
    simp only [List.mem_cons, List.not_mem_nil, or_false] at hq
    rcases hq with rfl
    simp [stL, lv_args, Value.category]
  | m + 1, k, w, hm, hG, h5, h95, hB, ho, kk => by
    obtain ⟨s94, e94, f94⟩ := gt94
    obtain ⟨s95, e95, f95⟩ := a95
    refine V_iload (v := Int32.ofInt ((k : Int))) mi_210_55 (by simp [stL, lv_args, Value.category]) ?_
    refine V_ipush mi_210_57 ?_
    refine V_cge mi_210_59 ⟨by omega, by omega⟩ ⟨by omega, by omega⟩ (fun q => ?_) (fun q => ?_)
    · exact absurd q (by omega)
    · obtain ⟨d1, d2⟩ := dv4_k (k := k) (by omega)
      refine V_aload (v := ad 90) mi_210_62 (by simp [stL, lv_args, Value.category]) ?_
      refine V_getI mi_210_63 hG (rref gr4 (by omega) hG) ?_
      refine V_aload (v := ad 90) mi_210_66 (by simp [stL, lv_args, Value.category]) ?_
      refine V_getI mi_210_67 hG (h5) ?_
      refine V_iload (v := Int32.ofInt ((k : Int))) mi_210_70 (by simp [stL, lv_args, Value.category]) ?_
      refine V_ibin mi_210_72 (by omega) ?_
      rw [ib0]
      refine V_aload (v := ad 90) mi_210_73 (by simp [stL, lv_args, Value.category]) ?_
      refine V_getI mi_210_74 hG (rref gr6m (by omega) hG) ?_
      refine V_iload (v := Int32.ofInt ((k : Int))) mi_210_77 (by simp [stL, lv_args, Value.category]) ?_
      refine V_ipush mi_210_79 ?_
      refine V_ibin mi_210_80 (fun _ => by decide) ?_
      rw [d1]
      refine V_aldX (j := k / 4) mi_210_81 rfl hG e95 (by omega) (by omega) (h95 _ (by omega)) ?_
      refine V_ipush mi_210_82 ?_
      refine V_ipush mi_210_84 ?_
      refine V_iload (v := Int32.ofInt ((k : Int))) mi_210_86 (by simp [stL, lv_args, Value.category]) ?_
      refine V_ipush mi_210_88 ?_
      refine V_ibin mi_210_89 (fun _ => by decide) ?_
      rw [d2]
      refine V_ibin mi_210_90 (by omega) ?_
      rw [ib2]
      refine V_ibin mi_210_91 (by omega) ?_
      rw [ib1]
      refine V_ibin mi_210_92 (by omega) ?_
      refine V_i2b mi_210_93 ?_
      have hbk : B (z + k) = byS (av (k / 4)) (k % 4) := hb k (by omega)
      have bbk : -128 ≤ B (z + k) ∧ B (z + k) ≤ 127 := by rw [hbk]; exact byS_bd _ _
      refine V_bstI (j := z + k) (b := B (z + k)) mi_210_94 (by rw [show (z : Int) + (k : Int) = ((z + k : Nat) : Int) by omega]) (by rw [hbk]; exact byM _ _) (by rw [hbk]; exact (byS_bd _ _).1) (by rw [hbk]; exact (byS_bd _ _).2) hG e94 (by omega) (by omega) (f94 _ (by omega)) (fun w1 G1 U1 => ?_)
      refine V_iinc (v := Int32.ofInt ((k : Int))) mi_210_95 (by simp [stL, lv_args, Value.category]) ?_
      rw [ia2]
      refine V_goto mi_210_98 ?_
      refine V_sub (lv' := [(0, .ref (ad 90)), (6, .int (Int32.ofInt ((k + 1 : Nat) : Int)))]) (fun q hq => ?_) (fm_55 hz hb m (k + 1) w1 (by omega) G1 ((upd_ne U1 (by omega)).trans h5) (fun j hj => (upd_ne U1 (by omega)).trans (h95 j hj)) (TB_up (n := z + k) hB U1 bbk) (fun c j c3 => (upd_ne U1 (by omega)).trans (ho c j c3)) kk)
      simp only [List.mem_cons, List.not_mem_nil, or_false] at hq
      rcases hq with rfl | rfl <;> simp [stL, lv_args, Value.category]
theorem feeM_ct {z : Nat} {B : Nat → Int} (a1 a2 a3 a4 a5 : Int32) (hz : z ≤ 1400) (hG : GOK ad tys GG ws) (h5 : rd ws 90 5 = some (.int (Int32.ofInt (z : Int)))) (hB : TB ws 94 z B) : CT l D tys A 210 1 0 0 [.ref (ad 90), .int a1, .int a2, .int a3, .int a4, .int a5] ws (fun r w => GOK ad tys GG w ∧ (∀ c j, c ≠ 94 → c ≠ 95 → ¬ (c = 90 ∧ j = 5) → rd w c j = rd ws c j) ∧ (if z + 20 ≤ 1400 then r = some (.int (Int32.ofInt ((z + 20 : Nat) : Int))) ∧ rd w 90 5 = some (.int (Int32.ofInt ((z + 20 : Nat) : Int))) ∧ TB w 94 (z + 20) (feB B z (fe5 a1 a2 a3 a4 a5)) else r = some (.int (Int32.ofInt (-1))) ∧ rd w 90 5 = some (.int (Int32.ofInt (z : Int))) ∧ TB w 94 z B)) := by
  refine CT_of_V (by omega) (show (6 : Nat) ≤ mML 210 by decide +kernel) ?_
  obtain ⟨s95, e95, f95⟩ := a95
  refine V_aload (v := ad 90) mi_210_0 (by simp [stL, lv_args, Value.category]) ?_
  refine V_getI mi_210_1 hG (h5) ?_
  refine V_ipush mi_210_4 ?_
  refine V_ibin mi_210_6 (by omega) ?_
  rw [ib0]
  refine V_ipush mi_210_7 ?_
  refine V_cle mi_210_10 ⟨by omega, by omega⟩ ⟨by omega, by omega⟩ (fun q => ?_) (fun q => ?_)
  · refine V_aload (v := ad 90) mi_210_15 (by simp [stL, lv_args, Value.category]) ?_
    refine V_getI mi_210_16 hG (rref gr6m (by omega) hG) ?_
    refine V_ipush mi_210_19 ?_
    refine V_iload (v := a1) mi_210_20 (by simp [stL, lv_args, Value.category]) ?_
    refine V_astX (j := 0) mi_210_21 rfl hG e95 (by omega) (by omega) (f95 _ (by omega)) (i32b _).1 (i32b _).2 (fun w1 G1 U1 => ?_)
    refine V_aload (v := ad 90) mi_210_22 (by simp [stL, lv_args, Value.category]) ?_
    refine V_getI mi_210_23 G1 (rref gr6m (by omega) G1) ?_
    refine V_ipush mi_210_26 ?_
    refine V_iload (v := a2) mi_210_27 (by simp [stL, lv_args, Value.category]) ?_
    refine V_astX (j := 1) mi_210_28 rfl G1 e95 (by omega) (by omega) (f95 _ (by omega)) (i32b _).1 (i32b _).2 (fun w2 G2 U2 => ?_)
    refine V_aload (v := ad 90) mi_210_29 (by simp [stL, lv_args, Value.category]) ?_
    refine V_getI mi_210_30 G2 (rref gr6m (by omega) G2) ?_
    refine V_ipush mi_210_33 ?_
    refine V_iload (v := a3) mi_210_34 (by simp [stL, lv_args, Value.category]) ?_
    refine V_astX (j := 2) mi_210_35 rfl G2 e95 (by omega) (by omega) (f95 _ (by omega)) (i32b _).1 (i32b _).2 (fun w3 G3 U3 => ?_)
    refine V_aload (v := ad 90) mi_210_36 (by simp [stL, lv_args, Value.category]) ?_
    refine V_getI mi_210_37 G3 (rref gr6m (by omega) G3) ?_
    refine V_ipush mi_210_40 ?_
    refine V_iload (v := a4) mi_210_41 (by simp [stL, lv_args, Value.category]) ?_
    refine V_astX (j := 3) mi_210_43 rfl G3 e95 (by omega) (by omega) (f95 _ (by omega)) (i32b _).1 (i32b _).2 (fun w4 G4 U4 => ?_)
    refine V_aload (v := ad 90) mi_210_44 (by simp [stL, lv_args, Value.category]) ?_
    refine V_getI mi_210_45 G4 (rref gr6m (by omega) G4) ?_
    refine V_ipush mi_210_48 ?_
    refine V_iload (v := a5) mi_210_49 (by simp [stL, lv_args, Value.category]) ?_
    refine V_astX (j := 4) mi_210_51 rfl G4 e95 (by omega) (by omega) (f95 _ (by omega)) (i32b _).1 (i32b _).2 (fun w5 G5 U5 => ?_)
    refine V_ipush mi_210_52 ?_
    refine V_istore mi_210_53 ?_
    have o5 : ∀ c j, c ≠ 95 → rd w5 c j = rd ws c j := fun c j hc => (upd_ne U5 (by omega)).trans ((upd_ne U4 (by omega)).trans ((upd_ne U3 (by omega)).trans ((upd_ne U2 (by omega)).trans (upd_ne U1 (by omega)))))
    have h95 : ∀ j, j < 5 → rd w5 95 j = some (.int (fe5 a1 a2 a3 a4 a5 j)) := fun j hj => by
      rcases j with _ | _ | _ | _ | _ | j
      · exact (upd_ne U5 (by omega)).trans ((upd_ne U4 (by omega)).trans ((upd_ne U3 (by omega)).trans ((upd_ne U2 (by omega)).trans (upd_eq U1))))
      · exact (upd_ne U5 (by omega)).trans ((upd_ne U4 (by omega)).trans ((upd_ne U3 (by omega)).trans (upd_eq U2)))
      · exact (upd_ne U5 (by omega)).trans ((upd_ne U4 (by omega)).trans (upd_eq U3))
      · exact (upd_ne U5 (by omega)).trans (upd_eq U4)
      · exact upd_eq U5
      · omega
    have t0 : TB w5 94 z (feB B z (fe5 a1 a2 a3 a4 a5)) := TB_ne (TB_cg hB (fun k hk => by unfold feB; rw [if_pos hk])) (fun j => o5 _ _ (by omega))
    refine V_sub (lv' := [(0, .ref (ad 90)), (6, .int (Int32.ofInt ((0 : Nat) : Int)))]) (fun q hq => ?_) (fm_55 (w0 := w5) (by omega) (fun k hk => feB_at) 20 0 w5 (by omega) G5 ((o5 _ _ (by omega)).trans h5) h95 t0 (fun _ _ _ => rfl) (fun w6 G6 k5 t6 o6 => ?_))
    · simp only [List.mem_cons, List.not_mem_nil, or_false] at hq
      rcases hq with rfl | rfl <;> simp [stL, lv_args, Value.category]
    refine V_aload (v := ad 90) mi_210_101 (by simp [stL, lv_args, Value.category]) ?_
    refine V_dup mi_210_102 (by simp [Value.category]) ?_
    refine V_getI mi_210_103 G6 (k5) ?_
    refine V_ipush mi_210_106 ?_
    refine V_ibin mi_210_108 (by omega) ?_
    rw [ib0]
    rw [show (z : Int) + 20 = ((z + 20 : Nat) : Int) by omega]
    refine V_putI mi_210_109 G6 f5 (by omega) rfl (by decide +kernel) (by rw [Int32.toInt_ofInt_of_le (by omega) (by omega)]; omega) (by rw [Int32.toInt_ofInt_of_le (by omega) (by omega)]; omega) (fun w7 G7 U7 => ?_)
    refine V_aload (v := ad 90) mi_210_112 (by simp [stL, lv_args, Value.category]) ?_
    refine V_getI mi_210_113 G7 (upd_eq U7) ?_
    refine V_retI mi_210_116 (fun h => absurd h (by decide +kernel)) ⟨G7, fun c j c4 c5 c0 => (upd_ne U7 c0).trans ((o6 c j c4).trans (o5 c j c5)), ?_⟩
    rw [if_pos (by omega)]
    exact ⟨rfl, upd_eq U7, TB_ne t6 (fun j => upd_ne U7 (by omega))⟩
  · refine V_ipush mi_210_13 ?_
    refine V_retI mi_210_14 (fun h => absurd h (by decide +kernel)) ⟨hG, fun _ _ _ _ _ => rfl, ?_⟩
    rw [if_neg (by omega)]
    exact ⟨rfl, h5, hB⟩
end XTP
section XPF
variable {l : Launch} {D : va_G} {tys : List (ClassId × FieldType)} {A : Nat → Prop} {ad : Nat → Nat} {ws : va_W}
theorem endB_ct (hG : GOK ad tys GG ws) (n : Int32) {z : Int} (hz : rd ws 90 5 = some (.int (Int32.ofInt z))) (z0 : 0 ≤ z) (z1 : z ≤ 1400) : CT l D tys A 211 1 0 0 [.ref (ad 90), .int n] ws (fun r w => r = some (.int (edV z n)) ∧ GOK ad tys GG w ∧ (∀ c j, ¬ (c = 90 ∧ j = 5) → rd w c j = rd ws c j) ∧ rd w 90 5 = some (.int (Int32.ofInt (edT z n)))) := by
  refine CT_of_V (by omega) (show (2 : Nat) ≤ mML 211 by decide +kernel) ?_
  have lvs : lv_args 0 [Value.ref (ad 90), .int n] = [(0, .ref (ad 90)), (1, .int n)] := rfl
  rw [lvs]
  have n1 := Int32.le_toInt n
  have n2 := Int32.toInt_lt n
  have ez : (Int32.ofInt z).toInt = z := tIi z (by omega) (by omega)
  refine V_iload (v := n) mi_211_0 (by simp) ?_
  refine V_i2l mi_211_1 ?_
  rw [el_]
  refine V_lpush mi_211_2 ?_
  refine V_aload (v := ad 90) mi_211_3 (by simp) ?_
  refine V_getI mi_211_4 hG hz ?_
  refine V_i2l mi_211_7 ?_
  rw [el_ (Int32.ofInt z), ez]
  refine V_stat (As := [.long (Int64.ofInt n.toInt), .long (Int64.ofInt 0), .long (Int64.ofInt z)]) (st := []) mi_211_8 (by omega) (in2_ct (by omega) (by omega) (by omega) (by omega) (by omega) (by omega)) (by omega) (show 3 = mN 193 by decide +kernel) (by simp) ⟨Nat.le_refl _, Nat.le_refl _⟩ ?_
  rintro r w ⟨rfl, hr⟩
  rcases hr with ⟨rfl, h1, h2⟩ | ⟨rfl, hn⟩
  · refine V_if mi_211_11 (fun _ => ?_) (fun h => absurd (show (1 : Int32) ≠ 0 by decide) h)
    refine V_aload (v := ad 90) mi_211_16 (by simp) ?_
    refine V_iload (v := n) mi_211_17 (by simp) ?_
    refine V_putI mi_211_18 hG f5 (by omega) rfl (by decide +kernel) h1 (by omega) (fun w1 G1 U1 => ?_)
    refine V_iload (v := n) mi_211_21 (by simp) ?_
    exact V_retI mi_211_22 (fun h => absurd h (by decide +kernel)) ⟨by unfold edV; rw [if_pos ⟨h1, h2⟩], G1, fun c j hc => upd_ne U1 hc, by unfold edT; rw [if_pos ⟨h1, h2⟩, Int32.ofInt_toInt]; exact upd_eq U1⟩
  · refine V_if mi_211_11 (fun h => absurd (show (0 : Int32) = 0 from rfl) h) (fun _ => ?_)
    refine V_ipush mi_211_14 ?_
    exact V_retI mi_211_15 (fun h => absurd h (by decide +kernel)) ⟨by unfold edV; rw [if_neg hn], hG, fun _ _ _ => rfl, by unfold edT; rw [if_neg hn]; exact hz⟩
theorem edn {n : Nat} {a : Int32} : ∃ m : Nat, edT (n : Int) a = (m : Int) ∧ m ≤ n := by
  unfold edT
  split
  · next h => exact ⟨a.toInt.toNat, by rw [Int.toNat_of_nonneg h.1], by omega⟩
  · exact ⟨n, rfl, Nat.le_refl _⟩
theorem g90f11 : gOf 90 11 36 11 (-2147483648) 2147483647 := ⟨_, rfl, by decide +kernel⟩
/-- the same text stands on both sides; the same fault -/
noncomputable def TAPE (w : va_W) : Prop := ∃ (n : Nat) (B : Nat → Int), n ≤ 1400 ∧ (rd w 2 1 = some (.int (Int32.ofInt (n : Int))) ∧ TB w 3 n B) ∧ rd w 90 5 = some (.int (Int32.ofInt (n : Int))) ∧ TB w 94 n B
noncomputable def FLT (w : va_W) : Prop := ∃ a b : Int, (rd w 1 1 = some (.int (Int32.ofInt a)) ∧ rd w 1 2 = some (.int (Int32.ofInt b))) ∧ rd w 90 12 = some (.int (Int32.ofInt a)) ∧ rd w 90 13 = some (.int (Int32.ofInt b))
noncomputable def RELF (w : va_W) : Prop := TAPE w ∧ FLT w
theorem tape_keep {w0 w : va_W} (h : TAPE w0) (k : ∀ c, c = 2 ∨ c = 3 ∨ c = 94 → ∀ j, rd w c j = rd w0 c j) (k2 : rd w 90 5 = rd w0 90 5) : TAPE w := by
  obtain ⟨n, B, h0, ⟨h1, h2⟩, h3, h4⟩ := h
  exact ⟨n, B, h0, ⟨(k 2 (by omega) 1).trans h1, TB_ne h2 (k 3 (by omega))⟩, k2.trans h3, TB_ne h4 (k 94 (by omega))⟩
theorem flt_keep {w0 w : va_W} (h : FLT w0) (k : ∀ j, rd w 1 j = rd w0 1 j) (k2 : rd w 90 12 = rd w0 90 12) (k3 : rd w 90 13 = rd w0 90 13) : FLT w := by
  obtain ⟨a, b, ⟨h1, h2⟩, h3, h4⟩ := h
  exact ⟨a, b, ⟨(k 1).trans h1, (k 2).trans h2⟩, k2.trans h3, k3.trans h4⟩
theorem relf_keep {w0 w : va_W} (h : RELF w0) (k : ∀ c, c = 1 ∨ c = 2 ∨ c = 3 ∨ c = 94 → ∀ j, rd w c j = rd w0 c j) (k2 : ∀ j, spK j → rd w 90 j = rd w0 90 j) : RELF w := ⟨tape_keep h.1 (fun c hc j => k c (by omega) j) (k2 5 (Or.inl rfl)), flt_keep h.2 (fun j => k 1 (by omega) j) (k2 12 (Or.inr (Or.inl rfl))) (k2 13 (Or.inr (Or.inr rfl)))⟩
/-- feed, both sides: the answer, the text, and nothing else -/
theorem two_feed (hG : GOK ad tys GG ws) (hR : TAPE ws) (a1 a2 a3 a4 a5 : Int32) : ∃ v : Int32, ∃ MID : va_W → Prop, CT l D tys A 1 2 0 0 [.ref (ad 0), .int a1, .int a2, .int a3, .int a4, .int a5] ws (fun r w => r = some (.int v) ∧ GOK ad tys GG w ∧ MID w ∧ ∀ c j, c ≠ 2 → c ≠ 3 → rd w c j = rd ws c j) ∧ ∀ w : va_W, GOK ad tys GG w → MID w → CT l D tys A 210 1 0 0 [.ref (ad 90), .int a1, .int a2, .int a3, .int a4, .int a5] w (fun r w2 => r = some (.int v) ∧ GOK ad tys GG w2 ∧ TAPE w2 ∧ ∀ c j, c ≠ 94 → c ≠ 95 → ¬ (c = 90 ∧ j = 5) → rd w2 c j = rd w c j) := by
  obtain ⟨n, B, h0, ⟨h1, h2⟩, h3, h4⟩ := hR
  by_cases q : n + 20 ≤ 1400
  · refine ⟨Int32.ofInt ((n + 20 : Nat) : Int), fun w => (rd w 2 1 = some (.int (Int32.ofInt ((n + 20 : Nat) : Int))) ∧ TB w 3 (n + 20) (feB B n (fe5 a1 a2 a3 a4 a5))) ∧ rd w 90 5 = some (.int (Int32.ofInt (n : Int))) ∧ TB w 94 n B, CT_post (feeX_ct a1 a2 a3 a4 a5 h0 hG h1 h2) (fun r w h => ?_), fun w hw K => CT_post (feeM_ct a1 a2 a3 a4 a5 h0 hw K.2.1 K.2.2) (fun r w2 h => ?_)⟩
    · obtain ⟨g1, g2, g3⟩ := h
      rw [if_pos q] at g3
      exact ⟨g3.1, g1, ⟨g3.2, (g2 _ _ (by omega) (by omega)).trans h3, TB_ne h4 (fun j => g2 _ _ (by omega) (by omega))⟩, fun c j c2 c3 => g2 _ _ c3 (by omega)⟩
    · obtain ⟨g1, g2, g3⟩ := h
      rw [if_pos q] at g3
      exact ⟨g3.1, g1, ⟨n + 20, _, q, ⟨(g2 _ _ (by omega) (by omega) (by omega)).trans K.1.1, TB_ne K.1.2 (fun j => g2 _ _ (by omega) (by omega) (by omega))⟩, g3.2⟩, g2⟩
  · refine ⟨Int32.ofInt (-1), fun w => (rd w 2 1 = some (.int (Int32.ofInt (n : Int))) ∧ TB w 3 n B) ∧ rd w 90 5 = some (.int (Int32.ofInt (n : Int))) ∧ TB w 94 n B, CT_post (feeX_ct a1 a2 a3 a4 a5 h0 hG h1 h2) (fun r w h => ?_), fun w hw K => CT_post (feeM_ct a1 a2 a3 a4 a5 h0 hw K.2.1 K.2.2) (fun r w2 h => ?_)⟩
    · obtain ⟨g1, g2, g3⟩ := h
      rw [if_neg q] at g3
      exact ⟨g3.1, g1, ⟨g3.2, (g2 _ _ (by omega) (by omega)).trans h3, TB_ne h4 (fun j => g2 _ _ (by omega) (by omega))⟩, fun c j c2 c3 => g2 _ _ c3 (by omega)⟩
    · obtain ⟨g1, g2, g3⟩ := h
      rw [if_neg q] at g3
      exact ⟨g3.1, g1, ⟨n, B, h0, ⟨(g2 _ _ (by omega) (by omega) (by omega)).trans K.1.1, TB_ne K.1.2 (fun j => g2 _ _ (by omega) (by omega) (by omega))⟩, g3.2⟩, g2⟩
theorem two_end (hG : GOK ad tys GG ws) (hR : TAPE ws) (a1 : Int32) : ∃ v : Int32, ∃ MID : va_W → Prop, CT l D tys A 2 0 0 0 [.ref (ad 0), .int a1] ws (fun r w => r = some (.int v) ∧ GOK ad tys GG w ∧ MID w ∧ ∀ c j, c ≠ 2 → rd w c j = rd ws c j) ∧ ∀ w : va_W, GOK ad tys GG w → MID w → CT l D tys A 211 1 0 0 [.ref (ad 90), .int a1] w (fun r w2 => r = some (.int v) ∧ GOK ad tys GG w2 ∧ TAPE w2 ∧ ∀ c j, ¬ (c = 90 ∧ j = 5) → rd w2 c j = rd w c j) := by
  obtain ⟨n, B, h0, ⟨h1, h2⟩, h3, h4⟩ := hR
  obtain ⟨m, e, hm⟩ := edn (n := n) (a := a1)
  refine ⟨edV (n : Int) a1, fun w => (rd w 2 1 = some (.int (Int32.ofInt (m : Int))) ∧ TB w 3 m B) ∧ rd w 90 5 = some (.int (Int32.ofInt (n : Int))) ∧ TB w 94 m B, CT_post (endx_ct hG a1 h1 (by omega) (by omega)) (fun r w h => ?_), fun w hw K => CT_post (endB_ct hw a1 K.2.1 (by omega) (by omega)) (fun r w2 h => ?_)⟩
  · obtain ⟨g0, g1, g2, g3⟩ := h
    rw [e] at g3
    have o : ∀ c j, c ≠ 2 → rd w c j = rd ws c j := fun c j hc => g2.1 c (by simp [hc]) j
    exact ⟨g0, g1, ⟨⟨g3, TB_ne (TB_le h2 hm) (fun j => o _ _ (by omega))⟩, (o _ _ (by omega)).trans h3, TB_ne (TB_le h4 hm) (fun j => o _ _ (by omega))⟩, o⟩
  · obtain ⟨g0, g1, g2, g3⟩ := h
    rw [e] at g3
    exact ⟨g0, g1, ⟨m, B, by omega, ⟨(g2 _ _ (by omega)).trans K.1.1, TB_ne K.1.2 (fun j => g2 _ _ (by omega))⟩, g3, TB_ne K.2.2 (fun j => g2 _ _ (by omega))⟩, g2⟩
theorem fltX_ct {a b : Int} (a1 : Int32) (hG : GOK ad tys GG ws) (h1 : rd ws 1 1 = some (.int (Int32.ofInt a))) (h2 : rd ws 1 2 = some (.int (Int32.ofInt b))) : CT l D tys A 4 0 0 0 [.ref (ad 0), .int a1] ws (fun r w => w = ws ∧ r = some (.int (Int32.ofInt (if a1.toInt = 0 then a else if a1.toInt = 1 then b else -1)))) := by
  refine CT_of_V (by omega) (show (2 : Nat) ≤ mML 4 by decide +kernel) ?_
  refine V_iload (v := a1) mi_4_0 (by simp [stL, lv_args, Value.category]) ?_
  refine V_swl mi_4_1 ?_
  rw [show swT 4 (0 + ln3 0) a1.toInt = if a1.toInt = 0 then 28 else if a1.toInt = 1 then 36 else 44 by
    show swT 4 1 a1.toInt = _
    unfold swT
    rw [show mSw 4 1 = (44, 0, [28, 36]) by decide +kernel]
    show (if a1.toInt < 0 ∨ 0 + ((2 : Nat) : Int) ≤ a1.toInt then 44 else ([28, 36] : List Nat).getD (a1.toInt - 0).toNat 44) = _
    by_cases e0 : a1.toInt = 0
    · rw [if_neg (by omega), if_pos e0, e0]; rfl
    · by_cases e1 : a1.toInt = 1
      · rw [if_neg (by omega), if_neg e0, if_pos e1, e1]; rfl
      · rw [if_pos (by omega), if_neg e0, if_neg e1]]
  by_cases e0 : a1.toInt = 0
  · rw [if_pos e0, if_pos e0]
    refine V_aload (v := ad 0) mi_4_28 (by simp [stL, lv_args, Value.category]) ?_
    refine V_gR mi_4_29 g0r0 (by omega) hG ?_
    refine V_gO mi_4_32 g1o hG (h1) ?_
    exact V_retI mi_4_35 (fun h => absurd h (by decide +kernel)) ⟨rfl, rfl⟩
  · rw [if_neg e0, if_neg e0]
    by_cases e1 : a1.toInt = 1
    · rw [if_pos e1, if_pos e1]
      refine V_aload (v := ad 0) mi_4_36 (by simp [stL, lv_args, Value.category]) ?_
      refine V_gR mi_4_37 g0r0 (by omega) hG ?_
      refine V_gO mi_4_40 g1o hG (h2) ?_
      exact V_retI mi_4_43 (fun h => absurd h (by decide +kernel)) ⟨rfl, rfl⟩
    · rw [if_neg e1, if_neg e1]
      refine V_ipush mi_4_44 ?_
      exact V_retI mi_4_45 (fun h => absurd h (by decide +kernel)) ⟨rfl, rfl⟩
theorem fltM_ct {a b : Int} (a1 : Int32) (hG : GOK ad tys GG ws) (h1 : rd ws 90 12 = some (.int (Int32.ofInt a))) (h2 : rd ws 90 13 = some (.int (Int32.ofInt b))) : CT l D tys A 221 0 0 0 [.ref (ad 90), .int a1] ws (fun r w => w = ws ∧ r = some (.int (Int32.ofInt (if a1.toInt = 0 then a else if a1.toInt = 1 then b else -1)))) := by
  rw [show a1 = Int32.ofInt a1.toInt from (Int32.ofInt_toInt a1).symm]
  have ea : (Int32.ofInt a1.toInt).toInt = a1.toInt := by rw [Int32.ofInt_toInt]
  rw [ea]
  refine CT_of_V (by omega) (show (2 : Nat) ≤ mML 221 by decide +kernel) ?_
  refine V_iload (v := Int32.ofInt (a1.toInt)) mi_221_0 (by simp [stL, lv_args, Value.category]) ?_
  refine V_zne mi_221_1 (i32b a1) (fun q => ?_) (fun q => ?_)
  · refine V_iload (v := Int32.ofInt (a1.toInt)) mi_221_11 (by simp [stL, lv_args, Value.category]) ?_
    refine V_ipush mi_221_12 ?_
    refine V_cne mi_221_13 (i32b a1) ⟨by omega, by omega⟩ (fun q2 => ?_) (fun q2 => ?_)
    · refine V_ipush mi_221_23 ?_
      rw [if_neg q, if_neg q2]
      exact V_retI mi_221_24 (fun h => absurd h (by decide +kernel)) ⟨rfl, rfl⟩
    · refine V_aload (v := ad 90) mi_221_16 (by simp [stL, lv_args, Value.category]) ?_
      refine V_getI mi_221_17 hG (h2) ?_
      refine V_goto mi_221_20 ?_
      rw [if_neg q, if_pos q2]
      exact V_retI mi_221_24 (fun h => absurd h (by decide +kernel)) ⟨rfl, rfl⟩
  · refine V_aload (v := ad 90) mi_221_4 (by simp [stL, lv_args, Value.category]) ?_
    refine V_getI mi_221_5 hG (h1) ?_
    refine V_goto mi_221_8 ?_
    rw [if_pos q]
    exact V_retI mi_221_24 (fun h => absurd h (by decide +kernel)) ⟨rfl, rfl⟩
end XPF
end
