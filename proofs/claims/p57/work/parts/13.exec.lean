noncomputable abbrev AL : Type := List (Nat × AV)
noncomputable abbrev ST : Type := Nat × EV × AL × List AV × OV
noncomputable abbrev OUT : Type := EV × Option AV × OV
noncomputable abbrev CUT : Type := EV × AL × List AV × OV × LF
noncomputable def lf0 : LF := (0, [])
noncomputable def iA (f : LF) : AV := (0, f, lf0)
noncomputable def lA (f : LF) : AV := (1, f, lf0)
noncomputable def rA (c : Int) : AV := (2, (c, []), lf0)
noncomputable def nA : AV := (3, lf0, lf0)
noncomputable def wfS (n : Nat) (als : AL) (ast : List AV) (ov : OV) : Bool := als.all (fun q => wfA n q.2) && (ast.all (fun v => wfA n v) && ov.all (fun q => wfA n q.2))
noncomputable def pushR (r : RV) (pc : Nat) (E : EV) (als : AL) (ast : List AV) (ov : OV) : Option (List ST) := match r with
  | .inl f => some [(pc, E, als, iA f :: ast, ov)]
  | .inr u => bif wfS E.length als ast ov then some [(pc, E ++ [u], als, iA (lfS E.length) :: ast, ov)] else none
noncomputable def pushL (r : RV) (pc : Nat) (E : EV) (als : AL) (ast : List AV) (ov : OV) : Option (List ST) := match r with
  | .inl f => some [(pc, E, als, lA f :: ast, ov)]
  | .inr u => bif wfS E.length als ast ov then some [(pc, E ++ [u], als, lA (lfS E.length) :: ast, ov)] else none
/-- longs -/
noncomputable def ivL2 (E : EV) (f g : LF) : Option I4 := match iv E f, iv E g with
  | some u, some w => bif inL u && inL w then some (u, w) else none
  | _, _ => none
noncomputable def cstL (x : Nat) (q : I4) : RV := .inl (lfC (lbF x (Int64.ofInt q.1.1) (Int64.ofInt q.2.1)).toInt)
noncomputable def rlDiv (q : I4) : Option RV := bif leI 1 q.2.1 then some (bif isC q then cstL 3 q else bif leI 0 q.1.1 then .inr (0, bif eqI q.2.1 q.2.2 then q.1.2 / q.2.1 else q.1.2) else .inr fullL) else bif leI q.2.2 (-1) then some (.inr fullL) else none
noncomputable def rlRem (q : I4) : Option RV := bif leI 1 q.2.1 then some (bif isC q then cstL 4 q else bif leI 0 q.1.1 then .inr (0, minI q.1.2 (q.2.2 - 1)) else .inr (1 - q.2.2, q.2.2 - 1)) else bif leI q.2.2 (-1) then some (.inr fullL) else none
noncomputable def lbA (x : Nat) (E : EV) (f g : LF) : Option RV := match x with
  | 0 => some (mkL E (lfAdd f g))
  | 1 => some (mkL E (lfSub f g))
  | 2 => match g.2 with
    | [] => match f.2 with
      | [] => some (cstL 2 ((f.1, f.1), (g.1, g.1)))
      | _ => some (mkL E (lfSc g.1 f))
    | _ => match f.2 with
      | [] => some (mkL E (lfSc f.1 g))
      | _ => some (.inr fullL)
  | 3 => (ivL2 E f g).bind rlDiv
  | 4 => (ivL2 E f g).bind rlRem
  | _ => some (.inr fullL)
noncomputable def unA (x : Nat) (E : EV) (f : LF) : Option RV := match x with
  | 0 => some (mkI E (lfSc (-1) f))
  | 2 => match iv E f with
    | some u => bif inI u then some (.inl f) else some (.inr fullI)
    | none => some (.inr fullI)
  | 3 => match iv E f with
    | some u => bif leI (-128) u.1 && leI u.2 127 then some (.inl f) else some (.inr (-128, 127))
    | none => some (.inr (-128, 127))
  | 4 => match iv E f with
    | some u => bif leI (-32768) u.1 && leI u.2 32767 then some (.inl f) else some (.inr (-32768, 32767))
    | none => some (.inr (-32768, 32767))
  | _ => none
/-- what is compared: two forms, in range -/
noncomputable def cmpQ (E : EV) (v : AV) : Option LF := match v.1 with
  | 0 => match iv E v.2.1 with
    | some u => bif inI u then some v.2.1 else none
    | none => none
  | 4 => match iv E v.2.1, iv E v.2.2 with
    | some u, some w => bif inL u && inL w then some (lfSub v.2.1 v.2.2) else none
    | _, _ => none
  | _ => none
noncomputable def cmpI (E : EV) (v w : AV) : Option LF := match v.1, w.1 with
  | 0, 0 => match iv E v.2.1, iv E w.2.1 with
    | some u, some t => bif inI u && inI t then some (lfSub v.2.1 w.2.1) else none
    | _, _ => none
  | _, _ => none
noncomputable def br1 (o : Option EV) (pc : Nat) (als : AL) (ast : List AV) (ov : OV) : List ST := match o with
  | some E => [(pc, E, als, ast, ov)]
  | none => []
noncomputable def br2 (x : Nat) (d : LF) (pt pf : Nat) (E : EV) (als : AL) (ast : List AV) (ov : OV) : List ST := br1 (brT E x d) pt als ast ov ++ br1 (brT E (negC x) d) pf als ast ov
/-- what lies at a place -/
noncomputable def loadAt (c j : Nat) (g : GC) (pc : Nat) (E : EV) (als : AL) (ast : List AV) (ov : OV) : Option (List ST) := match ovAt c j ov with
  | some v => some [(pc, E, als, v :: ast, ov)]
  | none => match segAt g.2 j with
    | some sp => bif Nat.beq sp.1 0 then (bif eqI sp.2.1 sp.2.2 then some [(pc, E, als, iA (lfC sp.2.1) :: ast, ov)] else bif wfS E.length als ast ov then some [(pc, E ++ [sp.2], als, iA (lfS E.length) :: ast, ((c, j), iA (lfS E.length)) :: ov)] else none)
      else bif Nat.beq sp.1 1 then (bif wfS E.length als ast ov then some [(pc, E ++ [sp.2], als, lA (lfS E.length) :: ast, ((c, j), lA (lfS E.length)) :: ov)] else none)
      else bif Nat.beq sp.1 2 then some [(pc, E, als, rA sp.2.1 :: ast, ov)] else none
    | none => none
noncomputable def stOK (E : EV) (v : AV) (sp : Nat × Int × Int) : Bool := match iv E v.2.1 with
  | some u => Nat.beq v.1 sp.1 && (Nat.ble sp.1 1 && (leI sp.2.1 u.1 && leI u.2 sp.2.2))
  | none => false
noncomputable def nfin (ci j : Nat) : Bool := match vwCl[ci]? with
  | some (_, T, _) => !(T j).2.2.2
  | none => false
noncomputable def tyOK (ty : FieldType) (sp : Nat × Int × Int) : Bool := match ty with
  | .int => Nat.beq sp.1 0
  | .boolean => Nat.beq sp.1 0 && (leI 0 sp.2.1 && leI sp.2.2 1)
  | .long => Nat.beq sp.1 1
  | _ => false
/-- the places that an index may be -/
noncomputable def rng : Nat → Int → List Int
  | 0, _ => []
  | n + 1, a => a :: rng n (a + 1)
noncomputable def enT (E : EV) : List (Int × Nat) → List Int
  | [] => [0]
  | q :: t => match E[q.2]? with
    | some r => (rng (r.2 - r.1 + 1).toNat r.1).flatMap (fun v => (enT E t).map (fun w => q.1 * v + w))
    | none => []
noncomputable def enN (E : EV) : List (Int × Nat) → Nat
  | [] => 1
  | q :: t => match E[q.2]? with
    | some r => (r.2 - r.1 + 1).toNat * enN E t
    | none => 0
/-- the places: by the terms, where these are few; else all between -/
noncomputable def plc (E : EV) (f : LF) (u : Int × Int) : List Int := bif Nat.ble (enN E f.2) 64 && !(Nat.beq (enN E f.2) 0) then (enT E f.2).map (fun w => f.1 + w) else rng (u.2 - u.1 + 1).toNat u.1
noncomputable def itv (c : Nat) (g : GC) (ov : OV) (E : EV) (tag : Nat) (j : Nat) : Option (Int × Int) := match ovAt c j ov with
  | some v => bif Nat.beq v.1 tag then iv E v.2.1 else none
  | none => match segAt g.2 j with
    | some sp => bif Nat.beq sp.1 tag then some sp.2 else none
    | none => none
noncomputable def hull (f : Nat → Option (Int × Int)) (n : Nat) : List Int → Option (Int × Int)
  | [] => none
  | j :: t => bif leI 0 j && Nat.blt j.toNat n then (match f j.toNat with
      | some u => match t with
        | [] => some u
        | _ => match hull f n t with
          | some w => some (minI u.1 w.1, maxI u.2 w.2)
          | none => none
      | none => none) else (match t with
        | [] => none
        | _ => hull f n t)
/-- by the parts of a row that an index between a and b meets -/
noncomputable def hullS (tag : Nat) : List SG → Int → Int → Option (Int × Int)
  | [], _, _ => none
  | q :: t, a, b => bif leI (q.1 : Int) a then hullS tag t (a - q.1) (b - q.1)
    else bif Nat.beq q.2.1 tag then (bif leI (b + 1) (q.1 : Int) then some q.2.2 else match hullS tag t 0 (b - q.1) with
      | some w => some (minI q.2.2.1 w.1, maxI q.2.2.2 w.2)
      | none => none) else none
noncomputable def few (E : EV) (f : LF) : Bool := Nat.ble (enN E f.2) 64 && !(Nat.beq (enN E f.2) 0)
noncomputable def ivAt (c : Nat) (g : GC) (ov : OV) (E : EV) (tag : Nat) (f : LF) (u : Int × Int) : Option (Int × Int) := bif few E f then hull (fun j => itv c g ov E tag j) g.1.2.2 ((enT E f.2).map (fun w => f.1 + w)) else hullS tag g.2 u.1 u.2
noncomputable def akind (g : GC) (x : Nat) : Bool := match g.1 with
  | (1, 0, _) => Nat.beq x 0
  | (1, 1, _) => Nat.beq x 1
  | (1, 2, _) => Nat.beq x 1
  | (2, _, _) => Nat.beq x 2
  | (3, _, _) => Nat.beq x 3
  | _ => false
noncomputable def spl (c : Nat) (g : GC) (f : LF) (pc : Nat) (E : EV) (als : AL) (ast : List AV) (ov : OV) : List Int → Option (List ST)
  | [] => some []
  | j :: t => match spl c g f pc E als ast ov t with
    | some r => match brT E 0 (lfSub f (lfC j)) with
      | some E' => match segAt g.2 j.toNat with
        | some sp => bif Nat.beq sp.1 2 then some ((pc, E', als, rA sp.2.1 :: ast, ov) :: r) else none
        | none => none
      | none => some r
    | none => none
noncomputable def aload (x : Nat) (pc : Nat) (E : EV) (als : AL) (ast : List AV) (ov : OV) (G : List GC) : Option (List ST) := match ast with
  | i :: r :: t => bif Nat.beq i.1 0 && Nat.beq r.1 2 then (match G[r.2.1.1.toNat]?, iv E i.2.1 with
    | some g, some u => bif akind g x && (leI 0 u.1 && leI (u.2 + 1) (g.1.2.2 : Int)) && inI u then
        (bif eqI u.1 u.2 then loadAt r.2.1.1.toNat u.1.toNat g pc E als t ov
        else bif Nat.beq x 3 then spl r.2.1.1.toNat g i.2.1 pc E als t ov (rng (u.2 - u.1 + 1).toNat u.1)
        else bif Nat.beq x 2 then (match ivAt r.2.1.1.toNat g ov E 1 i.2.1 u with | some w => pushL (.inr w) pc E als t ov | none => none)
        else (match ivAt r.2.1.1.toNat g ov E 0 i.2.1 u with | some w => bif eqI w.1 w.2 then pushR (.inl (lfC w.1)) pc E als t ov else pushR (.inr w) pc E als t ov | none => none))
      else none
    | _, _ => none) else none
  | _ => none
/-- what is put into a row: bytes are cut -/
noncomputable def cutB (E : EV) (g : GC) (v : AV) : Option (Int × Int × Bool) := match iv E v.2.1 with
  | some u => bif Nat.beq g.1.1 1 && Nat.beq g.1.2.1 1 then (bif leI (-128) u.1 && leI u.2 127 then some (u.1, u.2, true) else some (-128, 127, false))
    else bif Nat.beq g.1.1 1 && Nat.beq g.1.2.1 2 then (bif leI 0 u.1 && leI u.2 1 then some (u.1, u.2, true) else none)
    else some (u.1, u.2, true)
  | none => none
noncomputable def allIn (segs : List SG) (tag : Nat) (lo hi : Int) : List Int → Bool
  | [] => true
  | j :: t => (match segAt segs j.toNat with | some sp => Nat.beq sp.1 tag && (leI sp.2.1 lo && leI hi sp.2.2) | none => false) && allIn segs tag lo hi t
noncomputable def astore (x : Nat) (pc : Nat) (E : EV) (als : AL) (ast : List AV) (ov : OV) (G : List GC) (mods : List Nat) : Option (List ST) := match ast with
  | v :: i :: r :: t => bif Nat.beq i.1 0 && Nat.beq r.1 2 then (match G[r.2.1.1.toNat]?, iv E i.2.1 with
    | some g, some u => bif akind g x && (leI 0 u.1 && leI (u.2 + 1) (g.1.2.2 : Int)) && inI u && memN r.2.1.1.toNat mods && Nat.beq v.1 (bif Nat.beq x 2 then 1 else 0) && !(Nat.beq x 3) && !(Nat.beq r.2.1.1.toNat mnC) then
        (match cutB E g v with
        | some w => bif eqI u.1 u.2 then (match segAt g.2 u.1.toNat with
            | some sp => bif Nat.beq sp.1 v.1 && (leI sp.2.1 w.1 && leI w.2.1 sp.2.2) then
                (bif w.2.2 then some [(pc, E, als, t, ((r.2.1.1.toNat, u.1.toNat), v) :: ovDel r.2.1.1.toNat u.1.toNat ov)] else some [(pc, E, als, t, ovDel r.2.1.1.toNat u.1.toNat ov)]) else none
            | none => none)
          else bif allIn g.2 v.1 w.1 w.2.1 (plc E i.2.1 u) then some [(pc, E, als, t, ovDelR r.2.1.1.toNat u.1 u.2 ov)] else none
        | none => none)
      else none
    | _, _ => none) else none
  | _ => none
/-- a switch's ways -/
noncomputable def swA (d0 : Nat) (f : LF) (E : EV) (als : AL) (ast : List AV) (ov : OV) : Int → List Nat → List ST
  | n, [] => br1 (brT E 3 (lfSub f (lfC n))) d0 als ast ov
  | n, t :: r => br1 (brT E 0 (lfSub f (lfC n))) t als ast ov ++ swA d0 f E als ast ov (n + 1) r
noncomputable def isBol (k : Nat) : Bool := decide (mRet k = some .boolean)
noncomputable def stp (G : List GC) (mods : List Nat) (k pc : Nat) (xi : XI) (E : EV) (als : AL) (ast : List AV) (ov : OV) : Option (OUT ⊕ List ST) := match xi with
  | (op, a, x, y, z) =>
    bif Nat.beq op 5 then (match lkA x als with | some v => bif Nat.beq v.1 2 || Nat.beq v.1 3 then some (.inr [(pc + ln3 y, E, als, v :: ast, ov)]) else none | none => none)
    else bif Nat.beq op 3 then (match lkA x als with | some v => bif Nat.beq v.1 0 then some (.inr [(pc + ln3 y, E, als, v :: ast, ov)]) else none | none => none)
    else bif Nat.beq op 17 then (match ast with
      | r :: t => bif Nat.beq r.1 2 then (match G[r.2.1.1.toNat]? with
        | some g => bif Nat.beq g.1.1 0 && Nat.beq g.1.2.1 y && Nat.blt z g.1.2.2 then (loadAt r.2.1.1.toNat z g (pc + 3) E als t ov).map .inr else none
        | none => none) else none
      | _ => none)
    else bif Nat.beq op 1 then some (.inr [(pc + ln1 x, E, als, iA (lfC a) :: ast, ov)])
    else bif Nat.beq op 10 then (match ast with
      | v :: u :: t => bif Nat.beq u.1 0 && Nat.beq v.1 0 then (match ibA x E u.2.1 v.2.1 with | some r => (pushR r (pc + 1) E als t ov).map .inr | none => none) else none
      | _ => none)
    else bif Nat.beq op 14 then (match ast with
      | v :: t => (match cmpQ E v with | some f => some (.inr (br2 x f y (pc + 3) E als t ov)) | none => none)
      | _ => none)
    else bif Nat.beq op 15 then (match ast with
      | v :: u :: t => (match cmpI E u v with | some f => some (.inr (br2 x f y (pc + 3) E als t ov)) | none => none)
      | _ => none)
    else bif Nat.beq op 19 then (aload x (pc + 1) E als ast ov G).map .inr
    else bif Nat.beq op 16 then some (.inr [(y, E, als, ast, ov)])
    else bif Nat.beq op 6 then (match ast with
      | v :: t => bif Nat.beq v.1 0 then some (.inr [(pc + ln3 y, E, stA x v als, t, ov)]) else none
      | _ => none)
    else bif Nat.beq op 27 then (bif Nat.beq x 2 then (match ast with | [] => some (.inl (E, none, ov)) | _ => none)
      else match ast with
      | [v] => bif Nat.beq x 0 then (match iv E v.2.1 with | some u => bif Nat.beq v.1 0 && (!(isBol k) || (leI 0 u.1 && leI u.2 1)) then some (.inl (E, some v, ov)) else none | none => none)
          else bif Nat.beq x 1 then (bif Nat.beq v.1 1 then some (.inl (E, some v, ov)) else none)
          else (bif Nat.beq v.1 2 || Nat.beq v.1 3 then some (.inl (E, some v, ov)) else none)
      | _ => none)
    else bif Nat.beq op 9 then (match lkA x als with
      | some v => bif Nat.beq v.1 0 then (match mkI E (lfAdd v.2.1 (lfC a)) with
        | .inl f => some (.inr [(pc + 3, E, stA x (iA f) als, ast, ov)])
        | .inr u => bif wfS E.length als ast ov then some (.inr [(pc + 3, E ++ [u], stA x (iA (lfS E.length)) als, ast, ov)]) else none) else none
      | none => none)
    else bif Nat.beq op 20 then (astore x (pc + 1) E als ast ov G mods).map .inr
    else bif Nat.beq op 18 then (match ast with
      | v :: r :: t => bif Nat.beq r.1 2 then (match G[r.2.1.1.toNat]? with
        | some g => bif Nat.beq g.1.1 0 && Nat.beq g.1.2.1 y && Nat.blt z g.1.2.2 && memN r.2.1.1.toNat mods && nfin y z && !(Nat.beq r.2.1.1.toNat mnC && spX mods z) then (match segAt g.2 z with
            | some sp => bif stOK E v sp && tyOK (clTy y z) sp then some (.inr [(pc + 3, E, als, t, ((r.2.1.1.toNat, z), v) :: ovDel r.2.1.1.toNat z ov)]) else none
            | none => none) else none
        | none => none) else none
      | _ => none)
    else bif Nat.beq op 21 then (match ast with
      | r :: t => bif Nat.beq r.1 2 then (match G[r.2.1.1.toNat]? with
        | some g => bif Nat.blt 0 g.1.1 then some (.inr [(pc + 1, E, als, iA (lfC (g.1.2.2 : Int)) :: t, ov)]) else none
        | none => none) else none
      | _ => none)
    else bif Nat.beq op 12 then (match ast with
      | v :: t => bif Nat.beq x 1 then (bif Nat.beq v.1 0 then (match iv E v.2.1 with | some u => bif inI u then some (.inr [(pc + 1, E, als, lA v.2.1 :: t, ov)]) else none | none => none) else none)
        else bif Nat.beq v.1 (bif Nat.beq x 2 then 1 else 0) then (match unA x E v.2.1 with | some r => (pushR r (pc + 1) E als t ov).map .inr | none => none) else none
      | _ => none)
    else bif Nat.beq op 4 then (match lkA x als with | some v => bif Nat.beq v.1 1 then some (.inr [(pc + ln3 y, E, als, v :: ast, ov)]) else none | none => none)
    else bif Nat.beq op 7 then (match ast with
      | v :: t => bif Nat.beq v.1 1 then some (.inr [(pc + ln3 y, E, stA2 x v als, t, ov)]) else none
      | _ => none)
    else bif Nat.beq op 8 then (match ast with
      | v :: t => bif Nat.beq v.1 2 || Nat.beq v.1 3 then some (.inr [(pc + ln3 y, E, stA x v als, t, ov)]) else none
      | _ => none)
    else bif Nat.beq op 2 then some (.inr [(pc + ln2 x, E, als, lA (lfC a) :: ast, ov)])
    else bif Nat.beq op 11 then (match ast with
      | v :: u :: t => bif Nat.beq u.1 1 && Nat.beq v.1 1 then (match lbA x E u.2.1 v.2.1 with | some r => (pushL r (pc + 1) E als t ov).map .inr | none => none) else none
      | _ => none)
    else bif Nat.beq op 13 then (match ast with
      | v :: u :: t => bif Nat.beq u.1 1 && Nat.beq v.1 1 then some (.inr [(pc + 1, E, als, (4, u.2.1, v.2.1) :: t, ov)]) else none
      | _ => none)
    else bif Nat.beq op 22 then (match ast with
      | v :: t => bif Nat.beq v.1 1 then none else bif Nat.beq x 0 then some (.inr [(pc + 1, E, als, v :: v :: t, ov)])
        else bif Nat.beq x 2 then some (.inr [(pc + 1, E, als, t, ov)])
        else bif Nat.beq x 1 then (match t with | w :: t2 => bif Nat.beq w.1 1 then none else some (.inr [(pc + 1, E, als, v :: w :: v :: w :: t2, ov)]) | _ => none) else none
      | _ => none)
    else bif Nat.beq op 25 then (match ast with
      | v :: u :: t => bif Nat.beq v.1 0 && Nat.beq u.1 1 then (pushL (.inr fullL) (pc + 1) E als t ov).map .inr else none
      | _ => none)
    else bif Nat.beq op 28 || Nat.beq op 36 then (match ast with
      | v :: t => (match cmpQ E v with
        | some f => bif Nat.beq v.1 0 then (match mSw k pc with | (d0, lo, ts) => some (.inr (br1 (brT E 2 (lfSub f (lfC lo))) d0 als t ov ++ swA d0 f E als t ov lo ts))) else none
        | none => none)
      | _ => none)
    else bif Nat.beq op 30 then (match ast with
      | v :: t => bif Nat.beq x 1 then (bif Nat.beq v.1 2 then some (.inr [(y, E, als, t, ov)]) else bif Nat.beq v.1 3 then some (.inr [(pc + 3, E, als, t, ov)]) else none) else none
      | _ => none)
    else bif Nat.beq op 31 then some (.inr [(pc + 1, E, als, nA :: ast, ov)])
    else none
noncomputable def stp_b5 (pc : Nat) (x : Nat) (y : Nat) (E : EV) (als : AL) (ast : List AV) (ov : OV) : Option (OUT ⊕ List ST) := (match lkA x als with | some v => bif Nat.beq v.1 2 || Nat.beq v.1 3 then some (.inr [(pc + ln3 y, E, als, v :: ast, ov)]) else none | none => none)
noncomputable def stp_b3 (pc : Nat) (x : Nat) (y : Nat) (E : EV) (als : AL) (ast : List AV) (ov : OV) : Option (OUT ⊕ List ST) := (match lkA x als with | some v => bif Nat.beq v.1 0 then some (.inr [(pc + ln3 y, E, als, v :: ast, ov)]) else none | none => none)
noncomputable def stp_b17 (G : List GC) (pc : Nat) (y : Nat) (z : Nat) (E : EV) (als : AL) (ast : List AV) (ov : OV) : Option (OUT ⊕ List ST) := (match ast with
      | r :: t => bif Nat.beq r.1 2 then (match G[r.2.1.1.toNat]? with
        | some g => bif Nat.beq g.1.1 0 && Nat.beq g.1.2.1 y && Nat.blt z g.1.2.2 then (loadAt r.2.1.1.toNat z g (pc + 3) E als t ov).map .inr else none
        | none => none) else none
      | _ => none)
noncomputable def stp_b1 (pc : Nat) (a : Int) (x : Nat) (E : EV) (als : AL) (ast : List AV) (ov : OV) : Option (OUT ⊕ List ST) := some (.inr [(pc + ln1 x, E, als, iA (lfC a) :: ast, ov)])
noncomputable def stp_b10 (pc : Nat) (x : Nat) (E : EV) (als : AL) (ast : List AV) (ov : OV) : Option (OUT ⊕ List ST) := (match ast with
      | v :: u :: t => bif Nat.beq u.1 0 && Nat.beq v.1 0 then (match ibA x E u.2.1 v.2.1 with | some r => (pushR r (pc + 1) E als t ov).map .inr | none => none) else none
      | _ => none)
noncomputable def stp_b14 (pc : Nat) (x : Nat) (y : Nat) (E : EV) (als : AL) (ast : List AV) (ov : OV) : Option (OUT ⊕ List ST) := (match ast with
      | v :: t => (match cmpQ E v with | some f => some (.inr (br2 x f y (pc + 3) E als t ov)) | none => none)
      | _ => none)
noncomputable def stp_b15 (pc : Nat) (x : Nat) (y : Nat) (E : EV) (als : AL) (ast : List AV) (ov : OV) : Option (OUT ⊕ List ST) := (match ast with
      | v :: u :: t => (match cmpI E u v with | some f => some (.inr (br2 x f y (pc + 3) E als t ov)) | none => none)
      | _ => none)
noncomputable def stp_b19 (G : List GC) (pc : Nat) (x : Nat) (E : EV) (als : AL) (ast : List AV) (ov : OV) : Option (OUT ⊕ List ST) := (aload x (pc + 1) E als ast ov G).map .inr
noncomputable def stp_b16 (y : Nat) (E : EV) (als : AL) (ast : List AV) (ov : OV) : Option (OUT ⊕ List ST) := some (.inr [(y, E, als, ast, ov)])
noncomputable def stp_b6 (pc : Nat) (x : Nat) (y : Nat) (E : EV) (als : AL) (ast : List AV) (ov : OV) : Option (OUT ⊕ List ST) := (match ast with
      | v :: t => bif Nat.beq v.1 0 then some (.inr [(pc + ln3 y, E, stA x v als, t, ov)]) else none
      | _ => none)
noncomputable def stp_b27 (k : Nat) (x : Nat) (E : EV) (ast : List AV) (ov : OV) : Option (OUT ⊕ List ST) := (bif Nat.beq x 2 then (match ast with | [] => some (.inl (E, none, ov)) | _ => none)
      else match ast with
      | [v] => bif Nat.beq x 0 then (match iv E v.2.1 with | some u => bif Nat.beq v.1 0 && (!(isBol k) || (leI 0 u.1 && leI u.2 1)) then some (.inl (E, some v, ov)) else none | none => none)
          else bif Nat.beq x 1 then (bif Nat.beq v.1 1 then some (.inl (E, some v, ov)) else none)
          else (bif Nat.beq v.1 2 || Nat.beq v.1 3 then some (.inl (E, some v, ov)) else none)
      | _ => none)
noncomputable def stp_b9 (pc : Nat) (a : Int) (x : Nat) (E : EV) (als : AL) (ast : List AV) (ov : OV) : Option (OUT ⊕ List ST) := (match lkA x als with
      | some v => bif Nat.beq v.1 0 then (match mkI E (lfAdd v.2.1 (lfC a)) with
        | .inl f => some (.inr [(pc + 3, E, stA x (iA f) als, ast, ov)])
        | .inr u => bif wfS E.length als ast ov then some (.inr [(pc + 3, E ++ [u], stA x (iA (lfS E.length)) als, ast, ov)]) else none) else none
      | none => none)
noncomputable def stp_b20 (G : List GC) (mods : List Nat) (pc : Nat) (x : Nat) (E : EV) (als : AL) (ast : List AV) (ov : OV) : Option (OUT ⊕ List ST) := (astore x (pc + 1) E als ast ov G mods).map .inr
noncomputable def stp_b18 (G : List GC) (mods : List Nat) (pc : Nat) (y : Nat) (z : Nat) (E : EV) (als : AL) (ast : List AV) (ov : OV) : Option (OUT ⊕ List ST) := (match ast with
      | v :: r :: t => bif Nat.beq r.1 2 then (match G[r.2.1.1.toNat]? with
        | some g => bif Nat.beq g.1.1 0 && Nat.beq g.1.2.1 y && Nat.blt z g.1.2.2 && memN r.2.1.1.toNat mods && nfin y z && !(Nat.beq r.2.1.1.toNat mnC && spX mods z) then (match segAt g.2 z with
            | some sp => bif stOK E v sp && tyOK (clTy y z) sp then some (.inr [(pc + 3, E, als, t, ((r.2.1.1.toNat, z), v) :: ovDel r.2.1.1.toNat z ov)]) else none
            | none => none) else none
        | none => none) else none
      | _ => none)
noncomputable def stp_b21 (G : List GC) (pc : Nat) (E : EV) (als : AL) (ast : List AV) (ov : OV) : Option (OUT ⊕ List ST) := (match ast with
      | r :: t => bif Nat.beq r.1 2 then (match G[r.2.1.1.toNat]? with
        | some g => bif Nat.blt 0 g.1.1 then some (.inr [(pc + 1, E, als, iA (lfC (g.1.2.2 : Int)) :: t, ov)]) else none
        | none => none) else none
      | _ => none)
noncomputable def stp_b12 (pc : Nat) (x : Nat) (E : EV) (als : AL) (ast : List AV) (ov : OV) : Option (OUT ⊕ List ST) := (match ast with
      | v :: t => bif Nat.beq x 1 then (bif Nat.beq v.1 0 then (match iv E v.2.1 with | some u => bif inI u then some (.inr [(pc + 1, E, als, lA v.2.1 :: t, ov)]) else none | none => none) else none)
        else bif Nat.beq v.1 (bif Nat.beq x 2 then 1 else 0) then (match unA x E v.2.1 with | some r => (pushR r (pc + 1) E als t ov).map .inr | none => none) else none
      | _ => none)
noncomputable def stp_b4 (pc : Nat) (x : Nat) (y : Nat) (E : EV) (als : AL) (ast : List AV) (ov : OV) : Option (OUT ⊕ List ST) := (match lkA x als with | some v => bif Nat.beq v.1 1 then some (.inr [(pc + ln3 y, E, als, v :: ast, ov)]) else none | none => none)
noncomputable def stp_b7 (pc : Nat) (x : Nat) (y : Nat) (E : EV) (als : AL) (ast : List AV) (ov : OV) : Option (OUT ⊕ List ST) := (match ast with
      | v :: t => bif Nat.beq v.1 1 then some (.inr [(pc + ln3 y, E, stA2 x v als, t, ov)]) else none
      | _ => none)
noncomputable def stp_b8 (pc : Nat) (x : Nat) (y : Nat) (E : EV) (als : AL) (ast : List AV) (ov : OV) : Option (OUT ⊕ List ST) := (match ast with
      | v :: t => bif Nat.beq v.1 2 || Nat.beq v.1 3 then some (.inr [(pc + ln3 y, E, stA x v als, t, ov)]) else none
      | _ => none)
noncomputable def stp_b2 (pc : Nat) (a : Int) (x : Nat) (E : EV) (als : AL) (ast : List AV) (ov : OV) : Option (OUT ⊕ List ST) := some (.inr [(pc + ln2 x, E, als, lA (lfC a) :: ast, ov)])
noncomputable def stp_b11 (pc : Nat) (x : Nat) (E : EV) (als : AL) (ast : List AV) (ov : OV) : Option (OUT ⊕ List ST) := (match ast with
      | v :: u :: t => bif Nat.beq u.1 1 && Nat.beq v.1 1 then (match lbA x E u.2.1 v.2.1 with | some r => (pushL r (pc + 1) E als t ov).map .inr | none => none) else none
      | _ => none)
noncomputable def stp_b13 (pc : Nat) (E : EV) (als : AL) (ast : List AV) (ov : OV) : Option (OUT ⊕ List ST) := (match ast with
      | v :: u :: t => bif Nat.beq u.1 1 && Nat.beq v.1 1 then some (.inr [(pc + 1, E, als, (4, u.2.1, v.2.1) :: t, ov)]) else none
      | _ => none)
noncomputable def stp_b22 (pc : Nat) (x : Nat) (E : EV) (als : AL) (ast : List AV) (ov : OV) : Option (OUT ⊕ List ST) := (match ast with
      | v :: t => bif Nat.beq v.1 1 then none else bif Nat.beq x 0 then some (.inr [(pc + 1, E, als, v :: v :: t, ov)])
        else bif Nat.beq x 2 then some (.inr [(pc + 1, E, als, t, ov)])
        else bif Nat.beq x 1 then (match t with | w :: t2 => bif Nat.beq w.1 1 then none else some (.inr [(pc + 1, E, als, v :: w :: v :: w :: t2, ov)]) | _ => none) else none
      | _ => none)
noncomputable def stp_b25 (pc : Nat) (E : EV) (als : AL) (ast : List AV) (ov : OV) : Option (OUT ⊕ List ST) := (match ast with
      | v :: u :: t => bif Nat.beq v.1 0 && Nat.beq u.1 1 then (pushL (.inr fullL) (pc + 1) E als t ov).map .inr else none
      | _ => none)
noncomputable def stp_b28 (k : Nat) (pc : Nat) (E : EV) (als : AL) (ast : List AV) (ov : OV) : Option (OUT ⊕ List ST) := (match ast with
      | v :: t => (match cmpQ E v with
        | some f => bif Nat.beq v.1 0 then (match mSw k pc with | (d0, lo, ts) => some (.inr (br1 (brT E 2 (lfSub f (lfC lo))) d0 als t ov ++ swA d0 f E als t ov lo ts))) else none
        | none => none)
      | _ => none)
noncomputable def stp_b30 (pc : Nat) (x : Nat) (y : Nat) (E : EV) (als : AL) (ast : List AV) (ov : OV) : Option (OUT ⊕ List ST) := (match ast with
      | v :: t => bif Nat.beq x 1 then (bif Nat.beq v.1 2 then some (.inr [(y, E, als, t, ov)]) else bif Nat.beq v.1 3 then some (.inr [(pc + 3, E, als, t, ov)]) else none) else none
      | _ => none)
noncomputable def stp_b31 (pc : Nat) (E : EV) (als : AL) (ast : List AV) (ov : OV) : Option (OUT ⊕ List ST) := some (.inr [(pc + 1, E, als, nA :: ast, ov)])
noncomputable def stp_r2 (op : Nat) (G : List GC) (mods : List Nat) (k : Nat) (pc : Nat) (a : Int) (x : Nat) (y : Nat) (z : Nat) (E : EV) (als : AL) (ast : List AV) (ov : OV) : Option (OUT ⊕ List ST) := bif Nat.beq op 2 then stp_b2 pc a x E als ast ov
    else bif Nat.beq op 11 then stp_b11 pc x E als ast ov
    else bif Nat.beq op 13 then stp_b13 pc E als ast ov
    else bif Nat.beq op 22 then stp_b22 pc x E als ast ov
    else bif Nat.beq op 25 then stp_b25 pc E als ast ov
    else bif Nat.beq op 28 || Nat.beq op 36 then stp_b28 k pc E als ast ov
    else bif Nat.beq op 30 then stp_b30 pc x y E als ast ov
    else bif Nat.beq op 31 then stp_b31 pc E als ast ov
    else none
noncomputable def stp_r1 (op : Nat) (G : List GC) (mods : List Nat) (k : Nat) (pc : Nat) (a : Int) (x : Nat) (y : Nat) (z : Nat) (E : EV) (als : AL) (ast : List AV) (ov : OV) : Option (OUT ⊕ List ST) := bif Nat.beq op 27 then stp_b27 k x E ast ov
    else bif Nat.beq op 9 then stp_b9 pc a x E als ast ov
    else bif Nat.beq op 20 then stp_b20 G mods pc x E als ast ov
    else bif Nat.beq op 18 then stp_b18 G mods pc y z E als ast ov
    else bif Nat.beq op 21 then stp_b21 G pc E als ast ov
    else bif Nat.beq op 12 then stp_b12 pc x E als ast ov
    else bif Nat.beq op 4 then stp_b4 pc x y E als ast ov
    else bif Nat.beq op 7 then stp_b7 pc x y E als ast ov
    else bif Nat.beq op 8 then stp_b8 pc x y E als ast ov
    else stp_r2 op G mods k pc a x y z E als ast ov
noncomputable def stpF (op : Nat) (G : List GC) (mods : List Nat) (k : Nat) (pc : Nat) (a : Int) (x : Nat) (y : Nat) (z : Nat) (E : EV) (als : AL) (ast : List AV) (ov : OV) : Option (OUT ⊕ List ST) := bif Nat.beq op 5 then stp_b5 pc x y E als ast ov
    else bif Nat.beq op 3 then stp_b3 pc x y E als ast ov
    else bif Nat.beq op 17 then stp_b17 G pc y z E als ast ov
    else bif Nat.beq op 1 then stp_b1 pc a x E als ast ov
    else bif Nat.beq op 10 then stp_b10 pc x E als ast ov
    else bif Nat.beq op 14 then stp_b14 pc x y E als ast ov
    else bif Nat.beq op 15 then stp_b15 pc x y E als ast ov
    else bif Nat.beq op 19 then stp_b19 G pc x E als ast ov
    else bif Nat.beq op 16 then stp_b16 y E als ast ov
    else bif Nat.beq op 6 then stp_b6 pc x y E als ast ov
    else stp_r1 op G mods k pc a x y z E als ast ov
set_option maxRecDepth 10000 in
theorem stpF_eq (op : Nat) (G : List GC) (mods : List Nat) (k : Nat) (pc : Nat) (a : Int) (x : Nat) (y : Nat) (z : Nat) (E : EV) (als : AL) (ast : List AV) (ov : OV) : stpF op G mods k pc a x y z E als ast ov = stp G mods k pc (op, a, x, y, z) E als ast ov := rfl
