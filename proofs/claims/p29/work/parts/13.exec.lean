section
noncomputable abbrev AL : Type := List (Nat × AV)
noncomputable abbrev ST : Type := Nat × EV × AL × List AV × OV
noncomputable abbrev OUT : Type := EV × Option AV × OV
noncomputable abbrev CUT : Type := EV × AL × List AV × OV × LF
noncomputable def lf0 : LF := (0, [])
noncomputable def iA (f : LF) : AV := (0, f, lf0)
noncomputable def lA (f : LF) : AV := (1, f, lf0)
noncomputable def rA (c : Int) : AV := (2, (c, []), lf0)
noncomputable def nA : AV := (3, lf0, lf0)
noncomputable def kwfa (n : Nat) (l : AL) : Bool := List.rec (motive := fun _ => Bool) true (fun q _ ih => bif wfT n q.2.2.1.2 then (bif wfT n q.2.2.2.2 then ih else false) else false) l
theorem kwfa_eq (n : Nat) : ∀ l : AL, kwfa n l = l.all (fun q => wfA n q.2)
  | [] => rfl
  | q :: t => by
    show (bif wfT n q.2.2.1.2 then (bif wfT n q.2.2.2.2 then kwfa n t else false) else false) = ((wfT n q.2.2.1.2 && wfT n q.2.2.2.2) && t.all (fun q => wfA n q.2))
    rw [kwfa_eq n t]
    cases wfT n q.2.2.1.2 <;> cases wfT n q.2.2.2.2 <;> rfl
noncomputable def kwfs (n : Nat) (l : List AV) : Bool := List.rec (motive := fun _ => Bool) true (fun q _ ih => bif wfT n q.2.1.2 then (bif wfT n q.2.2.2 then ih else false) else false) l
theorem kwfs_eq (n : Nat) : ∀ l : List AV, kwfs n l = l.all (fun q => wfA n q)
  | [] => rfl
  | q :: t => by
    show (bif wfT n q.2.1.2 then (bif wfT n q.2.2.2 then kwfs n t else false) else false) = ((wfT n q.2.1.2 && wfT n q.2.2.2) && t.all (fun q => wfA n q))
    rw [kwfs_eq n t]
    cases wfT n q.2.1.2 <;> cases wfT n q.2.2.2 <;> rfl
noncomputable def kwfo (n : Nat) (l : OV) : Bool := List.rec (motive := fun _ => Bool) true (fun q _ ih => bif wfT n q.2.2.1.2 then (bif wfT n q.2.2.2.2 then ih else false) else false) l
theorem kwfo_eq (n : Nat) : ∀ l : OV, kwfo n l = l.all (fun q => wfA n q.2)
  | [] => rfl
  | q :: t => by
    show (bif wfT n q.2.2.1.2 then (bif wfT n q.2.2.2.2 then kwfo n t else false) else false) = ((wfT n q.2.2.1.2 && wfT n q.2.2.2.2) && t.all (fun q => wfA n q.2))
    rw [kwfo_eq n t]
    cases wfT n q.2.2.1.2 <;> cases wfT n q.2.2.2.2 <;> rfl
noncomputable def wfS (n : Nat) (als : AL) (ast : List AV) (ov : OV) : Bool := bif kwfa n als then (bif kwfs n ast then kwfo n ov else false) else false
theorem wfS_def (n : Nat) (als : AL) (ast : List AV) (ov : OV) : wfS n als ast ov = (als.all (fun q => wfA n q.2) && (ast.all (fun v => wfA n v) && ov.all (fun q => wfA n q.2))) := by
  unfold wfS
  rw [kwfa_eq, kwfs_eq, kwfo_eq]
  cases als.all (fun q => wfA n q.2) <;> cases ast.all (fun v => wfA n v) <;> rfl
noncomputable def kapE (E : EV) (u : Int × Int) : EV := List.rec (motive := fun _ => EV) [u] (fun a _ ih => a :: ih) E
theorem kapE_eq (u : Int × Int) : ∀ E : EV, kapE E u = E ++ [u]
  | [] => rfl
  | a :: t => by
    show a :: kapE t u = a :: (t ++ [u])
    rw [kapE_eq u t]
noncomputable def klen (E : EV) : Nat := List.rec (motive := fun _ => Nat) 0 (fun _ _ ih => Nat.add ih 1) E
theorem klen_eq : ∀ E : EV, klen E = E.length
  | [] => rfl
  | a :: t => by
    show Nat.add (klen t) 1 = Nat.add t.length 1
    rw [klen_eq t]
noncomputable def kpushR0 (r : RV) (pc : Nat) (E : EV) (als : AL) (ast : List AV) (ov : OV) : Option (List ST) := match r with
  | .inl f => some [(pc, E, als, iA f :: ast, ov)]
  | .inr u => bif wfS E.length als ast ov then some [(pc, E ++ [u], als, iA (lfS E.length) :: ast, ov)] else none
noncomputable def pushR (r : RV) (pc : Nat) (E : EV) (als : AL) (ast : List AV) (ov : OV) : Option (List ST) := match r with
  | .inl f => some [(pc, E, als, iA f :: ast, ov)]
  | .inr u => bif wfS (klen E) als ast ov then some [(pc, kapE E u, als, iA (lfS (klen E)) :: ast, ov)] else none
theorem pushR_def (r : RV) (pc : Nat) (E : EV) (als : AL) (ast : List AV) (ov : OV) : pushR r pc E als ast ov = kpushR0 r pc E als ast ov := by
  unfold pushR kpushR0
  cases r with
  | inl f => rfl
  | inr u =>
    dsimp only
    rw [klen_eq, kapE_eq]
noncomputable def kpushL0 (r : RV) (pc : Nat) (E : EV) (als : AL) (ast : List AV) (ov : OV) : Option (List ST) := match r with
  | .inl f => some [(pc, E, als, lA f :: ast, ov)]
  | .inr u => bif wfS E.length als ast ov then some [(pc, E ++ [u], als, lA (lfS E.length) :: ast, ov)] else none
noncomputable def pushL (r : RV) (pc : Nat) (E : EV) (als : AL) (ast : List AV) (ov : OV) : Option (List ST) := match r with
  | .inl f => some [(pc, E, als, lA f :: ast, ov)]
  | .inr u => bif wfS (klen E) als ast ov then some [(pc, kapE E u, als, lA (lfS (klen E)) :: ast, ov)] else none
theorem pushL_def (r : RV) (pc : Nat) (E : EV) (als : AL) (ast : List AV) (ov : OV) : pushL r pc E als ast ov = kpushL0 r pc E als ast ov := by
  unfold pushL kpushL0
  cases r with
  | inl f => rfl
  | inr u =>
    dsimp only
    rw [klen_eq, kapE_eq]
/-- longs -/
noncomputable def ivL2 (E : EV) (f g : LF) : Option I4 := match iv E f, iv E g with
  | some u, some w => bif inL u && inL w then some (u, w) else none
  | _, _ => none
noncomputable def cstL (x : Nat) (q : I4) : RV := .inl (lfC (lbF x (Int64.ofInt q.1.1) (Int64.ofInt q.2.1)).toInt)
noncomputable def rlDiv (q : I4) : Option RV := bif leI 1 q.2.1 then some (bif isC q then cstL 3 q else bif leI 0 q.1.1 then .inr (0, bif eqI q.2.1 q.2.2 then q.1.2 / q.2.1 else q.1.2) else .inr fullL) else bif leI q.2.2 (-1) then some (.inr fullL) else none
noncomputable def rlRem (q : I4) : Option RV := bif leI 1 q.2.1 then some (bif isC q then cstL 4 q else bif leI 0 q.1.1 then .inr (0, minI q.1.2 (q.2.2 - 1)) else .inr (1 - q.2.2, q.2.2 - 1)) else bif leI q.2.2 (-1) then some (.inr fullL) else none
noncomputable def lbA (x : Nat) (E : EV) (f g : LF) : Option RV := match x with
  | 0 => some (mkL E (lfAdd f g))
  | 1 => some (mkL E (lfSub f g))
  | 2 => match g.2 with
    | [] => match f.2 with
      | [] => some (cstL 2 ((f.1, f.1), (g.1, g.1)))
      | _ => some (mkL E (lfSc g.1 f))
    | _ => match f.2 with
      | [] => some (mkL E (lfSc f.1 g))
      | _ => some (.inr fullL)
  | 3 => (ivL2 E f g).bind rlDiv
  | 4 => (ivL2 E f g).bind rlRem
  | _ => some (.inr fullL)
noncomputable def unA (x : Nat) (E : EV) (f : LF) : Option RV := match x with
  | 0 => some (mkI E (lfSc (-1) f))
  | 2 => match iv E f with
    | some u => bif inI u then some (.inl f) else some (.inr fullI)
    | none => some (.inr fullI)
  | 3 => match iv E f with
    | some u => bif leI (-128) u.1 && leI u.2 127 then some (.inl f) else some (.inr (-128, 127))
    | none => some (.inr (-128, 127))
  | 4 => match iv E f with
    | some u => bif leI (-32768) u.1 && leI u.2 32767 then some (.inl f) else some (.inr (-32768, 32767))
    | none => some (.inr (-32768, 32767))
  | _ => none
/-- what is compared: two forms, in range -/
noncomputable def cmpQ (E : EV) (v : AV) : Option LF := match v.1 with
  | 0 => match iv E v.2.1 with
    | some u => bif inI u then some v.2.1 else none
    | none => none
  | 4 => match iv E v.2.1, iv E v.2.2 with
    | some u, some w => bif inL u && inL w then some (lfSub v.2.1 v.2.2) else none
    | _, _ => none
  | _ => none
noncomputable def cmpI (E : EV) (v w : AV) : Option LF := match v.1, w.1 with
  | 0, 0 => match iv E v.2.1, iv E w.2.1 with
    | some u, some t => bif inI u && inI t then some (lfSub v.2.1 w.2.1) else none
    | _, _ => none
  | _, _ => none
noncomputable def br1 (o : Option EV) (pc : Nat) (als : AL) (ast : List AV) (ov : OV) : List ST := match o with
  | some E => [(pc, E, als, ast, ov)]
  | none => []
noncomputable def br2 (x : Nat) (d : LF) (pt pf : Nat) (E : EV) (als : AL) (ast : List AV) (ov : OV) : List ST := br1 (brT E x d) pt als ast ov ++ br1 (brT E (negC x) d) pf als ast ov
/-- what lies at a place -/
noncomputable def kload0 (c j : Nat) (g : GC) (pc : Nat) (E : EV) (als : AL) (ast : List AV) (ov : OV) : Option (List ST) := match ovAt c j ov with
  | some v => some [(pc, E, als, v :: ast, ov)]
  | none => match segAt g.2 j with
    | some sp => bif Nat.beq sp.1 0 then (bif eqI sp.2.1 sp.2.2 then some [(pc, E, als, iA (lfC sp.2.1) :: ast, ov)] else bif wfS E.length als ast ov then some [(pc, E ++ [sp.2], als, iA (lfS E.length) :: ast, ((c, j), iA (lfS E.length)) :: ov)] else none)
      else bif Nat.beq sp.1 1 then (bif wfS E.length als ast ov then some [(pc, E ++ [sp.2], als, lA (lfS E.length) :: ast, ((c, j), lA (lfS E.length)) :: ov)] else none)
      else bif Nat.beq sp.1 2 then some [(pc, E, als, rA sp.2.1 :: ast, ov)] else none
    | none => none
noncomputable def loadAt (c j : Nat) (g : GC) (pc : Nat) (E : EV) (als : AL) (ast : List AV) (ov : OV) : Option (List ST) := match ovAt c j ov with
  | some v => some [(pc, E, als, v :: ast, ov)]
  | none => match segAt g.2 j with
    | some sp => bif Nat.beq sp.1 0 then (bif eqI sp.2.1 sp.2.2 then some [(pc, E, als, iA (lfC sp.2.1) :: ast, ov)] else bif wfS (klen E) als ast ov then some [(pc, kapE E sp.2, als, iA (lfS (klen E)) :: ast, ((c, j), iA (lfS (klen E))) :: ov)] else none)
      else bif Nat.beq sp.1 1 then (bif wfS (klen E) als ast ov then some [(pc, kapE E sp.2, als, lA (lfS (klen E)) :: ast, ((c, j), lA (lfS (klen E))) :: ov)] else none)
      else bif Nat.beq sp.1 2 then some [(pc, E, als, rA sp.2.1 :: ast, ov)] else none
    | none => none
theorem loadAt_def (c j : Nat) (g : GC) (pc : Nat) (E : EV) (als : AL) (ast : List AV) (ov : OV) : loadAt c j g pc E als ast ov = kload0 c j g pc E als ast ov := by
  unfold loadAt kload0
  have e : ∀ u : Int × Int, kapE E u = E ++ [u] := fun u => kapE_eq u E
  simp only [klen_eq, e]
noncomputable def stOK (E : EV) (v : AV) (sp : Nat × Int × Int) : Bool := match iv E v.2.1 with
  | some u => Nat.beq v.1 sp.1 && (Nat.ble sp.1 1 && (leI sp.2.1 u.1 && leI u.2 sp.2.2))
  | none => false
noncomputable def nfin (ci j : Nat) : Bool := match vwCl[ci]? with
  | some (_, T, _) => !(T j).2.2.2
  | none => false
noncomputable def tyOK (ty : FieldType) (sp : Nat × Int × Int) : Bool := match ty with
  | .int => Nat.beq sp.1 0
  | .boolean => Nat.beq sp.1 0 && (leI 0 sp.2.1 && leI sp.2.2 1)
  | .long => Nat.beq sp.1 1
  | _ => false
/-- the places that an index may be -/
noncomputable def rng : Nat → Int → List Int
  | 0, _ => []
  | n + 1, a => a :: rng n (a + 1)
noncomputable def enT (E : EV) : List (Int × Nat) → List Int
  | [] => [0]
  | q :: t => match E[q.2]? with
    | some r => (rng (r.2 - r.1 + 1).toNat r.1).flatMap (fun v => (enT E t).map (fun w => q.1 * v + w))
    | none => []
noncomputable def enN (E : EV) : List (Int × Nat) → Nat
  | [] => 1
  | q :: t => match E[q.2]? with
    | some r => (r.2 - r.1 + 1).toNat * enN E t
    | none => 0
/-- the places: by the terms, where these are few; else all between -/
noncomputable def plc (E : EV) (f : LF) (u : Int × Int) : List Int := bif Nat.ble (enN E f.2) 64 && !(Nat.beq (enN E f.2) 0) then (enT E f.2).map (fun w => f.1 + w) else rng (u.2 - u.1 + 1).toNat u.1
noncomputable def itv (c : Nat) (g : GC) (ov : OV) (E : EV) (tag : Nat) (j : Nat) : Option (Int × Int) := match ovAt c j ov with
  | some v => bif Nat.beq v.1 tag then iv E v.2.1 else none
  | none => match segAt g.2 j with
    | some sp => bif Nat.beq sp.1 tag then some sp.2 else none
    | none => none
noncomputable def hull (f : Nat → Option (Int × Int)) (n : Nat) : List Int → Option (Int × Int)
  | [] => none
  | j :: t => bif leI 0 j && Nat.blt j.toNat n then (match f j.toNat with
      | some u => match t with
        | [] => some u
        | _ => match hull f n t with
          | some w => some (minI u.1 w.1, maxI u.2 w.2)
          | none => none
      | none => none) else (match t with
        | [] => none
        | _ => hull f n t)
/-- by the parts of a row that an index between a and b meets -/
noncomputable def hullS (tag : Nat) : List SG → Int → Int → Option (Int × Int)
  | [], _, _ => none
  | q :: t, a, b => bif leI (q.1 : Int) a then hullS tag t (a - q.1) (b - q.1)
    else bif Nat.beq q.2.1 tag then (bif leI (b + 1) (q.1 : Int) then some q.2.2 else match hullS tag t 0 (b - q.1) with
      | some w => some (minI q.2.2.1 w.1, maxI q.2.2.2 w.2)
      | none => none) else none
noncomputable def few (E : EV) (f : LF) : Bool := Nat.ble (enN E f.2) 64 && !(Nat.beq (enN E f.2) 0)
noncomputable def ivAt (c : Nat) (g : GC) (ov : OV) (E : EV) (tag : Nat) (f : LF) (u : Int × Int) : Option (Int × Int) := bif few E f then hull (fun j => itv c g ov E tag j) g.1.2.2 ((enT E f.2).map (fun w => f.1 + w)) else hullS tag g.2 u.1 u.2
noncomputable def akind (g : GC) (x : Nat) : Bool := match g.1 with
  | (1, 0, _) => Nat.beq x 0
  | (1, 1, _) => Nat.beq x 1
  | (1, 2, _) => Nat.beq x 1
  | (2, _, _) => Nat.beq x 2
  | (3, _, _) => Nat.beq x 3
  | _ => false
noncomputable def spl (c : Nat) (g : GC) (f : LF) (pc : Nat) (E : EV) (als : AL) (ast : List AV) (ov : OV) : List Int → Option (List ST)
  | [] => some []
  | j :: t => match spl c g f pc E als ast ov t with
    | some r => match brT E 0 (lfSub f (lfC j)) with
      | some E' => match segAt g.2 j.toNat with
        | some sp => bif Nat.beq sp.1 2 then some ((pc, E', als, rA sp.2.1 :: ast, ov) :: r) else none
        | none => none
      | none => some r
    | none => none
noncomputable def aload (x : Nat) (pc : Nat) (E : EV) (als : AL) (ast : List AV) (ov : OV) (G : List GC) : Option (List ST) := match ast with
  | i :: r :: t => bif Nat.beq i.1 0 && Nat.beq r.1 2 then (match G[r.2.1.1.toNat]?, iv E i.2.1 with
    | some g, some u => bif akind g x && (leI 0 u.1 && leI (u.2 + 1) (g.1.2.2 : Int)) && inI u then
        (bif eqI u.1 u.2 then loadAt r.2.1.1.toNat u.1.toNat g pc E als t ov
        else bif Nat.beq x 3 then spl r.2.1.1.toNat g i.2.1 pc E als t ov (rng (u.2 - u.1 + 1).toNat u.1)
        else bif Nat.beq x 2 then (match ivAt r.2.1.1.toNat g ov E 1 i.2.1 u with | some w => pushL (.inr w) pc E als t ov | none => none)
        else (match ivAt r.2.1.1.toNat g ov E 0 i.2.1 u with | some w => bif eqI w.1 w.2 then pushR (.inl (lfC w.1)) pc E als t ov else pushR (.inr w) pc E als t ov | none => none))
      else none
    | _, _ => none) else none
  | _ => none
/-- what is put into a row: bytes are cut -/
noncomputable def cutB (E : EV) (g : GC) (v : AV) : Option (Int × Int × Bool) := match iv E v.2.1 with
  | some u => bif Nat.beq g.1.1 1 && Nat.beq g.1.2.1 1 then (bif leI (-128) u.1 && leI u.2 127 then some (u.1, u.2, true) else some (-128, 127, false))
    else bif Nat.beq g.1.1 1 && Nat.beq g.1.2.1 2 then (bif leI 0 u.1 && leI u.2 1 then some (u.1, u.2, true) else none)
    else some (u.1, u.2, true)
  | none => none
noncomputable def allIn (segs : List SG) (tag : Nat) (lo hi : Int) : List Int → Bool
  | [] => true
  | j :: t => (match segAt segs j.toNat with | some sp => Nat.beq sp.1 tag && (leI sp.2.1 lo && leI hi sp.2.2) | none => false) && allIn segs tag lo hi t
noncomputable def astore (x : Nat) (pc : Nat) (E : EV) (als : AL) (ast : List AV) (ov : OV) (G : List GC) (mods : List Nat) : Option (List ST) := match ast with
  | v :: i :: r :: t => bif Nat.beq i.1 0 && Nat.beq r.1 2 then (match G[r.2.1.1.toNat]?, iv E i.2.1 with
    | some g, some u => bif akind g x && (leI 0 u.1 && leI (u.2 + 1) (g.1.2.2 : Int)) && inI u && memN r.2.1.1.toNat mods && Nat.beq v.1 (bif Nat.beq x 2 then 1 else 0) && !(Nat.beq x 3) && !(Nat.beq r.2.1.1.toNat mnC) then
        (match cutB E g v with
        | some w => bif eqI u.1 u.2 then (match segAt g.2 u.1.toNat with
            | some sp => bif Nat.beq sp.1 v.1 && (leI sp.2.1 w.1 && leI w.2.1 sp.2.2) then
                (bif w.2.2 then some [(pc, E, als, t, ((r.2.1.1.toNat, u.1.toNat), v) :: ovDel r.2.1.1.toNat u.1.toNat ov)] else some [(pc, E, als, t, ovDel r.2.1.1.toNat u.1.toNat ov)]) else none
            | none => none)
          else bif allIn g.2 v.1 w.1 w.2.1 (plc E i.2.1 u) then some [(pc, E, als, t, ovDelR r.2.1.1.toNat u.1 u.2 ov)] else none
        | none => none)
      else none
    | _, _ => none) else none
  | _ => none
/-- a switch's ways -/
noncomputable def swA (d0 : Nat) (f : LF) (E : EV) (als : AL) (ast : List AV) (ov : OV) : Int → List Nat → List ST
  | n, [] => br1 (brT E 3 (lfSub f (lfC n))) d0 als ast ov
  | n, t :: r => br1 (brT E 0 (lfSub f (lfC n))) t als ast ov ++ swA d0 f E als ast ov (n + 1) r
noncomputable def isBol (k : Nat) : Bool := decide (mRet k = some .boolean)
noncomputable def stp (G : List GC) (mods : List Nat) (k pc : Nat) (xi : XI) (E : EV) (als : AL) (ast : List AV) (ov : OV) : Option (OUT ⊕ List ST) := match xi with
  | (op, a, x, y, z) =>
    bif Nat.beq op 5 then (match lkA x als with | some v => bif Nat.beq v.1 2 || Nat.beq v.1 3 then some (.inr [(pc + ln3 y, E, als, v :: ast, ov)]) else none | none => none)
    else bif Nat.beq op 3 then (match lkA x als with | some v => bif Nat.beq v.1 0 then some (.inr [(pc + ln3 y, E, als, v :: ast, ov)]) else none | none => none)
    else bif Nat.beq op 17 then (match ast with
      | r :: t => bif Nat.beq r.1 2 then (match G[r.2.1.1.toNat]? with
        | some g => bif Nat.beq g.1.1 0 && Nat.beq g.1.2.1 y && Nat.blt z g.1.2.2 then (loadAt r.2.1.1.toNat z g (pc + 3) E als t ov).map .inr else none
        | none => none) else none
      | _ => none)
    else bif Nat.beq op 1 then some (.inr [(pc + ln1 x, E, als, iA (lfC a) :: ast, ov)])
    else bif Nat.beq op 10 then (match ast with
      | v :: u :: t => bif Nat.beq u.1 0 && Nat.beq v.1 0 then (match ibA x E u.2.1 v.2.1 with | some r => (pushR r (pc + 1) E als t ov).map .inr | none => none) else none
      | _ => none)
    else bif Nat.beq op 14 then (match ast with
      | v :: t => (match cmpQ E v with | some f => some (.inr (br2 x f y (pc + 3) E als t ov)) | none => none)
      | _ => none)
    else bif Nat.beq op 15 then (match ast with
      | v :: u :: t => (match cmpI E u v with | some f => some (.inr (br2 x f y (pc + 3) E als t ov)) | none => none)
      | _ => none)
    else bif Nat.beq op 19 then (aload x (pc + 1) E als ast ov G).map .inr
    else bif Nat.beq op 16 then some (.inr [(y, E, als, ast, ov)])
    else bif Nat.beq op 6 then (match ast with
      | v :: t => bif Nat.beq v.1 0 then some (.inr [(pc + ln3 y, E, stA x v als, t, ov)]) else none
      | _ => none)
    else bif Nat.beq op 27 then (bif Nat.beq x 2 then (match ast with | [] => some (.inl (E, none, ov)) | _ => none)
      else match ast with
      | [v] => bif Nat.beq x 0 then (match iv E v.2.1 with | some u => bif Nat.beq v.1 0 && (!(isBol k) || (leI 0 u.1 && leI u.2 1)) then some (.inl (E, some v, ov)) else none | none => none)
          else bif Nat.beq x 1 then (bif Nat.beq v.1 1 then some (.inl (E, some v, ov)) else none)
          else (bif Nat.beq v.1 2 || Nat.beq v.1 3 then some (.inl (E, some v, ov)) else none)
      | _ => none)
    else bif Nat.beq op 9 then (match lkA x als with
      | some v => bif Nat.beq v.1 0 then (match mkI E (lfAdd v.2.1 (lfC a)) with
        | .inl f => some (.inr [(pc + 3, E, stA x (iA f) als, ast, ov)])
        | .inr u => bif wfS E.length als ast ov then some (.inr [(pc + 3, E ++ [u], stA x (iA (lfS E.length)) als, ast, ov)]) else none) else none
      | none => none)
    else bif Nat.beq op 20 then (astore x (pc + 1) E als ast ov G mods).map .inr
    else bif Nat.beq op 18 then (match ast with
      | v :: r :: t => bif Nat.beq r.1 2 then (match G[r.2.1.1.toNat]? with
        | some g => bif Nat.beq g.1.1 0 && Nat.beq g.1.2.1 y && Nat.blt z g.1.2.2 && memN r.2.1.1.toNat mods && nfin y z && !(Nat.beq r.2.1.1.toNat mnC && spJ z) then (match segAt g.2 z with
            | some sp => bif stOK E v sp && tyOK (clTy y z) sp then some (.inr [(pc + 3, E, als, t, ((r.2.1.1.toNat, z), v) :: ovDel r.2.1.1.toNat z ov)]) else none
            | none => none) else none
        | none => none) else none
      | _ => none)
    else bif Nat.beq op 21 then (match ast with
      | r :: t => bif Nat.beq r.1 2 then (match G[r.2.1.1.toNat]? with
        | some g => bif Nat.blt 0 g.1.1 then some (.inr [(pc + 1, E, als, iA (lfC (g.1.2.2 : Int)) :: t, ov)]) else none
        | none => none) else none
      | _ => none)
    else bif Nat.beq op 12 then (match ast with
      | v :: t => bif Nat.beq x 1 then (bif Nat.beq v.1 0 then (match iv E v.2.1 with | some u => bif inI u then some (.inr [(pc + 1, E, als, lA v.2.1 :: t, ov)]) else none | none => none) else none)
        else bif Nat.beq v.1 (bif Nat.beq x 2 then 1 else 0) then (match unA x E v.2.1 with | some r => (pushR r (pc + 1) E als t ov).map .inr | none => none) else none
      | _ => none)
    else bif Nat.beq op 4 then (match lkA x als with | some v => bif Nat.beq v.1 1 then some (.inr [(pc + ln3 y, E, als, v :: ast, ov)]) else none | none => none)
    else bif Nat.beq op 7 then (match ast with
      | v :: t => bif Nat.beq v.1 1 then some (.inr [(pc + ln3 y, E, stA2 x v als, t, ov)]) else none
      | _ => none)
    else bif Nat.beq op 8 then (match ast with
      | v :: t => bif Nat.beq v.1 2 || Nat.beq v.1 3 then some (.inr [(pc + ln3 y, E, stA x v als, t, ov)]) else none
      | _ => none)
    else bif Nat.beq op 2 then some (.inr [(pc + ln2 x, E, als, lA (lfC a) :: ast, ov)])
    else bif Nat.beq op 11 then (match ast with
      | v :: u :: t => bif Nat.beq u.1 1 && Nat.beq v.1 1 then (match lbA x E u.2.1 v.2.1 with | some r => (pushL r (pc + 1) E als t ov).map .inr | none => none) else none
      | _ => none)
    else bif Nat.beq op 13 then (match ast with
      | v :: u :: t => bif Nat.beq u.1 1 && Nat.beq v.1 1 then some (.inr [(pc + 1, E, als, (4, u.2.1, v.2.1) :: t, ov)]) else none
      | _ => none)
    else bif Nat.beq op 22 then (match ast with
      | v :: t => bif Nat.beq v.1 1 then none else bif Nat.beq x 0 then some (.inr [(pc + 1, E, als, v :: v :: t, ov)])
        else bif Nat.beq x 2 then some (.inr [(pc + 1, E, als, t, ov)])
        else bif Nat.beq x 1 then (match t with | w :: t2 => bif Nat.beq w.1 1 then none else some (.inr [(pc + 1, E, als, v :: w :: v :: w :: t2, ov)]) | _ => none) else none
      | _ => none)
    else bif Nat.beq op 25 then (match ast with
      | v :: u :: t => bif Nat.beq v.1 0 && Nat.beq u.1 1 then (pushL (.inr fullL) (pc + 1) E als t ov).map .inr else none
      | _ => none)
    else bif Nat.beq op 28 || Nat.beq op 36 then (match ast with
      | v :: t => (match cmpQ E v with
        | some f => bif Nat.beq v.1 0 then (match mSw k pc with | (d0, lo, ts) => some (.inr (br1 (brT E 2 (lfSub f (lfC lo))) d0 als t ov ++ swA d0 f E als t ov lo ts))) else none
        | none => none)
      | _ => none)
    else bif Nat.beq op 30 then (match ast with
      | v :: t => bif Nat.beq x 1 then (bif Nat.beq v.1 2 then some (.inr [(y, E, als, t, ov)]) else bif Nat.beq v.1 3 then some (.inr [(pc + 3, E, als, t, ov)]) else none) else none
      | _ => none)
    else bif Nat.beq op 31 then some (.inr [(pc + 1, E, als, nA :: ast, ov)])
    else none
noncomputable def stp_b5 (pc : Nat) (x : Nat) (y : Nat) (E : EV) (als : AL) (ast : List AV) (ov : OV) : Option (OUT ⊕ List ST) := (match lkA x als with | some v => bif Nat.beq v.1 2 || Nat.beq v.1 3 then some (.inr [(pc + ln3 y, E, als, v :: ast, ov)]) else none | none => none)
noncomputable def stp_b3 (pc : Nat) (x : Nat) (y : Nat) (E : EV) (als : AL) (ast : List AV) (ov : OV) : Option (OUT ⊕ List ST) := (match lkA x als with | some v => bif Nat.beq v.1 0 then some (.inr [(pc + ln3 y, E, als, v :: ast, ov)]) else none | none => none)
noncomputable def stp_b17 (G : List GC) (pc : Nat) (y : Nat) (z : Nat) (E : EV) (als : AL) (ast : List AV) (ov : OV) : Option (OUT ⊕ List ST) := (match ast with
      | r :: t => bif Nat.beq r.1 2 then (match G[r.2.1.1.toNat]? with
        | some g => bif Nat.beq g.1.1 0 && Nat.beq g.1.2.1 y && Nat.blt z g.1.2.2 then (loadAt r.2.1.1.toNat z g (pc + 3) E als t ov).map .inr else none
        | none => none) else none
      | _ => none)
noncomputable def stp_b1 (pc : Nat) (a : Int) (x : Nat) (E : EV) (als : AL) (ast : List AV) (ov : OV) : Option (OUT ⊕ List ST) := some (.inr [(pc + ln1 x, E, als, iA (lfC a) :: ast, ov)])
noncomputable def stp_b10 (pc : Nat) (x : Nat) (E : EV) (als : AL) (ast : List AV) (ov : OV) : Option (OUT ⊕ List ST) := (match ast with
      | v :: u :: t => bif Nat.beq u.1 0 && Nat.beq v.1 0 then (match ibA x E u.2.1 v.2.1 with | some r => (pushR r (pc + 1) E als t ov).map .inr | none => none) else none
      | _ => none)
noncomputable def stp_b14 (pc : Nat) (x : Nat) (y : Nat) (E : EV) (als : AL) (ast : List AV) (ov : OV) : Option (OUT ⊕ List ST) := (match ast with
      | v :: t => (match cmpQ E v with | some f => some (.inr (br2 x f y (pc + 3) E als t ov)) | none => none)
      | _ => none)
noncomputable def stp_b15 (pc : Nat) (x : Nat) (y : Nat) (E : EV) (als : AL) (ast : List AV) (ov : OV) : Option (OUT ⊕ List ST) := (match ast with
      | v :: u :: t => (match cmpI E u v with | some f => some (.inr (br2 x f y (pc + 3) E als t ov)) | none => none)
      | _ => none)
noncomputable def stp_b19 (G : List GC) (pc : Nat) (x : Nat) (E : EV) (als : AL) (ast : List AV) (ov : OV) : Option (OUT ⊕ List ST) := (aload x (pc + 1) E als ast ov G).map .inr
noncomputable def stp_b16 (y : Nat) (E : EV) (als : AL) (ast : List AV) (ov : OV) : Option (OUT ⊕ List ST) := some (.inr [(y, E, als, ast, ov)])
noncomputable def stp_b6 (pc : Nat) (x : Nat) (y : Nat) (E : EV) (als : AL) (ast : List AV) (ov : OV) : Option (OUT ⊕ List ST) := (match ast with
      | v :: t => bif Nat.beq v.1 0 then some (.inr [(pc + ln3 y, E, stA x v als, t, ov)]) else none
      | _ => none)
noncomputable def stp_b27 (k : Nat) (x : Nat) (E : EV) (ast : List AV) (ov : OV) : Option (OUT ⊕ List ST) := (bif Nat.beq x 2 then (match ast with | [] => some (.inl (E, none, ov)) | _ => none)
      else match ast with
      | [v] => bif Nat.beq x 0 then (match iv E v.2.1 with | some u => bif Nat.beq v.1 0 && (!(isBol k) || (leI 0 u.1 && leI u.2 1)) then some (.inl (E, some v, ov)) else none | none => none)
          else bif Nat.beq x 1 then (bif Nat.beq v.1 1 then some (.inl (E, some v, ov)) else none)
          else (bif Nat.beq v.1 2 || Nat.beq v.1 3 then some (.inl (E, some v, ov)) else none)
      | _ => none)
noncomputable def stp_b9 (pc : Nat) (a : Int) (x : Nat) (E : EV) (als : AL) (ast : List AV) (ov : OV) : Option (OUT ⊕ List ST) := (match lkA x als with
      | some v => bif Nat.beq v.1 0 then (match mkI E (lfAdd v.2.1 (lfC a)) with
        | .inl f => some (.inr [(pc + 3, E, stA x (iA f) als, ast, ov)])
        | .inr u => bif wfS E.length als ast ov then some (.inr [(pc + 3, E ++ [u], stA x (iA (lfS E.length)) als, ast, ov)]) else none) else none
      | none => none)
noncomputable def stp_b20 (G : List GC) (mods : List Nat) (pc : Nat) (x : Nat) (E : EV) (als : AL) (ast : List AV) (ov : OV) : Option (OUT ⊕ List ST) := (astore x (pc + 1) E als ast ov G mods).map .inr
noncomputable def stp_b18 (G : List GC) (mods : List Nat) (pc : Nat) (y : Nat) (z : Nat) (E : EV) (als : AL) (ast : List AV) (ov : OV) : Option (OUT ⊕ List ST) := (match ast with
      | v :: r :: t => bif Nat.beq r.1 2 then (match G[r.2.1.1.toNat]? with
        | some g => bif Nat.beq g.1.1 0 && Nat.beq g.1.2.1 y && Nat.blt z g.1.2.2 && memN r.2.1.1.toNat mods && nfin y z && !(Nat.beq r.2.1.1.toNat mnC && spJ z) then (match segAt g.2 z with
            | some sp => bif stOK E v sp && tyOK (clTy y z) sp then some (.inr [(pc + 3, E, als, t, ((r.2.1.1.toNat, z), v) :: ovDel r.2.1.1.toNat z ov)]) else none
            | none => none) else none
        | none => none) else none
      | _ => none)
noncomputable def stp_b21 (G : List GC) (pc : Nat) (E : EV) (als : AL) (ast : List AV) (ov : OV) : Option (OUT ⊕ List ST) := (match ast with
      | r :: t => bif Nat.beq r.1 2 then (match G[r.2.1.1.toNat]? with
        | some g => bif Nat.blt 0 g.1.1 then some (.inr [(pc + 1, E, als, iA (lfC (g.1.2.2 : Int)) :: t, ov)]) else none
        | none => none) else none
      | _ => none)
noncomputable def stp_b12 (pc : Nat) (x : Nat) (E : EV) (als : AL) (ast : List AV) (ov : OV) : Option (OUT ⊕ List ST) := (match ast with
      | v :: t => bif Nat.beq x 1 then (bif Nat.beq v.1 0 then (match iv E v.2.1 with | some u => bif inI u then some (.inr [(pc + 1, E, als, lA v.2.1 :: t, ov)]) else none | none => none) else none)
        else bif Nat.beq v.1 (bif Nat.beq x 2 then 1 else 0) then (match unA x E v.2.1 with | some r => (pushR r (pc + 1) E als t ov).map .inr | none => none) else none
      | _ => none)
noncomputable def stp_b4 (pc : Nat) (x : Nat) (y : Nat) (E : EV) (als : AL) (ast : List AV) (ov : OV) : Option (OUT ⊕ List ST) := (match lkA x als with | some v => bif Nat.beq v.1 1 then some (.inr [(pc + ln3 y, E, als, v :: ast, ov)]) else none | none => none)
noncomputable def stp_b7 (pc : Nat) (x : Nat) (y : Nat) (E : EV) (als : AL) (ast : List AV) (ov : OV) : Option (OUT ⊕ List ST) := (match ast with
      | v :: t => bif Nat.beq v.1 1 then some (.inr [(pc + ln3 y, E, stA2 x v als, t, ov)]) else none
      | _ => none)
noncomputable def stp_b8 (pc : Nat) (x : Nat) (y : Nat) (E : EV) (als : AL) (ast : List AV) (ov : OV) : Option (OUT ⊕ List ST) := (match ast with
      | v :: t => bif Nat.beq v.1 2 || Nat.beq v.1 3 then some (.inr [(pc + ln3 y, E, stA x v als, t, ov)]) else none
      | _ => none)
noncomputable def stp_b2 (pc : Nat) (a : Int) (x : Nat) (E : EV) (als : AL) (ast : List AV) (ov : OV) : Option (OUT ⊕ List ST) := some (.inr [(pc + ln2 x, E, als, lA (lfC a) :: ast, ov)])
noncomputable def stp_b11 (pc : Nat) (x : Nat) (E : EV) (als : AL) (ast : List AV) (ov : OV) : Option (OUT ⊕ List ST) := (match ast with
      | v :: u :: t => bif Nat.beq u.1 1 && Nat.beq v.1 1 then (match lbA x E u.2.1 v.2.1 with | some r => (pushL r (pc + 1) E als t ov).map .inr | none => none) else none
      | _ => none)
noncomputable def stp_b13 (pc : Nat) (E : EV) (als : AL) (ast : List AV) (ov : OV) : Option (OUT ⊕ List ST) := (match ast with
      | v :: u :: t => bif Nat.beq u.1 1 && Nat.beq v.1 1 then some (.inr [(pc + 1, E, als, (4, u.2.1, v.2.1) :: t, ov)]) else none
      | _ => none)
noncomputable def stp_b22 (pc : Nat) (x : Nat) (E : EV) (als : AL) (ast : List AV) (ov : OV) : Option (OUT ⊕ List ST) := (match ast with
      | v :: t => bif Nat.beq v.1 1 then none else bif Nat.beq x 0 then some (.inr [(pc + 1, E, als, v :: v :: t, ov)])
        else bif Nat.beq x 2 then some (.inr [(pc + 1, E, als, t, ov)])
        else bif Nat.beq x 1 then (match t with | w :: t2 => bif Nat.beq w.1 1 then none else some (.inr [(pc + 1, E, als, v :: w :: v :: w :: t2, ov)]) | _ => none) else none
      | _ => none)
noncomputable def stp_b25 (pc : Nat) (E : EV) (als : AL) (ast : List AV) (ov : OV) : Option (OUT ⊕ List ST) := (match ast with
      | v :: u :: t => bif Nat.beq v.1 0 && Nat.beq u.1 1 then (pushL (.inr fullL) (pc + 1) E als t ov).map .inr else none
      | _ => none)
noncomputable def stp_b28 (k : Nat) (pc : Nat) (E : EV) (als : AL) (ast : List AV) (ov : OV) : Option (OUT ⊕ List ST) := (match ast with
      | v :: t => (match cmpQ E v with
        | some f => bif Nat.beq v.1 0 then (match mSw k pc with | (d0, lo, ts) => some (.inr (br1 (brT E 2 (lfSub f (lfC lo))) d0 als t ov ++ swA d0 f E als t ov lo ts))) else none
        | none => none)
      | _ => none)
noncomputable def stp_b30 (pc : Nat) (x : Nat) (y : Nat) (E : EV) (als : AL) (ast : List AV) (ov : OV) : Option (OUT ⊕ List ST) := (match ast with
      | v :: t => bif Nat.beq x 1 then (bif Nat.beq v.1 2 then some (.inr [(y, E, als, t, ov)]) else bif Nat.beq v.1 3 then some (.inr [(pc + 3, E, als, t, ov)]) else none) else none
      | _ => none)
noncomputable def stp_b31 (pc : Nat) (E : EV) (als : AL) (ast : List AV) (ov : OV) : Option (OUT ⊕ List ST) := some (.inr [(pc + 1, E, als, nA :: ast, ov)])
noncomputable def stp_r2 (op : Nat) (G : List GC) (mods : List Nat) (k : Nat) (pc : Nat) (a : Int) (x : Nat) (y : Nat) (z : Nat) (E : EV) (als : AL) (ast : List AV) (ov : OV) : Option (OUT ⊕ List ST) := bif Nat.beq op 2 then stp_b2 pc a x E als ast ov
    else bif Nat.beq op 11 then stp_b11 pc x E als ast ov
    else bif Nat.beq op 13 then stp_b13 pc E als ast ov
    else bif Nat.beq op 22 then stp_b22 pc x E als ast ov
    else bif Nat.beq op 25 then stp_b25 pc E als ast ov
    else bif Nat.beq op 28 || Nat.beq op 36 then stp_b28 k pc E als ast ov
    else bif Nat.beq op 30 then stp_b30 pc x y E als ast ov
    else bif Nat.beq op 31 then stp_b31 pc E als ast ov
    else none
noncomputable def stp_r1 (op : Nat) (G : List GC) (mods : List Nat) (k : Nat) (pc : Nat) (a : Int) (x : Nat) (y : Nat) (z : Nat) (E : EV) (als : AL) (ast : List AV) (ov : OV) : Option (OUT ⊕ List ST) := bif Nat.beq op 27 then stp_b27 k x E ast ov
    else bif Nat.beq op 9 then stp_b9 pc a x E als ast ov
    else bif Nat.beq op 20 then stp_b20 G mods pc x E als ast ov
    else bif Nat.beq op 18 then stp_b18 G mods pc y z E als ast ov
    else bif Nat.beq op 21 then stp_b21 G pc E als ast ov
    else bif Nat.beq op 12 then stp_b12 pc x E als ast ov
    else bif Nat.beq op 4 then stp_b4 pc x y E als ast ov
    else bif Nat.beq op 7 then stp_b7 pc x y E als ast ov
    else bif Nat.beq op 8 then stp_b8 pc x y E als ast ov
    else stp_r2 op G mods k pc a x y z E als ast ov
noncomputable def stpF (op : Nat) (G : List GC) (mods : List Nat) (k : Nat) (pc : Nat) (a : Int) (x : Nat) (y : Nat) (z : Nat) (E : EV) (als : AL) (ast : List AV) (ov : OV) : Option (OUT ⊕ List ST) := bif Nat.beq op 5 then stp_b5 pc x y E als ast ov
    else bif Nat.beq op 3 then stp_b3 pc x y E als ast ov
    else bif Nat.beq op 17 then stp_b17 G pc y z E als ast ov
    else bif Nat.beq op 1 then stp_b1 pc a x E als ast ov
    else bif Nat.beq op 10 then stp_b10 pc x E als ast ov
    else bif Nat.beq op 14 then stp_b14 pc x y E als ast ov
    else bif Nat.beq op 15 then stp_b15 pc x y E als ast ov
    else bif Nat.beq op 19 then stp_b19 G pc x E als ast ov
    else bif Nat.beq op 16 then stp_b16 y E als ast ov
    else bif Nat.beq op 6 then stp_b6 pc x y E als ast ov
    else stp_r1 op G mods k pc a x y z E als ast ov
set_option maxRecDepth 10000 in
theorem stpF_eq (op : Nat) (G : List GC) (mods : List Nat) (k : Nat) (pc : Nat) (a : Int) (x : Nat) (y : Nat) (z : Nat) (E : EV) (als : AL) (ast : List AV) (ov : OV) : stpF op G mods k pc a x y z E als ast ov = stp G mods k pc (op, a, x, y, z) E als ast ov := rfl
end
section
noncomputable def HK (ad : Nat → Nat) (tys : List (ClassId × FieldType)) (G : List GC) (mods : List Nat) (w0 : va_W) (σ : Nat → Int) (ov : OV) (ws : va_W) : Prop := GOK ad tys G ws ∧ OVok ad σ ov ws ∧ FRm mods w0 ws
noncomputable def upS (σ : Nat → Int) (n : Nat) (z : Int) : Nat → Int := fun s => if s = n then z else σ s
theorem up_ext {σ : Nat → Int} {n : Nat} {z : Int} : ext n σ (upS σ n z) := fun s hs => by unfold upS; rw [if_neg (Nat.ne_of_lt hs)]
theorem up_self {σ : Nat → Int} {n : Nat} {z : Int} : upS σ n z n = z := by unfold upS; rw [if_pos rfl]
theorem inE_push {σ : Nat → Int} {E : EV} {u : Int × Int} {z : Int} (hσ : inE σ E) (h1 : u.1 ≤ z) (h2 : z ≤ u.2) : inE (upS σ E.length z) (E ++ [u]) := by
  intro s q hq
  by_cases hl : s < E.length
  · rw [List.getElem?_append_left hl] at hq
    rw [up_ext s hl]
    exact hσ s q hq
  · rw [List.getElem?_append_right (by omega)] at hq
    have hz : s - E.length < 1 := (List.getElem?_eq_some_iff.mp hq).1
    have e : s = E.length := by omega
    subst e
    rw [Nat.sub_self] at hq
    cases hq
    rw [up_self]
    exact ⟨h1, h2⟩
theorem wfS_ok {ad : Nat → Nat} {n : Nat} {als : AL} {ast : List AV} {ov : OV} {σ σ' : Nat → Int} (h : wfS n als ast ov = true) (he : ext n σ σ') : als.map (cvp ad σ') = als.map (cvp ad σ) ∧ ast.map (conc ad σ') = ast.map (conc ad σ) ∧ ∀ ws, OVok ad σ ov ws → OVok ad σ' ov ws := by
  rw [wfS_def] at h
  rw [Bool.and_eq_true, Bool.and_eq_true] at h
  obtain ⟨h1, h2, h3⟩ := h
  refine ⟨List.map_congr_left fun q hq => ?_, List.map_congr_left fun v hv => ?_, fun ws ho q hq => ?_⟩
  · unfold cvp
    rw [conc_ext he (List.all_eq_true.mp h1 q hq)]
  · exact conc_ext he (List.all_eq_true.mp h2 v hv)
  · rw [conc_ext he (List.all_eq_true.mp h3 q hq)]
    exact ho q hq
section SND
variable {l : Launch} {D : va_G} {tys : List (ClassId × FieldType)} {A : Nat → Prop} {k d : Nat} {post : Option Value → va_W → Prop} {ad : Nat → Nat} {G : List GC} {mods : List Nat} {w0 : va_W}
noncomputable def VS (l : Launch) (D : va_G) (tys : List (ClassId × FieldType)) (A : Nat → Prop) (k d : Nat) (post : Option Value → va_W → Prop) (ad : Nat → Nat) (σ : Nat → Int) (s : ST) (ws : va_W) : Prop := V l D tys A k d 0 0 post 0 0 s.1 (s.2.2.1.map (cvp ad σ)) (s.2.2.2.1.map (conc ad σ)) ws
noncomputable def KN (l : Launch) (D : va_G) (tys : List (ClassId × FieldType)) (A : Nat → Prop) (k d : Nat) (post : Option Value → va_W → Prop) (ad : Nat → Nat) (G : List GC) (mods : List Nat) (w0 : va_W) (n : Nat) (σ : Nat → Int) (sts : List ST) : Prop :=
  ∀ s ∈ sts, ∀ (σ' : Nat → Int) (ws' : va_W), ext n σ σ' → n ≤ s.2.1.length → inE σ' s.2.1 → HK ad tys G mods w0 σ' s.2.2.2.2 ws' → VS l D tys A k d post ad σ' s ws'
variable {σ : Nat → Int} {E : EV} {als : AL} {ast : List AV} {ov : OV} {ws : va_W} {pc : Nat} {sts : List ST}
theorem one_ok {pc' : Nat} {als' : AL} {ast' : List AV} {ov' : OV} {ws' : va_W} (kk : KN l D tys A k d post ad G mods w0 E.length σ [(pc', E, als', ast', ov')]) (hσ : inE σ E) (hH : HK ad tys G mods w0 σ ov' ws') : V l D tys A k d 0 0 post 0 0 pc' (als'.map (cvp ad σ)) (ast'.map (conc ad σ)) ws' :=
  kk _ (List.mem_singleton.mpr rfl) σ ws' ext_rf (Nat.le_refl _) hσ hH
theorem pushR_ok {r : RV} {v : Int32} (h : pushR r pc E als ast ov = some sts) (hσ : inE σ E) (hH : HK ad tys G mods w0 σ ov ws) (hv : gR σ r v) (kk : KN l D tys A k d post ad G mods w0 E.length σ sts) : V l D tys A k d 0 0 post 0 0 pc (als.map (cvp ad σ)) (.int v :: ast.map (conc ad σ)) ws := by
  rw [pushR_def] at h
  unfold kpushR0 at h
  cases r with
  | inl f =>
    cases h
    have hv : v = Int32.ofInt (ev σ f) := hv
    rw [hv]
    exact one_ok kk hσ hH
  | inr u =>
    obtain ⟨z, rfl, h1, h2⟩ := hv
    dsimp only at h
    cases hw : wfS E.length als ast ov with
    | false => rw [hw] at h; cases h
    | true =>
      rw [hw] at h
      cases h
      obtain ⟨e1, e2, e3⟩ := wfS_ok (ad := ad) hw (up_ext (σ := σ) (z := z))
      have K : V l D tys A k d 0 0 post 0 0 pc (als.map (cvp ad (upS σ E.length z))) (conc ad (upS σ E.length z) (iA (lfS E.length)) :: ast.map (conc ad (upS σ E.length z))) ws := kk _ (List.mem_singleton.mpr rfl) (upS σ E.length z) ws up_ext (by simp) (inE_push hσ h1 h2) ⟨hH.1, e3 _ hH.2.1, hH.2.2⟩
      rw [e1, e2] at K
      have ec : conc ad (upS σ E.length z) (iA (lfS E.length)) = .int (Int32.ofInt z) := by
        show Value.int (Int32.ofInt (ev _ (lfS _))) = _
        rw [lfS_ev, up_self]
      rw [ec] at K
      exact K
theorem pushL_ok {r : RV} {v : Int64} (h : pushL r pc E als ast ov = some sts) (hσ : inE σ E) (hH : HK ad tys G mods w0 σ ov ws) (hv : gL σ r v) (kk : KN l D tys A k d post ad G mods w0 E.length σ sts) : V l D tys A k d 0 0 post 0 0 pc (als.map (cvp ad σ)) (.long v :: ast.map (conc ad σ)) ws := by
  rw [pushL_def] at h
  unfold kpushL0 at h
  cases r with
  | inl f =>
    cases h
    have hv : v = Int64.ofInt (ev σ f) := hv
    rw [hv]
    exact one_ok kk hσ hH
  | inr u =>
    obtain ⟨z, rfl, h1, h2⟩ := hv
    dsimp only at h
    cases hw : wfS E.length als ast ov with
    | false => rw [hw] at h; cases h
    | true =>
      rw [hw] at h
      cases h
      obtain ⟨e1, e2, e3⟩ := wfS_ok (ad := ad) hw (up_ext (σ := σ) (z := z))
      have K : V l D tys A k d 0 0 post 0 0 pc (als.map (cvp ad (upS σ E.length z))) (conc ad (upS σ E.length z) (lA (lfS E.length)) :: ast.map (conc ad (upS σ E.length z))) ws := kk _ (List.mem_singleton.mpr rfl) (upS σ E.length z) ws up_ext (by simp) (inE_push hσ h1 h2) ⟨hH.1, e3 _ hH.2.1, hH.2.2⟩
      rw [e1, e2] at K
      have ec : conc ad (upS σ E.length z) (lA (lfS E.length)) = .long (Int64.ofInt z) := by
        show Value.long (Int64.ofInt (ev _ (lfS _))) = _
        rw [lfS_ev, up_self]
      rw [ec] at K
      exact K
theorem conc0 {v : AV} (h : Nat.beq v.1 0 = true) : conc ad σ v = .int (Int32.ofInt (ev σ v.2.1)) := by
  have e := Nat.eq_of_beq_eq_true h
  unfold conc
  rw [e]
  rfl
theorem conc1 {v : AV} (h : Nat.beq v.1 1 = true) : conc ad σ v = .long (Int64.ofInt (ev σ v.2.1)) := by
  have e := Nat.eq_of_beq_eq_true h
  unfold conc
  rw [e]
  rfl
theorem conc2 {v : AV} (h : Nat.beq v.1 2 = true) : conc ad σ v = .ref (ad v.2.1.1.toNat) := by
  have e := Nat.eq_of_beq_eq_true h
  unfold conc
  rw [e]
  rfl
theorem conc3 {v : AV} (h : Nat.beq v.1 3 = true) : conc ad σ v = .null := by
  have e := Nat.eq_of_beq_eq_true h
  unfold conc
  rw [e]
  rfl
theorem lk_in {x : Nat} {v : AV} (h : lkA x als = some v) : (x, conc ad σ v) ∈ als.map (cvp ad σ) := List.mem_map.mpr ⟨(x, v), lkA_mem h, rfl⟩
theorem ivL2_ok (hσ : inE σ E) {f g : LF} {q : I4} (h : ivL2 E f g = some q) : q.1.1 ≤ ev σ f ∧ ev σ f ≤ q.1.2 ∧ q.2.1 ≤ ev σ g ∧ ev σ g ≤ q.2.2 ∧ -9223372036854775808 ≤ q.1.1 ∧ q.1.2 ≤ 9223372036854775807 ∧ -9223372036854775808 ≤ q.2.1 ∧ q.2.2 ≤ 9223372036854775807 := by
  unfold ivL2 at h
  cases h1 : iv E f with
  | none => rw [h1] at h; cases h
  | some u =>
    cases h2 : iv E g with
    | none => rw [h1, h2] at h; cases h
    | some w =>
      rw [h1, h2] at h
      dsimp only at h
      cases h3 : (inL u && inL w) with
      | false => rw [h3] at h; cases h
      | true =>
        rw [h3] at h
        cases h
        rw [Bool.and_eq_true] at h3
        have a1 := iv_ok hσ h1
        have a2 := iv_ok hσ h2
        have a3 := inL_of h3.1
        have a4 := inL_of h3.2
        exact ⟨a1.1, a1.2, a2.1, a2.2, a3.1, a3.2, a4.1, a4.2⟩
theorem cstL_ok {x : Nat} {q : I4} {a b : Int} (h : isC q = true) (h1 : q.1.1 ≤ a) (h2 : a ≤ q.1.2) (h3 : q.2.1 ≤ b) (h4 : b ≤ q.2.2) : gL σ (cstL x q) (lbF x (Int64.ofInt a) (Int64.ofInt b)) := by
  unfold isC at h
  rw [Bool.and_eq_true, eqI_iff, eqI_iff] at h
  have e1 : a = q.1.1 := by omega
  have e2 : b = q.2.1 := by omega
  show _ = Int64.ofInt (ev σ (lfC _))
  rw [lfC_ev, Int64.ofInt_toInt, e1, e2]
theorem rlDiv_ok {q : I4} {a b : Int} {r : RV} (h : rlDiv q = some r) (h1 : q.1.1 ≤ a) (h2 : a ≤ q.1.2) (h3 : q.2.1 ≤ b) (h4 : b ≤ q.2.2) (h5 : -9223372036854775808 ≤ q.1.1) (h6 : q.1.2 ≤ 9223372036854775807) (h7 : -9223372036854775808 ≤ q.2.1) (h8 : q.2.2 ≤ 9223372036854775807) : ¬ Int64.ofInt b = 0 ∧ gL σ r (Int64.ofInt a / Int64.ofInt b) := by
  unfold rlDiv at h
  cases hp : leI 1 q.2.1 with
  | false =>
    rw [hp, cond_false] at h
    cases hm : leI q.2.2 (-1) with
    | false => rw [hm] at h; cases h
    | true =>
      rw [hm] at h
      have hm := leI_iff.mp hm
      cases h
      exact ⟨fun z => by have := ofInt_zero_iffL (by omega) (by omega) z; omega, fullL_ok σ _⟩
  | true =>
    rw [hp] at h
    have hp := leI_iff.mp hp
    have h := Option.some.inj h
    refine ⟨fun z => by have := ofInt_zero_iffL (by omega) (by omega) z; omega, ?_⟩
    rw [← h]
    have T := tdiv_bd (a := a) (c := b) (by omega)
    refine bif_split (P := fun r => gL σ r _) (fun hc => cstL_ok (x := 3) hc h1 h2 h3 h4) (fun _ => ?_)
    refine bif_split (P := fun r => gL σ r _) (fun hc => ?_) (fun _ => fullL_ok σ _)
    rw [div64 (by omega) (by omega) (by omega) (by omega)]
    have hc := leI_iff.mp hc
    have T := T.1 (by omega)
    refine ⟨_, rfl, T.1, ?_⟩
    refine bif_split (P := fun z => a.tdiv b ≤ z) (fun he => ?_) (fun _ => by omega)
    have he := eqI_iff.mp he
    have eb : b = q.2.1 := by omega
    rw [T.2.1, ← eb]
    exact Int.ediv_le_ediv (by omega) h2
theorem rlRem_ok {q : I4} {a b : Int} {r : RV} (h : rlRem q = some r) (h1 : q.1.1 ≤ a) (h2 : a ≤ q.1.2) (h3 : q.2.1 ≤ b) (h4 : b ≤ q.2.2) (h5 : -9223372036854775808 ≤ q.1.1) (h6 : q.1.2 ≤ 9223372036854775807) (h7 : -9223372036854775808 ≤ q.2.1) (h8 : q.2.2 ≤ 9223372036854775807) : ¬ Int64.ofInt b = 0 ∧ gL σ r (Int64.ofInt a - Int64.ofInt a / Int64.ofInt b * Int64.ofInt b) := by
  unfold rlRem at h
  cases hp : leI 1 q.2.1 with
  | false =>
    rw [hp, cond_false] at h
    cases hm : leI q.2.2 (-1) with
    | false => rw [hm] at h; cases h
    | true =>
      rw [hm] at h
      have hm := leI_iff.mp hm
      cases h
      exact ⟨fun z => by have := ofInt_zero_iffL (by omega) (by omega) z; omega, fullL_ok σ _⟩
  | true =>
    rw [hp] at h
    have hp := leI_iff.mp hp
    have h := Option.some.inj h
    refine ⟨fun z => by have := ofInt_zero_iffL (by omega) (by omega) z; omega, ?_⟩
    rw [← h]
    have T := rem_bd (a := a) (c := b) (by omega)
    refine bif_split (P := fun r => gL σ r _) (fun hc => cstL_ok (x := 4) hc h1 h2 h3 h4) (fun _ => ?_)
    rw [div64 (by omega) (by omega) (by omega) (by omega), ← Int64.ofInt_mul, ← Int64.ofInt_sub]
    refine bif_split (P := fun r => gL σ r _) (fun hc => ?_) (fun hc => ?_)
    · have hc := leI_iff.mp hc
      have T := T.1 (by omega)
      refine ⟨_, rfl, T.1, ?_⟩
      show _ ≤ minI q.1.2 (q.2.2 - 1)
      rcases minI_or (a := q.1.2) (b := q.2.2 - 1) with e | e
      · rw [e]; omega
      · rw [e]; omega
    · refine ⟨_, rfl, ?_, ?_⟩
      · rcases int_lt_or a 0 with hn | hn
        · have := T.2 hn; show 1 - q.2.2 ≤ _; omega
        · have := T.1 hn; show 1 - q.2.2 ≤ _; omega
      · rcases int_lt_or a 0 with hn | hn
        · have := T.2 hn; show _ ≤ q.2.2 - 1; omega
        · have := T.1 hn; show _ ≤ q.2.2 - 1; omega
theorem lbA_ok (hσ : inE σ E) {x : Nat} {f g : LF} {r : RV} (h : lbA x E f g = some r) : (x = 3 ∨ x = 4 → ¬ Int64.ofInt (ev σ g) = 0) ∧ gL σ r (lbF x (Int64.ofInt (ev σ f)) (Int64.ofInt (ev σ g))) := by
  unfold lbA at h
  rcases x with _ | _ | _ | _ | _ | x
  · cases h
    exact ⟨by omega, mkL_ok hσ (by show _ + _ = _; rw [lfAdd_ev, Int64.ofInt_add])⟩
  · cases h
    exact ⟨by omega, mkL_ok hσ (by show _ - _ = _; rw [lfSub_ev, Int64.ofInt_sub])⟩
  · refine ⟨by omega, ?_⟩
    show gL σ r (_ * _)
    cases hg : g.2 with
    | nil =>
      rw [hg] at h
      dsimp only at h
      cases hf : f.2 with
      | nil =>
        rw [hf] at h
        have h := Option.some.inj h
        rw [← h]
        have K := cstL_ok (σ := σ) (x := 2) (q := ((f.1, f.1), (g.1, g.1))) (a := f.1) (b := g.1) (by unfold isC; rw [eqI_iff.mpr rfl, eqI_iff.mpr rfl]; rfl) (Int.le_refl _) (Int.le_refl _) (Int.le_refl _) (Int.le_refl _)
        rw [lfnil_ev hf, lfnil_ev hg]
        exact K
      | cons c2 t2 =>
        rw [hf] at h
        cases h
        exact mkL_ok hσ (by rw [lfSc_ev, Int64.ofInt_mul, lfnil_ev hg, Int64.mul_comm])
    | cons c t =>
      rw [hg] at h
      dsimp only at h
      cases hf : f.2 with
      | nil =>
        rw [hf] at h
        cases h
        exact mkL_ok hσ (by rw [lfSc_ev, Int64.ofInt_mul, lfnil_ev hf])
      | cons c2 t2 =>
        rw [hf] at h
        cases h
        exact fullL_ok σ _
  · obtain ⟨q, hq, hr⟩ := bind_some h
    obtain ⟨p1, p2, p3, p4, p5, p6, p7, p8⟩ := ivL2_ok hσ hq
    have K := rlDiv_ok (σ := σ) hr p1 p2 p3 p4 p5 p6 p7 p8
    exact ⟨fun _ => K.1, K.2⟩
  · obtain ⟨q, hq, hr⟩ := bind_some h
    obtain ⟨p1, p2, p3, p4, p5, p6, p7, p8⟩ := ivL2_ok hσ hq
    have K := rlRem_ok (σ := σ) hr p1 p2 p3 p4 p5 p6 p7 p8
    exact ⟨fun _ => K.1, K.2⟩
  · cases h
    exact ⟨by omega, fullL_ok σ _⟩
theorem cmpQ_ok (hσ : inE σ E) {v : AV} {f : LF} (h : cmpQ E v = some f) : ∃ u : Int32, conc ad σ v = .int u ∧ ∀ x, cdP x u 0 ↔ cdZ x (ev σ f) := by
  unfold cmpQ at h
  obtain ⟨t, p, q⟩ := v
  match t, h with
  | 0, h =>
    dsimp only at h
    cases h1 : iv E p with
    | none => rw [h1] at h; cases h
    | some u =>
      rw [h1] at h
      dsimp only at h
      cases h2 : inI u with
      | false => rw [h2] at h; cases h
      | true =>
        rw [h2] at h
        have h : p = f := Option.some.inj h
        subst h
        have a1 := iv_ok hσ h1
        have a2 := inI_of h2
        refine ⟨_, rfl, fun x => ?_⟩
        have z0 : (0 : Int32) = Int32.ofInt 0 := by decide
        rw [z0]
        have e := cdP_iff (x := x) (a := ev σ p) (b := 0) (by omega) (by omega) (by omega) (by omega)
        rw [Int.sub_zero] at e
        exact e
  | 1, h => cases h
  | 2, h => cases h
  | 3, h => cases h
  | 4, h =>
    dsimp only at h
    cases h1 : iv E p with
    | none => rw [h1] at h; cases h
    | some u =>
      cases h2 : iv E q with
      | none => rw [h1, h2] at h; cases h
      | some w =>
        rw [h1, h2] at h
        dsimp only at h
        cases h3 : (inL u && inL w) with
        | false => rw [h3] at h; cases h
        | true =>
          rw [h3] at h
          cases h
          rw [Bool.and_eq_true] at h3
          have a1 := iv_ok hσ h1
          have a2 := iv_ok hσ h2
          have a3 := inL_of h3.1
          have a4 := inL_of h3.2
          refine ⟨_, rfl, fun x => ?_⟩
          show _ ↔ cdZ x (ev σ (lfSub p q))
          rw [lfSub_ev]
          exact cdL_iff (a := ev σ p) (b := ev σ q) (by omega) (by omega) (by omega) (by omega)
  | n + 5, h => cases h
theorem cmpI_ok (hσ : inE σ E) {v w : AV} {f : LF} (h : cmpI E v w = some f) : ∃ a b : Int32, conc ad σ v = .int a ∧ conc ad σ w = .int b ∧ ∀ x, cdP x a b ↔ cdZ x (ev σ f) := by
  unfold cmpI at h
  obtain ⟨t, p, q⟩ := v
  obtain ⟨t2, p2, q2⟩ := w
  match t, t2, h with
  | 0, 0, h =>
    dsimp only at h
    cases h1 : iv E p with
    | none => rw [h1] at h; cases h
    | some u =>
      cases h2 : iv E p2 with
      | none => rw [h1, h2] at h; cases h
      | some w =>
        rw [h1, h2] at h
        dsimp only at h
        cases h3 : (inI u && inI w) with
        | false => rw [h3] at h; cases h
        | true =>
          rw [h3] at h
          cases h
          rw [Bool.and_eq_true] at h3
          have a1 := iv_ok hσ h1
          have a2 := iv_ok hσ h2
          have a3 := inI_of h3.1
          have a4 := inI_of h3.2
          refine ⟨_, _, rfl, rfl, fun x => ?_⟩
          show _ ↔ cdZ x (ev σ (lfSub p p2))
          rw [lfSub_ev]
          exact cdP_iff (a := ev σ p) (b := ev σ p2) (by omega) (by omega) (by omega) (by omega)
  | 0, n + 1, h => cases h
  | n + 1, _, h => cases h
theorem KN_app {n : Nat} {a b : List ST} (h : KN l D tys A k d post ad G mods w0 n σ (a ++ b)) : KN l D tys A k d post ad G mods w0 n σ a ∧ KN l D tys A k d post ad G mods w0 n σ b :=
  ⟨fun s hs => h s (List.mem_append_left _ hs), fun s hs => h s (List.mem_append_right _ hs)⟩
theorem br1_ok {x : Nat} {f : LF} {pc' : Nat} (hσ : inE σ E) (hH : HK ad tys G mods w0 σ ov ws) (hz : cdZ x (ev σ f)) (kk : KN l D tys A k d post ad G mods w0 E.length σ (br1 (brT E x f) pc' als ast ov)) : V l D tys A k d 0 0 post 0 0 pc' (als.map (cvp ad σ)) (ast.map (conc ad σ)) ws := by
  obtain ⟨E', e1, e2, e3⟩ := brT_ok hσ hz
  rw [e1] at kk
  exact kk _ (List.mem_singleton.mpr rfl) σ ws ext_rf (Nat.le_of_eq e3.symm) e2 hH
theorem br2_ok {x : Nat} {f : LF} {pt pf : Nat} {P : Prop} (hσ : inE σ E) (hH : HK ad tys G mods w0 σ ov ws) (hP : P ↔ cdZ x (ev σ f)) (kk : KN l D tys A k d post ad G mods w0 E.length σ (br2 x f pt pf E als ast ov)) : (P → V l D tys A k d 0 0 post 0 0 pt (als.map (cvp ad σ)) (ast.map (conc ad σ)) ws) ∧ (¬ P → V l D tys A k d 0 0 post 0 0 pf (als.map (cvp ad σ)) (ast.map (conc ad σ)) ws) := by
  obtain ⟨k1, k2⟩ := KN_app kk
  exact ⟨fun h => br1_ok hσ hH (hP.mp h) k1, fun h => br1_ok hσ hH (negC_ok (fun z => h (hP.mpr z))) k2⟩
theorem unA_ok (hσ : inE σ E) {x : Nat} {f : LF} {r : RV} (h : unA x E f = some r) : (x = 0 → gR σ r (-(Int32.ofInt (ev σ f)))) ∧ (x = 2 → gR σ r (Int64.ofInt (ev σ f)).toInt32) ∧ (x = 3 → gR σ r (Int32.ofInt (ev σ f)).toInt8.toInt32) ∧ (x = 4 → gR σ r (Int32.ofInt (ev σ f)).toInt16.toInt32) ∧ (x = 0 ∨ x = 2 ∨ x = 3 ∨ x = 4) := by
  unfold unA at h
  rcases x with _ | _ | _ | _ | _ | x
  · cases h
    refine ⟨fun _ => mkI_ok hσ ?_, by omega, by omega, by omega, by omega⟩
    rw [lfSc_ev, show -1 * ev σ f = -(ev σ f) by omega, Int32.ofInt_neg]
  · cases h
  · refine ⟨by omega, fun _ => ?_, by omega, by omega, by omega⟩
    rw [Int64.toInt32_ofInt]
    cases h1 : iv E f with
    | none => rw [h1] at h; cases h; exact fullI_ok σ _
    | some u =>
      rw [h1] at h
      dsimp only at h
      cases h2 : inI u with
      | false => rw [h2] at h; cases h; exact fullI_ok σ _
      | true => rw [h2] at h; cases h; rfl
  · refine ⟨by omega, by omega, fun _ => ?_, by omega, by omega⟩
    have full : gR σ (.inr (-128, 127)) (Int32.ofInt (ev σ f)).toInt8.toInt32 := by
      generalize (Int32.ofInt (ev σ f)).toInt8 = b
      refine ⟨b.toInt, ?_, ?_, ?_⟩
      · apply Int32.toInt_inj.mp
        rw [Int8.toInt_toInt32, Int32.toInt_ofInt_of_le (by have := b.le_toInt; omega) (by have := b.toInt_lt; omega)]
      · have := b.le_toInt; show -128 ≤ b.toInt; omega
      · have := b.toInt_lt; show b.toInt ≤ 127; omega
    cases h1 : iv E f with
    | none => rw [h1] at h; cases h; exact full
    | some u =>
      rw [h1] at h
      dsimp only at h
      cases h2 : (leI (-128) u.1 && leI u.2 127) with
      | false => rw [h2] at h; cases h; exact full
      | true =>
        rw [h2] at h
        cases h
        rw [Bool.and_eq_true, leI_iff, leI_iff] at h2
        have a1 := iv_ok hσ h1
        show _ = Int32.ofInt (ev σ f)
        apply Int32.toInt_inj.mp
        have e : (Int32.ofInt (ev σ f)).toInt = ev σ f := Int32.toInt_ofInt_of_le (by omega) (by omega)
        rw [Int8.toInt_toInt32, Int32.toInt_toInt8, e]
        exact Int.bmod_eq_of_le (by omega) (by omega)
  · refine ⟨by omega, by omega, by omega, fun _ => ?_, by omega⟩
    have full : gR σ (.inr (-32768, 32767)) (Int32.ofInt (ev σ f)).toInt16.toInt32 := by
      generalize (Int32.ofInt (ev σ f)).toInt16 = b
      refine ⟨b.toInt, ?_, ?_, ?_⟩
      · apply Int32.toInt_inj.mp
        rw [Int16.toInt_toInt32, Int32.toInt_ofInt_of_le (by have := b.le_toInt; omega) (by have := b.toInt_lt; omega)]
      · have := b.le_toInt; show -32768 ≤ b.toInt; omega
      · have := b.toInt_lt; show b.toInt ≤ 32767; omega
    cases h1 : iv E f with
    | none => rw [h1] at h; cases h; exact full
    | some u =>
      rw [h1] at h
      dsimp only at h
      cases h2 : (leI (-32768) u.1 && leI u.2 32767) with
      | false => rw [h2] at h; cases h; exact full
      | true =>
        rw [h2] at h
        cases h
        rw [Bool.and_eq_true, leI_iff, leI_iff] at h2
        have a1 := iv_ok hσ h1
        show _ = Int32.ofInt (ev σ f)
        apply Int32.toInt_inj.mp
        have e : (Int32.ofInt (ev σ f)).toInt = ev σ f := Int32.toInt_ofInt_of_le (by omega) (by omega)
        rw [Int16.toInt_toInt32, Int32.toInt_toInt16, e]
        exact Int.bmod_eq_of_le (by omega) (by omega)
  · cases h
end SND
end
section
theorem rng_mem : ∀ {n : Nat} {a z : Int}, a ≤ z → z < a + n → z ∈ rng n a
  | 0, a, z, h1, h2 => by omega
  | n + 1, a, z, h1, h2 => by
    unfold rng
    by_cases e : z = a
    · rw [e]; exact List.mem_cons_self
    · exact List.mem_cons_of_mem _ (rng_mem (by omega) (by omega))
theorem enT_mem {σ : Nat → Int} {E : EV} (hσ : inE σ E) : ∀ {t : List (Int × Nat)}, enN E t ≠ 0 → evT σ t ∈ enT E t
  | [], _ => by simp [enT, evT]
  | q :: t, h => by
    unfold enN at h
    unfold enT
    cases h1 : E[q.2]? with
    | none => rw [h1] at h; exact absurd rfl h
    | some r =>
      rw [h1] at h
      have g := hσ _ _ h1
      have h2 : enN E t ≠ 0 := fun z => h (by show _ * enN E t = 0; rw [z]; rfl)
      exact List.mem_flatMap.mpr ⟨σ q.2, rng_mem g.1 (by omega), List.mem_map.mpr ⟨evT σ t, enT_mem hσ h2, rfl⟩⟩
theorem few_mem {σ : Nat → Int} {E : EV} (hσ : inE σ E) {f : LF} (h : few E f = true) : ev σ f ∈ (enT E f.2).map (fun w => f.1 + w) := by
  unfold few at h
  rw [Bool.and_eq_true] at h
  have h2 : enN E f.2 ≠ 0 := fun z => by rw [z] at h; exact absurd h.2 (by decide)
  exact List.mem_map.mpr ⟨_, enT_mem hσ h2, rfl⟩
theorem plc_mem {σ : Nat → Int} {E : EV} (hσ : inE σ E) {f : LF} {u : Int × Int} (h1 : u.1 ≤ ev σ f) (h2 : ev σ f ≤ u.2) : ev σ f ∈ plc E f u := by
  unfold plc
  refine bif_split (P := fun l => ev σ f ∈ l) (fun h => few_mem hσ h) (fun _ => rng_mem h1 (by omega))
theorem hull_ok {f : Nat → Option (Int × Int)} {n : Nat} : ∀ {js : List Int} {u : Int × Int} {z : Int}, hull f n js = some u → z ∈ js → 0 ≤ z → z.toNat < n → ∃ w, f z.toNat = some w ∧ u.1 ≤ w.1 ∧ w.2 ≤ u.2
  | [], u, z, h, hz, _, _ => by cases hz
  | j :: t, u, z, h, hz, h0, hn => by
    unfold hull at h
    cases hb : (leI 0 j && Nat.blt j.toNat n) with
    | true =>
      rw [hb, cond_true] at h
      cases h1 : f j.toNat with
      | none => rw [h1] at h; cases h
      | some v =>
        rw [h1] at h
        dsimp only at h
        cases t with
        | nil =>
          cases h
          have e : z = j := List.mem_singleton.mp hz
          rw [e]
          exact ⟨u, h1, Int.le_refl _, Int.le_refl _⟩
        | cons i r =>
          dsimp only at h
          cases h2 : hull f n (i :: r) with
          | none => rw [h2] at h; cases h
          | some w =>
            rw [h2] at h
            cases h
            have m1 := minI_le (a := v.1) (b := w.1)
            have m2 := le_maxI (a := v.2) (b := w.2)
            rcases List.mem_cons.mp hz with e | hz
            · rw [e]
              exact ⟨v, h1, m1.1, m2.1⟩
            · obtain ⟨q, q1, q2, q3⟩ := hull_ok h2 hz h0 hn
              exact ⟨q, q1, Int.le_trans m1.2 q2, Int.le_trans q3 m2.2⟩
    | false =>
      rw [hb, cond_false] at h
      rcases List.mem_cons.mp hz with e | hz
      · exfalso
        rw [← e, leI_iff.mpr h0, Nat.blt_eq.mpr hn] at hb
        exact absurd hb (by decide)
      · cases t with
        | nil => cases hz
        | cons i r => exact hull_ok h hz h0 hn
theorem hullS_ok {tag : Nat} : ∀ {segs : List SG} {a b : Int} {w : Int × Int} {z : Int}, hullS tag segs a b = some w → a ≤ z → z ≤ b → 0 ≤ z → ∃ sp, segAt segs z.toNat = some sp ∧ sp.1 = tag ∧ w.1 ≤ sp.2.1 ∧ sp.2.2 ≤ w.2
  | [], a, b, w, z, h, _, _, _ => by cases h
  | q :: t, a, b, w, z, h, ha, hb, h0 => by
    unfold hullS at h
    cases h1 : leI (q.1 : Int) a with
    | true =>
      rw [h1, cond_true] at h
      have h1 := leI_iff.mp h1
      obtain ⟨sp, s1, s2⟩ := hullS_ok (z := z - q.1) h (by omega) (by omega) (by omega)
      refine ⟨sp, ?_, s2⟩
      show (bif Nat.blt z.toNat q.1 then some q.2 else segAt t (z.toNat - q.1)) = _
      rw [bif_f (by cases hq : Nat.blt z.toNat q.1 with | false => rfl | true => have := Nat.blt_eq.mp hq; omega)]
      rw [← s1]
      congr 1
      omega
    | false =>
      rw [h1, cond_false] at h
      cases h2 : Nat.beq q.2.1 tag with
      | false => rw [h2, cond_false] at h; cases h
      | true =>
        rw [h2, cond_true] at h
        have e2 := Nat.eq_of_beq_eq_true h2
        cases h3 : leI (b + 1) (q.1 : Int) with
        | true =>
          rw [h3, cond_true] at h
          cases h
          have h3 := leI_iff.mp h3
          refine ⟨q.2, ?_, e2, Int.le_refl _, Int.le_refl _⟩
          show (bif Nat.blt z.toNat q.1 then some q.2 else segAt t (z.toNat - q.1)) = _
          rw [bif_t (Nat.blt_eq.mpr (by omega))]
        | false =>
          rw [h3, cond_false] at h
          cases h4 : hullS tag t 0 (b - q.1) with
          | none => rw [h4] at h; cases h
          | some v =>
            rw [h4] at h
            cases h
            have m1 := minI_le (a := q.2.2.1) (b := v.1)
            have m2 := le_maxI (a := q.2.2.2) (b := v.2)
            by_cases hz : z < q.1
            · refine ⟨q.2, ?_, e2, m1.1, m2.1⟩
              show (bif Nat.blt z.toNat q.1 then some q.2 else segAt t (z.toNat - q.1)) = _
              rw [bif_t (Nat.blt_eq.mpr (by omega))]
            · obtain ⟨sp, s1, s2, s3, s4⟩ := hullS_ok (z := z - q.1) h4 (by omega) (by omega) (by omega)
              refine ⟨sp, ?_, s2, Int.le_trans m1.2 s3, Int.le_trans s4 m2.2⟩
              show (bif Nat.blt z.toNat q.1 then some q.2 else segAt t (z.toNat - q.1)) = _
              rw [bif_f (by cases hq : Nat.blt z.toNat q.1 with | false => rfl | true => have := Nat.blt_eq.mp hq; omega)]
              rw [← s1]
              congr 1
              omega
theorem allIn_ok {segs : List SG} {tag : Nat} {lo hi : Int} : ∀ {js : List Int} {z : Int}, allIn segs tag lo hi js = true → z ∈ js → ∃ sp, segAt segs z.toNat = some sp ∧ sp.1 = tag ∧ sp.2.1 ≤ lo ∧ hi ≤ sp.2.2
  | [], z, _, hz => by cases hz
  | j :: t, z, h, hz => by
    unfold allIn at h
    rw [Bool.and_eq_true] at h
    rcases List.mem_cons.mp hz with e | hz
    · rw [e]
      have h := h.1
      cases h1 : segAt segs j.toNat with
      | none => rw [h1] at h; cases h
      | some sp =>
        rw [h1] at h
        dsimp only at h
        rw [Bool.and_eq_true, Bool.and_eq_true, leI_iff, leI_iff] at h
        exact ⟨sp, rfl, Nat.eq_of_beq_eq_true h.1, h.2.1, h.2.2⟩
    · exact allIn_ok h.2 hz
theorem idx_ok {z : Int} {n : Nat} (h0 : 0 ≤ z) (hn : z < n) (hm : z ≤ 2147483647) : vp_in (Int32.ofInt z) n ∧ (Int32.ofInt z).toNatClampNeg = z.toNat := by
  have e : (Int32.ofInt z).toInt = z := Int32.toInt_ofInt_of_le (by omega) (by omega)
  refine ⟨vp_in_iff.mpr ⟨by rw [e]; exact h0, by rw [e]; exact hn⟩, ?_⟩
  show (Int32.ofInt z).toInt.toNat = z.toNat
  rw [e]
noncomputable def VT (tag : Nat) (w : Int × Int) (v : Value) : Prop := (tag = 0 → ∃ y : Int, v = .int (Int32.ofInt y) ∧ w.1 ≤ y ∧ y ≤ w.2) ∧ (tag = 1 → ∃ y : Int, v = .long (Int64.ofInt y) ∧ w.1 ≤ y ∧ y ≤ w.2)
theorem VT_of {ad : Nat → Nat} {sp : Nat × Int × Int} {v : Value} {tag : Nat} {w : Int × Int} (h : okv ad sp v) (ht : sp.1 = tag) (h1 : w.1 ≤ sp.2.1) (h2 : sp.2.2 ≤ w.2) : VT tag w v := by
  obtain ⟨t, lo, hi⟩ := sp
  dsimp only at ht h1 h2
  subst ht
  constructor
  · intro e
    subst e
    obtain ⟨z, e1, e2, e3⟩ := h
    have e2 : lo ≤ z := e2
    have e3 : z ≤ hi := e3
    exact ⟨z, e1, by omega, by omega⟩
  · intro e
    subst e
    obtain ⟨z, e1, e2, e3⟩ := h
    have e2 : lo ≤ z := e2
    have e3 : z ≤ hi := e3
    exact ⟨z, e1, by omega, by omega⟩
section SNE
variable {l : Launch} {D : va_G} {tys : List (ClassId × FieldType)} {A : Nat → Prop} {k d : Nat} {post : Option Value → va_W → Prop} {ad : Nat → Nat} {G : List GC} {mods : List Nat} {w0 : va_W}
variable {σ : Nat → Int} {E : EV} {als : AL} {ast : List AV} {ov : OV} {ws : va_W} {pc : Nat} {sts : List ST}
theorem rd_at {c j : Nat} {b : Nat} {e : va_E} (h : ws[c]? = some (b, e)) : rd ws c j = rdE e j := by unfold rd; rw [h]
theorem GOK_rd {c j : Nat} {g : GC} {v : Value} (h : GOK ad tys G ws) (hg : G[c]? = some g) (hv : rd ws c j = some v) : ∃ sp, segAt g.2 j = some sp ∧ okv ad sp v := by
  obtain ⟨e, h1, -, h3⟩ := h c g hg
  rw [rd_at h1] at hv
  exact h3 j v hv
theorem load_ok {c j : Nat} {g : GC} {v : Value} (h : loadAt c j g pc E als ast ov = some sts) (hσ : inE σ E) (hH : HK ad tys G mods w0 σ ov ws) (hg : G[c]? = some g) (hv : rd ws c j = some v) (kk : KN l D tys A k d post ad G mods w0 E.length σ sts) : V l D tys A k d 0 0 post 0 0 pc (als.map (cvp ad σ)) (v :: ast.map (conc ad σ)) ws := by
  rw [loadAt_def] at h
  unfold kload0 at h
  cases h1 : ovAt c j ov with
  | some w =>
    rw [h1] at h
    cases h
    have e := hH.2.1 _ (ovAt_mem h1)
    rw [hv] at e
    rw [Option.some.inj e]
    exact one_ok kk hσ hH
  | none =>
    rw [h1] at h
    dsimp only at h
    obtain ⟨sp, hs, hk⟩ := GOK_rd hH.1 hg hv
    rw [hs] at h
    dsimp only at h
    obtain ⟨t, lo, hi⟩ := sp
    cases c0 : Nat.beq t 0 with
    | true =>
      have e0 := Nat.eq_of_beq_eq_true c0
      subst e0
      obtain ⟨z, rfl, z1, z2⟩ := hk
      have z1 : lo ≤ z := z1
      have z2 : z ≤ hi := z2
      cases c1 : eqI lo hi with
      | true =>
        have c1' := eqI_iff.mp c1
        have h : (bif eqI lo hi then some [(pc, E, als, iA (lfC lo) :: ast, ov)] else bif wfS E.length als ast ov then some [(pc, E ++ [(lo, hi)], als, iA (lfS E.length) :: ast, ((c, j), iA (lfS E.length)) :: ov)] else none) = some sts := h
        rw [c1] at h
        cases h
        have K := one_ok (ws' := ws) kk hσ hH
        have ec : conc ad σ (iA (lfC lo)) = .int (Int32.ofInt z) := by
          show Value.int (Int32.ofInt (ev σ (lfC lo))) = _
          rw [lfC_ev]
          congr 2
          omega
        rw [List.map_cons, ec] at K
        exact K
      | false =>
        have h : (bif eqI lo hi then some [(pc, E, als, iA (lfC lo) :: ast, ov)] else bif wfS E.length als ast ov then some [(pc, E ++ [(lo, hi)], als, iA (lfS E.length) :: ast, ((c, j), iA (lfS E.length)) :: ov)] else none) = some sts := h
        rw [c1, cond_false] at h
        cases hw : wfS E.length als ast ov with
        | false => rw [hw] at h; cases h
        | true =>
          rw [hw] at h
          cases h
          obtain ⟨e1, e2, e3⟩ := wfS_ok (ad := ad) hw (up_ext (σ := σ) (z := z))
          have ec : conc ad (upS σ E.length z) (iA (lfS E.length)) = .int (Int32.ofInt z) := by
            show Value.int (Int32.ofInt (ev _ (lfS _))) = _
            rw [lfS_ev, up_self]
          have K : V l D tys A k d 0 0 post 0 0 pc (als.map (cvp ad (upS σ E.length z))) (conc ad (upS σ E.length z) (iA (lfS E.length)) :: ast.map (conc ad (upS σ E.length z))) ws := kk _ (List.mem_singleton.mpr rfl) (upS σ E.length z) ws up_ext (by simp) (inE_push hσ z1 z2) ⟨hH.1, fun q hq => by
            rcases List.mem_cons.mp hq with rfl | hq
            · rw [ec]; exact hv
            · exact e3 _ hH.2.1 q hq, hH.2.2⟩
          rw [e1, e2, ec] at K
          exact K
    | false =>
      have h : (bif Nat.beq t 0 then (bif eqI lo hi then some [(pc, E, als, iA (lfC lo) :: ast, ov)] else bif wfS E.length als ast ov then some [(pc, E ++ [(lo, hi)], als, iA (lfS E.length) :: ast, ((c, j), iA (lfS E.length)) :: ov)] else none)
        else bif Nat.beq t 1 then (bif wfS E.length als ast ov then some [(pc, E ++ [(lo, hi)], als, lA (lfS E.length) :: ast, ((c, j), lA (lfS E.length)) :: ov)] else none)
        else bif Nat.beq t 2 then some [(pc, E, als, rA lo :: ast, ov)] else none) = some sts := h
      rw [c0, cond_false] at h
      cases c1 : Nat.beq t 1 with
      | true =>
        rw [c1, cond_true] at h
        have e0 := Nat.eq_of_beq_eq_true c1
        subst e0
        obtain ⟨z, rfl, z1, z2⟩ := hk
        cases hw : wfS E.length als ast ov with
        | false => rw [hw] at h; cases h
        | true =>
          rw [hw] at h
          cases h
          obtain ⟨e1, e2, e3⟩ := wfS_ok (ad := ad) hw (up_ext (σ := σ) (z := z))
          have ec : conc ad (upS σ E.length z) (lA (lfS E.length)) = .long (Int64.ofInt z) := by
            show Value.long (Int64.ofInt (ev _ (lfS _))) = _
            rw [lfS_ev, up_self]
          have K : V l D tys A k d 0 0 post 0 0 pc (als.map (cvp ad (upS σ E.length z))) (conc ad (upS σ E.length z) (lA (lfS E.length)) :: ast.map (conc ad (upS σ E.length z))) ws := kk _ (List.mem_singleton.mpr rfl) (upS σ E.length z) ws up_ext (by simp) (inE_push hσ z1 z2) ⟨hH.1, fun q hq => by
            rcases List.mem_cons.mp hq with rfl | hq
            · rw [ec]; exact hv
            · exact e3 _ hH.2.1 q hq, hH.2.2⟩
          rw [e1, e2, ec] at K
          exact K
      | false =>
        rw [c1, cond_false] at h
        cases c2 : Nat.beq t 2 with
        | false => rw [c2] at h; cases h
        | true =>
          rw [c2] at h
          cases h
          have e0 := Nat.eq_of_beq_eq_true c2
          subst e0
          have hk : v = .ref (ad lo.toNat) := hk
          rw [hk]
          exact one_ok kk hσ hH
theorem itv_ok {c j tag : Nat} {g : GC} {v : Value} {w : Int × Int} (h : itv c g ov E tag j = some w) (hσ : inE σ E) (hH : HK ad tys G mods w0 σ ov ws) (hg : G[c]? = some g) (hv : rd ws c j = some v) : VT tag w v := by
  unfold itv at h
  cases h1 : ovAt c j ov with
  | some u =>
    rw [h1] at h
    dsimp only at h
    cases h2 : Nat.beq u.1 tag with
    | false => rw [h2] at h; cases h
    | true =>
      rw [h2, cond_true] at h
      have e := hH.2.1 _ (ovAt_mem h1)
      rw [hv] at e
      have e := Option.some.inj e
      have p := iv_ok hσ h
      have t := Nat.eq_of_beq_eq_true h2
      constructor
      · intro z
        rw [z] at h2
        exact ⟨_, e.trans (conc0 h2), p.1, p.2⟩
      · intro z
        rw [z] at h2
        exact ⟨_, e.trans (conc1 h2), p.1, p.2⟩
  | none =>
    rw [h1] at h
    dsimp only at h
    obtain ⟨sp, hs, hk⟩ := GOK_rd hH.1 hg hv
    rw [hs] at h
    dsimp only at h
    cases h2 : Nat.beq sp.1 tag with
    | false => rw [h2] at h; cases h
    | true =>
      rw [h2, cond_true] at h
      have h := Option.some.inj h
      exact VT_of hk (Nat.eq_of_beq_eq_true h2) (by rw [h]; exact Int.le_refl _) (by rw [h]; exact Int.le_refl _)
theorem ivAt_ok {c tag : Nat} {g : GC} {f : LF} {u w : Int × Int} {v : Value} (h : ivAt c g ov E tag f u = some w) (hσ : inE σ E) (hH : HK ad tys G mods w0 σ ov ws) (hg : G[c]? = some g) (h1 : u.1 ≤ ev σ f) (h2 : ev σ f ≤ u.2) (h0 : 0 ≤ ev σ f) (hn : (ev σ f).toNat < g.1.2.2) (hv : rd ws c (ev σ f).toNat = some v) : VT tag w v := by
  unfold ivAt at h
  cases hf : few E f with
  | true =>
    rw [hf, cond_true] at h
    obtain ⟨w', q1, q2, q3⟩ := hull_ok h (few_mem hσ hf) h0 hn
    have T := itv_ok q1 hσ hH hg hv
    constructor
    · intro z
      obtain ⟨y, e1, e2, e3⟩ := T.1 z
      exact ⟨y, e1, by omega, by omega⟩
    · intro z
      obtain ⟨y, e1, e2, e3⟩ := T.2 z
      exact ⟨y, e1, by omega, by omega⟩
  | false =>
    rw [hf, cond_false] at h
    obtain ⟨sp, s1, s2, s3, s4⟩ := hullS_ok h h1 h2 h0
    obtain ⟨sp', t1, t2⟩ := GOK_rd hH.1 hg hv
    rw [s1] at t1
    cases t1
    exact VT_of t2 s2 s3 s4
theorem arr_ld {c x : Nat} {g : GC} {e : va_E} {z : Int} {a : Int} {y q : Nat} {lv : List (Nat × Value)} {st : List Value} (hi : mI k pc = (19, a, x, y, q)) (he : ws[c]? = some (ad c, e)) (hs : shE tys g.1 e) (hk : akind g x = true) (h0 : 0 ≤ z) (hn : z < (g.1.2.2 : Int)) (hm : z ≤ 2147483647) :
    ∃ v, rdE e z.toNat = some v ∧ (V l D tys A k d 0 0 post 0 0 (pc + 1) lv (v :: st) ws → V l D tys A k d 0 0 post 0 0 pc lv (.int (Int32.ofInt z) :: .ref (ad c) :: st) ws) := by
  obtain ⟨⟨kd, ty, n⟩, segs⟩ := g
  have hn' : z.toNat < n := by have : z < (n : Int) := hn; omega
  obtain ⟨i1, i2⟩ := idx_ok h0 hn hm
  unfold akind at hk
  match kd, ty, hk, hs with
  | 1, 0, hk, hs =>
    have ex := Nat.eq_of_beq_eq_true hk
    subst ex
    obtain ⟨cA, f, rfl, h1, h2⟩ := hs
    refine ⟨.int (f z.toNat), by show (if z.toNat < n then _ else _) = _; rw [if_pos hn'], fun K => ?_⟩
    rw [← i2] at K
    exact V_iald hi he h1 i1 K
  | 1, 1, hk, hs =>
    have ex := Nat.eq_of_beq_eq_true hk
    subst ex
    obtain ⟨cA, f, rfl, h1, h2⟩ := hs
    refine ⟨.int (f z.toNat), by show (if z.toNat < n then _ else _) = _; rw [if_pos hn'], fun K => ?_⟩
    rw [← i2] at K
    exact V_bald hi he h1 i1 K
  | 1, 2, hk, hs =>
    have ex := Nat.eq_of_beq_eq_true hk
    subst ex
    obtain ⟨cA, f, rfl, h1, h2⟩ := hs
    refine ⟨.int (f z.toNat), by show (if z.toNat < n then _ else _) = _; rw [if_pos hn'], fun K => ?_⟩
    rw [← i2] at K
    exact V_zald hi he h1 i1 K
  | 2, t, hk, hs =>
    have ex := Nat.eq_of_beq_eq_true hk
    subst ex
    obtain ⟨cA, f, rfl, h1⟩ := hs
    refine ⟨.long (f z.toNat), by show (if z.toNat < n then _ else _) = _; rw [if_pos hn'], fun K => ?_⟩
    rw [← i2] at K
    exact V_lald hi he h1 i1 K
  | 3, t, hk, hs =>
    have ex := Nat.eq_of_beq_eq_true hk
    subst ex
    obtain ⟨cA, f, rfl, h1⟩ := hs
    refine ⟨va_rf (f z.toNat), by show (if z.toNat < n then _ else _) = _; rw [if_pos hn'], fun K => ?_⟩
    rw [← i2] at K
    exact V_aald hi he h1 i1 K
  | 0, t, hk, hs => cases hk
  | 1, t + 3, hk, hs => cases hk
  | kd + 4, t, hk, hs => cases hk
theorem spl_ok {c : Nat} {g : GC} {f : LF} {v : Value} (hσ : inE σ E) (hH : HK ad tys G mods w0 σ ov ws) (hg : G[c]? = some g) (hv : rd ws c (ev σ f).toNat = some v) : ∀ {js : List Int} {sts : List ST}, spl c g f pc E als ast ov js = some sts → ev σ f ∈ js → KN l D tys A k d post ad G mods w0 E.length σ sts → V l D tys A k d 0 0 post 0 0 pc (als.map (cvp ad σ)) (v :: ast.map (conc ad σ)) ws
  | [], sts, _, hz, _ => by cases hz
  | j :: t, sts, h, hz, kk => by
    unfold spl at h
    cases h1 : spl c g f pc E als ast ov t with
    | none => rw [h1] at h; cases h
    | some r =>
      rw [h1] at h
      dsimp only at h
      by_cases ez : ev σ f = j
      · obtain ⟨E', b1, b2, b3⟩ := brT_ok hσ (x := 0) (d := lfSub f (lfC j)) (by show ev σ _ = 0; rw [lfSub_ev, lfC_ev]; omega)
        rw [b1] at h
        dsimp only at h
        obtain ⟨sp, hs, hk⟩ := GOK_rd hH.1 hg hv
        rw [ez] at hs
        rw [hs] at h
        dsimp only at h
        cases h2 : Nat.beq sp.1 2 with
        | false => rw [h2] at h; cases h
        | true =>
          rw [h2] at h
          cases h
          have e2 := Nat.eq_of_beq_eq_true h2
          unfold okv at hk
          rw [e2] at hk
          have hk : v = .ref (ad sp.2.1.toNat) := hk
          rw [hk]
          exact kk _ List.mem_cons_self σ ws ext_rf (Nat.le_of_eq b3.symm) b2 hH
      · have hz : ev σ f ∈ t := (List.mem_cons.mp hz).resolve_left ez
        refine spl_ok hσ hH hg hv h1 hz ?_
        cases h2 : brT E 0 (lfSub f (lfC j)) with
        | none => rw [h2] at h; cases h; exact kk
        | some E' =>
          rw [h2] at h
          dsimp only at h
          cases h3 : segAt g.2 j.toNat with
          | none => rw [h3] at h; cases h
          | some sp =>
            rw [h3] at h
            dsimp only at h
            cases h4 : Nat.beq sp.1 2 with
            | false => rw [h4] at h; cases h
            | true =>
              rw [h4] at h
              cases h
              exact fun s hs => kk s (List.mem_cons_of_mem _ hs)
theorem aload_ok {a : Int} {x y q : Nat} (hi : mI k pc = (19, a, x, y, q)) (h : aload x (pc + 1) E als ast ov G = some sts) (hσ : inE σ E) (hH : HK ad tys G mods w0 σ ov ws) (kk : KN l D tys A k d post ad G mods w0 E.length σ sts) : V l D tys A k d 0 0 post 0 0 pc (als.map (cvp ad σ)) (ast.map (conc ad σ)) ws := by
  unfold aload at h
  match ast, h with
  | [], h => cases h
  | [_], h => cases h
  | i :: r :: t, h =>
    dsimp only at h
    cases h1 : (Nat.beq i.1 0 && Nat.beq r.1 2) with
    | false => rw [h1] at h; cases h
    | true =>
      rw [h1, cond_true] at h
      rw [Bool.and_eq_true] at h1
      cases h2 : G[r.2.1.1.toNat]? with
      | none => rw [h2] at h; cases h
      | some g =>
        cases h3 : iv E i.2.1 with
        | none => rw [h2, h3] at h; cases h
        | some u =>
          rw [h2, h3] at h
          dsimp only at h
          cases h4 : (akind g x && (leI 0 u.1 && leI (u.2 + 1) (g.1.2.2 : Int)) && inI u) with
          | false => rw [h4] at h; cases h
          | true =>
            rw [h4, cond_true] at h
            rw [Bool.and_eq_true, Bool.and_eq_true, Bool.and_eq_true, leI_iff, leI_iff] at h4
            obtain ⟨⟨k1, k2, k3⟩, k4⟩ := h4
            have k4 := inI_of k4
            have p := iv_ok hσ h3
            obtain ⟨e, g1, g2, g3⟩ := hH.1 _ g h2
            obtain ⟨v, v1, v2⟩ := arr_ld (l := l) (D := D) (tys := tys) (A := A) (d := d) (post := post) (ad := ad) (lv := als.map (cvp ad σ)) (st := t.map (conc ad σ)) (z := ev σ i.2.1) hi g1 g2 k1 (by omega) (by omega) (by omega)
            rw [List.map_cons, List.map_cons, conc0 h1.1, conc2 h1.2]
            refine v2 ?_
            have hv : rd ws r.2.1.1.toNat (ev σ i.2.1).toNat = some v := by rw [rd_at g1]; exact v1
            cases h5 : eqI u.1 u.2 with
            | true =>
              rw [h5, cond_true] at h
              have h5 := eqI_iff.mp h5
              have ez : u.1 = ev σ i.2.1 := by omega
              rw [ez] at h
              exact load_ok h hσ hH h2 hv kk
            | false =>
              rw [h5, cond_false] at h
              cases h6 : Nat.beq x 3 with
              | true =>
                rw [h6, cond_true] at h
                exact spl_ok hσ hH h2 hv h (rng_mem p.1 (by omega)) kk
              | false =>
                rw [h6, cond_false] at h
                cases h7 : Nat.beq x 2 with
                | true =>
                  rw [h7, cond_true] at h
                  cases h8 : ivAt r.2.1.1.toNat g ov E 1 i.2.1 u with
                  | none => rw [h8] at h; cases h
                  | some w =>
                    rw [h8] at h
                    obtain ⟨z, rfl, z1, z2⟩ := (ivAt_ok h8 hσ hH h2 p.1 p.2 (by omega) (by omega) hv).2 rfl
                    exact pushL_ok h hσ hH ⟨z, rfl, z1, z2⟩ kk
                | false =>
                  rw [h7, cond_false] at h
                  cases h8 : ivAt r.2.1.1.toNat g ov E 0 i.2.1 u with
                  | none => rw [h8] at h; cases h
                  | some w =>
                    rw [h8] at h
                    dsimp only at h
                    obtain ⟨z, rfl, z1, z2⟩ := (ivAt_ok h8 hσ hH h2 p.1 p.2 (by omega) (by omega) hv).1 rfl
                    cases h9 : eqI w.1 w.2 with
                    | true =>
                      rw [h9, cond_true] at h
                      have h9 := eqI_iff.mp h9
                      exact pushR_ok h hσ hH (by show _ = Int32.ofInt (ev σ (lfC w.1)); rw [lfC_ev]; congr 1; omega) kk
                    | false =>
                      rw [h9, cond_false] at h
                      exact pushR_ok h hσ hH ⟨z, rfl, z1, z2⟩ kk
end SNE
end
section
section SNF
variable {l : Launch} {D : va_G} {tys : List (ClassId × FieldType)} {A : Nat → Prop} {k d : Nat} {post : Option Value → va_W → Prop} {ad : Nat → Nat} {G : List GC} {mods : List Nat} {w0 : va_W}
variable {σ : Nat → Int} {E : EV} {als : AL} {ast : List AV} {ov : OV} {ws : va_W} {pc : Nat} {sts : List ST}
theorem stOK_ok {v : AV} {sp : Nat × Int × Int} (h : stOK E v sp = true) (hσ : inE σ E) : okv ad sp (conc ad σ v) ∧ Nat.beq v.1 sp.1 = true ∧ sp.1 ≤ 1 ∧ sp.2.1 ≤ ev σ v.2.1 ∧ ev σ v.2.1 ≤ sp.2.2 := by
  unfold stOK at h
  cases h1 : iv E v.2.1 with
  | none => rw [h1] at h; cases h
  | some u =>
    rw [h1] at h
    dsimp only at h
    rw [Bool.and_eq_true, Bool.and_eq_true, Bool.and_eq_true, leI_iff, leI_iff] at h
    obtain ⟨a1, a2, a3, a4⟩ := h
    have p := iv_ok hσ h1
    have q := Nat.le_of_ble_eq_true a2
    refine ⟨?_, a1, q, by omega, by omega⟩
    obtain ⟨t, lo, hi⟩ := sp
    dsimp only at a1 a3 a4 q
    have e := Nat.eq_of_beq_eq_true a1
    rcases t with _ | _ | t
    · exact ⟨_, conc0 a1, by show lo ≤ _; omega, by show _ ≤ hi; omega⟩
    · exact ⟨_, conc1 a1, by show lo ≤ _; omega, by show _ ≤ hi; omega⟩
    · omega
theorem bool_nar {z : Int} (h0 : 0 ≤ z) (h1 : z ≤ 1) : Int32.ofInt z &&& 1 = Int32.ofInt z ∧ fits .boolean (.int (Int32.ofInt z)) = true := by
  have : z = 0 ∨ z = 1 := by omega
  rcases this with rfl | rfl
  · exact ⟨by decide, by decide⟩
  · exact ⟨by decide, by decide⟩
theorem tyOK_ok {v : AV} {ty : FieldType} {sp : Nat × Int × Int} (h : tyOK ty sp = true) (hv : Nat.beq v.1 sp.1 = true) (h1 : sp.2.1 ≤ ev σ v.2.1) (h2 : ev σ v.2.1 ≤ sp.2.2) : narrow ty (conc ad σ v) = conc ad σ v ∧ fits ty (conc ad σ v) = true := by
  unfold tyOK at h
  have e := Nat.eq_of_beq_eq_true hv
  match ty, h with
  | .int, h =>
    have e2 := Nat.eq_of_beq_eq_true h
    rw [e2] at hv
    rw [conc0 hv]
    exact ⟨rfl, rfl⟩
  | .boolean, h =>
    have h : (Nat.beq sp.1 0 && (leI 0 sp.2.1 && leI sp.2.2 1)) = true := h
    rw [Bool.and_eq_true, Bool.and_eq_true, leI_iff, leI_iff] at h
    have e2 := Nat.eq_of_beq_eq_true h.1
    rw [e2] at hv
    rw [conc0 hv]
    have b := bool_nar (z := ev σ v.2.1) (by omega) (by omega)
    exact ⟨by show Value.int (_ &&& 1) = _; rw [b.1], b.2⟩
  | .long, h =>
    have e2 := Nat.eq_of_beq_eq_true h
    rw [e2] at hv
    rw [conc1 hv]
    exact ⟨rfl, rfl⟩
  | .byte, h => cases h
  | .char, h => cases h
  | .short, h => cases h
  | .float, h => cases h
  | .double, h => cases h
  | .object _, h => cases h
  | .array _, h => cases h
theorem getf_ok {a : Int} {x y z : Nat} {r : AV} {t : List AV} {g : GC} (hi : mI k pc = (17, a, x, y, z)) (hr : Nat.beq r.1 2 = true) (hg : G[r.2.1.1.toNat]? = some g) (hb : (Nat.beq g.1.1 0 && Nat.beq g.1.2.1 y && Nat.blt z g.1.2.2) = true) (h : loadAt r.2.1.1.toNat z g (pc + 3) E als t ov = some sts) (hσ : inE σ E) (hH : HK ad tys G mods w0 σ ov ws) (kk : KN l D tys A k d post ad G mods w0 E.length σ sts) : V l D tys A k d 0 0 post 0 0 pc (als.map (cvp ad σ)) ((r :: t).map (conc ad σ)) ws := by
  rw [Bool.and_eq_true, Bool.and_eq_true] at hb
  obtain ⟨⟨b1, b2⟩, b3⟩ := hb
  replace b1 := Nat.eq_of_beq_eq_true b1
  replace b2 := Nat.eq_of_beq_eq_true b2
  replace b3 := Nat.blt_eq.mp b3
  obtain ⟨e, g1, g2, g3⟩ := hH.1 _ g hg
  obtain ⟨⟨kd, ty, n⟩, segs⟩ := g
  dsimp only at b1 b2 b3
  subst b1; subst b2
  obtain ⟨fs, rfl, hl⟩ := g2
  rw [List.map_cons, conc2 hr]
  have hv : fs[z]? = some fs[z] := List.getElem?_eq_getElem (by omega)
  refine V_get hi g1 hv ?_
  exact load_ok h hσ hH hg (by rw [rd_at g1]; exact hv) kk
theorem putf_ok {a : Int} {x y z : Nat} {v r : AV} {t : List AV} {g : GC} {sp : Nat × Int × Int} (hi : mI k pc = (18, a, x, y, z)) (hr : Nat.beq r.1 2 = true) (hg : G[r.2.1.1.toNat]? = some g) (hb : (Nat.beq g.1.1 0 && Nat.beq g.1.2.1 y && Nat.blt z g.1.2.2 && memN r.2.1.1.toNat mods && nfin y z && !(Nat.beq r.2.1.1.toNat mnC && spJ z)) = true) (hs : segAt g.2 z = some sp) (ho : (stOK E v sp && tyOK (clTy y z) sp) = true) (hσ : inE σ E) (hH : HK ad tys G mods w0 σ ov ws) (kk : KN l D tys A k d post ad G mods w0 E.length σ [(pc + 3, E, als, t, ((r.2.1.1.toNat, z), v) :: ovDel r.2.1.1.toNat z ov)]) : V l D tys A k d 0 0 post 0 0 pc (als.map (cvp ad σ)) ((v :: r :: t).map (conc ad σ)) ws := by
  rw [Bool.and_eq_true, Bool.and_eq_true, Bool.and_eq_true, Bool.and_eq_true, Bool.and_eq_true] at hb
  obtain ⟨⟨⟨⟨⟨b1, b2⟩, b3⟩, b4⟩, b5⟩, b6⟩ := hb
  have b6 : ¬ (r.2.1.1.toNat = mnC ∧ spJ z = true) := fun q => by rw [q.1, q.2, Nat.beq_refl] at b6; exact absurd b6 (by decide)
  replace b1 := Nat.eq_of_beq_eq_true b1
  replace b2 := Nat.eq_of_beq_eq_true b2
  replace b3 := Nat.blt_eq.mp b3
  have b4 := memN_in b4
  rw [Bool.and_eq_true] at ho
  obtain ⟨o1, o2, o3, o4, o5⟩ := stOK_ok (ad := ad) ho.1 hσ
  obtain ⟨n1, n2⟩ := tyOK_ok (ad := ad) (v := v) ho.2 o2 o4 o5
  obtain ⟨e, g1, g2, g3⟩ := hH.1 _ g hg
  obtain ⟨⟨kd, ty, n⟩, segs⟩ := g
  dsimp only at b1 b2 b3
  subst b1; subst b2
  obtain ⟨fs, rfl, hl⟩ := g2
  rw [List.map_cons, List.map_cons, conc2 hr]
  refine V_put hi g1 (by omega) (fun C T N hc => ?_) n1 n2 ?_
  · unfold nfin at b5
    rw [hc] at b5
    simpa using b5
  · obtain ⟨u1, u2⟩ := GOK_upd (e' := .inr (ty, fs.set z (conc ad σ v))) hH.1 hg g1 ⟨_, rfl, by rw [List.length_set]; exact hl⟩ (rdE_obj (by omega) _) hs o1
    exact one_ok kk hσ ⟨u1, OV_put hH.2.1 u2, FRm_upd hH.2.2 u2 b4 b6⟩
theorem byte_fit {z : Int} (h0 : -128 ≤ z) (h1 : z ≤ 127) : vp_nar .byte (Int32.ofInt z) = Int32.ofInt z := by
  rw [vp_nar_byte]
  have e : (Int32.ofInt z).toInt = z := Int32.toInt_ofInt_of_le (by omega) (by omega)
  apply Int32.toInt_inj.mp
  rw [Int8.toInt_toInt32, Int32.toInt_toInt8, e]
  exact Int.bmod_eq_of_le (by omega) (by omega)
theorem byte_any (v : Int32) : ∃ z : Int, vp_nar .byte v = Int32.ofInt z ∧ -128 ≤ z ∧ z ≤ 127 := by
  rw [vp_nar_byte]
  generalize v.toInt8 = b
  refine ⟨b.toInt, ?_, ?_, ?_⟩
  · apply Int32.toInt_inj.mp
    rw [Int8.toInt_toInt32, Int32.toInt_ofInt_of_le (by have := b.le_toInt; omega) (by have := b.toInt_lt; omega)]
  · have := b.le_toInt; omega
  · have := b.toInt_lt; omega
theorem arr_st {c x : Nat} {g : GC} {e : va_E} {z : Int} {a : Int} {y q : Nat} {lv : List (Nat × Value)} {st : List Value} {v : AV} {w : Int × Int × Bool} (hi : mI k pc = (20, a, x, y, q)) (he : ws[c]? = some (ad c, e)) (hs : shE tys g.1 e) (hk : akind g x = true) (h3 : Nat.beq x 3 = false) (hvt : Nat.beq v.1 (bif Nat.beq x 2 then 1 else 0) = true) (hc : cutB E g v = some w) (hσ : inE σ E) (h0 : 0 ≤ z) (hn : z < (g.1.2.2 : Int)) (hm : z ≤ 2147483647) :
    ∃ (e' : va_E) (v' : Value), shE tys g.1 e' ∧ (∀ j', rdE e' j' = if j' = z.toNat then some v' else rdE e j') ∧ (∀ sp : Nat × Int × Int, sp.1 = v.1 → sp.2.1 ≤ w.1 → w.2.1 ≤ sp.2.2 → okv ad sp v') ∧ (w.2.2 = true → v' = conc ad σ v) ∧ (V l D tys A k d 0 0 post 0 0 (pc + 1) lv st (ws.set c (ad c, e')) → V l D tys A k d 0 0 post 0 0 pc lv (conc ad σ v :: .int (Int32.ofInt z) :: .ref (ad c) :: st) ws) := by
  obtain ⟨⟨kd, ty, n⟩, segs⟩ := g
  have hn' : z.toNat < n := by have : z < (n : Int) := hn; omega
  obtain ⟨i1, i2⟩ := idx_ok h0 hn hm
  unfold akind at hk
  unfold cutB at hc
  cases hiv : iv E v.2.1 with
  | none => rw [hiv] at hc; cases hc
  | some u =>
    rw [hiv] at hc
    have p := iv_ok hσ hiv
    match kd, ty, hk, hs, hc with
    | 1, 0, hk, hs, hc =>
      have ex := Nat.eq_of_beq_eq_true hk
      subst ex
      have hvt : Nat.beq v.1 0 = true := hvt
      have ev0 := Nat.eq_of_beq_eq_true hvt
      have hc : some (u.1, u.2, true) = some w := hc
      cases hc
      obtain ⟨cA, f, rfl, q1, q2⟩ := hs
      refine ⟨.inl (cA, n, .inl (upd f z.toNat (Int32.ofInt (ev σ v.2.1)))), .int (Int32.ofInt (ev σ v.2.1)), ⟨cA, _, rfl, q1, q2⟩, rdE_int f hn' _, fun sp s1 s2 s3 => ?_, fun _ => (conc0 hvt).symm, fun K => ?_⟩
      · obtain ⟨t, lo, hi⟩ := sp
        have s1 : t = 0 := s1.trans ev0
        subst s1
        exact ⟨_, rfl, Int.le_trans s2 p.1, Int.le_trans p.2 s3⟩
      · rw [conc0 hvt]
        rw [← i2] at K
        exact V_iast hi he q1 i1 K
    | 1, 1, hk, hs, hc =>
      have ex := Nat.eq_of_beq_eq_true hk
      subst ex
      have hvt : Nat.beq v.1 0 = true := hvt
      have ev0 := Nat.eq_of_beq_eq_true hvt
      obtain ⟨cA, f, rfl, q1, q2⟩ := hs
      refine ⟨.inl (cA, n, .inl (upd f z.toNat (vp_nar .byte (Int32.ofInt (ev σ v.2.1))))), .int (vp_nar .byte (Int32.ofInt (ev σ v.2.1))), ⟨cA, _, rfl, q1, q2⟩, rdE_int f hn' _, fun sp s1 s2 s3 => ?_, fun hw => ?_, fun K => ?_⟩
      · obtain ⟨t, lo, hi⟩ := sp
        have s1 : t = 0 := s1.trans ev0
        subst s1
        have hc : (bif leI (-128) u.1 && leI u.2 127 then some (u.1, u.2, true) else some (-128, 127, false)) = some w := hc
        cases hb : (leI (-128) u.1 && leI u.2 127) with
        | true =>
          rw [hb] at hc
          cases hc
          rw [Bool.and_eq_true, leI_iff, leI_iff] at hb
          rw [byte_fit (by omega) (by omega)]
          exact ⟨_, rfl, Int.le_trans s2 p.1, Int.le_trans p.2 s3⟩
        | false =>
          rw [hb] at hc
          cases hc
          obtain ⟨z', z1, z2, z3⟩ := byte_any (Int32.ofInt (ev σ v.2.1))
          rw [z1]
          exact ⟨_, rfl, Int.le_trans s2 z2, Int.le_trans z3 s3⟩
      · have hc : (bif leI (-128) u.1 && leI u.2 127 then some (u.1, u.2, true) else some (-128, 127, false)) = some w := hc
        cases hb : (leI (-128) u.1 && leI u.2 127) with
        | true =>
          rw [Bool.and_eq_true, leI_iff, leI_iff] at hb
          rw [byte_fit (by omega) (by omega), conc0 hvt]
        | false =>
          rw [hb] at hc
          cases hc
          cases hw
      · rw [conc0 hvt]
        rw [← i2] at K
        exact V_bast hi he q1 i1 K
    | 1, 2, hk, hs, hc =>
      have ex := Nat.eq_of_beq_eq_true hk
      subst ex
      have hvt : Nat.beq v.1 0 = true := hvt
      have ev0 := Nat.eq_of_beq_eq_true hvt
      obtain ⟨cA, f, rfl, q1, q2⟩ := hs
      have hc : (bif leI 0 u.1 && leI u.2 1 then some (u.1, u.2, true) else none) = some w := hc
      cases hb : (leI 0 u.1 && leI u.2 1) with
      | false => rw [hb] at hc; cases hc
      | true =>
        rw [hb] at hc
        cases hc
        rw [Bool.and_eq_true, leI_iff, leI_iff] at hb
        have bn : vp_nar .boolean (Int32.ofInt (ev σ v.2.1)) = Int32.ofInt (ev σ v.2.1) := (bool_nar (by omega) (by omega)).1
        refine ⟨.inl (cA, n, .inl (upd f z.toNat (vp_nar .boolean (Int32.ofInt (ev σ v.2.1))))), .int (vp_nar .boolean (Int32.ofInt (ev σ v.2.1))), ⟨cA, _, rfl, q1, q2⟩, rdE_int f hn' _, fun sp s1 s2 s3 => ?_, fun hw => by rw [bn, conc0 hvt], fun K => ?_⟩
        · obtain ⟨t, lo, hi⟩ := sp
          have s1 : t = 0 := s1.trans ev0
          subst s1
          rw [bn]
          exact ⟨_, rfl, Int.le_trans s2 p.1, Int.le_trans p.2 s3⟩
        · rw [conc0 hvt]
          rw [← i2] at K
          exact V_zast hi he q1 i1 K
    | 2, ty, hk, hs, hc =>
      have ex := Nat.eq_of_beq_eq_true hk
      subst ex
      have hvt : Nat.beq v.1 1 = true := hvt
      have ev0 := Nat.eq_of_beq_eq_true hvt
      have hc : some (u.1, u.2, true) = some w := hc
      cases hc
      obtain ⟨cA, f, rfl, q1⟩ := hs
      refine ⟨.inl (cA, n, .inr (.inl (vp_updL f z.toNat (Int64.ofInt (ev σ v.2.1))))), .long (Int64.ofInt (ev σ v.2.1)), ⟨cA, _, rfl, q1⟩, rdE_long f hn' _, fun sp s1 s2 s3 => ?_, fun _ => (conc1 hvt).symm, fun K => ?_⟩
      · obtain ⟨t, lo, hi⟩ := sp
        have s1 : t = 1 := s1.trans ev0
        subst s1
        exact ⟨_, rfl, Int.le_trans s2 p.1, Int.le_trans p.2 s3⟩
      · rw [conc1 hvt]
        rw [← i2] at K
        exact V_last hi he q1 i1 K
    | 3, t, hk, hs, hc =>
      have ex := Nat.eq_of_beq_eq_true hk
      subst ex
      cases h3
    | 0, t, hk, hs, hc => cases hk
    | 1, t + 3, hk, hs, hc => cases hk
    | kd + 4, t, hk, hs, hc => cases hk
theorem astore_ok {a : Int} {x y q : Nat} (hi : mI k pc = (20, a, x, y, q)) (h : astore x (pc + 1) E als ast ov G mods = some sts) (hσ : inE σ E) (hH : HK ad tys G mods w0 σ ov ws) (kk : KN l D tys A k d post ad G mods w0 E.length σ sts) : V l D tys A k d 0 0 post 0 0 pc (als.map (cvp ad σ)) (ast.map (conc ad σ)) ws := by
  unfold astore at h
  match ast, h with
  | [], h => cases h
  | [_], h => cases h
  | [_, _], h => cases h
  | v :: i :: r :: t, h =>
    dsimp only at h
    cases h1 : (Nat.beq i.1 0 && Nat.beq r.1 2) with
    | false => rw [h1] at h; cases h
    | true =>
      rw [h1, cond_true] at h
      rw [Bool.and_eq_true] at h1
      cases h2 : G[r.2.1.1.toNat]? with
      | none => rw [h2] at h; cases h
      | some g =>
        cases h3 : iv E i.2.1 with
        | none => rw [h2, h3] at h; cases h
        | some u =>
          rw [h2, h3] at h
          dsimp only at h
          cases h4 : (akind g x && (leI 0 u.1 && leI (u.2 + 1) (g.1.2.2 : Int)) && inI u && memN r.2.1.1.toNat mods && Nat.beq v.1 (bif Nat.beq x 2 then 1 else 0) && !(Nat.beq x 3) && !(Nat.beq r.2.1.1.toNat mnC)) with
          | false => rw [h4] at h; cases h
          | true =>
            rw [h4, cond_true] at h
            simp only [Bool.and_eq_true, leI_iff, Bool.not_eq_true'] at h4
            obtain ⟨⟨⟨⟨⟨⟨k1, k2, k3⟩, k4⟩, k5⟩, k6⟩, k7⟩, k8⟩ := h4
            have k8 : ¬ r.2.1.1.toNat = mnC := fun q => by rw [q, Nat.beq_refl] at k8; exact absurd k8 (by decide)
            have k4 := inI_of k4
            have k5 := memN_in k5
            have p := iv_ok hσ h3
            cases h5 : cutB E g v with
            | none => rw [h5] at h; cases h
            | some w =>
              rw [h5] at h
              dsimp only at h
              obtain ⟨e, g1, g2, g3⟩ := hH.1 _ g h2
              obtain ⟨e', v', s1, s2, s3, s4, s5⟩ := arr_st (l := l) (D := D) (tys := tys) (A := A) (d := d) (post := post) (ad := ad) (lv := als.map (cvp ad σ)) (st := t.map (conc ad σ)) (z := ev σ i.2.1) hi g1 g2 k1 k7 k6 h5 hσ (by omega) (by omega) (by omega)
              rw [List.map_cons, List.map_cons, List.map_cons, conc0 h1.1, conc2 h1.2]
              refine s5 ?_
              cases h6 : eqI u.1 u.2 with
              | true =>
                rw [h6, cond_true] at h
                have h6 := eqI_iff.mp h6
                have ez : u.1 = ev σ i.2.1 := by omega
                rw [ez] at h
                cases h7 : segAt g.2 (ev σ i.2.1).toNat with
                | none => rw [h7] at h; cases h
                | some sp =>
                  rw [h7] at h
                  dsimp only at h
                  cases h8 : (Nat.beq sp.1 v.1 && (leI sp.2.1 w.1 && leI w.2.1 sp.2.2)) with
                  | false => rw [h8] at h; cases h
                  | true =>
                    rw [h8, cond_true] at h
                    rw [Bool.and_eq_true, Bool.and_eq_true, leI_iff, leI_iff] at h8
                    obtain ⟨u1, u2⟩ := GOK_upd hH.1 h2 g1 s1 s2 h7 (s3 sp (Nat.eq_of_beq_eq_true h8.1) h8.2.1 h8.2.2)
                    have fr := FRm_upd hH.2.2 u2 k5 (fun q => k8 q.1)
                    cases h10 : w.2.2 with
                    | true =>
                      rw [h10, cond_true] at h
                      cases h
                      rw [s4 h10] at u2
                      exact one_ok kk hσ ⟨u1, OV_put hH.2.1 u2, fr⟩
                    | false =>
                      rw [h10, cond_false] at h
                      cases h
                      exact one_ok kk hσ ⟨u1, OV_del hH.2.1 u2, fr⟩
              | false =>
                rw [h6, cond_false] at h
                cases h7 : allIn g.2 v.1 w.1 w.2.1 (plc E i.2.1 u) with
                | false => rw [h7] at h; cases h
                | true =>
                  rw [h7] at h
                  cases h
                  obtain ⟨sp, t1, t2, t3, t4⟩ := allIn_ok h7 (plc_mem hσ p.1 p.2)
                  obtain ⟨u1, u2⟩ := GOK_upd hH.1 h2 g1 s1 s2 t1 (s3 sp t2 t3 t4)
                  exact one_ok kk hσ ⟨u1, OV_delR hH.2.1 u2 (by omega) (by omega), FRm_upd hH.2.2 u2 k5 (fun q => k8 q.1)⟩
theorem swA_ok {d0 : Nat} {f : LF} (hσ : inE σ E) (hH : HK ad tys G mods w0 σ ov ws) : ∀ {ts : List Nat} {n : Int}, KN l D tys A k d post ad G mods w0 E.length σ (swA d0 f E als ast ov n ts) → n ≤ ev σ f → V l D tys A k d 0 0 post 0 0 (if n + ts.length ≤ ev σ f then d0 else ts.getD (ev σ f - n).toNat d0) (als.map (cvp ad σ)) (ast.map (conc ad σ)) ws
  | [], n, kk, h => by
    rw [if_pos (by simpa using h)]
    exact br1_ok (x := 3) hσ hH (by show 0 ≤ ev σ _; rw [lfSub_ev, lfC_ev]; omega) kk
  | t :: r, n, kk, h => by
    unfold swA at kk
    obtain ⟨k1, k2⟩ := KN_app kk
    by_cases e : ev σ f = n
    · rw [if_neg (by simp; omega), e, Int.sub_self]
      exact br1_ok (x := 0) hσ hH (by show ev σ _ = 0; rw [lfSub_ev, lfC_ev]; omega) k1
    · have K := swA_ok hσ hH k2 (by omega)
      have e1 : (n + 1 + (r.length : Int) ≤ ev σ f) ↔ (n + ((t :: r).length : Int) ≤ ev σ f) := by simp; omega
      have e2 : (t :: r).getD (ev σ f - n).toNat d0 = r.getD (ev σ f - (n + 1)).toNat d0 := by
        rw [show (ev σ f - n).toNat = (ev σ f - (n + 1)).toNat + 1 by omega]
        simp
      rw [e2]
      simp only [e1] at K
      exact K
theorem sw_ok {x y z : Nat} {a : Int} {op : Nat} {v : AV} {t : List AV} {f : LF} (hop : op = 28 ∨ op = 36) (hi : mI k pc = (op, a, x, y, z)) (hc : cmpQ E v = some f) (hv : Nat.beq v.1 0 = true) (hσ : inE σ E) (hH : HK ad tys G mods w0 σ ov ws) (kk : ∀ d0 lo ts, mSw k pc = (d0, lo, ts) → KN l D tys A k d post ad G mods w0 E.length σ (br1 (brT E 2 (lfSub f (lfC lo))) d0 als t ov ++ swA d0 f E als t ov lo ts)) : V l D tys A k d 0 0 post 0 0 pc (als.map (cvp ad σ)) ((v :: t).map (conc ad σ)) ws := by
  have key : ∃ z : Int, conc ad σ v = .int (Int32.ofInt z) ∧ (Int32.ofInt z).toInt = ev σ f := by
    unfold cmpQ at hc
    have e0 := Nat.eq_of_beq_eq_true hv
    obtain ⟨tg, p, q⟩ := v
    dsimp only at e0
    subst e0
    dsimp only at hc
    cases h1 : iv E p with
    | none => rw [h1] at hc; cases hc
    | some u =>
      rw [h1] at hc
      dsimp only at hc
      cases h2 : inI u with
      | false => rw [h2] at hc; cases hc
      | true =>
        rw [h2] at hc
        have hc : p = f := Option.some.inj hc
        subst hc
        have a1 := iv_ok hσ h1
        have a2 := inI_of h2
        exact ⟨ev σ p, rfl, Int32.toInt_ofInt_of_le (by omega) (by omega)⟩
  obtain ⟨z', e1, e2⟩ := key
  rw [List.map_cons, e1]
  have goalK : V l D tys A k d 0 0 post 0 0 (swT k pc (Int32.ofInt z').toInt) (als.map (cvp ad σ)) (t.map (conc ad σ)) ws := by
    rw [e2]
    unfold swT
    cases hsw : mSw k pc with
    | mk d0 q =>
      obtain ⟨lo, ts⟩ := q
      obtain ⟨k1, k2⟩ := KN_app (kk d0 lo ts hsw)
      dsimp only
      by_cases hlo : ev σ f < lo
      · rw [if_pos (Or.inl hlo)]
        exact br1_ok (x := 2) hσ hH (by show ev σ _ < 0; rw [lfSub_ev, lfC_ev]; omega) k1
      · have K := swA_ok hσ hH k2 (by omega)
        have e3 : (ev σ f < lo ∨ lo + (ts.length : Int) ≤ ev σ f) ↔ (lo + (ts.length : Int) ≤ ev σ f) := ⟨fun h => h.resolve_left hlo, Or.inr⟩
        simp only [e3]
        exact K
  rcases hop with rfl | rfl
  · exact V_sw hi goalK
  · exact V_swl hi goalK
end SNF
end
