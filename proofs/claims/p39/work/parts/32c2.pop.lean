section LAWP
variable {p : Program} {l : Launch} {e : Env} {R : Room} {s : State} {m : MethodId} {args : Array Value} {below : List Frame} {meth : Method} {c : Code} {Q : State → Prop} {D : va_G} {tys : List (ClassId × FieldType)} {A : Nat → Prop}
variable {cells slots pc : Nat} {lv : List (Nat × Value)} {st : List Value} {ws : va_W} {ad : Nat → Nat}
theorem L_popI {v : Int32} (F : LFix D tys A p R s m args c) (hd : decode code pc = .ok (.pop, 1)) (kk : LV p l e R s m args below meth c Q D A cells slots (pc + 1) lv st ws) : LV p l e R s m args below meth c Q D A cells slots pc lv (.int v :: st) ws := by
  intro H locs ls hl hH
  exact lv_pop F.1 F.2.1 hd rfl (kk H locs ls hl hH)
end LAWP
