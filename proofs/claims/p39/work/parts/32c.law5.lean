noncomputable def UPo (ad : Nat → Nat) (tys : List (ClassId × FieldType)) (t : Nat) : Option Value → va_W → Prop := fun r w => GOK ad tys GG w ∧ ((t = 0 ∧ ∃ v : Int32, r = some (.int v)) ∨ (t = 1 ∧ ∃ v : Int64, r = some (.long v)))
section LAW5
variable {p : Program} {l : Launch} {e : Env} {R : Room} {s : State} {m : MethodId} {args : Array Value} {below : List Frame} {meth : Method} {c : Code} {Q : State → Prop} {D : va_G} {tys : List (ClassId × FieldType)} {A : Nat → Prop}
variable {cells slots pc : Nat} {lv : List (Nat × Value)} {st : List Value} {ws : va_W} {ad : Nat → Nat}
theorem L_uc {x y q0 ci nf : Nat} {segs : List SG} {As : List Value} {w : Int} {b : Nat} {P : Option Value → va_W → Prop} (F : LFix D tys A p R s m args c) (hu : ∃ d', d' < 11 ∧ CT l D tys A y d' 0 0 (.ref b :: As) ws P) (hy : y < 352) (hkd : mKind y = 0) (hw : wAt w (Cond.methodLink "HalvedNamesLaw" x (mY y)) = true) (hdc : decode code pc = .ok (.invokevirtual x, 3)) (hn : As.length = mN y) (hg : GG[q0]? = some ((0, ci, nf), segs)) (hb : ad q0 = b) (hcl : ∃ T N, vwCl[ci]? = some ((mY y).cls, T, N)) (hst : st.length ≤ 4) (hm : cells ≤ R.cells ∧ slots ≤ R.slots) (hG : GOK ad tys GG ws)
    (kk : ∀ (r : Option Value) (ws' : va_W), P r ws' → LV p l e R s m args below meth c Q D A cells slots (pc + 3) lv (r.toList ++ st) ws') : LV p l e R s m args below meth c Q D A cells slots pc lv (As.reverse ++ .ref b :: st) ws := by
  obtain ⟨d', h1, h2⟩ := hu
  obtain ⟨e0, g1, ⟨fs, rfl, -⟩, -⟩ := hG q0 _ hg
  obtain ⟨T, N, hc⟩ := hcl
  rw [hb] at g1
  have hcs := cat_sum st
  exact L_virt F hy hkd hw hdc h2 h1 hn g1 hc (by omega) hm kk
theorem L_pop0 {r : Option Value} (F : LFix D tys A p R s m args c) (hd : decode code pc = .ok (.pop, 1)) (z : UPo ad tys 0 r ws) (kk : LV p l e R s m args below meth c Q D A cells slots (pc + 1) lv st ws) : LV p l e R s m args below meth c Q D A cells slots pc lv (r.toList ++ st) ws := by
  rcases z.2 with ⟨-, v, rfl⟩ | ⟨h, -⟩
  · intro H locs ls hl hH
    exact lv_pop F.1 F.2.1 hd rfl (kk H locs ls hl hH)
  · cases h
theorem L_pop1 {r : Option Value} (F : LFix D tys A p R s m args c) (hd : decode code pc = .ok (.pop2, 1)) (z : UPo ad tys 1 r ws) (kk : LV p l e R s m args below meth c Q D A cells slots (pc + 1) lv st ws) : LV p l e R s m args below meth c Q D A cells slots pc lv (r.toList ++ st) ws := by
  rcases z.2 with ⟨h, -⟩ | ⟨-, v, rfl⟩
  · cases h
  · intro H locs ls hl hH
    exact lv_pop2_2 F.1 F.2.1 hd rfl (kk H locs ls hl hH)
theorem L_eqE {z : Int32} {off : Int} {t : Nat} (F : LFix D tys A p R s m args c) (hd : decode code pc = .ok (.if_icmp .eq off, 3)) (ho : (pc : Int) + off = (t : Int)) (kk : LV p l e R s m args below meth c Q D A cells slots t lv st ws) : LV p l e R s m args below meth c Q D A cells slots pc lv (.int z :: .int z :: st) ws := by
  intro H locs ls hl hH
  exact lv_icmp_eq F.1 F.2.1 hd ho (fun _ => kk H locs ls hl hH) (fun h => absurd rfl h)
end LAW5
