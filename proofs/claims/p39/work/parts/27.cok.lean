theorem bo {α : Type} {b : Bool} {x : Option α} {r : α} (h : (bif b then x else none) = some r) : b = true ∧ x = some r := by
  cases b with
  | true => exact ⟨rfl, h⟩
  | false => cases h
theorem ob {α β : Type} {o : Option α} {f : α → Option β} {r : β} (h : o.bind f = some r) : ∃ v, o = some v ∧ f v = some r := by
  cases o with
  | none => cases h
  | some v => exact ⟨v, rfl, h⟩
theorem beN {a b : Nat} (h : Nat.beq a b = true) : a = b := Nat.eq_of_beq_eq_true h
section CXOK
variable {l : Launch} {D : va_G} {tys : List (ClassId × FieldType)} {A : Nat → Prop} {lim : Nat → Nat × Nat} {k d : Nat}
noncomputable def CGo (l : Launch) (D : va_G) (tys : List (ClassId × FieldType)) (A : Nat → Prop) (lim : Nat → Nat × Nat) (k d pc : Nat) (L : List (Nat × CV)) (st : List CV) (w : List CE) (c u : Nat) (w' : List CE) : Prop := ∀ (ad : Nat → Nat) (post : Option Value → va_W → Prop), (∀ ad' : Nat → Nat, (∀ i, i < w.length → ad' i = ad i) → w.length ≤ w'.length → post none (cwF tys ad' 0 w')) → V l D tys A k d (lim k).1 (lim k).2 post c u pc (L.map (cnL ad)) (st.map (cnC ad)) (cwF tys ad 0 w)
theorem cg_same {pc pc2 : Nat} {L L2 : List (Nat × CV)} {st st2 : List CV} {w w2 w' : List CE} {c u : Nat} (h : CGo l D tys A lim k d pc2 L2 st2 w2 c u w') (hw : w2.length = w.length) (kk : ∀ ad post, V l D tys A k d (lim k).1 (lim k).2 post c u pc2 (L2.map (cnL ad)) (st2.map (cnC ad)) (cwF tys ad 0 w2) → V l D tys A k d (lim k).1 (lim k).2 post c u pc (L.map (cnL ad)) (st.map (cnC ad)) (cwF tys ad 0 w)) : CGo l D tys A lim k d pc L st w c u w' := by
  intro ad post hp
  refine kk ad post (h ad post ?_)
  rw [hw]
  exact hp
theorem cnC0 {ad : Nat → Nat} {v : CV} (h : Nat.beq v.1 0 = true) : cnC ad v = .int (Int32.ofInt v.2) := by
  obtain ⟨t, z⟩ := v
  cases beN h
  rfl
theorem cnC2 {ad : Nat → Nat} {v : CV} (h : Nat.beq v.1 2 = true) : cnC ad v = .ref (ad v.2.toNat) := by
  obtain ⟨t, z⟩ := v
  cases beN h
  rfl
theorem cw_at {ad : Nat → Nat} {w : List CE} {j : Nat} {e : CE} (h : w[j]? = some e) : (cwF tys ad 0 w)[j]? = some (ad j, ceE tys ad e) := by
  rw [cwF_get, h, Nat.zero_add]
  rfl
theorem ce0 {ad : Nat → Nat} {e : CE} (h : Nat.beq e.1 0 = true) : ceE tys ad e = .inr (e.2.1, e.2.2.2.map (cnC ad)) := by
  obtain ⟨t, z⟩ := e
  cases beN h
  rfl
theorem ce1 {ad : Nat → Nat} {e : CE} (h : Nat.beq e.1 1 = true) : ceE tys ad e = .inl (cid tys e.2.1, e.2.2.1, .inl (fun j => Int32.ofInt (e.2.2.2.getD j (0, 0)).2)) := by
  obtain ⟨t, z⟩ := e
  cases beN h
  rfl
theorem ce3 {ad : Nat → Nat} {e : CE} (h : Nat.beq e.1 3 = true) : ceE tys ad e = .inl (cid tys 4, e.2.2.1, .inr (.inr (.inr (.inr (fun j => rfC ad (e.2.2.2.getD j (3, 0))))))) := by
  obtain ⟨t, z⟩ := e
  cases beN h
  rfl
variable {go : SC → Option (List CE)} {w w' : List CE} {c u pc : Nat} {L : List (Nat × CV)} {a : Int} {x y z : Nat}
theorem cLdA_ok {st : List CV} (IH : ∀ pc L st w c u w', go (pc, L, st, w, c, u) = some w' → CGo l D tys A lim k d pc L st w c u w') (hi : mI k pc = (5, a, x, y, z)) (h : cLd go 2 x (pc + ln3 y) L st w c u = some w') : CGo l D tys A lim k d pc L st w c u w' := by
  obtain ⟨v, h1, h2⟩ := ob h
  obtain ⟨h3, h4⟩ := bo h2
  refine cg_same (IH _ _ _ _ _ _ _ h4) rfl (fun ad post K => ?_)
  rw [List.map_cons, cnC2 h3] at K
  refine V_aload hi ?_ K
  rw [← cnC2 h3]
  exact List.mem_map.mpr ⟨(x, v), lkC_mem h1, rfl⟩
theorem cLdI_ok {st : List CV} (IH : ∀ pc L st w c u w', go (pc, L, st, w, c, u) = some w' → CGo l D tys A lim k d pc L st w c u w') (hi : mI k pc = (3, a, x, y, z)) (h : cLd go 0 x (pc + ln3 y) L st w c u = some w') : CGo l D tys A lim k d pc L st w c u w' := by
  obtain ⟨v, h1, h2⟩ := ob h
  obtain ⟨h3, h4⟩ := bo h2
  refine cg_same (IH _ _ _ _ _ _ _ h4) rfl (fun ad post K => ?_)
  rw [List.map_cons, cnC0 h3] at K
  refine V_iload hi ?_ K
  rw [← cnC0 (ad := ad) h3]
  exact List.mem_map.mpr ⟨(x, v), lkC_mem h1, rfl⟩
theorem cSt_ok {st : List CV} (IH : ∀ pc L st w c u w', go (pc, L, st, w, c, u) = some w' → CGo l D tys A lim k d pc L st w c u w') (hi : mI k pc = (6, a, x, y, z)) (h : cSt go x (pc + ln3 y) L w c u st = some w') : CGo l D tys A lim k d pc L st w c u w' := by
  match st, h with
  | v :: r, h =>
    obtain ⟨h3, h4⟩ := bo h
    refine cg_same (IH _ _ _ _ _ _ _ h4) rfl (fun ad post K => ?_)
    rw [List.map_cons, cnC0 h3]
    refine V_istore hi (V_sub (fun q hq => ?_) K)
    have := stC_sub q hq
    rw [cnC0 h3] at this
    exact this
theorem cInc_ok {st : List CV} (IH : ∀ pc L st w c u w', go (pc, L, st, w, c, u) = some w' → CGo l D tys A lim k d pc L st w c u w') (hi : mI k pc = (9, a, x, y, z)) (h : cInc go x (pc + 3) a L st w c u = some w') : CGo l D tys A lim k d pc L st w c u w' := by
  obtain ⟨v, h1, h2⟩ := ob h
  obtain ⟨h3, h4⟩ := bo h2
  refine cg_same (IH _ _ _ _ _ _ _ h4) rfl (fun ad post K => ?_)
  refine V_iinc (v := Int32.ofInt v.2) hi ?_ (V_sub (fun q hq => ?_) K)
  · rw [← cnC0 (ad := ad) h3]
    exact List.mem_map.mpr ⟨(x, v), lkC_mem h1, rfl⟩
  · have := stC_sub q hq
    rw [← Int32.ofInt_add]
    exact this
theorem cCmp_ok {st : List CV} (IH : ∀ pc L st w c u w', go (pc, L, st, w, c, u) = some w' → CGo l D tys A lim k d pc L st w c u w') (hi : mI k pc = (15, a, x, y, z)) (h : cCmp go x y pc L w c u st = some w') : CGo l D tys A lim k d pc L st w c u w' := by
  match st, h with
  | [_], h => cases h
  | v :: v2 :: r, h =>
    obtain ⟨h3, h4⟩ := bo h
    simp only [Bool.and_eq_true, leI_iff] at h3
    obtain ⟨h3, h5, h6, h7, h8, h9, h10⟩ := h3
    cases beN h3
    refine cg_same (IH _ _ _ _ _ _ _ h4) rfl (fun ad post K => ?_)
    rw [List.map_cons, List.map_cons, cnC0 h5, cnC0 h6]
    have hc := cdP_iff (x := 3) (a := v2.2) (b := v.2) (by omega) (by omega) (by omega) (by omega)
    refine V_icmp hi (fun q => ?_) (fun q => ?_)
    · have q := hc.mp q
      have q : 0 ≤ v2.2 - v.2 := q
      rw [show leI v.2 v2.2 = true from leI_iff.mpr (by omega)] at K
      exact K
    · have q : ¬ (0 ≤ v2.2 - v.2) := fun p => q (hc.mpr p)
      rw [show leI v.2 v2.2 = false by
        cases e : leI v.2 v2.2 with
        | false => rfl
        | true => exact absurd (leI_iff.mp e) (by omega)] at K
      exact K
theorem cGet_ok {st : List CV} (IH : ∀ pc L st w c u w', go (pc, L, st, w, c, u) = some w' → CGo l D tys A lim k d pc L st w c u w') (hi : mI k pc = (17, a, x, y, z)) (h : cGet go y z (pc + 3) L w c u st = some w') : CGo l D tys A lim k d pc L st w c u w' := by
  match st, h with
  | v :: r, h =>
    obtain ⟨e, h1, h2⟩ := ob h
    obtain ⟨h3, h4⟩ := bo h2
    obtain ⟨v2, h5, h6⟩ := ob h4
    simp only [Bool.and_eq_true] at h3
    obtain ⟨g1, g2, g3⟩ := h3
    refine cg_same (IH _ _ _ _ _ _ _ h6) rfl (fun ad post K => ?_)
    rw [List.map_cons, cnC2 g1]
    have he := cw_at (tys := tys) (ad := ad) h1
    rw [ce0 g2, beN g3] at he
    refine V_get hi he (v := cnC ad v2) ?_ K
    rw [List.getElem?_map, h5]
    rfl
theorem cObj_ok {st : List CV} (IH : ∀ pc L st w c u w', go (pc, L, st, w, c, u) = some w' → CGo l D tys A lim k d pc L st w c u w') (hi : mI k pc = (29, a, x, y, z)) (h : cObj go (pc + 3) L w c u st = some w') : CGo l D tys A lim k d pc L st w c u w' := by
  match st, h with
  | v :: r, h =>
    obtain ⟨h3, h4⟩ := bo h
    rw [Bool.and_eq_true] at h3
    refine cg_same (IH _ _ _ _ _ _ _ h4) rfl (fun ad post K => ?_)
    rw [List.map_cons, cnC2 h3.1]
    exact V_objI hi (by rw [List.length_map]; exact Nat.le_of_ble_eq_true h3.2) K
theorem cDup_ok {st : List CV} (IH : ∀ pc L st w c u w', go (pc, L, st, w, c, u) = some w' → CGo l D tys A lim k d pc L st w c u w') (hi : mI k pc = (22, a, 0, y, z)) (h : cDup go (pc + 1) L w c u st = some w') : CGo l D tys A lim k d pc L st w c u w' := by
  match st, h with
  | v :: r, h =>
    obtain ⟨h3, h4⟩ := bo h
    refine cg_same (IH _ _ _ _ _ _ _ h4) rfl (fun ad post K => ?_)
    rw [List.map_cons, List.map_cons, cnC2 h3] at K
    rw [List.map_cons, cnC2 h3]
    exact V_dup hi rfl K
theorem cRet_ok {st : List CV} (hi : mI k pc = (27, a, 2, y, z)) (h : cRet lim k w c u st = some w') : CGo l D tys A lim k d pc L st w c u w' := by
  match st, h with
  | [], h =>
    obtain ⟨h3, h4⟩ := bo h
    cases h4
    rw [Bool.and_eq_true] at h3
    intro ad post hp
    refine V_wide (Nat.le_of_ble_eq_true h3.1) (Nat.le_of_ble_eq_true h3.2) ?_
    exact V_retV hi (hp ad (fun _ _ => rfl) (Nat.le_refl _))
end CXOK
