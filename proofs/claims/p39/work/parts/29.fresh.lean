noncomputable def okBv (v : CV) (sp : Nat × Int × Int) : Bool := Nat.beq v.1 sp.1 && (match v.1 with
  | 0 => leI sp.2.1 v.2 && leI v.2 sp.2.2
  | 1 => leI sp.2.1 v.2 && leI v.2 sp.2.2
  | 2 => Nat.beq v.2.toNat sp.2.1.toNat
  | _ => false)
theorem okBv_ok {ad : Nat → Nat} {v : CV} {sp : Nat × Int × Int} (h : okBv v sp = true) : okv ad sp (cnC ad v) := by
  obtain ⟨t, z⟩ := v
  obtain ⟨t2, lo, hi⟩ := sp
  unfold okBv at h
  rw [Bool.and_eq_true] at h
  have e : t = t2 := beN h.1
  subst e
  match t, h.2 with
  | 0, h =>
    have h : (leI lo z && leI z hi) = true := h
    rw [Bool.and_eq_true, leI_iff, leI_iff] at h
    exact ⟨z, rfl, h.1, h.2⟩
  | 1, h =>
    have h : (leI lo z && leI z hi) = true := h
    rw [Bool.and_eq_true, leI_iff, leI_iff] at h
    exact ⟨z, rfl, h.1, h.2⟩
  | 2, h =>
    have h : z.toNat = lo.toNat := beN h
    show Value.ref (ad z.toNat) = .ref (ad lo.toNat)
    rw [h]
  | t + 3, h => cases h
noncomputable def zsg (tg : Nat) : List SG → Nat → Bool
  | [], n => Nat.beq n 0
  | q :: t, n => Nat.beq q.2.1 tg && (leI q.2.2.1 0 && (leI 0 q.2.2.2 && (bif Nat.ble n q.1 then true else zsg tg t (n - q.1))))
theorem zsg_ok {tg : Nat} : ∀ {g : List SG} {n j : Nat}, zsg tg g n = true → j < n → ∃ sp, segAt g j = some sp ∧ sp.1 = tg ∧ sp.2.1 ≤ 0 ∧ 0 ≤ sp.2.2
  | [], n, j, h, hj => by
    have h : n = 0 := beN h
    omega
  | q :: t, n, j, h, hj => by
    unfold zsg at h
    simp only [Bool.and_eq_true, leI_iff] at h
    obtain ⟨h1, h2, h3, h4⟩ := h
    show ∃ sp, (bif Nat.blt j q.1 then some q.2 else segAt t (j - q.1)) = some sp ∧ sp.1 = tg ∧ sp.2.1 ≤ 0 ∧ 0 ≤ sp.2.2
    cases hq : Nat.blt j q.1 with
    | true => exact ⟨q.2, rfl, beN h1, h2, h3⟩
    | false =>
      have hge : ¬ j < q.1 := fun e => by rw [Nat.blt_eq.mpr e] at hq; cases hq
      cases hn : Nat.ble n q.1 with
      | true => have := Nat.le_of_ble_eq_true hn; omega
      | false =>
        rw [hn] at h4
        exact zsg_ok (n := n - q.1) h4 (by omega)
noncomputable def ptB (dv : CV) (l : List CV) (g : List SG) (n : Nat) : Bool := (List.range n).all (fun j => match segAt g j with
  | some sp => okBv (l.getD j dv) sp
  | none => false)
theorem ptB_ok {dv : CV} {l : List CV} {g : List SG} {n j : Nat} (h : ptB dv l g n = true) (hj : j < n) : ∃ sp, segAt g j = some sp ∧ okBv (l.getD j dv) sp = true := by
  have := List.all_eq_true.mp h j (List.mem_range.mpr hj)
  cases hs : segAt g j with
  | none => rw [hs] at this; cases this
  | some sp => rw [hs] at this; exact ⟨sp, rfl, this⟩
noncomputable def gokB (e : CE) (g : GC) : Bool := Nat.beq e.1 g.1.1 && (match e.1 with
  | 0 => Nat.beq e.2.1 g.1.2.1 && (Nat.beq e.2.2.2.length g.1.2.2 && ptB (3, 0) e.2.2.2 g.2 e.2.2.2.length)
  | 1 => Nat.beq e.2.1 g.1.2.1 && (Nat.blt e.2.1 3 && (Nat.beq e.2.2.1 g.1.2.2 && (match e.2.2.2 with
    | [] => zsg 0 g.2 e.2.2.1
    | _ :: _ => ptB (0, 0) e.2.2.2 g.2 e.2.2.1 && e.2.2.2.all (fun v => Nat.beq v.1 0))))
  | 2 => Nat.beq e.2.2.1 g.1.2.2 && zsg 1 g.2 e.2.2.1
  | 3 => Nat.beq e.2.2.1 g.1.2.2 && (ptB (3, 0) e.2.2.2 g.2 e.2.2.1 && e.2.2.2.all (fun v => Nat.beq v.1 2))
  | _ => false)
noncomputable def gokL : List CE → List GC → Bool
  | _, [] => true
  | e :: w, g :: t => gokB e g && gokL w t
  | [], _ :: _ => false
theorem gokL_ok : ∀ {w : List CE} {G : List GC}, gokL w G = true → ∀ (c : Nat) (g : GC), G[c]? = some g → ∃ e, w[c]? = some e ∧ gokB e g = true
  | [], [], _, c, g, hg => by simp at hg
  | _ :: _, [], _, c, g, hg => by simp at hg
  | [], _ :: _, h, c, g, hg => by cases h
  | e :: w, g0 :: t, h, 0, g, hg => by
    have h : (gokB e g0 && gokL w t) = true := h
    rw [Bool.and_eq_true] at h
    rw [List.getElem?_cons_zero] at hg
    cases hg
    exact ⟨e, by rw [List.getElem?_cons_zero], h.1⟩
  | e :: w, g0 :: t, h, c + 1, g, hg => by
    have h : (gokB e g0 && gokL w t) = true := h
    rw [Bool.and_eq_true] at h
    rw [List.getElem?_cons_succ] at hg ⊢
    exact gokL_ok h.2 c g hg
theorem gok_of {tys : List (ClassId × FieldType)} {ad : Nat → Nat} {w : List CE} {G : List GC} (HT : ∀ t, t < 5 → tys[t]? = some (cid tys t, ftyp t)) (h : gokL w G = true) : GOK ad tys G (cwF tys ad 0 w) := by
  intro c g hg
  obtain ⟨e, he, hb⟩ := gokL_ok h c g hg
  refine ⟨ceE tys ad e, cw_at he, ?_⟩
  clear he h hg
  obtain ⟨kd, ty, n, l⟩ := e
  obtain ⟨⟨gk, gt, gn⟩, segs⟩ := g
  unfold gokB at hb
  rw [Bool.and_eq_true] at hb
  obtain ⟨h1, h2⟩ := hb
  have h1 : kd = gk := beN h1
  subst h1
  match kd, h2 with
  | 0, h2 =>
    have h2 : (Nat.beq ty gt && (Nat.beq l.length gn && ptB (3, 0) l segs l.length)) = true := h2
    simp only [Bool.and_eq_true] at h2
    obtain ⟨a1, a2, a3⟩ := h2
    have a1 : ty = gt := beN a1
    have a2 : l.length = gn := beN a2
    subst a1
    refine ⟨⟨l.map (cnC ad), rfl, by rw [List.length_map]; exact a2⟩, fun j v hv => ?_⟩
    have hv : (l.map (cnC ad))[j]? = some v := hv
    rw [List.getElem?_map] at hv
    cases hl : l[j]? with
    | none => rw [hl] at hv; cases hv
    | some q =>
      rw [hl] at hv
      cases hv
      obtain ⟨sp, s1, s2⟩ := ptB_ok a3 (List.getElem?_eq_some_iff.mp hl).1
      rw [List.getD_eq_getElem?_getD, hl] at s2
      exact ⟨sp, s1, okBv_ok s2⟩
  | 1, h2 =>
    simp only [Bool.and_eq_true] at h2
    obtain ⟨a1, a2, a3, a4⟩ := h2
    have a1 : ty = gt := beN a1
    have a3 : n = gn := beN a3
    subst a1; subst a3
    have a2 : ty < 3 := Nat.blt_eq.mp a2
    refine ⟨⟨cid tys ty, _, rfl, HT ty (by omega), a2⟩, fun j v hv => ?_⟩
    have hv : (if j < n then some (Value.int (Int32.ofInt (l.getD j (0, 0)).2)) else none) = some v := hv
    by_cases hj : j < n
    · rw [if_pos hj] at hv
      cases hv
      match l, a4 with
      | [], a4 =>
        obtain ⟨⟨t, lo, hi⟩, s1, s2, s3, s4⟩ := zsg_ok a4 hj
        cases s2
        exact ⟨_, s1, 0, rfl, s3, s4⟩
      | q :: r, a4 =>
        have a4 : (ptB (0, 0) (q :: r) segs n && (q :: r).all (fun v => Nat.beq v.1 0)) = true := a4
        rw [Bool.and_eq_true] at a4
        obtain ⟨sp, s1, s2⟩ := ptB_ok a4.1 hj
        have ht : Nat.beq ((q :: r).getD j (0, 0)).1 0 = true := by
          rw [List.getD_eq_getElem?_getD]
          cases hl : (q :: r)[j]? with
          | none => rfl
          | some p => exact List.all_eq_true.mp a4.2 p (List.mem_of_getElem? hl)
        have := okBv_ok (ad := ad) s2
        rw [cnC0 ht] at this
        exact ⟨sp, s1, this⟩
    · rw [if_neg hj] at hv; cases hv
  | 2, h2 =>
    have h2 : (Nat.beq n gn && zsg 1 segs n) = true := h2
    rw [Bool.and_eq_true] at h2
    have a3 : n = gn := beN h2.1
    subst a3
    refine ⟨⟨cid tys 3, _, rfl, HT 3 (by omega)⟩, fun j v hv => ?_⟩
    have hv : (if j < n then some (Value.long 0) else none) = some v := hv
    by_cases hj : j < n
    · rw [if_pos hj] at hv
      cases hv
      obtain ⟨⟨t, lo, hi⟩, s1, s2, s3, s4⟩ := zsg_ok h2.2 hj
      cases s2
      exact ⟨_, s1, 0, rfl, s3, s4⟩
    · rw [if_neg hj] at hv; cases hv
  | 3, h2 =>
    have h2 : (Nat.beq n gn && (ptB (3, 0) l segs n && l.all (fun v => Nat.beq v.1 2))) = true := h2
    simp only [Bool.and_eq_true] at h2
    obtain ⟨a3, a4, a5⟩ := h2
    have a3 : n = gn := beN a3
    subst a3
    refine ⟨⟨cid tys 4, _, rfl, HT 4 (by omega)⟩, fun j v hv => ?_⟩
    have hv : (if j < n then some (va_rf (rfC ad (l.getD j (3, 0)))) else none) = some v := hv
    by_cases hj : j < n
    · rw [if_pos hj] at hv
      cases hv
      obtain ⟨sp, s1, s2⟩ := ptB_ok a4 hj
      refine ⟨sp, s1, ?_⟩
      have o := okBv_ok (ad := ad) s2
      have ht : Nat.beq (l.getD j (3, 0)).1 2 = true := by
        rw [List.getD_eq_getElem?_getD] at s2 ⊢
        cases hl : l[j]? with
        | none => rw [hl] at s2; unfold okBv at s2; rw [Bool.and_eq_true] at s2; exact Bool.noConfusion s2.2
        | some p => exact List.all_eq_true.mp a5 p (List.mem_of_getElem? hl)
      rw [cnC2 ht] at o
      generalize l.getD j (3, 0) = q at ht o ⊢
      obtain ⟨t, z⟩ := q
      cases beN ht
      exact o
    · rw [if_neg hj] at hv; cases hv
noncomputable def preB (w : List CE) (q : (Nat × Nat) × SP3) : Bool := match w[q.1.1]? with
  | some e => (match e.1 with
    | 0 => (match e.2.2.2[q.1.2]? with
      | some v => okBv v q.2
      | none => false)
    | 1 => Nat.blt q.1.2 e.2.2.1 && (Nat.beq q.2.1 0 && (leI q.2.2.1 (e.2.2.2.getD q.1.2 (0, 0)).2 && leI (e.2.2.2.getD q.1.2 (0, 0)).2 q.2.2.2))
    | _ => false)
  | none => false
theorem preB_ok {tys : List (ClassId × FieldType)} {ad : Nat → Nat} {w : List CE} {F : List ((Nat × Nat) × SP3)} (h : F.all (preB w) = true) : preOK ad F (cwF tys ad 0 w) := by
  intro q hq
  have h := List.all_eq_true.mp h q hq
  obtain ⟨⟨c, j⟩, t, lo, hi⟩ := q
  unfold preB at h
  dsimp only at h
  cases he : w[c]? with
  | none => rw [he] at h; cases h
  | some e =>
    rw [he] at h
    have ha := cw_at (tys := tys) (ad := ad) he
    obtain ⟨kd, ty, n, l⟩ := e
    match kd, h with
    | 0, h =>
      have h : (match l[j]? with
        | some v => okBv v (t, lo, hi)
        | none => false) = true := h
      cases hl : l[j]? with
      | none => rw [hl] at h; cases h
      | some v =>
        rw [hl] at h
        refine ⟨cnC ad v, ?_, okBv_ok h⟩
        unfold rd
        dsimp only
        rw [ha]
        show (l.map (cnC ad))[j]? = _
        rw [List.getElem?_map, hl]
        rfl
    | 1, h =>
      have h : (Nat.blt j n && (Nat.beq t 0 && (leI lo (l.getD j (0, 0)).2 && leI (l.getD j (0, 0)).2 hi))) = true := h
      simp only [Bool.and_eq_true, leI_iff] at h
      obtain ⟨a1, a2, a3, a4⟩ := h
      cases beN a2
      refine ⟨.int (Int32.ofInt (l.getD j (0, 0)).2), ?_, _, rfl, a3, a4⟩
      unfold rd
      dsimp only
      rw [ha]
      show (if j < n then some (Value.int (Int32.ofInt (l.getD j (0, 0)).2)) else none) = _
      rw [if_pos (Nat.blt_eq.mp a1)]
    | k + 2, h => cases h
theorem fr_gok : gokL hM GG = true := by decide +kernel
