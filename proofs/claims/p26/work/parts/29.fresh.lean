section
noncomputable def okBv (v : CV) (sp : Nat × Int × Int) : Bool := Nat.beq v.1 sp.1 && (match v.1 with
  | 0 => leI sp.2.1 v.2 && leI v.2 sp.2.2
  | 1 => leI sp.2.1 v.2 && leI v.2 sp.2.2
  | 2 => Nat.beq v.2.toNat sp.2.1.toNat
  | _ => false)
theorem okBv_ok {ad : Nat → Nat} {v : CV} {sp : Nat × Int × Int} (h : okBv v sp = true) : okv ad sp (cnC ad v) := by
  obtain ⟨t, z⟩ := v
  obtain ⟨t2, lo, hi⟩ := sp
  unfold okBv at h
  rw [Bool.and_eq_true] at h
  have e : t = t2 := beN h.1
  subst e
  match t, h.2 with
  | 0, h =>
    have h : (leI lo z && leI z hi) = true := h
    rw [Bool.and_eq_true, leI_iff, leI_iff] at h
    exact ⟨z, rfl, h.1, h.2⟩
  | 1, h =>
    have h : (leI lo z && leI z hi) = true := h
    rw [Bool.and_eq_true, leI_iff, leI_iff] at h
    exact ⟨z, rfl, h.1, h.2⟩
  | 2, h =>
    have h : z.toNat = lo.toNat := beN h
    show Value.ref (ad z.toNat) = .ref (ad lo.toNat)
    rw [h]
  | t + 3, h => cases h
noncomputable def zsg (tg : Nat) : List SG → Nat → Bool
  | [], n => Nat.beq n 0
  | q :: t, n => Nat.beq q.2.1 tg && (leI q.2.2.1 0 && (leI 0 q.2.2.2 && (bif Nat.ble n q.1 then true else zsg tg t (n - q.1))))
theorem zsg_ok {tg : Nat} : ∀ {g : List SG} {n j : Nat}, zsg tg g n = true → j < n → ∃ sp, segAt g j = some sp ∧ sp.1 = tg ∧ sp.2.1 ≤ 0 ∧ 0 ≤ sp.2.2
  | [], n, j, h, hj => by
    have h : n = 0 := beN h
    omega
  | q :: t, n, j, h, hj => by
    unfold zsg at h
    simp only [Bool.and_eq_true, leI_iff] at h
    obtain ⟨h1, h2, h3, h4⟩ := h
    show ∃ sp, (bif Nat.blt j q.1 then some q.2 else segAt t (j - q.1)) = some sp ∧ sp.1 = tg ∧ sp.2.1 ≤ 0 ∧ 0 ≤ sp.2.2
    cases hq : Nat.blt j q.1 with
    | true => exact ⟨q.2, rfl, beN h1, h2, h3⟩
    | false =>
      have hge : ¬ j < q.1 := fun e => by rw [Nat.blt_eq.mpr e] at hq; cases hq
      cases hn : Nat.ble n q.1 with
      | true => have := Nat.le_of_ble_eq_true hn; omega
      | false =>
        rw [hn] at h4
        exact zsg_ok (n := n - q.1) h4 (by omega)
noncomputable def ptB (dv : CV) (l : List CV) (g : List SG) (n : Nat) : Bool := (List.range n).all (fun j => match segAt g j with
  | some sp => okBv (l.getD j dv) sp
  | none => false)
theorem ptB_ok {dv : CV} {l : List CV} {g : List SG} {n j : Nat} (h : ptB dv l g n = true) (hj : j < n) : ∃ sp, segAt g j = some sp ∧ okBv (l.getD j dv) sp = true := by
  have := List.all_eq_true.mp h j (List.mem_range.mpr hj)
  cases hs : segAt g j with
  | none => rw [hs] at this; cases this
  | some sp => rw [hs] at this; exact ⟨sp, rfl, this⟩
noncomputable def gokB (e : CE) (g : GC) : Bool := Nat.beq e.1 g.1.1 && (match e.1 with
  | 0 => Nat.beq e.2.1 g.1.2.1 && (Nat.beq e.2.2.2.length g.1.2.2 && ptB (3, 0) e.2.2.2 g.2 e.2.2.2.length)
  | 1 => Nat.beq e.2.1 g.1.2.1 && (Nat.blt e.2.1 3 && (Nat.beq e.2.2.1 g.1.2.2 && (match e.2.2.2 with
    | [] => zsg 0 g.2 e.2.2.1
    | _ :: _ => ptB (0, 0) e.2.2.2 g.2 e.2.2.1 && e.2.2.2.all (fun v => Nat.beq v.1 0))))
  | 2 => Nat.beq e.2.2.1 g.1.2.2 && zsg 1 g.2 e.2.2.1
  | 3 => Nat.beq e.2.2.1 g.1.2.2 && (ptB (3, 0) e.2.2.2 g.2 e.2.2.1 && e.2.2.2.all (fun v => Nat.beq v.1 2))
  | _ => false)
noncomputable def gokL : List CE → List GC → Bool
  | _, [] => true
  | e :: w, g :: t => gokB e g && gokL w t
  | [], _ :: _ => false
theorem gokL_ok : ∀ {w : List CE} {G : List GC}, gokL w G = true → ∀ (c : Nat) (g : GC), G[c]? = some g → ∃ e, w[c]? = some e ∧ gokB e g = true
  | [], [], _, c, g, hg => by simp at hg
  | _ :: _, [], _, c, g, hg => by simp at hg
  | [], _ :: _, h, c, g, hg => by cases h
  | e :: w, g0 :: t, h, 0, g, hg => by
    have h : (gokB e g0 && gokL w t) = true := h
    rw [Bool.and_eq_true] at h
    rw [List.getElem?_cons_zero] at hg
    cases hg
    exact ⟨e, by rw [List.getElem?_cons_zero], h.1⟩
  | e :: w, g0 :: t, h, c + 1, g, hg => by
    have h : (gokB e g0 && gokL w t) = true := h
    rw [Bool.and_eq_true] at h
    rw [List.getElem?_cons_succ] at hg ⊢
    exact gokL_ok h.2 c g hg
theorem gok_of {tys : List (ClassId × FieldType)} {ad : Nat → Nat} {w : List CE} {G : List GC} (HT : ∀ t, t < 5 → tys[t]? = some (cid tys t, ftyp t)) (h : gokL w G = true) : GOK ad tys G (cwF tys ad 0 w) := by
  intro c g hg
  obtain ⟨e, he, hb⟩ := gokL_ok h c g hg
  refine ⟨ceE tys ad e, cw_at he, ?_⟩
  clear he h hg
  obtain ⟨kd, ty, n, l⟩ := e
  obtain ⟨⟨gk, gt, gn⟩, segs⟩ := g
  unfold gokB at hb
  rw [Bool.and_eq_true] at hb
  obtain ⟨h1, h2⟩ := hb
  have h1 : kd = gk := beN h1
  subst h1
  match kd, h2 with
  | 0, h2 =>
    have h2 : (Nat.beq ty gt && (Nat.beq l.length gn && ptB (3, 0) l segs l.length)) = true := h2
    simp only [Bool.and_eq_true] at h2
    obtain ⟨a1, a2, a3⟩ := h2
    have a1 : ty = gt := beN a1
    have a2 : l.length = gn := beN a2
    subst a1
    refine ⟨⟨l.map (cnC ad), rfl, by rw [List.length_map]; exact a2⟩, fun j v hv => ?_⟩
    have hv : (l.map (cnC ad))[j]? = some v := hv
    rw [List.getElem?_map] at hv
    cases hl : l[j]? with
    | none => rw [hl] at hv; cases hv
    | some q =>
      rw [hl] at hv
      cases hv
      obtain ⟨sp, s1, s2⟩ := ptB_ok a3 (List.getElem?_eq_some_iff.mp hl).1
      rw [List.getD_eq_getElem?_getD, hl] at s2
      exact ⟨sp, s1, okBv_ok s2⟩
  | 1, h2 =>
    simp only [Bool.and_eq_true] at h2
    obtain ⟨a1, a2, a3, a4⟩ := h2
    have a1 : ty = gt := beN a1
    have a3 : n = gn := beN a3
    subst a1; subst a3
    have a2 : ty < 3 := Nat.blt_eq.mp a2
    refine ⟨⟨cid tys ty, _, rfl, HT ty (by omega), a2⟩, fun j v hv => ?_⟩
    have hv : (if j < n then some (Value.int (Int32.ofInt (l.getD j (0, 0)).2)) else none) = some v := hv
    by_cases hj : j < n
    · rw [if_pos hj] at hv
      cases hv
      match l, a4 with
      | [], a4 =>
        obtain ⟨⟨t, lo, hi⟩, s1, s2, s3, s4⟩ := zsg_ok a4 hj
        cases s2
        exact ⟨_, s1, 0, rfl, s3, s4⟩
      | q :: r, a4 =>
        have a4 : (ptB (0, 0) (q :: r) segs n && (q :: r).all (fun v => Nat.beq v.1 0)) = true := a4
        rw [Bool.and_eq_true] at a4
        obtain ⟨sp, s1, s2⟩ := ptB_ok a4.1 hj
        have ht : Nat.beq ((q :: r).getD j (0, 0)).1 0 = true := by
          rw [List.getD_eq_getElem?_getD]
          cases hl : (q :: r)[j]? with
          | none => rfl
          | some p => exact List.all_eq_true.mp a4.2 p (List.mem_of_getElem? hl)
        have := okBv_ok (ad := ad) s2
        rw [cnC0 ht] at this
        exact ⟨sp, s1, this⟩
    · rw [if_neg hj] at hv; cases hv
  | 2, h2 =>
    have h2 : (Nat.beq n gn && zsg 1 segs n) = true := h2
    rw [Bool.and_eq_true] at h2
    have a3 : n = gn := beN h2.1
    subst a3
    refine ⟨⟨cid tys 3, _, rfl, HT 3 (by omega)⟩, fun j v hv => ?_⟩
    have hv : (if j < n then some (Value.long 0) else none) = some v := hv
    by_cases hj : j < n
    · rw [if_pos hj] at hv
      cases hv
      obtain ⟨⟨t, lo, hi⟩, s1, s2, s3, s4⟩ := zsg_ok h2.2 hj
      cases s2
      exact ⟨_, s1, 0, rfl, s3, s4⟩
    · rw [if_neg hj] at hv; cases hv
  | 3, h2 =>
    have h2 : (Nat.beq n gn && (ptB (3, 0) l segs n && l.all (fun v => Nat.beq v.1 2))) = true := h2
    simp only [Bool.and_eq_true] at h2
    obtain ⟨a3, a4, a5⟩ := h2
    have a3 : n = gn := beN a3
    subst a3
    refine ⟨⟨cid tys 4, _, rfl, HT 4 (by omega)⟩, fun j v hv => ?_⟩
    have hv : (if j < n then some (va_rf (rfC ad (l.getD j (3, 0)))) else none) = some v := hv
    by_cases hj : j < n
    · rw [if_pos hj] at hv
      cases hv
      obtain ⟨sp, s1, s2⟩ := ptB_ok a4 hj
      refine ⟨sp, s1, ?_⟩
      have o := okBv_ok (ad := ad) s2
      have ht : Nat.beq (l.getD j (3, 0)).1 2 = true := by
        rw [List.getD_eq_getElem?_getD] at s2 ⊢
        cases hl : l[j]? with
        | none => rw [hl] at s2; unfold okBv at s2; rw [Bool.and_eq_true] at s2; exact Bool.noConfusion s2.2
        | some p => exact List.all_eq_true.mp a5 p (List.mem_of_getElem? hl)
      rw [cnC2 ht] at o
      generalize l.getD j (3, 0) = q at ht o ⊢
      obtain ⟨t, z⟩ := q
      cases beN ht
      exact o
    · rw [if_neg hj] at hv; cases hv
noncomputable def preB (w : List CE) (q : (Nat × Nat) × SP3) : Bool := match w[q.1.1]? with
  | some e => (match e.1 with
    | 0 => (match e.2.2.2[q.1.2]? with
      | some v => okBv v q.2
      | none => false)
    | 1 => Nat.blt q.1.2 e.2.2.1 && (Nat.beq q.2.1 0 && (leI q.2.2.1 (e.2.2.2.getD q.1.2 (0, 0)).2 && leI (e.2.2.2.getD q.1.2 (0, 0)).2 q.2.2.2))
    | _ => false)
  | none => false
theorem preB_ok {tys : List (ClassId × FieldType)} {ad : Nat → Nat} {w : List CE} {F : List ((Nat × Nat) × SP3)} (h : F.all (preB w) = true) : preOK ad F (cwF tys ad 0 w) := by
  intro q hq
  have h := List.all_eq_true.mp h q hq
  obtain ⟨⟨c, j⟩, t, lo, hi⟩ := q
  unfold preB at h
  dsimp only at h
  cases he : w[c]? with
  | none => rw [he] at h; cases h
  | some e =>
    rw [he] at h
    have ha := cw_at (tys := tys) (ad := ad) he
    obtain ⟨kd, ty, n, l⟩ := e
    match kd, h with
    | 0, h =>
      have h : (match l[j]? with
        | some v => okBv v (t, lo, hi)
        | none => false) = true := h
      cases hl : l[j]? with
      | none => rw [hl] at h; cases h
      | some v =>
        rw [hl] at h
        refine ⟨cnC ad v, ?_, okBv_ok h⟩
        unfold rd
        dsimp only
        rw [ha]
        show (l.map (cnC ad))[j]? = _
        rw [List.getElem?_map, hl]
        rfl
    | 1, h =>
      have h : (Nat.blt j n && (Nat.beq t 0 && (leI lo (l.getD j (0, 0)).2 && leI (l.getD j (0, 0)).2 hi))) = true := h
      simp only [Bool.and_eq_true, leI_iff] at h
      obtain ⟨a1, a2, a3, a4⟩ := h
      cases beN a2
      refine ⟨.int (Int32.ofInt (l.getD j (0, 0)).2), ?_, _, rfl, a3, a4⟩
      unfold rd
      dsimp only
      rw [ha]
      show (if j < n then some (Value.int (Int32.ofInt (l.getD j (0, 0)).2)) else none) = _
      rw [if_pos (Nat.blt_eq.mp a1)]
    | k + 2, h => cases h
theorem fr_all : hX.length = 90 ∧ wfW 90 [] [] hX = true ∧ hM.length = 111 ∧ wfW 111 [] [] hM = true ∧ gokL hM GG = true := by decide +kernel
theorem lX : hX.length = 90 := fr_all.1
theorem lM : hM.length = 111 := fr_all.2.2.1
theorem wf_X : wfW 90 [] [] hX = true := fr_all.2.1
theorem fr_gok : gokL hM GG = true := fr_all.2.2.2.2
end
section
noncomputable def xsC (q : String × Nat × String × List Int32) : List Cond := Cond.exactly (Term.string q.1 q.2.1) "java/lang/String" :: Cond.eq (.field (Term.string q.1 q.2.1) "java/lang/String" "coder" "B") (.int 0) :: Cond.arrayOf (.field (Term.string q.1 q.2.1) "java/lang/String" "value" "[B") .byte :: Cond.eq (.length (.field (Term.string q.1 q.2.1) "java/lang/String" "value" "[B")) (.int (Int32.ofNat q.2.2.2.length)) :: (List.range q.2.2.2.length).map (fun j => Cond.eq (.elem (.field (Term.string q.1 q.2.1) "java/lang/String" "value" "[B") (.int (Int32.ofNat j))) (.int (q.2.2.2.getD j 0)))
noncomputable def xsN : List Nat := [55, 67, 84, 98, 127, 145, 163, 9, 17, 31, 43, 113, 181, 201, 227, 251, 468, 275, 299, 328, 354, 381, 410, 439]
noncomputable def pfC : List Cond → List Cond → Bool
  | [], _ => true
  | a :: t, l => match l with
    | [] => false
    | b :: r => bif decide (a = b) then pfC t r else false
theorem pfC_in : ∀ {a l : List Cond}, pfC a l = true → ∀ w ∈ a, w ∈ l
  | [], _, _, w, hw => by cases hw
  | a :: t, [], h, w, hw => by cases h
  | a :: t, b :: r, h, w, hw => by
    have h : (bif decide (a = b) then pfC t r else false) = true := h
    cases hb : decide (a = b) with
    | false => rw [hb] at h; cases h
    | true =>
      rw [hb, cond_true] at h
      rcases List.mem_cons.mp hw with rfl | hw
      · rw [of_decide_eq_true hb]
        exact List.mem_cons_self
      · exact List.mem_cons_of_mem _ (pfC_in h w hw)
set_option maxRecDepth 100000 in
theorem xs_words : (List.range 24).all (fun i => match xsT[i]?, xsN[i]? with | some q, some n => pfC (xsC q) ((flatC (Jvm.Cond.and given_1 narrow_1)).drop n) | _, _ => false) = true := by decide +kernel
theorem xs_small : xsT.all (fun q => decide (q.2.2.2.length < 2 ^ 31)) = true := by decide +kernel
noncomputable def xsI : List Nat := [465, 473, 478, 479, 485, 501, 511, 393, 450, 463, 464, 484, 1370, 1389, 1398, 1399, 1423, 1404, 1405, 1406, 1407, 1408, 1409, 1410]
theorem xs_refs : (List.range 24).all (fun i => match xsT[i]?, xsI[i]? with | some q, some n => decide (tables_1[n]? = some (Cond.stringRef q.1 q.2.1 q.2.2.1)) | _, _ => false) = true := by decide +kernel
theorem xs_ref {i : Nat} {q : String × Nat × String × List Int32} (h : xsT[i]? = some q) : Cond.stringRef q.1 q.2.1 q.2.2.1 ∈ lw_tbl := by
  have hi : i < 24 := by rw [← xs_len]; exact (List.getElem?_eq_some_iff.mp h).1
  have t := List.all_eq_true.mp xs_refs i (List.mem_range.mpr hi)
  rw [h] at t
  cases hn : xsI[i]? with
  | none => rw [hn] at t; cases t
  | some n =>
    rw [hn] at t
    exact tbl_in (List.mem_of_getElem? (of_decide_eq_true t))
theorem xs_in {i : Nat} {q : String × Nat × String × List Int32} (h : xsT[i]? = some q) : ∀ w ∈ xsC q, w ∈ flatC (Jvm.Cond.and given_1 narrow_1) := by
  have hi : i < 24 := by rw [← xs_len]; exact (List.getElem?_eq_some_iff.mp h).1
  have t := List.all_eq_true.mp xs_words i (List.mem_range.mpr hi)
  rw [h] at t
  cases hn : xsN[i]? with
  | none => rw [hn] at t; cases t
  | some n =>
    rw [hn] at t
    exact fun w hw => List.mem_of_mem_drop (pfC_in t w hw)
theorem xk_start {s : State} {args : Array Value} {A : Nat → Prop} (hA : ∀ a : Nat, a < s.heap.size → ¬ A a) (hts0 : ∀ w ∈ lw_tbl, w.before args s = true) (hgv : (Jvm.Cond.and given_1 narrow_1).before args s = true) : ∃ x : Nat → Nat, XK A x s s.heap := by
  have hs := flat_of_before _ hgv
  have h1 : ∀ i : Nat, ∃ p : Nat × Nat, ∀ q, xsT[i]? = some q → vk_R q.1 q.2.1 q.2.2.1 p.1 s ∧ va_O "java/lang/String" p.1 A s s.heap ∧ va_OF "java/lang/String" "coder" "B" (.int 0) p.1 A s s.heap ∧ va_OF "java/lang/String" "value" "[B" (.ref p.2) p.1 A s s.heap ∧ va_T .byte p.2 q.2.2.2.length (fun j => .int (q.2.2.2.getD j 0)) A s s.heap := by
    intro i
    cases hq : xsT[i]? with
    | none => exact ⟨(0, 0), fun q h => by cases h⟩
    | some q =>
      have hm := List.mem_of_getElem? hq
      have hw : ∀ w ∈ xsC q, w.before args s = true := fun w hw => hs w (xs_in hq w hw)
      have hl : q.2.2.2.length < 2 ^ 31 := of_decide_eq_true (List.all_eq_true.mp xs_small q hm)
      obtain ⟨adK, adV, hS, hev⟩ := vk_Sof (args := args) (s := s) (N := 1) (tm := fun _ => Term.string q.1 q.2.1) (len := [q.2.2.2.length]) (byt := [q.2.2.2]) (A := A)
        (fun i hi => by rw [show i = 0 by omega]; exact hl)
        (fun i hi => hw _ List.mem_cons_self)
        (fun i hi => hw _ (List.mem_cons_of_mem _ List.mem_cons_self))
        (fun i hi => hw _ (List.mem_cons_of_mem _ (List.mem_cons_of_mem _ List.mem_cons_self)))
        (fun i hi => by rw [show i = 0 by omega]; exact hw _ (List.mem_cons_of_mem _ (List.mem_cons_of_mem _ (List.mem_cons_of_mem _ List.mem_cons_self))))
        (fun i hi j hj => by
          have e : i = 0 := by omega
          subst e
          exact hw _ (List.mem_cons_of_mem _ (List.mem_cons_of_mem _ (List.mem_cons_of_mem _ (List.mem_cons_of_mem _ (List.mem_map.mpr ⟨j, List.mem_range.mpr hj, rfl⟩))))))
        (fun i j hi hj hij => absurd (show i = j by omega) hij) hA
      obtain ⟨a1, a2, a3, a4⟩ := hS.1 0 (by omega)
      exact ⟨(adK 0, adV 0), fun q' hq' => by cases hq'; exact ⟨vk_R.of (hts0 _ (xs_ref hq)) (hev 0 (by omega)), a1, a2, a3, a4⟩⟩
  obtain ⟨F, hF⟩ := Classical.axiomOfChoice h1
  have z1 : va_Z "java/lang/String" "COMPACT_STRINGS" "Z" (.int 1) A s s.heap := va_Zof (args := args) (hts0 _ (tbl_in (List.mem_of_getElem? (i := 407) (by decide +kernel)))) (hts0 _ (tbl_in (List.mem_of_getElem? (i := 14) (by decide +kernel)))) (va_eqt (hs (Cond.eq (Term.static "java/lang/String" "COMPACT_STRINGS" "Z") (.int 1)) (by decide +kernel))) hA
  have z2 : va_Zq "jdk/internal/util/Preconditions" "SIOOBE_FORMATTER" "Ljava/util/function/BiFunction;" A s s.heap := va_Zqof (args := args) (hts0 _ (tbl_in (List.mem_of_getElem? (i := 423) (by decide +kernel)))) (hts0 _ (tbl_in (List.mem_of_getElem? (i := 16) (by decide +kernel)))) (hs (Cond.isRef (Term.static "jdk/internal/util/Preconditions" "SIOOBE_FORMATTER" "Ljava/util/function/BiFunction;")) (by decide +kernel)) hA
  have fin : ∀ t0 : Nat, (va_Z "jdk/internal/util/Preconditions" "SIOOBE_FORMATTER" "Ljava/util/function/BiFunction;" .null A s s.heap ∨ va_Z "jdk/internal/util/Preconditions" "SIOOBE_FORMATTER" "Ljava/util/function/BiFunction;" (.ref t0) A s s.heap) → ∃ x : Nat → Nat, XK A x s s.heap := by
    intro t0 hz
    refine ⟨fun j => if j < 100 then (F j).1 else if j < 200 then (F (j - 100)).2 else t0, fun i q hq => ?_, z1, ?_⟩
    · have hi : i < 24 := by rw [← xs_len]; exact (List.getElem?_eq_some_iff.mp hq).1
      have e1 : (if i < 100 then (F i).1 else if i < 200 then (F (i - 100)).2 else t0) = (F i).1 := if_pos (by omega)
      have e2 : (if 100 + i < 100 then (F (100 + i)).1 else if 100 + i < 200 then (F (100 + i - 100)).2 else t0) = (F i).2 := by rw [if_neg (by omega), if_pos (by omega), show 100 + i - 100 = i by omega]
      dsimp only
      rw [e1, e2]
      exact hF i q hq
    · have e3 : (if 200 < 100 then (F 200).1 else if 200 < 200 then (F (200 - 100)).2 else t0) = t0 := by rw [if_neg (by omega), if_neg (by omega)]
      dsimp only
      rw [e3]
      exact hz
  rcases z2 with h | ⟨t, h⟩
  · exact fin 0 (Or.inl h)
  · exact fin t (Or.inr h)
end
section
theorem prim_known {s : State} {args : Array Value} {ty : FieldType} (h : (Cond.arrayClass ty).before args s = true) (hr : ∀ c, s.vm.findClass ("[" ++ ty.toString) = some c → va_RA s c ty) : ∃ cA, ArrOfT s cA ty ∧ va_RA s cA ty := by
  obtain ⟨cA, kA, comp, h1, h2, h3⟩ := Cond.arrayClass_spec h
  exact ⟨cA, fun n z => ⟨fun k h => (by cases h), kA, h2, comp, h3⟩, hr _ h1⟩
theorem hill_known {s : State} {C : String} (h : va_AO C s) : ∃ cA, ArrOfT s cA (.object C) ∧ va_RA s cA (.object C) := by
  obtain ⟨comp, c, k, h1, h2, h3, h4, h5⟩ := Cond.arrayOver_spec h
  exact ⟨c, fun n z => ⟨fun k h => (by cases h), k, h3, comp, h4⟩, k, comp, h3, h4, h1, h5⟩
noncomputable def inB (y : Nat) : Bool := match vwCl[y]? with
  | some (C, _, N) => wAt (cW y).1 (Cond.instantiable C N)
  | none => true
theorem in_all : (List.range 12).all inB = true := by decide +kernel
theorem wa_over : (Cond.arrayOver (.object "HalvedNames$Hill")) ∈ lw_tbl := tbl_in (List.mem_of_getElem? (i := 296) (by decide +kernel))
theorem kk_start {s : State} {args : Array Value} {A : Nat → Prop} (hA : ∀ a : Nat, a < s.heap.size → ¬ A a) (hgv : (Jvm.Cond.and given_1 narrow_1).before args s = true) (hts0 : ∀ w ∈ lw_tbl, w.before args s = true) (hts : ∀ w ∈ gtb, w.before args s = true) : ∃ (D : va_G) (tys : List (ClassId × FieldType)), KK D tys A s ∧ ∀ t, t < 5 → tys[t]? = some (cid tys t, ftyp t) := by
  have ho : va_AO "HalvedNames$Hill" s := va_AO.of (hts0 _ wa_over)
  obtain ⟨c0, a0, b0⟩ := prim_known (hts _ (wAt_in wa_int)) (fun c h => h)
  obtain ⟨c1, a1, b1⟩ := prim_known (hts _ (wAt_in wa_byte)) (fun c h => h)
  obtain ⟨c2, a2, b2⟩ := prim_known (hts _ (wAt_in wa_bool)) (fun c h => h)
  obtain ⟨c3, a3, b3⟩ := prim_known (hts _ (wAt_in wa_long)) (fun c h => h)
  obtain ⟨c4, a4, b4⟩ := hill_known ho
  have hD : ∀ c : Nat, ∃ d : ClassId × (Nat → Nat), ∀ q, vwCl[c]? = some q → u_Kn s q.1 q.2.1 q.2.2 d.1 d.2 := by
    intro c
    cases hc : vwCl[c]? with
    | none => exact ⟨(0, fun _ => 0), fun q h => by cases h⟩
    | some q =>
      obtain ⟨C, T, N⟩ := q
      have hl : c < 12 := (List.getElem?_eq_some_iff.mp hc).1
      have hi := List.all_eq_true.mp in_all c (List.mem_range.mpr hl)
      unfold inB at hi
      rw [hc] at hi
      obtain ⟨cC, iS, hk⟩ := u_known hts (cls_ok c C T N hc).1 (hts _ (wAt_in hi))
      exact ⟨(cC, iS), fun q h => by cases h; exact hk⟩
  obtain ⟨F, hF⟩ := Classical.axiomOfChoice hD
  obtain ⟨x, hx⟩ := xk_start hA hts0 hgv
  refine ⟨(fun c => (F c).1, fun c => if c = 1000 then x else (F c).2), [(c0, .int), (c1, .byte), (c2, .boolean), (c3, .long), (c4, .object "HalvedNames$Hill")], ⟨⟨fun c q h => ?_, fun k q h => ?_⟩, ho, by show XK A (if (1000 : Nat) = 1000 then x else (F 1000).2) s s.heap; rw [if_pos rfl]; exact hx⟩, fun t ht => ?_⟩
  · have hc : c < 12 := (List.getElem?_eq_some_iff.mp h).1
    show u_Kn s q.1 q.2.1 q.2.2 (F c).1 (if c = 1000 then x else (F c).2)
    rw [if_neg (by omega)]
    exact hF c q h
  · match k, h with
    | 0, h => cases h; exact ⟨a0, b0⟩
    | 1, h => cases h; exact ⟨a1, b1⟩
    | 2, h => cases h; exact ⟨a2, b2⟩
    | 3, h => cases h; exact ⟨a3, b3⟩
    | 4, h => cases h; exact ⟨a4, b4⟩
    | k + 5, h => simp at h
  · match t, ht with
    | 0, _ => rfl
    | 1, _ => rfl
    | 2, _ => rfl
    | 3, _ => rfl
    | 4, _ => rfl
    | t + 5, ht => omega
/-! the law's own steps -/
noncomputable def LFix (D : va_G) (tys : List (ClassId × FieldType)) (A : Nat → Prop) (p : Program) (R : Room) (s : State) (m : MethodId) (args : Array Value) (c : Code) : Prop :=
  p.tables.exec = Jvm.exec ∧ c.code = code ∧ c.maxLocals = 4 ∧ s.vm.findClass "HalvedNamesLaw" = some m.cls ∧ (∀ w ∈ gtb, w.before args s = true) ∧ KK D tys A s ∧ 14 ≤ R.frames ∧ 528 ≤ R.locals ∧ (∀ q, s.heap.size ≤ q → A q)
section LAW
variable {p : Program} {l : Launch} {e : Env} {R : Room} {s : State} {m : MethodId} {args : Array Value} {below : List Frame} {meth : Method} {c : Code} {Q : State → Prop} {D : va_G} {tys : List (ClassId × FieldType)} {A : Nat → Prop}
noncomputable def LV (p : Program) (l : Launch) (e : Env) (R : Room) (s : State) (m : MethodId) (args : Array Value) (below : List Frame) (meth : Method) (c : Code) (Q : State → Prop) (D : va_G) (A : Nat → Prop) (cells slots pc : Nat) (lv : List (Nat × Value)) (st : List Value) (ws : va_W) : Prop :=
  ∀ (H : Heap) (locs : List Loc) (ls : Array Slot), lv_has ls 4 lv → Hp D A s ws H locs → W p l e R s m args below meth c H locs cells slots Q (F0 m pc ls st)
variable {cells slots pc : Nat} {lv : List (Nat × Value)} {st : List Value} {ws : va_W}
theorem L_virt {d' mc' ms' b q0 ci N x y : Nat} {T : u_T} {fs As : List Value} {post' : Option Value → va_W → Prop} (F : LFix D tys A p R s m args c) (hy : y < 352) (hk : mKind y = 0) {w : Int} (hw : wAt w (Cond.methodLink "HalvedNamesLaw" x (mY y)) = true) (hdc : decode code pc = .ok (.invokevirtual x, 3)) (hc : CT l D tys A y d' mc' ms' (.ref b :: As) ws post') (hd : d' < 11) (hn : As.length = mN y) (he : ws[q0]? = some (b, .inr (ci, fs))) (hcl : vwCl[ci]? = some ((mY y).cls, T, N)) (hst : (st.map fun v => v.category).sum ≤ 8) (hm : cells + mc' ≤ R.cells ∧ slots + ms' ≤ R.slots)
    (kk : ∀ (r : Option Value) (ws' : va_W), post' r ws' → LV p l e R s m args below meth c Q D A (cells + mc') (slots + ms') (pc + 3) lv (r.toList ++ st) ws') : LV p l e R s m args below meth c Q D A cells slots pc lv (As.reverse ++ .ref b :: st) ws := by
  intro H locs ls hl hH
  have K := fun r ws' H1 locs1 hp h => kk r ws' hp H1 locs1 ls hl h
  obtain ⟨hx, hb, hml, hown, hts, hK, hR1, hR2, hA⟩ := F
  obtain ⟨y1, y2, y3, y4, y5, y6, y7, y8⟩ := y_facts hy
  obtain ⟨v1, v2⟩ := y_virt hy hk
  have hG : GoodIn gtb (wsV "HalvedNamesLaw" x (mY y).cls (mY y) (mWs y)) := by
    intro w hw2
    have hw2 : w ∈ ([.methodLink "HalvedNamesLaw" x (mY y), .instanceMethod (mY y), .selects (mY y).cls (mY y) (mY y), .initialized (mY y).cls] : List Cond) ++ mWs y := hw2
    rcases List.mem_append.mp hw2 with hw2 | hw2
    · simp only [List.mem_cons, List.not_mem_nil, or_false] at hw2
      rcases hw2 with rfl | rfl | rfl | rfl
      · exact lw_good_all _ (wAt_in hw)
      · exact lw_good_all _ v1
      · exact lw_good_all _ v2
      · exact lw_good_all _ y2
    · exact ws_good hy w hw2
  refine va_callQ (va_runV (n := mN y) (As := As) (rest := st) ⟨hx, hb, hml, hown, hts⟩ (hc _ (fun _ _ h => h)) (cwV (mN y) hts hG rfl rfl rfl ⟨rfl, y3, y4, y5⟩ ⟨?_, ?_⟩) ⟨PV_blind, va_recv hK.1 hH.1 hcl he, fun U hU hW => ⟨rfl, by rw [hU]; exact hH.1, KK.moved hW (by rw [hU]; exact hH.2.2.2.1) hK, hH.2.1, fun q hq => hA q (Nat.le_trans hH.2.2.1 (by rw [← hU]; exact hq))⟩⟩ rfl hn hl.1 rfl ?_ hdc hm) hH.2.2 (fun r ws' H1 locs1 h1 h2 h3 h4 => K r ws' H1 locs1 h1 ⟨h2, h3, h4⟩)
  · show d' + 1 + 1 ≤ R.frames
    omega
  · show 8 + (mML y + 11) + 40 * (d' + 1) ≤ R.locals
    omega
  · show 2 * 0 + _ ≤ 8
    omega
theorem L_spec {d' mc' ms' b x y : Nat} {As : List Value} {post' : Option Value → va_W → Prop} (F : LFix D tys A p R s m args c) (hy : y < 352) (hk : mKind y = 2) {w : Int} (hw : wAt w (Cond.methodLink "HalvedNamesLaw" x (mY y)) = true) (hdc : decode code pc = .ok (.invokespecial x, 3)) (hrt : mRet y = none) (hc : CT l D tys A y d' mc' ms' (.ref b :: As) ws post') (hd : d' < 11) (hn : As.length = mN y) (hst : (st.map fun v => v.category).sum ≤ 8) (hm : cells + mc' ≤ R.cells ∧ slots + ms' ≤ R.slots)
    (kk : ∀ (r : Option Value) (ws' : va_W), post' r ws' → LV p l e R s m args below meth c Q D A (cells + mc') (slots + ms') (pc + 3) lv (r.toList ++ st) ws') : LV p l e R s m args below meth c Q D A cells slots pc lv (As.reverse ++ .ref b :: st) ws := by
  intro H locs ls hl hH
  have K := fun r ws' H1 locs1 hp h => kk r ws' hp H1 locs1 ls hl h
  obtain ⟨hx, hb, hml, hown, hts, hK, hR1, hR2, hA⟩ := F
  obtain ⟨y1, y2, y3, y4, y5, y6, y7, y8⟩ := y_facts hy
  obtain ⟨v1, v2⟩ := y_spec hy hk
  have hww : mWs y = Cond.code (mY y) (mCode y) (mML y) none :: gtb := by unfold mWs; rw [hrt]
  refine va_callQ (va_runI (n := mN y) (As := As) (rest := st) ⟨hx, hb, hml, hown, hts⟩ (hc _ (fun _ _ h => h)) (cwI (mN y) hts (ws_good hy) hww rfl rfl (hts _ y2) (hts _ (wAt_in hw)) (hts _ v1) v2 ⟨y3, y4, y5⟩ ⟨?_, ?_⟩) ⟨PV_blind, fun U hU hW => ⟨rfl, by rw [hU]; exact hH.1, KK.moved hW (by rw [hU]; exact hH.2.2.2.1) hK, hH.2.1, fun q hq => hA q (Nat.le_trans hH.2.2.1 (by rw [← hU]; exact hq))⟩⟩ rfl hn hl.1 rfl ?_ hdc hm) hH.2.2 (fun r ws' H1 locs1 h1 h2 h3 h4 => K r ws' H1 locs1 h1 ⟨h2, h3, h4⟩)
  · show d' + 1 + 1 ≤ R.frames
    omega
  · show 8 + (mML y + 11) + 40 * (d' + 1) ≤ R.locals
    omega
  · show 2 * 0 + _ ≤ 8
    omega
theorem L_new {C : String} {T : u_T} {N ci index : Nat} {fs : List Value} {w w1 w2 : Int} (F : LFix D tys A p R s m args c) (hcl : vwCl[ci]? = some (C, T, N)) (hw : wAt w (Cond.classLink "HalvedNamesLaw" index C) = true) (hw1 : wAt w1 (Cond.instantiable C N) = true) (hw2 : wAt w2 (Cond.initialized C) = true) (hdc : decode code pc = .ok (.new index, 3)) (hfs : ∀ j, j < N → defaultValue (clTy ci j) = vp_V fs j) (hc : cells + 1 ≤ R.cells ∧ slots + N ≤ R.slots)
    (kk : ∀ q : Nat, LV p l e R s m args below meth c Q D A (cells + 1) (slots + N) (pc + 3) lv (.ref q :: st) (ws ++ [(q, .inr (ci, fs))])) : LV p l e R s m args below meth c Q D A cells slots pc lv st ws := by
  intro H locs ls hl hH
  have K := fun q H1 h => kk q H1 locs ls hl h
  obtain ⟨hx, hb, hml, hown, hts, hK, hR1, hR2, hA⟩ := F
  exact va_new hx hb hts (cls_ok ci C T N hcl).1 (clTy ci) (cl_ty ci C T N hcl) hown (hts _ (wAt_in hw)) (hts _ (wAt_in hw1)) (hts _ (wAt_in hw2)) hK.1 hH.1 hH.2.1 hH.2.2 hA hcl hfs hc.1 hc.2 hdc (fun q H1 k2 k3 k4 => K q H1 ⟨k2, k3, k4⟩)
end LAW
end
section
section LAW2
variable {p : Program} {l : Launch} {e : Env} {R : Room} {s : State} {m : MethodId} {args : Array Value} {below : List Frame} {meth : Method} {c : Code} {Q : State → Prop} {D : va_G} {tys : List (ClassId × FieldType)} {A : Nat → Prop}
variable {cells slots pc : Nat} {lv : List (Nat × Value)} {st : List Value} {ws : va_W}
theorem L_dup {v : Value} (F : LFix D tys A p R s m args c) (hd : decode code pc = .ok (.dup, 1)) (hv : v.category = 1) (kk : LV p l e R s m args below meth c Q D A cells slots (pc + 1) lv (v :: v :: st) ws) : LV p l e R s m args below meth c Q D A cells slots pc lv (v :: st) ws := by
  intro H locs ls hl hH
  exact lv_dup F.1 F.2.1 hd hv (kk H locs ls hl hH)
theorem L_ast {v i : Nat} (F : LFix D tys A p R s m args c) {f : Fin 4} (hd : decode code pc = .ok (.astore_n f, 1)) (hf : (f : Nat) = i) (kk : LV p l e R s m args below meth c Q D A cells slots (pc + 1) (stL i (.ref v) lv) st ws) : LV p l e R s m args below meth c Q D A cells slots pc lv (.ref v :: st) ws := by
  intro H locs ls hl hH
  exact lv_astore_n F.1 F.2.1 hd hf hl (by omega) rfl (fun ls' hl' => kk H locs ls' hl' hH)
theorem L_ist {v : Int32} {i : Nat} (F : LFix D tys A p R s m args c) {f : Fin 4} (hd : decode code pc = .ok (.istore_n f, 1)) (hf : (f : Nat) = i) (kk : LV p l e R s m args below meth c Q D A cells slots (pc + 1) (stL i (.int v) lv) st ws) : LV p l e R s m args below meth c Q D A cells slots pc lv (.int v :: st) ws := by
  intro H locs ls hl hH
  exact lv_istore_n F.1 F.2.1 hd hf hl (by omega) rfl (fun ls' hl' => kk H locs ls' hl' hH)
theorem L_al {v i : Nat} (F : LFix D tys A p R s m args c) {f : Fin 4} (hd : decode code pc = .ok (.aload_n f, 1)) (hf : (f : Nat) = i) (hv : (i, Value.ref v) ∈ lv) (kk : LV p l e R s m args below meth c Q D A cells slots (pc + 1) lv (.ref v :: st) ws) : LV p l e R s m args below meth c Q D A cells slots pc lv st ws := by
  intro H locs ls hl hH
  exact lv_aload_n F.1 F.2.1 hd hf (hl.2.2 _ hv) (kk H locs ls hl hH)
theorem L_il {v : Int32} {i : Nat} (F : LFix D tys A p R s m args c) {f : Fin 4} (hd : decode code pc = .ok (.iload_n f, 1)) (hf : (f : Nat) = i) (hv : (i, Value.int v) ∈ lv) (kk : LV p l e R s m args below meth c Q D A cells slots (pc + 1) lv (.int v :: st) ws) : LV p l e R s m args below meth c Q D A cells slots pc lv st ws := by
  intro H locs ls hl hH
  exact lv_iload_n F.1 F.2.1 hd hf (hl.2.2 _ hv) (kk H locs ls hl hH)
theorem L_arg {b L : Nat} {xs : Nat → Int32} {i : Int32} {k : Int} (F : LFix D tys A p R s m args c) (hX : va_X b L xs s s.heap) (hbl : b < s.heap.size) (hbA : ¬ A b) (h0 : (0, Value.ref b) ∈ lv) (h3 : (3, Value.int i) ∈ lv) (d0 : decode code pc = .ok (.aload_n 0, 1)) (d1 : decode code (pc + 1) = .ok (.iload_n 3, 1)) (d2 : decode code (pc + 2) = .ok (.iconst k, 1)) (d3 : decode code (pc + 3) = .ok (.iadd, 1)) (d4 : decode code (pc + 4) = .ok (.iaload, 1)) (hin : vp_in (i + Int32.ofInt k) L)
    (kk : LV p l e R s m args below meth c Q D A cells slots (pc + 5) lv (.int (xs (i + Int32.ofInt k).toNatClampNeg) :: st) ws) : LV p l e R s m args below meth c Q D A cells slots pc lv st ws := by
  intro H locs ls hl hH
  refine lv_aload_n F.1 F.2.1 d0 rfl (hl.2.2 _ h0) ?_
  refine lv_iload_n F.1 F.2.1 d1 rfl (hl.2.2 _ h3) ?_
  refine lv_iconst F.1 F.2.1 d2 rfl ?_
  refine lv_iadd F.1 F.2.1 d3 ?_
  exact va_sld F.1 F.2.1 hX hbl hbA hH.2.2 hin d4 (kk H locs ls hl hH)
theorem dfl_map {ad ad' : Nat → Nat} {y N : Nat} (h : (List.range N).all (fun j => okT (clTy y j)) = true) : (dflN y N).map (cnC ad) = (dflN y N).map (cnC ad') := by
  refine List.map_congr_left (fun v hv => ?_)
  unfold dflN at hv
  obtain ⟨j, hj, rfl⟩ := List.mem_map.mp hv
  have hk := List.all_eq_true.mp h j hj
  rw [← dv_ok hk, dv_ok (ad := ad') hk]
theorem dfl_vp {ad : Nat → Nat} {y N : Nat} (h : (List.range N).all (fun j => okT (clTy y j)) = true) : ∀ j, j < N → defaultValue (clTy y j) = vp_V ((dflN y N).map (cnC ad)) j := by
  intro j hj
  have hk := List.all_eq_true.mp h j (List.mem_range.mpr hj)
  show _ = ((dflN y N).map (cnC ad)).getD j .null
  unfold dflN
  rw [List.getD_eq_getElem?_getD, List.getElem?_map, List.getElem?_map, List.getElem?_range hj]
  exact dv_ok hk
theorem okX : (List.range 13).all (fun j => okT (clTy 10 j)) = true := by decide +kernel
theorem okM : (List.range 36).all (fun j => okT (clTy 11 j)) = true := by decide +kernel
theorem hX_eq : cx limT 4000 3 0 (0, [(0, (2, 0))], [], [(0, 10, 13, dflN 10 13)], 0, 0) = some hX := by
  have hl := lX
  unfold hX at hl ⊢
  generalize cx limT 4000 3 0 (0, [(0, (2, 0))], [], [(0, 10, 13, dflN 10 13)], 0, 0) = o at hl ⊢
  cases o with
  | none => cases hl
  | some w => rfl
theorem hM_eq : cx limT 4000 3 192 (0, [(0, (2, 90))], [], hX ++ [(0, 11, 36, dflN 11 36)], 0, 0) = some hM := by
  have hl := lM
  unfold hM at hl ⊢
  generalize cx limT 4000 3 192 (0, [(0, (2, 90))], [], hX ++ [(0, 11, 36, dflN 11 36)], 0, 0) = o at hl ⊢
  cases o with
  | none => cases hl
  | some w => rfl
noncomputable def PX (w : List CE) (tys : List (ClassId × FieldType)) (q : Nat) : Option Value → va_W → Prop := fun r ws' => r = none ∧ ∃ ad' : Nat → Nat, ad' 0 = q ∧ ws' = cwF tys ad' 0 w
theorem ctX (HT : ∀ t, t < 5 → tys[t]? = some (cid tys t, ftyp t)) (q : Nat) : CT l D tys A 0 3 (limT 0).1 (limT 0).2 [.ref q] [(q, .inr (10, (dflN 10 13).map (cnC (fun _ => 0))))] (PX hX tys q) := by
  refine CT_of_V (by decide) (show (1 : Nat) ≤ mML 0 by decide +kernel) ?_
  have K := cx_ok (l := l) (D := D) (A := A) HT _ _ _ _ _ _ _ _ _ _ hX_eq (fun _ => q) (PX hX tys q) (fun ad' ha _ => ⟨rfl, ad', ha 0 (Nat.lt_succ_self 0), rfl⟩)
  have K : V l D tys A 0 3 (limT 0).1 (limT 0).2 (PX hX tys q) 0 0 0 (lv_args 0 [.ref q]) [] [(q, .inr (10, (dflN 10 13).map (cnC (fun _ => q))))] := K
  rw [dfl_map (ad' := fun _ => 0) okX] at K
  exact K
noncomputable def PM (w : List CE) (tys : List (ClassId × FieldType)) (q0 q : Nat) : Option Value → va_W → Prop := fun r ws' => r = none ∧ ∃ ad' : Nat → Nat, ad' 0 = q0 ∧ ad' 90 = q ∧ ws' = cwF tys ad' 0 w
theorem ctM (HT : ∀ t, t < 5 → tys[t]? = some (cid tys t, ftyp t)) (ad : Nat → Nat) (q : Nat) : CT l D tys A 192 3 (limT 192).1 (limT 192).2 [.ref q] (cwF tys ad 0 hX ++ [(q, .inr (11, (dflN 11 36).map (cnC (fun _ => 0))))]) (PM hM tys (ad 0) q) := by
  refine CT_of_V (by decide) (show (1 : Nat) ≤ mML 192 by decide +kernel) ?_
  have hlen : (hX ++ [((0 : Nat), (11 : Nat), (36 : Nat), dflN 11 36)]).length = 91 := by rw [List.length_append, lX]; rfl
  have K := cx_ok (l := l) (D := D) (A := A) HT _ _ _ _ _ _ _ _ _ _ hM_eq (upA ad 90 q) (PM hM tys (ad 0) q) (fun ad' ha _ => ⟨rfl, ad', by rw [ha 0 (by rw [hlen]; omega)]; rfl, by rw [ha 90 (by rw [hlen]; omega)]; exact if_pos rfl, rfl⟩)
  have hw := wf_X
  rw [← lX] at hw
  have e3 := (wfW_eq (tys := tys) (ad := ad) (ad' := upA ad 90 q) hw (fun i hi => if_neg (by rw [lX] at hi; omega))).2.2
  rw [cwF_app, e3, lX] at K
  have K : V l D tys A 192 3 (limT 192).1 (limT 192).2 (PM hM tys (ad 0) q) 0 0 0 [(0, Value.ref (upA ad 90 q 90))] [] (cwF tys ad 0 hX ++ [(upA ad 90 q 90, .inr (11, (dflN 11 36).map (cnC (upA ad 90 q))))]) := K
  rw [show upA ad 90 q 90 = q from if_pos rfl, dfl_map (ad' := fun _ => 0) okM] at K
  exact K
theorem wl_X : wAt 20 (Cond.classLink "HalvedNamesLaw" 7 "HalvedNames") = true := by decide +kernel
theorem wl_M : wAt 1201 (Cond.classLink "HalvedNamesLaw" 10 "HalvedNamesModel") = true := by decide +kernel
theorem wl_Xi : wAt 22 (Cond.methodLink "HalvedNamesLaw" 9 (mY 0)) = true := by decide +kernel
theorem wl_Mi : wAt 1203 (Cond.methodLink "HalvedNamesLaw" 12 (mY 192)) = true := by decide +kernel
theorem wi_X : wAt (cW 10).1 (Cond.instantiable "HalvedNames" 13) = true := by decide +kernel
theorem wi_M : wAt (cW 11).1 (Cond.instantiable "HalvedNamesModel" 36) = true := by decide +kernel
theorem wn_X : wAt (cW 10).2 (Cond.initialized "HalvedNames") = true := by decide +kernel
theorem wn_M : wAt (cW 11).2 (Cond.initialized "HalvedNamesModel") = true := by decide +kernel
theorem dl_0 : decode code 0 = .ok (.new 7, 3) := by decide +kernel
theorem dl_3 : decode code 3 = .ok (.dup, 1) := by decide +kernel
theorem dl_4 : decode code 4 = .ok (.invokespecial 9, 3) := by decide +kernel
theorem dl_7 : decode code 7 = .ok (.astore_n 1, 1) := by decide +kernel
theorem dl_8 : decode code 8 = .ok (.new 10, 3) := by decide +kernel
theorem dl_11 : decode code 11 = .ok (.dup, 1) := by decide +kernel
theorem dl_12 : decode code 12 = .ok (.invokespecial 12, 3) := by decide +kernel
theorem dl_15 : decode code 15 = .ok (.astore_n 2, 1) := by decide +kernel
theorem L_start {b : Nat} {wX wM : List CE} (F : LFix D tys A p R s m args c) (cX : ∀ q : Nat, CT l D tys A 0 3 (limT 0).1 (limT 0).2 [.ref q] [(q, .inr (10, (dflN 10 13).map (cnC (fun _ => 0))))] (PX wX tys q)) (cM : ∀ (ad : Nat → Nat) (q : Nat), CT l D tys A 192 3 (limT 192).1 (limT 192).2 [.ref q] (cwF tys ad 0 wX ++ [(q, .inr (11, (dflN 11 36).map (cnC (fun _ => 0))))]) (PM wM tys (ad 0) q)) (hR : 600000 ≤ R.cells ∧ 7302250 ≤ R.slots) (kk : ∀ ad : Nat → Nat, LV p l e R s m args below meth c Q D A 111 12403 16 [(2, .ref (ad 90)), (1, .ref (ad 0)), (0, .ref b)] [] (cwF tys ad 0 wM)) : LV p l e R s m args below meth c Q D A 0 0 0 [(0, .ref b)] [] [] := by
  refine L_new (fs := (dflN 10 13).map (cnC (fun _ => 0))) F (show vwCl[10]? = some ("HalvedNames", _, 13) from rfl) wl_X wi_X wn_X dl_0 (dfl_vp okX) (by omega) (fun q => ?_)
  refine L_dup F dl_3 rfl ?_
  refine L_spec (As := []) (y := 0) F (by omega) (by decide +kernel) wl_Xi dl_4 (by decide +kernel) (cX q) (by omega) (by decide +kernel) (by show (1 + 0 : Nat) ≤ 8; omega) ⟨by show 0 + 1 + 89 ≤ _; omega, by show 0 + 13 + 6089 ≤ _; omega⟩ (fun r ws' hr => ?_)
  have hr : r = none ∧ ∃ ad' : Nat → Nat, ad' 0 = q ∧ ws' = cwF tys ad' 0 wX := hr
  obtain ⟨hr1, ad, ha, hr2⟩ := hr
  rw [hr1, hr2, ← ha]
  refine L_ast (i := 1) F dl_7 rfl ?_
  refine L_new (fs := (dflN 11 36).map (cnC (fun _ => 0))) F (show vwCl[11]? = some ("HalvedNamesModel", _, 36) from rfl) wl_M wi_M wn_M dl_8 (dfl_vp okM) ⟨by show 0 + 1 + 89 + 1 ≤ _; omega, by show 0 + 13 + 6089 + 36 ≤ _; omega⟩ (fun q2 => ?_)
  refine L_dup F dl_11 rfl ?_
  refine L_spec (As := []) (y := 192) F (by omega) (by decide +kernel) wl_Mi dl_12 (by decide +kernel) (cM ad q2) (by omega) (by decide +kernel) (by show (1 + 0 : Nat) ≤ 8; omega) ⟨by show 0 + 1 + 89 + 1 + 20 ≤ _; omega, by show 0 + 13 + 6089 + 36 + 6265 ≤ _; omega⟩ (fun r ws' hr => ?_)
  have hr : r = none ∧ ∃ ad' : Nat → Nat, ad' 0 = ad 0 ∧ ad' 90 = q2 ∧ ws' = cwF tys ad' 0 wM := hr
  obtain ⟨hr1, ad2, h0, h90, hr2⟩ := hr
  rw [hr1, hr2, ← h0, ← h90]
  refine L_ast (i := 2) F dl_15 rfl ?_
  exact kk ad2
end LAW2
end
section
section LAW3
variable {p : Program} {l : Launch} {e : Env} {R : Room} {s : State} {m : MethodId} {args : Array Value} {below : List Frame} {meth : Method} {c : Code} {Q : State → Prop} {D : va_G} {tys : List (ClassId × FieldType)} {A : Nat → Prop}
variable {cells slots pc : Nat} {lv : List (Nat × Value)} {st : List Value} {ws : va_W}
theorem rt_int {ad : Nat → Nat} {z : Int} {r : Option Value} (h : rtOK ad (some (0, z, z)) r) : r = some (.int (Int32.ofInt z)) := by
  cases r with
  | none => cases h
  | some v =>
    obtain ⟨y, rfl, y1, y2⟩ := h
    have y1 : z ≤ y := y1
    have y2 : y ≤ z := y2
    rw [show y = z by omega]
theorem ok_int {ad : Nat → Nat} {lo hi : Int} {v : Int32} (h1 : lo ≤ v.toInt) (h2 : v.toInt ≤ hi) : okv ad (0, lo, hi) (.int v) := ⟨v.toInt, by rw [Int32.ofInt_toInt], h1, h2⟩
theorem ok_full {ad : Nat → Nat} {v : Int32} : okv ad (0, -2147483648, 2147483647) (.int v) := ok_int (by have := Int32.le_toInt v; omega) (by have := Int32.toInt_lt v; omega)
end LAW3
end
section
section LAW4
variable {p : Program} {l : Launch} {e : Env} {R : Room} {s : State} {m : MethodId} {args : Array Value} {below : List Frame} {meth : Method} {c : Code} {Q : State → Prop} {D : va_G} {tys : List (ClassId × FieldType)} {A : Nat → Prop}
variable {cells slots pc : Nat} {lv : List (Nat × Value)} {st : List Value} {ws : va_W}
theorem L_i2l {v : Int32} (F : LFix D tys A p R s m args c) (hd : decode code pc = .ok (.i2l, 1)) (kk : LV p l e R s m args below meth c Q D A cells slots (pc + 1) lv (.long v.toInt64 :: st) ws) : LV p l e R s m args below meth c Q D A cells slots pc lv (.int v :: st) ws := by
  intro H locs ls hl hH
  exact lv_i2l F.1 F.2.1 hd rfl (kk H locs ls hl hH)
theorem L_bp {v : Int32} {n : Int} (F : LFix D tys A p R s m args c) (hd : decode code pc = .ok (.bipush n, 2)) (hv : (Int8.ofInt n).toInt32 = v) (kk : LV p l e R s m args below meth c Q D A cells slots (pc + 2) lv (.int v :: st) ws) : LV p l e R s m args below meth c Q D A cells slots pc lv st ws := by
  intro H locs ls hl hH
  exact lv_bipush F.1 F.2.1 hd hv (kk H locs ls hl hH)
theorem L_ic {v : Int32} {n : Int} (F : LFix D tys A p R s m args c) (hd : decode code pc = .ok (.iconst n, 1)) (hv : Int32.ofInt n = v) (kk : LV p l e R s m args below meth c Q D A cells slots (pc + 1) lv (.int v :: st) ws) : LV p l e R s m args below meth c Q D A cells slots pc lv st ws := by
  intro H locs ls hl hH
  exact lv_iconst F.1 F.2.1 hd hv (kk H locs ls hl hH)
theorem L_lshl {x : Int64} {y : Int32} (F : LFix D tys A p R s m args c) (hd : decode code pc = .ok (.lshl, 1)) (kk : LV p l e R s m args below meth c Q D A cells slots (pc + 1) lv (.long (x <<< (y.toInt64 &&& 63)) :: st) ws) : LV p l e R s m args below meth c Q D A cells slots pc lv (.int y :: .long x :: st) ws := by
  intro H locs ls hl hH
  exact lv_lshl F.1 F.2.1 hd rfl (kk H locs ls hl hH)
theorem L_land {x y : Int64} (F : LFix D tys A p R s m args c) (hd : decode code pc = .ok (.land, 1)) (kk : LV p l e R s m args below meth c Q D A cells slots (pc + 1) lv (.long (x &&& y) :: st) ws) : LV p l e R s m args below meth c Q D A cells slots pc lv (.long y :: .long x :: st) ws := by
  intro H locs ls hl hH
  exact lv_land F.1 F.2.1 hd (kk H locs ls hl hH)
theorem L_lor {x y : Int64} (F : LFix D tys A p R s m args c) (hd : decode code pc = .ok (.lor, 1)) (kk : LV p l e R s m args below meth c Q D A cells slots (pc + 1) lv (.long (x ||| y) :: st) ws) : LV p l e R s m args below meth c Q D A cells slots pc lv (.long y :: .long x :: st) ws := by
  intro H locs ls hl hH
  exact lv_lor F.1 F.2.1 hd (kk H locs ls hl hH)
theorem L_ldc2 {v : Int64} {index : Nat} {w : Int} (F : LFix D tys A p R s m args c) (hw : wAt w (Cond.constantLong "HalvedNamesLaw" index v) = true) (hd : decode code pc = .ok (.ldc2_w index, 3)) (kk : LV p l e R s m args below meth c Q D A cells slots (pc + 3) lv (.long v :: st) ws) : LV p l e R s m args below meth c Q D A cells slots pc lv st ws := by
  intro H locs ls hl hH
  exact lv_ldc2 F.1 F.2.1 F.2.2.2.1 (F.2.2.2.2.1 _ (wAt_in hw)) hd (kk H locs ls hl hH)
theorem L_isub {x y : Int32} (F : LFix D tys A p R s m args c) (hd : decode code pc = .ok (.isub, 1)) (kk : LV p l e R s m args below meth c Q D A cells slots (pc + 1) lv (.int (x - y) :: st) ws) : LV p l e R s m args below meth c Q D A cells slots pc lv (.int y :: .int x :: st) ws := by
  intro H locs ls hl hH
  exact lv_isub F.1 F.2.1 hd (kk H locs ls hl hH)
theorem L_iand {x y : Int32} (F : LFix D tys A p R s m args c) (hd : decode code pc = .ok (.iand, 1)) (kk : LV p l e R s m args below meth c Q D A cells slots (pc + 1) lv (.int (x &&& y) :: st) ws) : LV p l e R s m args below meth c Q D A cells slots pc lv (.int y :: .int x :: st) ws := by
  intro H locs ls hl hH
  exact lv_iand F.1 F.2.1 hd (kk H locs ls hl hH)
theorem L_gt {x y : Int32} {off : Int} {t : Nat} (F : LFix D tys A p R s m args c) (hd : decode code pc = .ok (.if_icmp .gt off, 3)) (ho : (pc : Int) + off = (t : Int)) (k1 : y < x → LV p l e R s m args below meth c Q D A cells slots t lv st ws) (k2 : ¬ y < x → LV p l e R s m args below meth c Q D A cells slots (pc + 3) lv st ws) : LV p l e R s m args below meth c Q D A cells slots pc lv (.int y :: .int x :: st) ws := by
  intro H locs ls hl hH
  exact lv_icmp_gt F.1 F.2.1 hd ho (fun h => k1 h H locs ls hl hH) (fun h => k2 h H locs ls hl hH)
theorem L_goto {off : Int} {t : Nat} (F : LFix D tys A p R s m args c) (hd : decode code pc = .ok (.goto off, 3)) (ho : (pc : Int) + off = (t : Int)) (kk : LV p l e R s m args below meth c Q D A cells slots t lv st ws) : LV p l e R s m args below meth c Q D A cells slots pc lv st ws := by
  intro H locs ls hl hH
  exact lv_goto F.1 F.2.1 hd ho (kk H locs ls hl hH)
theorem L_iinc {v : Int32} {i : Nat} {n : Int} (F : LFix D tys A p R s m args c) (hd : decode code pc = .ok (.iinc i n, 3)) (hi : i < 4) (hv : (i, Value.int v) ∈ lv) (kk : LV p l e R s m args below meth c Q D A cells slots (pc + 3) (stL i (.int (v + Int32.ofInt n)) lv) st ws) : LV p l e R s m args below meth c Q D A cells slots pc lv st ws := by
  intro H locs ls hl hH
  obtain ⟨j, hj⟩ := List.getElem?_of_mem hv
  exact lv_iinc F.1 F.2.1 hd hl hj rfl hi rfl (fun ls' hl' => kk H locs ls' hl' hH)
theorem L_len {b L : Nat} {xs : Nat → Int32} (F : LFix D tys A p R s m args c) (hX : va_X b L xs s s.heap) (hbl : b < s.heap.size) (hbA : ¬ A b) (hd : decode code pc = .ok (.arraylength, 1)) (kk : LV p l e R s m args below meth c Q D A cells slots (pc + 1) lv (.int (Int32.ofNat L) :: st) ws) : LV p l e R s m args below meth c Q D A cells slots pc lv (.ref b :: st) ws := by
  intro H locs ls hl hH
  exact va_slen F.1 F.2.1 hX hbl hbA hH.2.2 hd (kk H locs ls hl hH)
theorem L_ald {b L : Nat} {xs : Nat → Int32} {i : Int32} (F : LFix D tys A p R s m args c) (hX : va_X b L xs s s.heap) (hbl : b < s.heap.size) (hbA : ¬ A b) (hin : vp_in i L) (hd : decode code pc = .ok (.iaload, 1)) (kk : LV p l e R s m args below meth c Q D A cells slots (pc + 1) lv (.int (xs i.toNatClampNeg) :: st) ws) : LV p l e R s m args below meth c Q D A cells slots pc lv (.int i :: .ref b :: st) ws := by
  intro H locs ls hl hH
  exact va_sld F.1 F.2.1 hX hbl hbA hH.2.2 hin hd (kk H locs ls hl hH)
/-- the switch, by a list of targets -/
theorem L_sw {u : Int32} {doff lo hi : Int} {offs : Array Int} {ts : List Nat} {n d0 : Nat} (F : LFix D tys A p R s m args c) (hd : decode code pc = .ok (.tableswitch doff lo hi offs, n)) (h0 : (pc : Int) + doff = (d0 : Int)) (hts : offs.toList.map (fun q => (pc : Int) + q) = ts.map (fun t : Nat => (t : Int))) (hn : hi - lo + 1 = (ts.length : Int)) (k0 : LV p l e R s m args below meth c Q D A cells slots d0 lv st ws) (kk : ∀ t ∈ ts, LV p l e R s m args below meth c Q D A cells slots t lv st ws) : LV p l e R s m args below meth c Q D A cells slots pc lv (.int u :: st) ws := by
  intro H locs ls hl hH
  by_cases hc : u.toInt < lo ∨ hi < u.toInt
  · exact lv_tableOut F.1 F.2.1 hd hc h0 (k0 H locs ls hl hH)
  · have hlt : (u.toInt - lo).toNat < ts.length := by omega
    have e1 : (offs.toList.map (fun q => (pc : Int) + q))[(u.toInt - lo).toNat]? = some ((ts[(u.toInt - lo).toNat] : Nat) : Int) := by
      rw [hts, List.getElem?_map, List.getElem?_eq_getElem hlt]
      rfl
    rw [List.getElem?_map] at e1
    cases e2 : offs.toList[(u.toInt - lo).toNat]? with
    | none => rw [e2] at e1; cases e1
    | some off =>
      rw [e2] at e1
      have e1 : (pc : Int) + off = ((ts[(u.toInt - lo).toNat] : Nat) : Int) := Option.some.inj e1
      exact lv_tableIn F.1 F.2.1 hd (by omega) (by omega) (by rw [← Array.getElem?_toList]; exact e2) e1 (kk _ (List.getElem_mem hlt) H locs ls hl hH)
theorem ok_long {ad : Nat → Nat} {lo hi : Int} {v : Int64} (h1 : lo ≤ v.toInt) (h2 : v.toInt ≤ hi) : okv ad (1, lo, hi) (.long v) := ⟨v.toInt, by rw [Int64.ofInt_toInt], h1, h2⟩
theorem ok_fullL {ad : Nat → Nat} {v : Int64} : okv ad (1, -9223372036854775808, 9223372036854775807) (.long v) := ok_long (by have := Int64.le_toInt v; omega) (by have := Int64.toInt_lt v; omega)
end LAW4
end
section
noncomputable def UPo (ad : Nat → Nat) (tys : List (ClassId × FieldType)) (t : Nat) : Option Value → va_W → Prop := fun r w => GOK ad tys GG w ∧ ((t = 0 ∧ ∃ v : Int32, r = some (.int v)) ∨ (t = 1 ∧ ∃ v : Int64, r = some (.long v)))
section LAW5
variable {p : Program} {l : Launch} {e : Env} {R : Room} {s : State} {m : MethodId} {args : Array Value} {below : List Frame} {meth : Method} {c : Code} {Q : State → Prop} {D : va_G} {tys : List (ClassId × FieldType)} {A : Nat → Prop}
variable {cells slots pc : Nat} {lv : List (Nat × Value)} {st : List Value} {ws : va_W} {ad : Nat → Nat}
theorem L_uc {x y q0 ci nf : Nat} {segs : List SG} {As : List Value} {w : Int} {b : Nat} {P : Option Value → va_W → Prop} (F : LFix D tys A p R s m args c) (hu : ∃ d', d' < 11 ∧ CT l D tys A y d' 0 0 (.ref b :: As) ws P) (hy : y < 352) (hkd : mKind y = 0) (hw : wAt w (Cond.methodLink "HalvedNamesLaw" x (mY y)) = true) (hdc : decode code pc = .ok (.invokevirtual x, 3)) (hn : As.length = mN y) (hg : GG[q0]? = some ((0, ci, nf), segs)) (hb : ad q0 = b) (hcl : ∃ T N, vwCl[ci]? = some ((mY y).cls, T, N)) (hst : st.length ≤ 4) (hm : cells ≤ R.cells ∧ slots ≤ R.slots) (hG : GOK ad tys GG ws)
    (kk : ∀ (r : Option Value) (ws' : va_W), P r ws' → LV p l e R s m args below meth c Q D A cells slots (pc + 3) lv (r.toList ++ st) ws') : LV p l e R s m args below meth c Q D A cells slots pc lv (As.reverse ++ .ref b :: st) ws := by
  obtain ⟨d', h1, h2⟩ := hu
  obtain ⟨e0, g1, ⟨fs, rfl, -⟩, -⟩ := hG q0 _ hg
  obtain ⟨T, N, hc⟩ := hcl
  rw [hb] at g1
  have hcs := cat_sum st
  exact L_virt F hy hkd hw hdc h2 h1 hn g1 hc (by omega) hm kk
theorem L_pop0 {r : Option Value} (F : LFix D tys A p R s m args c) (hd : decode code pc = .ok (.pop, 1)) (z : UPo ad tys 0 r ws) (kk : LV p l e R s m args below meth c Q D A cells slots (pc + 1) lv st ws) : LV p l e R s m args below meth c Q D A cells slots pc lv (r.toList ++ st) ws := by
  rcases z.2 with ⟨-, v, rfl⟩ | ⟨h, -⟩
  · intro H locs ls hl hH
    exact lv_pop F.1 F.2.1 hd rfl (kk H locs ls hl hH)
  · cases h
theorem L_pop1 {r : Option Value} (F : LFix D tys A p R s m args c) (hd : decode code pc = .ok (.pop2, 1)) (z : UPo ad tys 1 r ws) (kk : LV p l e R s m args below meth c Q D A cells slots (pc + 1) lv st ws) : LV p l e R s m args below meth c Q D A cells slots pc lv (r.toList ++ st) ws := by
  rcases z.2 with ⟨h, -⟩ | ⟨-, v, rfl⟩
  · cases h
  · intro H locs ls hl hH
    exact lv_pop2_2 F.1 F.2.1 hd rfl (kk H locs ls hl hH)
theorem L_eqE {z : Int32} {off : Int} {t : Nat} (F : LFix D tys A p R s m args c) (hd : decode code pc = .ok (.if_icmp .eq off, 3)) (ho : (pc : Int) + off = (t : Int)) (kk : LV p l e R s m args below meth c Q D A cells slots t lv st ws) : LV p l e R s m args below meth c Q D A cells slots pc lv (.int z :: .int z :: st) ws := by
  intro H locs ls hl hH
  exact lv_icmp_eq F.1 F.2.1 hd ho (fun _ => kk H locs ls hl hH) (fun h => absurd rfl h)
end LAW5
end
section
section LAWP
variable {p : Program} {l : Launch} {e : Env} {R : Room} {s : State} {m : MethodId} {args : Array Value} {below : List Frame} {meth : Method} {c : Code} {Q : State → Prop} {D : va_G} {tys : List (ClassId × FieldType)} {A : Nat → Prop}
variable {cells slots pc : Nat} {lv : List (Nat × Value)} {st : List Value} {ws : va_W} {ad : Nat → Nat}
theorem L_popI {v : Int32} (F : LFix D tys A p R s m args c) (hd : decode code pc = .ok (.pop, 1)) (kk : LV p l e R s m args below meth c Q D A cells slots (pc + 1) lv st ws) : LV p l e R s m args below meth c Q D A cells slots pc lv (.int v :: st) ws := by
  intro H locs ls hl hH
  exact lv_pop F.1 F.2.1 hd rfl (kk H locs ls hl hH)
end LAWP
end
section
theorem mi_212_0 : mI 212 0 = (3, 0, 1, 0, 0) := by decide +kernel
theorem mi_212_1 : mI 212 1 = (5, 0, 0, 0, 0) := by decide +kernel
theorem mi_212_2 : mI 212 2 = (17, 1213, 100, 11, 7) := by decide +kernel
theorem mi_212_5 : mI 212 5 = (15, 16, 3, 21, 0) := by decide +kernel
theorem mi_212_8 : mI 212 8 = (5, 0, 0, 0, 0) := by decide +kernel
theorem mi_212_9 : mI 212 9 = (17, 1210, 20, 11, 4) := by decide +kernel
theorem mi_212_12 : mI 212 12 = (3, 0, 1, 0, 0) := by decide +kernel
theorem mi_212_13 : mI 212 13 = (19, 0, 1, 0, 0) := by decide +kernel
theorem mi_212_14 : mI 212 14 = (1, 255, 2, 0, 0) := by decide +kernel
theorem mi_212_17 : mI 212 17 = (10, 0, 5, 0, 0) := by decide +kernel
theorem mi_212_18 : mI 212 18 = (16, 4, 0, 22, 0) := by decide +kernel
theorem mi_212_21 : mI 212 21 = (1, (-1), 0, 0, 0) := by decide +kernel
theorem mi_212_22 : mI 212 22 = (27, 0, 0, 0, 0) := by decide +kernel
theorem mi_213_0 : mI 213 0 = (5, 0, 0, 0, 0) := by decide +kernel
theorem mi_213_1 : mI 213 1 = (5, 0, 0, 0, 0) := by decide +kernel
theorem mi_213_2 : mI 213 2 = (17, 1214, 103, 11, 8) := by decide +kernel
theorem mi_213_5 : mI 213 5 = (26, 1348, 106, 212, 0) := by decide +kernel
theorem mi_213_8 : mI 213 8 = (1, 32, 1, 0, 0) := by decide +kernel
theorem mi_213_10 : mI 213 10 = (15, 16, 0, 26, 0) := by decide +kernel
theorem mi_213_13 : mI 213 13 = (5, 0, 0, 0, 0) := by decide +kernel
theorem mi_213_14 : mI 213 14 = (5, 0, 0, 0, 0) := by decide +kernel
theorem mi_213_15 : mI 213 15 = (17, 1214, 103, 11, 8) := by decide +kernel
theorem mi_213_18 : mI 213 18 = (26, 1348, 106, 212, 0) := by decide +kernel
theorem mi_213_21 : mI 213 21 = (1, 10, 1, 0, 0) := by decide +kernel
theorem mi_213_23 : mI 213 23 = (15, 16, 1, 39, 0) := by decide +kernel
theorem mi_213_26 : mI 213 26 = (5, 0, 0, 0, 0) := by decide +kernel
theorem mi_213_27 : mI 213 27 = (22, 0, 0, 0, 0) := by decide +kernel
theorem mi_213_28 : mI 213 28 = (17, 1214, 103, 11, 8) := by decide +kernel
theorem mi_213_31 : mI 213 31 = (1, 1, 0, 0, 0) := by decide +kernel
theorem mi_213_32 : mI 213 32 = (10, 0, 0, 0, 0) := by decide +kernel
theorem mi_213_33 : mI 213 33 = (18, 1214, 103, 11, 8) := by decide +kernel
theorem mi_213_36 : mI 213 36 = (16, (-36), 0, 0, 0) := by decide +kernel
theorem mi_213_39 : mI 213 39 = (5, 0, 0, 0, 0) := by decide +kernel
theorem mi_213_40 : mI 213 40 = (5, 0, 0, 0, 0) := by decide +kernel
theorem mi_213_41 : mI 213 41 = (17, 1214, 103, 11, 8) := by decide +kernel
theorem mi_213_44 : mI 213 44 = (18, 1215, 109, 11, 9) := by decide +kernel
theorem mi_213_47 : mI 213 47 = (5, 0, 0, 0, 0) := by decide +kernel
theorem mi_213_48 : mI 213 48 = (5, 0, 0, 0, 0) := by decide +kernel
theorem mi_213_49 : mI 213 49 = (17, 1214, 103, 11, 8) := by decide +kernel
theorem mi_213_52 : mI 213 52 = (26, 1348, 106, 212, 0) := by decide +kernel
theorem mi_213_55 : mI 213 55 = (6, 0, 1, 0, 0) := by decide +kernel
theorem mi_213_56 : mI 213 56 = (3, 0, 1, 0, 0) := by decide +kernel
theorem mi_213_57 : mI 213 57 = (1, (-1), 0, 0, 0) := by decide +kernel
theorem mi_213_58 : mI 213 58 = (15, 11, 1, 69, 0) := by decide +kernel
theorem mi_213_61 : mI 213 61 = (5, 0, 0, 0, 0) := by decide +kernel
theorem mi_213_62 : mI 213 62 = (1, 0, 0, 0, 0) := by decide +kernel
theorem mi_213_63 : mI 213 63 = (18, 1216, 112, 11, 10) := by decide +kernel
theorem mi_213_66 : mI 213 66 = (16, 173, 0, 239, 0) := by decide +kernel
theorem mi_213_69 : mI 213 69 = (3, 0, 1, 0, 0) := by decide +kernel
theorem mi_213_70 : mI 213 70 = (12, 0, 1, 0, 0) := by decide +kernel
theorem mi_213_71 : mI 213 71 = (2, 97, 1, 115, 1352) := by decide +kernel
theorem mi_213_74 : mI 213 74 = (2, 122, 1, 117, 1353) := by decide +kernel
theorem mi_213_77 : mI 213 77 = (26, 1321, 85, 193, 1) := by decide +kernel
theorem mi_213_80 : mI 213 80 = (14, 45, 0, 125, 0) := by decide +kernel
theorem mi_213_83 : mI 213 83 = (5, 0, 0, 0, 0) := by decide +kernel
theorem mi_213_84 : mI 213 84 = (5, 0, 0, 0, 0) := by decide +kernel
theorem mi_213_85 : mI 213 85 = (17, 1214, 103, 11, 8) := by decide +kernel
theorem mi_213_88 : mI 213 88 = (26, 1348, 106, 212, 0) := by decide +kernel
theorem mi_213_91 : mI 213 91 = (12, 0, 1, 0, 0) := by decide +kernel
theorem mi_213_92 : mI 213 92 = (2, 97, 1, 115, 1352) := by decide +kernel
theorem mi_213_95 : mI 213 95 = (2, 122, 1, 117, 1353) := by decide +kernel
theorem mi_213_98 : mI 213 98 = (26, 1321, 85, 193, 1) := by decide +kernel
theorem mi_213_101 : mI 213 101 = (14, 16, 0, 117, 0) := by decide +kernel
theorem mi_213_104 : mI 213 104 = (5, 0, 0, 0, 0) := by decide +kernel
theorem mi_213_105 : mI 213 105 = (22, 0, 0, 0, 0) := by decide +kernel
theorem mi_213_106 : mI 213 106 = (17, 1214, 103, 11, 8) := by decide +kernel
theorem mi_213_109 : mI 213 109 = (1, 1, 0, 0, 0) := by decide +kernel
theorem mi_213_110 : mI 213 110 = (10, 0, 0, 0, 0) := by decide +kernel
theorem mi_213_111 : mI 213 111 = (18, 1214, 103, 11, 8) := by decide +kernel
theorem mi_213_114 : mI 213 114 = (16, (-31), 0, 83, 0) := by decide +kernel
theorem mi_213_117 : mI 213 117 = (5, 0, 0, 0, 0) := by decide +kernel
theorem mi_213_118 : mI 213 118 = (1, 1, 0, 0, 0) := by decide +kernel
theorem mi_213_119 : mI 213 119 = (18, 1216, 112, 11, 10) := by decide +kernel
theorem mi_213_122 : mI 213 122 = (16, 117, 0, 239, 0) := by decide +kernel
theorem mi_213_125 : mI 213 125 = (3, 0, 1, 0, 0) := by decide +kernel
theorem mi_213_126 : mI 213 126 = (12, 0, 1, 0, 0) := by decide +kernel
theorem mi_213_127 : mI 213 127 = (2, 48, 1, 119, 1354) := by decide +kernel
theorem mi_213_130 : mI 213 130 = (2, 57, 1, 121, 1355) := by decide +kernel
theorem mi_213_133 : mI 213 133 = (26, 1321, 85, 193, 1) := by decide +kernel
theorem mi_213_136 : mI 213 136 = (14, 78, 0, 214, 0) := by decide +kernel
theorem mi_213_139 : mI 213 139 = (5, 0, 0, 0, 0) := by decide +kernel
theorem mi_213_140 : mI 213 140 = (1, 0, 0, 0, 0) := by decide +kernel
theorem mi_213_141 : mI 213 141 = (18, 1217, 123, 11, 11) := by decide +kernel
theorem mi_213_144 : mI 213 144 = (5, 0, 0, 0, 0) := by decide +kernel
theorem mi_213_145 : mI 213 145 = (5, 0, 0, 0, 0) := by decide +kernel
theorem mi_213_146 : mI 213 146 = (17, 1214, 103, 11, 8) := by decide +kernel
theorem mi_213_149 : mI 213 149 = (26, 1348, 106, 212, 0) := by decide +kernel
theorem mi_213_152 : mI 213 152 = (12, 0, 1, 0, 0) := by decide +kernel
theorem mi_213_153 : mI 213 153 = (2, 48, 1, 119, 1354) := by decide +kernel
theorem mi_213_156 : mI 213 156 = (2, 57, 1, 121, 1355) := by decide +kernel
theorem mi_213_159 : mI 213 159 = (26, 1321, 85, 193, 1) := by decide +kernel
theorem mi_213_162 : mI 213 162 = (14, 44, 0, 206, 0) := by decide +kernel
theorem mi_213_165 : mI 213 165 = (5, 0, 0, 0, 0) := by decide +kernel
theorem mi_213_166 : mI 213 166 = (1, 99999, 3, 126, 1356) := by decide +kernel
theorem mi_213_168 : mI 213 168 = (1, 10, 1, 0, 0) := by decide +kernel
theorem mi_213_170 : mI 213 170 = (5, 0, 0, 0, 0) := by decide +kernel
theorem mi_213_171 : mI 213 171 = (17, 1217, 123, 11, 11) := by decide +kernel
theorem mi_213_174 : mI 213 174 = (10, 0, 2, 0, 0) := by decide +kernel
theorem mi_213_175 : mI 213 175 = (5, 0, 0, 0, 0) := by decide +kernel
theorem mi_213_176 : mI 213 176 = (5, 0, 0, 0, 0) := by decide +kernel
theorem mi_213_177 : mI 213 177 = (17, 1214, 103, 11, 8) := by decide +kernel
theorem mi_213_180 : mI 213 180 = (26, 1348, 106, 212, 0) := by decide +kernel
theorem mi_213_183 : mI 213 183 = (10, 0, 0, 0, 0) := by decide +kernel
theorem mi_213_184 : mI 213 184 = (1, 48, 1, 0, 0) := by decide +kernel
theorem mi_213_186 : mI 213 186 = (10, 0, 1, 0, 0) := by decide +kernel
theorem mi_213_187 : mI 213 187 = (26, 1357, 127, 342, 1) := by decide +kernel
theorem mi_213_190 : mI 213 190 = (18, 1217, 123, 11, 11) := by decide +kernel
theorem mi_213_193 : mI 213 193 = (5, 0, 0, 0, 0) := by decide +kernel
theorem mi_213_194 : mI 213 194 = (22, 0, 0, 0, 0) := by decide +kernel
theorem mi_213_195 : mI 213 195 = (17, 1214, 103, 11, 8) := by decide +kernel
theorem mi_213_198 : mI 213 198 = (1, 1, 0, 0, 0) := by decide +kernel
theorem mi_213_199 : mI 213 199 = (10, 0, 0, 0, 0) := by decide +kernel
theorem mi_213_200 : mI 213 200 = (18, 1214, 103, 11, 8) := by decide +kernel
theorem mi_213_203 : mI 213 203 = (16, (-59), 0, 144, 0) := by decide +kernel
theorem mi_213_206 : mI 213 206 = (5, 0, 0, 0, 0) := by decide +kernel
theorem mi_213_207 : mI 213 207 = (1, 2, 0, 0, 0) := by decide +kernel
theorem mi_213_208 : mI 213 208 = (18, 1216, 112, 11, 10) := by decide +kernel
theorem mi_213_211 : mI 213 211 = (16, 28, 0, 239, 0) := by decide +kernel
theorem mi_213_214 : mI 213 214 = (5, 0, 0, 0, 0) := by decide +kernel
theorem mi_213_215 : mI 213 215 = (3, 0, 1, 0, 0) := by decide +kernel
theorem mi_213_216 : mI 213 216 = (1, 59, 1, 0, 0) := by decide +kernel
theorem mi_213_218 : mI 213 218 = (15, 7, 1, 225, 0) := by decide +kernel
theorem mi_213_221 : mI 213 221 = (1, 3, 0, 0, 0) := by decide +kernel
theorem mi_213_222 : mI 213 222 = (16, 4, 0, 226, 0) := by decide +kernel
theorem mi_213_225 : mI 213 225 = (1, 4, 0, 0, 0) := by decide +kernel
theorem mi_213_226 : mI 213 226 = (18, 1216, 112, 11, 10) := by decide +kernel
theorem mi_213_229 : mI 213 229 = (5, 0, 0, 0, 0) := by decide +kernel
theorem mi_213_230 : mI 213 230 = (22, 0, 0, 0, 0) := by decide +kernel
theorem mi_213_231 : mI 213 231 = (17, 1214, 103, 11, 8) := by decide +kernel
theorem mi_213_234 : mI 213 234 = (1, 1, 0, 0, 0) := by decide +kernel
theorem mi_213_235 : mI 213 235 = (10, 0, 0, 0, 0) := by decide +kernel
theorem mi_213_236 : mI 213 236 = (18, 1214, 103, 11, 8) := by decide +kernel
theorem mi_213_239 : mI 213 239 = (27, 0, 2, 0, 0) := by decide +kernel
theorem mi_214_0 : mI 214 0 = (5, 0, 0, 0, 0) := by decide +kernel
theorem mi_214_1 : mI 214 1 = (17, 1218, 133, 11, 12) := by decide +kernel
theorem mi_214_4 : mI 214 4 = (14, 7, 1, 11, 0) := by decide +kernel
theorem mi_214_7 : mI 214 7 = (1, 1, 0, 0, 0) := by decide +kernel
theorem mi_214_8 : mI 214 8 = (16, 4, 0, 12, 0) := by decide +kernel
theorem mi_214_11 : mI 214 11 = (1, 0, 0, 0, 0) := by decide +kernel
theorem mi_214_12 : mI 214 12 = (27, 0, 0, 0, 0) := by decide +kernel
theorem mi_215_0 : mI 215 0 = (5, 0, 0, 0, 0) := by decide +kernel
theorem mi_215_1 : mI 215 1 = (26, 1358, 136, 214, 0) := by decide +kernel
theorem mi_215_4 : mI 215 4 = (14, 4, 1, 8, 0) := by decide +kernel
theorem mi_215_7 : mI 215 7 = (27, 0, 2, 0, 0) := by decide +kernel
theorem mi_215_8 : mI 215 8 = (5, 0, 0, 0, 0) := by decide +kernel
theorem mi_215_9 : mI 215 9 = (3, 0, 1, 0, 0) := by decide +kernel
theorem mi_215_10 : mI 215 10 = (18, 1218, 133, 11, 12) := by decide +kernel
theorem mi_215_13 : mI 215 13 = (5, 0, 0, 0, 0) := by decide +kernel
theorem mi_215_14 : mI 215 14 = (5, 0, 0, 0, 0) := by decide +kernel
theorem mi_215_15 : mI 215 15 = (17, 1215, 109, 11, 9) := by decide +kernel
theorem mi_215_18 : mI 215 18 = (18, 1219, 27, 11, 13) := by decide +kernel
theorem mi_215_21 : mI 215 21 = (27, 0, 2, 0, 0) := by decide +kernel
theorem mi_216_0 : mI 216 0 = (5, 0, 0, 0, 0) := by decide +kernel
theorem mi_216_1 : mI 216 1 = (26, 1358, 136, 214, 0) := by decide +kernel
theorem mi_216_4 : mI 216 4 = (14, 31, 0, 35, 0) := by decide +kernel
theorem mi_216_7 : mI 216 7 = (5, 0, 0, 0, 0) := by decide +kernel
theorem mi_216_8 : mI 216 8 = (17, 1216, 112, 11, 10) := by decide +kernel
theorem mi_216_11 : mI 216 11 = (1, 1, 0, 0, 0) := by decide +kernel
theorem mi_216_12 : mI 216 12 = (15, 23, 1, 35, 0) := by decide +kernel
theorem mi_216_15 : mI 216 15 = (5, 0, 0, 0, 0) := by decide +kernel
theorem mi_216_16 : mI 216 16 = (17, 1214, 103, 11, 8) := by decide +kernel
theorem mi_216_19 : mI 216 19 = (5, 0, 0, 0, 0) := by decide +kernel
theorem mi_216_20 : mI 216 20 = (17, 1215, 109, 11, 9) := by decide +kernel
theorem mi_216_23 : mI 216 23 = (10, 0, 1, 0, 0) := by decide +kernel
theorem mi_216_24 : mI 216 24 = (5, 0, 1, 0, 0) := by decide +kernel
theorem mi_216_25 : mI 216 25 = (26, 1383, 140, 345, 0) := by decide +kernel
theorem mi_216_28 : mI 216 28 = (15, 7, 1, 35, 0) := by decide +kernel
theorem mi_216_31 : mI 216 31 = (1, 1, 0, 0, 0) := by decide +kernel
theorem mi_216_32 : mI 216 32 = (16, 4, 0, 36, 0) := by decide +kernel
theorem mi_216_35 : mI 216 35 = (1, 0, 0, 0, 0) := by decide +kernel
theorem mi_216_36 : mI 216 36 = (6, 0, 2, 0, 0) := by decide +kernel
theorem mi_216_37 : mI 216 37 = (1, 0, 0, 0, 0) := by decide +kernel
theorem mi_216_38 : mI 216 38 = (6, 0, 3, 0, 0) := by decide +kernel
theorem mi_216_39 : mI 216 39 = (3, 0, 3, 0, 0) := by decide +kernel
theorem mi_216_40 : mI 216 40 = (5, 0, 1, 0, 0) := by decide +kernel
theorem mi_216_41 : mI 216 41 = (26, 1383, 140, 345, 0) := by decide +kernel
theorem mi_216_44 : mI 216 44 = (15, 38, 3, 82, 0) := by decide +kernel
theorem mi_216_47 : mI 216 47 = (3, 0, 2, 0, 0) := by decide +kernel
theorem mi_216_48 : mI 216 48 = (14, 34, 0, 82, 0) := by decide +kernel
theorem mi_216_51 : mI 216 51 = (5, 0, 0, 0, 0) := by decide +kernel
theorem mi_216_52 : mI 216 52 = (17, 1210, 20, 11, 4) := by decide +kernel
theorem mi_216_55 : mI 216 55 = (5, 0, 0, 0, 0) := by decide +kernel
theorem mi_216_56 : mI 216 56 = (17, 1215, 109, 11, 9) := by decide +kernel
theorem mi_216_59 : mI 216 59 = (3, 0, 3, 0, 0) := by decide +kernel
theorem mi_216_60 : mI 216 60 = (10, 0, 0, 0, 0) := by decide +kernel
theorem mi_216_61 : mI 216 61 = (19, 0, 1, 0, 0) := by decide +kernel
theorem mi_216_62 : mI 216 62 = (5, 0, 1, 0, 0) := by decide +kernel
theorem mi_216_63 : mI 216 63 = (3, 0, 3, 0, 0) := by decide +kernel
theorem mi_216_64 : mI 216 64 = (26, 1384, 146, 346, 0) := by decide +kernel
theorem mi_216_67 : mI 216 67 = (15, 7, 1, 74, 0) := by decide +kernel
theorem mi_216_70 : mI 216 70 = (1, 1, 0, 0, 0) := by decide +kernel
theorem mi_216_71 : mI 216 71 = (16, 4, 0, 75, 0) := by decide +kernel
theorem mi_216_74 : mI 216 74 = (1, 0, 0, 0, 0) := by decide +kernel
theorem mi_216_75 : mI 216 75 = (6, 0, 2, 0, 0) := by decide +kernel
theorem mi_216_76 : mI 216 76 = (9, 1, 3, 0, 0) := by decide +kernel
theorem mi_216_79 : mI 216 79 = (16, (-40), 0, 39, 0) := by decide +kernel
theorem mi_216_82 : mI 216 82 = (3, 0, 2, 0, 0) := by decide +kernel
theorem mi_216_83 : mI 216 83 = (27, 0, 0, 0, 0) := by decide +kernel
theorem mi_217_0 : mI 217 0 = (5, 0, 0, 0, 0) := by decide +kernel
theorem mi_217_1 : mI 217 1 = (5, 0, 1, 0, 0) := by decide +kernel
theorem mi_217_2 : mI 217 2 = (26, 1379, 150, 216, 0) := by decide +kernel
theorem mi_217_5 : mI 217 5 = (6, 0, 2, 0, 0) := by decide +kernel
theorem mi_217_6 : mI 217 6 = (3, 0, 2, 0, 0) := by decide +kernel
theorem mi_217_7 : mI 217 7 = (14, 7, 0, 14, 0) := by decide +kernel
theorem mi_217_10 : mI 217 10 = (5, 0, 0, 0, 0) := by decide +kernel
theorem mi_217_11 : mI 217 11 = (26, 1344, 154, 213, 0) := by decide +kernel
theorem mi_217_14 : mI 217 14 = (3, 0, 2, 0, 0) := by decide +kernel
theorem mi_217_15 : mI 217 15 = (27, 0, 0, 0, 0) := by decide +kernel
theorem mi_231_0 : mI 231 0 = (5, 0, 0, 0, 0) := by decide +kernel
theorem mi_231_1 : mI 231 1 = (35, 0, 196, 17, 0) := by decide +kernel
theorem mi_231_3 : mI 231 3 = (26, 1379, 150, 216, 0) := by decide +kernel
theorem mi_231_6 : mI 231 6 = (14, 57, 1, 63, 0) := by decide +kernel
theorem mi_231_9 : mI 231 9 = (5, 0, 0, 0, 0) := by decide +kernel
theorem mi_231_10 : mI 231 10 = (35, 0, 198, 18, 0) := by decide +kernel
theorem mi_231_12 : mI 231 12 = (26, 1379, 150, 216, 0) := by decide +kernel
theorem mi_231_15 : mI 231 15 = (14, 48, 1, 63, 0) := by decide +kernel
theorem mi_231_18 : mI 231 18 = (5, 0, 0, 0, 0) := by decide +kernel
theorem mi_231_19 : mI 231 19 = (35, 0, 200, 19, 0) := by decide +kernel
theorem mi_231_21 : mI 231 21 = (26, 1379, 150, 216, 0) := by decide +kernel
theorem mi_231_24 : mI 231 24 = (14, 39, 1, 63, 0) := by decide +kernel
theorem mi_231_27 : mI 231 27 = (5, 0, 0, 0, 0) := by decide +kernel
theorem mi_231_28 : mI 231 28 = (35, 0, 202, 20, 0) := by decide +kernel
theorem mi_231_30 : mI 231 30 = (26, 1379, 150, 216, 0) := by decide +kernel
theorem mi_231_33 : mI 231 33 = (14, 30, 1, 63, 0) := by decide +kernel
theorem mi_231_36 : mI 231 36 = (5, 0, 0, 0, 0) := by decide +kernel
theorem mi_231_37 : mI 231 37 = (35, 0, 204, 21, 0) := by decide +kernel
theorem mi_231_39 : mI 231 39 = (26, 1379, 150, 216, 0) := by decide +kernel
theorem mi_231_42 : mI 231 42 = (14, 21, 1, 63, 0) := by decide +kernel
theorem mi_231_45 : mI 231 45 = (5, 0, 0, 0, 0) := by decide +kernel
theorem mi_231_46 : mI 231 46 = (35, 0, 206, 22, 0) := by decide +kernel
theorem mi_231_48 : mI 231 48 = (26, 1379, 150, 216, 0) := by decide +kernel
theorem mi_231_51 : mI 231 51 = (14, 12, 1, 63, 0) := by decide +kernel
theorem mi_231_54 : mI 231 54 = (5, 0, 0, 0, 0) := by decide +kernel
theorem mi_231_55 : mI 231 55 = (35, 0, 208, 23, 0) := by decide +kernel
theorem mi_231_57 : mI 231 57 = (26, 1379, 150, 216, 0) := by decide +kernel
theorem mi_231_60 : mI 231 60 = (14, 7, 0, 67, 0) := by decide +kernel
theorem mi_231_63 : mI 231 63 = (1, 1, 0, 0, 0) := by decide +kernel
theorem mi_231_64 : mI 231 64 = (16, 4, 0, 68, 0) := by decide +kernel
theorem mi_231_67 : mI 231 67 = (1, 0, 0, 0, 0) := by decide +kernel
theorem mi_231_68 : mI 231 68 = (6, 0, 1, 0, 0) := by decide +kernel
theorem mi_231_69 : mI 231 69 = (3, 0, 1, 0, 0) := by decide +kernel
theorem mi_231_70 : mI 231 70 = (14, 8, 1, 78, 0) := by decide +kernel
theorem mi_231_73 : mI 231 73 = (5, 0, 0, 0, 0) := by decide +kernel
theorem mi_231_74 : mI 231 74 = (1, 1, 0, 0, 0) := by decide +kernel
theorem mi_231_75 : mI 231 75 = (26, 1385, 160, 215, 0) := by decide +kernel
theorem mi_231_78 : mI 231 78 = (5, 0, 0, 0, 0) := by decide +kernel
theorem mi_231_79 : mI 231 79 = (35, 0, 196, 17, 0) := by decide +kernel
theorem mi_231_81 : mI 231 81 = (26, 1379, 150, 216, 0) := by decide +kernel
theorem mi_231_84 : mI 231 84 = (14, 14, 0, 98, 0) := by decide +kernel
theorem mi_231_87 : mI 231 87 = (5, 0, 0, 0, 0) := by decide +kernel
theorem mi_231_88 : mI 231 88 = (17, 1220, 31, 11, 14) := by decide +kernel
theorem mi_231_91 : mI 231 91 = (1, 3, 0, 0, 0) := by decide +kernel
theorem mi_231_92 : mI 231 92 = (19, 0, 0, 0, 0) := by decide +kernel
theorem mi_231_93 : mI 231 93 = (1, 6, 1, 0, 0) := by decide +kernel
theorem mi_231_95 : mI 231 95 = (15, 23, 0, 118, 0) := by decide +kernel
theorem mi_231_98 : mI 231 98 = (5, 0, 0, 0, 0) := by decide +kernel
theorem mi_231_99 : mI 231 99 = (35, 0, 206, 22, 0) := by decide +kernel
theorem mi_231_101 : mI 231 101 = (26, 1379, 150, 216, 0) := by decide +kernel
theorem mi_231_104 : mI 231 104 = (14, 19, 0, 123, 0) := by decide +kernel
theorem mi_231_107 : mI 231 107 = (5, 0, 0, 0, 0) := by decide +kernel
theorem mi_231_108 : mI 231 108 = (17, 1220, 31, 11, 14) := by decide +kernel
theorem mi_231_111 : mI 231 111 = (1, 4, 0, 0, 0) := by decide +kernel
theorem mi_231_112 : mI 231 112 = (19, 0, 0, 0, 0) := by decide +kernel
theorem mi_231_113 : mI 231 113 = (1, 12, 1, 0, 0) := by decide +kernel
theorem mi_231_115 : mI 231 115 = (15, 8, 1, 123, 0) := by decide +kernel
theorem mi_231_118 : mI 231 118 = (5, 0, 0, 0, 0) := by decide +kernel
theorem mi_231_119 : mI 231 119 = (1, 3, 0, 0, 0) := by decide +kernel
theorem mi_231_120 : mI 231 120 = (26, 1385, 160, 215, 0) := by decide +kernel
theorem mi_231_123 : mI 231 123 = (5, 0, 0, 0, 0) := by decide +kernel
theorem mi_231_124 : mI 231 124 = (26, 1358, 136, 214, 0) := by decide +kernel
theorem mi_231_127 : mI 231 127 = (14, 4, 1, 131, 0) := by decide +kernel
theorem mi_231_130 : mI 231 130 = (27, 0, 2, 0, 0) := by decide +kernel
theorem mi_231_131 : mI 231 131 = (5, 0, 0, 0, 0) := by decide +kernel
theorem mi_231_132 : mI 231 132 = (35, 0, 196, 17, 0) := by decide +kernel
theorem mi_231_134 : mI 231 134 = (26, 1375, 157, 217, 0) := by decide +kernel
theorem mi_231_137 : mI 231 137 = (14, 10, 0, 147, 0) := by decide +kernel
theorem mi_231_140 : mI 231 140 = (5, 0, 0, 0, 0) := by decide +kernel
theorem mi_231_141 : mI 231 141 = (26, 1411, 210, 226, 0) := by decide +kernel
theorem mi_231_144 : mI 231 144 = (16, 171, 0, 315, 0) := by decide +kernel
theorem mi_231_147 : mI 231 147 = (5, 0, 0, 0, 0) := by decide +kernel
theorem mi_231_148 : mI 231 148 = (35, 0, 198, 18, 0) := by decide +kernel
theorem mi_231_150 : mI 231 150 = (26, 1375, 157, 217, 0) := by decide +kernel
theorem mi_231_153 : mI 231 153 = (14, 35, 0, 188, 0) := by decide +kernel
theorem mi_231_156 : mI 231 156 = (5, 0, 0, 0, 0) := by decide +kernel
theorem mi_231_157 : mI 231 157 = (26, 1415, 171, 222, 0) := by decide +kernel
theorem mi_231_160 : mI 231 160 = (6, 0, 2, 0, 0) := by decide +kernel
theorem mi_231_161 : mI 231 161 = (5, 0, 0, 0, 0) := by decide +kernel
theorem mi_231_162 : mI 231 162 = (1, 1, 0, 0, 0) := by decide +kernel
theorem mi_231_163 : mI 231 163 = (1, 4, 0, 0, 0) := by decide +kernel
theorem mi_231_164 : mI 231 164 = (26, 1394, 168, 219, 0) := by decide +kernel
theorem mi_231_167 : mI 231 167 = (6, 0, 3, 0, 0) := by decide +kernel
theorem mi_231_168 : mI 231 168 = (5, 0, 0, 0, 0) := by decide +kernel
theorem mi_231_169 : mI 231 169 = (26, 1358, 136, 214, 0) := by decide +kernel
theorem mi_231_172 : mI 231 172 = (14, 13, 0, 185, 0) := by decide +kernel
theorem mi_231_175 : mI 231 175 = (5, 0, 0, 0, 0) := by decide +kernel
theorem mi_231_176 : mI 231 176 = (17, 1220, 31, 11, 14) := by decide +kernel
theorem mi_231_179 : mI 231 179 = (1, 48, 1, 0, 0) := by decide +kernel
theorem mi_231_181 : mI 231 181 = (3, 0, 2, 0, 0) := by decide +kernel
theorem mi_231_182 : mI 231 182 = (10, 0, 0, 0, 0) := by decide +kernel
theorem mi_231_183 : mI 231 183 = (3, 0, 3, 0, 0) := by decide +kernel
theorem mi_231_184 : mI 231 184 = (20, 0, 0, 0, 0) := by decide +kernel
theorem mi_231_185 : mI 231 185 = (16, 130, 0, 315, 0) := by decide +kernel
theorem mi_231_188 : mI 231 188 = (5, 0, 0, 0, 0) := by decide +kernel
theorem mi_231_189 : mI 231 189 = (35, 0, 200, 19, 0) := by decide +kernel
theorem mi_231_191 : mI 231 191 = (26, 1375, 157, 217, 0) := by decide +kernel
theorem mi_231_194 : mI 231 194 = (14, 36, 0, 230, 0) := by decide +kernel
theorem mi_231_197 : mI 231 197 = (5, 0, 0, 0, 0) := by decide +kernel
theorem mi_231_198 : mI 231 198 = (26, 1415, 171, 222, 0) := by decide +kernel
theorem mi_231_201 : mI 231 201 = (6, 0, 2, 0, 0) := by decide +kernel
theorem mi_231_202 : mI 231 202 = (5, 0, 0, 0, 0) := by decide +kernel
theorem mi_231_203 : mI 231 203 = (1, 0, 0, 0, 0) := by decide +kernel
theorem mi_231_204 : mI 231 204 = (1, 100, 1, 0, 0) := by decide +kernel
theorem mi_231_206 : mI 231 206 = (26, 1394, 168, 219, 0) := by decide +kernel
theorem mi_231_209 : mI 231 209 = (6, 0, 3, 0, 0) := by decide +kernel
theorem mi_231_210 : mI 231 210 = (5, 0, 0, 0, 0) := by decide +kernel
theorem mi_231_211 : mI 231 211 = (26, 1358, 136, 214, 0) := by decide +kernel
theorem mi_231_214 : mI 231 214 = (14, 13, 0, 227, 0) := by decide +kernel
theorem mi_231_217 : mI 231 217 = (5, 0, 0, 0, 0) := by decide +kernel
theorem mi_231_218 : mI 231 218 = (17, 1220, 31, 11, 14) := by decide +kernel
theorem mi_231_221 : mI 231 221 = (1, 54, 1, 0, 0) := by decide +kernel
theorem mi_231_223 : mI 231 223 = (3, 0, 2, 0, 0) := by decide +kernel
theorem mi_231_224 : mI 231 224 = (10, 0, 0, 0, 0) := by decide +kernel
theorem mi_231_225 : mI 231 225 = (3, 0, 3, 0, 0) := by decide +kernel
theorem mi_231_226 : mI 231 226 = (20, 0, 0, 0, 0) := by decide +kernel
theorem mi_231_227 : mI 231 227 = (16, 88, 0, 315, 0) := by decide +kernel
theorem mi_231_230 : mI 231 230 = (5, 0, 0, 0, 0) := by decide +kernel
theorem mi_231_231 : mI 231 231 = (35, 0, 202, 20, 0) := by decide +kernel
theorem mi_231_233 : mI 231 233 = (26, 1375, 157, 217, 0) := by decide +kernel
theorem mi_231_236 : mI 231 236 = (14, 10, 0, 246, 0) := by decide +kernel
theorem mi_231_239 : mI 231 239 = (5, 0, 0, 0, 0) := by decide +kernel
theorem mi_231_240 : mI 231 240 = (26, 1419, 213, 228, 0) := by decide +kernel
theorem mi_231_243 : mI 231 243 = (16, 72, 0, 315, 0) := by decide +kernel
theorem mi_231_246 : mI 231 246 = (5, 0, 0, 0, 0) := by decide +kernel
theorem mi_231_247 : mI 231 247 = (35, 0, 204, 21, 0) := by decide +kernel
theorem mi_231_249 : mI 231 249 = (26, 1375, 157, 217, 0) := by decide +kernel
theorem mi_231_252 : mI 231 252 = (14, 10, 0, 262, 0) := by decide +kernel
theorem mi_231_255 : mI 231 255 = (5, 0, 0, 0, 0) := by decide +kernel
theorem mi_231_256 : mI 231 256 = (26, 1428, 216, 229, 0) := by decide +kernel
theorem mi_231_259 : mI 231 259 = (16, 56, 0, 315, 0) := by decide +kernel
theorem mi_231_262 : mI 231 262 = (5, 0, 0, 0, 0) := by decide +kernel
theorem mi_231_263 : mI 231 263 = (35, 0, 206, 22, 0) := by decide +kernel
theorem mi_231_265 : mI 231 265 = (26, 1375, 157, 217, 0) := by decide +kernel
theorem mi_231_268 : mI 231 268 = (14, 10, 0, 278, 0) := by decide +kernel
theorem mi_231_271 : mI 231 271 = (5, 0, 0, 0, 0) := by decide +kernel
theorem mi_231_272 : mI 231 272 = (26, 1440, 219, 230, 0) := by decide +kernel
theorem mi_231_275 : mI 231 275 = (16, 40, 0, 315, 0) := by decide +kernel
theorem mi_231_278 : mI 231 278 = (5, 0, 0, 0, 0) := by decide +kernel
theorem mi_231_279 : mI 231 279 = (26, 1344, 154, 213, 0) := by decide +kernel
theorem mi_231_282 : mI 231 282 = (5, 0, 0, 0, 0) := by decide +kernel
theorem mi_231_283 : mI 231 283 = (26, 1415, 171, 222, 0) := by decide +kernel
theorem mi_231_286 : mI 231 286 = (6, 0, 2, 0, 0) := by decide +kernel
theorem mi_231_287 : mI 231 287 = (5, 0, 0, 0, 0) := by decide +kernel
theorem mi_231_288 : mI 231 288 = (3, 0, 2, 0, 0) := by decide +kernel
theorem mi_231_289 : mI 231 289 = (26, 1432, 190, 223, 0) := by decide +kernel
theorem mi_231_292 : mI 231 292 = (6, 0, 3, 0, 0) := by decide +kernel
theorem mi_231_293 : mI 231 293 = (5, 0, 0, 0, 0) := by decide +kernel
theorem mi_231_294 : mI 231 294 = (26, 1358, 136, 214, 0) := by decide +kernel
theorem mi_231_297 : mI 231 297 = (14, 18, 0, 315, 0) := by decide +kernel
theorem mi_231_300 : mI 231 300 = (5, 0, 0, 0, 0) := by decide +kernel
theorem mi_231_301 : mI 231 301 = (17, 1220, 31, 11, 14) := by decide +kernel
theorem mi_231_304 : mI 231 304 = (1, 60, 1, 0, 0) := by decide +kernel
theorem mi_231_306 : mI 231 306 = (3, 0, 3, 0, 0) := by decide +kernel
theorem mi_231_307 : mI 231 307 = (10, 0, 0, 0, 0) := by decide +kernel
theorem mi_231_308 : mI 231 308 = (22, 0, 1, 0, 0) := by decide +kernel
theorem mi_231_309 : mI 231 309 = (19, 0, 0, 0, 0) := by decide +kernel
theorem mi_231_310 : mI 231 310 = (1, 1, 0, 0, 0) := by decide +kernel
theorem mi_231_311 : mI 231 311 = (3, 0, 2, 0, 0) := by decide +kernel
theorem mi_231_312 : mI 231 312 = (10, 0, 8, 0, 0) := by decide +kernel
theorem mi_231_313 : mI 231 313 = (10, 0, 6, 0, 0) := by decide +kernel
theorem mi_231_314 : mI 231 314 = (20, 0, 0, 0, 0) := by decide +kernel
theorem mi_231_315 : mI 231 315 = (27, 0, 2, 0, 0) := by decide +kernel
theorem mi_232_0 : mI 232 0 = (5, 0, 0, 0, 0) := by decide +kernel
theorem mi_232_1 : mI 232 1 = (17, 1220, 31, 11, 14) := by decide +kernel
theorem mi_232_4 : mI 232 4 = (1, 5, 0, 0, 0) := by decide +kernel
theorem mi_232_5 : mI 232 5 = (19, 0, 0, 0, 0) := by decide +kernel
theorem mi_232_6 : mI 232 6 = (14, 10, 1, 16, 0) := by decide +kernel
theorem mi_232_9 : mI 232 9 = (5, 0, 0, 0, 0) := by decide +kernel
theorem mi_232_10 : mI 232 10 = (26, 1366, 222, 225, 0) := by decide +kernel
theorem mi_232_13 : mI 232 13 = (16, 7, 0, 20, 0) := by decide +kernel
theorem mi_232_16 : mI 232 16 = (5, 0, 0, 0, 0) := by decide +kernel
theorem mi_232_17 : mI 232 17 = (26, 1400, 225, 231, 0) := by decide +kernel
theorem mi_232_20 : mI 232 20 = (5, 0, 0, 0, 0) := by decide +kernel
theorem mi_232_21 : mI 232 21 = (26, 1358, 136, 214, 0) := by decide +kernel
theorem mi_232_24 : mI 232 24 = (14, 16, 0, 40, 0) := by decide +kernel
theorem mi_232_27 : mI 232 27 = (5, 0, 0, 0, 0) := by decide +kernel
theorem mi_232_28 : mI 232 28 = (17, 1216, 112, 11, 10) := by decide +kernel
theorem mi_232_31 : mI 232 31 = (1, 3, 0, 0, 0) := by decide +kernel
theorem mi_232_32 : mI 232 32 = (15, 8, 0, 40, 0) := by decide +kernel
theorem mi_232_35 : mI 232 35 = (5, 0, 0, 0, 0) := by decide +kernel
theorem mi_232_36 : mI 232 36 = (1, 1, 0, 0, 0) := by decide +kernel
theorem mi_232_37 : mI 232 37 = (26, 1385, 160, 215, 0) := by decide +kernel
theorem mi_232_40 : mI 232 40 = (5, 0, 0, 0, 0) := by decide +kernel
theorem mi_232_41 : mI 232 41 = (26, 1358, 136, 214, 0) := by decide +kernel
theorem mi_232_44 : mI 232 44 = (14, 7, 0, 51, 0) := by decide +kernel
theorem mi_232_47 : mI 232 47 = (5, 0, 0, 0, 0) := by decide +kernel
theorem mi_232_48 : mI 232 48 = (26, 1344, 154, 213, 0) := by decide +kernel
theorem mi_232_51 : mI 232 51 = (5, 0, 0, 0, 0) := by decide +kernel
theorem mi_232_52 : mI 232 52 = (17, 1220, 31, 11, 14) := by decide +kernel
theorem mi_232_55 : mI 232 55 = (1, 5, 0, 0, 0) := by decide +kernel
theorem mi_232_56 : mI 232 56 = (22, 0, 1, 0, 0) := by decide +kernel
theorem mi_232_57 : mI 232 57 = (19, 0, 0, 0, 0) := by decide +kernel
theorem mi_232_58 : mI 232 58 = (1, 1, 0, 0, 0) := by decide +kernel
theorem mi_232_59 : mI 232 59 = (10, 0, 0, 0, 0) := by decide +kernel
theorem mi_232_60 : mI 232 60 = (20, 0, 0, 0, 0) := by decide +kernel
theorem mi_232_61 : mI 232 61 = (27, 0, 2, 0, 0) := by decide +kernel
theorem mi_233_0 : mI 233 0 = (5, 0, 0, 0, 0) := by decide +kernel
theorem mi_233_1 : mI 233 1 = (5, 0, 0, 0, 0) := by decide +kernel
theorem mi_233_2 : mI 233 2 = (17, 1211, 97, 11, 5) := by decide +kernel
theorem mi_233_5 : mI 233 5 = (18, 1213, 100, 11, 7) := by decide +kernel
theorem mi_233_8 : mI 233 8 = (5, 0, 0, 0, 0) := by decide +kernel
theorem mi_233_9 : mI 233 9 = (1, 0, 0, 0, 0) := by decide +kernel
theorem mi_233_10 : mI 233 10 = (18, 1211, 97, 11, 5) := by decide +kernel
theorem mi_233_13 : mI 233 13 = (5, 0, 0, 0, 0) := by decide +kernel
theorem mi_233_14 : mI 233 14 = (1, 0, 0, 0, 0) := by decide +kernel
theorem mi_233_15 : mI 233 15 = (18, 1214, 103, 11, 8) := by decide +kernel
theorem mi_233_18 : mI 233 18 = (5, 0, 0, 0, 0) := by decide +kernel
theorem mi_233_19 : mI 233 19 = (1, 0, 0, 0, 0) := by decide +kernel
theorem mi_233_20 : mI 233 20 = (18, 1218, 133, 11, 12) := by decide +kernel
theorem mi_233_23 : mI 233 23 = (5, 0, 0, 0, 0) := by decide +kernel
theorem mi_233_24 : mI 233 24 = (1, (-1), 0, 0, 0) := by decide +kernel
theorem mi_233_25 : mI 233 25 = (18, 1219, 27, 11, 13) := by decide +kernel
theorem mi_233_28 : mI 233 28 = (1, 0, 0, 0, 0) := by decide +kernel
theorem mi_233_29 : mI 233 29 = (6, 0, 1, 0, 0) := by decide +kernel
theorem mi_233_30 : mI 233 30 = (3, 0, 1, 0, 0) := by decide +kernel
theorem mi_233_31 : mI 233 31 = (1, 294, 2, 0, 0) := by decide +kernel
theorem mi_233_34 : mI 233 34 = (15, 16, 3, 50, 0) := by decide +kernel
theorem mi_233_37 : mI 233 37 = (5, 0, 0, 0, 0) := by decide +kernel
theorem mi_233_38 : mI 233 38 = (17, 1220, 31, 11, 14) := by decide +kernel
theorem mi_233_41 : mI 233 41 = (3, 0, 1, 0, 0) := by decide +kernel
theorem mi_233_42 : mI 233 42 = (1, 0, 0, 0, 0) := by decide +kernel
theorem mi_233_43 : mI 233 43 = (20, 0, 0, 0, 0) := by decide +kernel
theorem mi_233_44 : mI 233 44 = (9, 1, 1, 0, 0) := by decide +kernel
theorem mi_233_47 : mI 233 47 = (16, (-17), 0, 30, 0) := by decide +kernel
theorem mi_233_50 : mI 233 50 = (1, 0, 0, 0, 0) := by decide +kernel
theorem mi_233_51 : mI 233 51 = (6, 0, 1, 0, 0) := by decide +kernel
theorem mi_233_52 : mI 233 52 = (3, 0, 1, 0, 0) := by decide +kernel
theorem mi_233_53 : mI 233 53 = (5, 0, 0, 0, 0) := by decide +kernel
theorem mi_233_54 : mI 233 54 = (17, 1221, 34, 11, 15) := by decide +kernel
theorem mi_233_57 : mI 233 57 = (21, 0, 0, 0, 0) := by decide +kernel
theorem mi_233_58 : mI 233 58 = (15, 16, 3, 74, 0) := by decide +kernel
theorem mi_233_61 : mI 233 61 = (5, 0, 0, 0, 0) := by decide +kernel
theorem mi_233_62 : mI 233 62 = (17, 1221, 34, 11, 15) := by decide +kernel
theorem mi_233_65 : mI 233 65 = (3, 0, 1, 0, 0) := by decide +kernel
theorem mi_233_66 : mI 233 66 = (1, (-1), 0, 0, 0) := by decide +kernel
theorem mi_233_67 : mI 233 67 = (20, 0, 0, 0, 0) := by decide +kernel
theorem mi_233_68 : mI 233 68 = (9, 1, 1, 0, 0) := by decide +kernel
theorem mi_233_71 : mI 233 71 = (16, (-19), 0, 52, 0) := by decide +kernel
theorem mi_233_74 : mI 233 74 = (5, 0, 0, 0, 0) := by decide +kernel
theorem mi_233_75 : mI 233 75 = (26, 1344, 154, 213, 0) := by decide +kernel
theorem mi_233_78 : mI 233 78 = (5, 0, 0, 0, 0) := by decide +kernel
theorem mi_233_79 : mI 233 79 = (26, 1358, 136, 214, 0) := by decide +kernel
theorem mi_233_82 : mI 233 82 = (14, 17, 0, 99, 0) := by decide +kernel
theorem mi_233_85 : mI 233 85 = (5, 0, 0, 0, 0) := by decide +kernel
theorem mi_233_86 : mI 233 86 = (17, 1216, 112, 11, 10) := by decide +kernel
theorem mi_233_89 : mI 233 89 = (14, 10, 0, 99, 0) := by decide +kernel
theorem mi_233_92 : mI 233 92 = (5, 0, 0, 0, 0) := by decide +kernel
theorem mi_233_93 : mI 233 93 = (26, 1362, 228, 232, 0) := by decide +kernel
theorem mi_233_96 : mI 233 96 = (16, (-18), 0, 78, 0) := by decide +kernel
theorem mi_233_99 : mI 233 99 = (5, 0, 0, 0, 0) := by decide +kernel
theorem mi_233_100 : mI 233 100 = (26, 1358, 136, 214, 0) := by decide +kernel
theorem mi_233_103 : mI 233 103 = (14, 6, 1, 109, 0) := by decide +kernel
theorem mi_233_106 : mI 233 106 = (1, (-4), 1, 0, 0) := by decide +kernel
theorem mi_233_108 : mI 233 108 = (27, 0, 0, 0, 0) := by decide +kernel
theorem mi_233_109 : mI 233 109 = (1, 0, 0, 0, 0) := by decide +kernel
theorem mi_233_110 : mI 233 110 = (6, 0, 1, 0, 0) := by decide +kernel
theorem mi_233_111 : mI 233 111 = (3, 0, 1, 0, 0) := by decide +kernel
theorem mi_233_112 : mI 233 112 = (1, 6, 1, 0, 0) := by decide +kernel
theorem mi_233_114 : mI 233 114 = (15, 71, 3, 185, 0) := by decide +kernel
theorem mi_233_117 : mI 233 117 = (1, 0, 0, 0, 0) := by decide +kernel
theorem mi_233_118 : mI 233 118 = (6, 0, 2, 0, 0) := by decide +kernel
theorem mi_233_119 : mI 233 119 = (1, 0, 0, 0, 0) := by decide +kernel
theorem mi_233_120 : mI 233 120 = (6, 0, 3, 0, 0) := by decide +kernel
theorem mi_233_121 : mI 233 121 = (3, 0, 3, 0, 0) := by decide +kernel
theorem mi_233_122 : mI 233 122 = (1, 24, 1, 0, 0) := by decide +kernel
theorem mi_233_124 : mI 233 124 = (15, 55, 3, 179, 0) := by decide +kernel
theorem mi_233_127 : mI 233 127 = (5, 0, 0, 0, 0) := by decide +kernel
theorem mi_233_128 : mI 233 128 = (17, 1221, 34, 11, 15) := by decide +kernel
theorem mi_233_131 : mI 233 131 = (1, 24, 1, 0, 0) := by decide +kernel
theorem mi_233_133 : mI 233 133 = (3, 0, 1, 0, 0) := by decide +kernel
theorem mi_233_134 : mI 233 134 = (10, 0, 2, 0, 0) := by decide +kernel
theorem mi_233_135 : mI 233 135 = (3, 0, 3, 0, 0) := by decide +kernel
theorem mi_233_136 : mI 233 136 = (10, 0, 0, 0, 0) := by decide +kernel
theorem mi_233_137 : mI 233 137 = (19, 0, 0, 0, 0) := by decide +kernel
theorem mi_233_138 : mI 233 138 = (1, (-1), 0, 0, 0) := by decide +kernel
theorem mi_233_139 : mI 233 139 = (15, 7, 1, 146, 0) := by decide +kernel
theorem mi_233_142 : mI 233 142 = (3, 0, 2, 0, 0) := by decide +kernel
theorem mi_233_143 : mI 233 143 = (16, 14, 0, 157, 0) := by decide +kernel
theorem mi_233_146 : mI 233 146 = (5, 0, 0, 0, 0) := by decide +kernel
theorem mi_233_147 : mI 233 147 = (17, 1221, 34, 11, 15) := by decide +kernel
theorem mi_233_150 : mI 233 150 = (1, 24, 1, 0, 0) := by decide +kernel
theorem mi_233_152 : mI 233 152 = (3, 0, 1, 0, 0) := by decide +kernel
theorem mi_233_153 : mI 233 153 = (10, 0, 2, 0, 0) := by decide +kernel
theorem mi_233_154 : mI 233 154 = (3, 0, 3, 0, 0) := by decide +kernel
theorem mi_233_155 : mI 233 155 = (10, 0, 0, 0, 0) := by decide +kernel
theorem mi_233_156 : mI 233 156 = (19, 0, 0, 0, 0) := by decide +kernel
theorem mi_233_157 : mI 233 157 = (6, 0, 2, 0, 0) := by decide +kernel
theorem mi_233_158 : mI 233 158 = (5, 0, 0, 0, 0) := by decide +kernel
theorem mi_233_159 : mI 233 159 = (17, 1220, 31, 11, 14) := by decide +kernel
theorem mi_233_162 : mI 233 162 = (1, 102, 1, 0, 0) := by decide +kernel
theorem mi_233_164 : mI 233 164 = (1, 24, 1, 0, 0) := by decide +kernel
theorem mi_233_166 : mI 233 166 = (3, 0, 1, 0, 0) := by decide +kernel
theorem mi_233_167 : mI 233 167 = (10, 0, 2, 0, 0) := by decide +kernel
theorem mi_233_168 : mI 233 168 = (10, 0, 0, 0, 0) := by decide +kernel
theorem mi_233_169 : mI 233 169 = (3, 0, 3, 0, 0) := by decide +kernel
theorem mi_233_170 : mI 233 170 = (10, 0, 0, 0, 0) := by decide +kernel
theorem mi_233_171 : mI 233 171 = (3, 0, 2, 0, 0) := by decide +kernel
theorem mi_233_172 : mI 233 172 = (20, 0, 0, 0, 0) := by decide +kernel
theorem mi_233_173 : mI 233 173 = (9, 1, 3, 0, 0) := by decide +kernel
theorem mi_233_176 : mI 233 176 = (16, (-55), 0, 121, 0) := by decide +kernel
theorem mi_233_179 : mI 233 179 = (9, 1, 1, 0, 0) := by decide +kernel
theorem mi_233_182 : mI 233 182 = (16, (-71), 0, 111, 0) := by decide +kernel
theorem mi_233_185 : mI 233 185 = (1, 0, 0, 0, 0) := by decide +kernel
theorem mi_233_186 : mI 233 186 = (6, 0, 1, 0, 0) := by decide +kernel
theorem mi_233_187 : mI 233 187 = (3, 0, 1, 0, 0) := by decide +kernel
theorem mi_233_188 : mI 233 188 = (1, 294, 2, 0, 0) := by decide +kernel
theorem mi_233_191 : mI 233 191 = (15, 21, 3, 212, 0) := by decide +kernel
theorem mi_233_194 : mI 233 194 = (5, 0, 0, 0, 0) := by decide +kernel
theorem mi_233_195 : mI 233 195 = (17, 1207, 9, 11, 1) := by decide +kernel
theorem mi_233_198 : mI 233 198 = (3, 0, 1, 0, 0) := by decide +kernel
theorem mi_233_199 : mI 233 199 = (5, 0, 0, 0, 0) := by decide +kernel
theorem mi_233_200 : mI 233 200 = (17, 1220, 31, 11, 14) := by decide +kernel
theorem mi_233_203 : mI 233 203 = (3, 0, 1, 0, 0) := by decide +kernel
theorem mi_233_204 : mI 233 204 = (19, 0, 0, 0, 0) := by decide +kernel
theorem mi_233_205 : mI 233 205 = (20, 0, 0, 0, 0) := by decide +kernel
theorem mi_233_206 : mI 233 206 = (9, 1, 1, 1, 0) := by decide +kernel
theorem mi_233_209 : mI 233 209 = (16, (-22), 0, 187, 0) := by decide +kernel
theorem mi_233_212 : mI 233 212 = (5, 0, 0, 0, 0) := by decide +kernel
theorem mi_233_213 : mI 233 213 = (17, 1207, 9, 11, 1) := by decide +kernel
theorem mi_233_216 : mI 233 216 = (1, 5, 0, 0, 0) := by decide +kernel
theorem mi_233_217 : mI 233 217 = (19, 0, 0, 0, 0) := by decide +kernel
theorem mi_233_218 : mI 233 218 = (27, 0, 0, 0, 0) := by decide +kernel
theorem mi_345_0 : mI 345 0 = (5, 0, 0, 0, 0) := by decide +kernel
theorem mi_345_1 : mI 345 1 = (39, 1939, 9, 0, 0) := by decide +kernel
theorem mi_345_4 : mI 345 4 = (21, 0, 0, 0, 0) := by decide +kernel
theorem mi_345_5 : mI 345 5 = (5, 0, 0, 0, 0) := by decide +kernel
theorem mi_345_6 : mI 345 6 = (26, 402, 335, 347, 0) := by decide +kernel
theorem mi_345_9 : mI 345 9 = (10, 0, 9, 0, 0) := by decide +kernel
theorem mi_345_10 : mI 345 10 = (27, 0, 0, 0, 0) := by decide +kernel
theorem mi_346_0 : mI 346 0 = (5, 0, 0, 0, 0) := by decide +kernel
theorem mi_346_1 : mI 346 1 = (26, 412, 492, 348, 0) := by decide +kernel
theorem mi_346_4 : mI 346 4 = (14, 12, 0, 16, 0) := by decide +kernel
theorem mi_346_7 : mI 346 7 = (5, 0, 0, 0, 0) := by decide +kernel
theorem mi_346_8 : mI 346 8 = (39, 1939, 9, 0, 0) := by decide +kernel
theorem mi_346_11 : mI 346 11 = (3, 0, 1, 0, 0) := by decide +kernel
theorem mi_346_12 : mI 346 12 = (26, 416, 495, 349, 1) := by decide +kernel
theorem mi_346_15 : mI 346 15 = (38, 0, 0, 0, 0) := by decide +kernel
theorem mi_347_0 : mI 347 0 = (23, 406, 38, 0, 0) := by decide +kernel
theorem mi_347_3 : mI 347 3 = (14, 10, 0, 13, 0) := by decide +kernel
theorem mi_347_6 : mI 347 6 = (5, 0, 0, 0, 0) := by decide +kernel
theorem mi_347_7 : mI 347 7 = (39, 1940, 15, 1, 0) := by decide +kernel
theorem mi_347_10 : mI 347 10 = (16, 4, 0, 14, 0) := by decide +kernel
theorem mi_347_14 : mI 347 14 = (38, 0, 0, 0, 0) := by decide +kernel
theorem mi_348_0 : mI 348 0 = (23, 406, 38, 0, 0) := by decide +kernel
theorem mi_348_3 : mI 348 3 = (14, 14, 0, 17, 0) := by decide +kernel
theorem mi_348_6 : mI 348 6 = (5, 0, 0, 0, 0) := by decide +kernel
theorem mi_348_7 : mI 348 7 = (39, 1940, 15, 1, 0) := by decide +kernel
theorem mi_348_10 : mI 348 10 = (14, 7, 1, 17, 0) := by decide +kernel
theorem mi_348_13 : mI 348 13 = (1, 1, 0, 0, 0) := by decide +kernel
theorem mi_348_14 : mI 348 14 = (16, 4, 0, 18, 0) := by decide +kernel
theorem mi_348_18 : mI 348 18 = (27, 0, 0, 0, 0) := by decide +kernel
theorem mi_349_0 : mI 349 0 = (3, 0, 1, 0, 0) := by decide +kernel
theorem mi_349_1 : mI 349 1 = (5, 0, 0, 0, 0) := by decide +kernel
theorem mi_349_2 : mI 349 2 = (21, 0, 0, 0, 0) := by decide +kernel
theorem mi_349_3 : mI 349 3 = (26, 419, 9, 350, 1) := by decide +kernel
theorem mi_349_6 : mI 349 6 = (5, 0, 0, 0, 0) := by decide +kernel
theorem mi_349_7 : mI 349 7 = (3, 0, 1, 0, 0) := by decide +kernel
theorem mi_349_8 : mI 349 8 = (19, 0, 1, 0, 0) := by decide +kernel
theorem mi_349_9 : mI 349 9 = (1, 255, 2, 0, 0) := by decide +kernel
theorem mi_349_12 : mI 349 12 = (10, 0, 5, 0, 0) := by decide +kernel
theorem mi_349_13 : mI 349 13 = (12, 0, 5, 0, 0) := by decide +kernel
theorem mi_349_14 : mI 349 14 = (38, 0, 0, 0, 0) := by decide +kernel
theorem mi_350_0 : mI 350 0 = (3, 0, 0, 0, 0) := by decide +kernel
theorem mi_350_1 : mI 350 1 = (3, 0, 1, 0, 0) := by decide +kernel
theorem mi_350_2 : mI 350 2 = (23, 422, 1053, 1, 0) := by decide +kernel
theorem mi_350_5 : mI 350 5 = (26, 424, 1059, 351, 1) := by decide +kernel
theorem mi_350_8 : mI 350 8 = (22, 0, 2, 0, 0) := by decide +kernel
theorem mi_350_9 : mI 350 9 = (27, 0, 2, 0, 0) := by decide +kernel
theorem mi_351_0 : mI 351 0 = (3, 0, 0, 0, 0) := by decide +kernel
theorem mi_351_1 : mI 351 1 = (14, 8, 2, 9, 0) := by decide +kernel
theorem mi_351_4 : mI 351 4 = (3, 0, 0, 0, 0) := by decide +kernel
theorem mi_351_5 : mI 351 5 = (3, 0, 1, 0, 0) := by decide +kernel
theorem mi_351_6 : mI 351 6 = (15, 10, 2, 16, 0) := by decide +kernel
theorem mi_351_16 : mI 351 16 = (3, 0, 0, 0, 0) := by decide +kernel
theorem mi_351_17 : mI 351 17 = (27, 0, 0, 0, 0) := by decide +kernel
section HA
variable {l : Launch} {D : va_G} {tys : List (ClassId × FieldType)} {A : Nat → Prop} {ad : Nat → Nat} {ws : va_W} {k d : Nat} {post : Option Value → va_W → Prop} {pc : Nat} {lv : List (Nat × Value)} {st : List Value} {a : Int} {x y z : Nat}
noncomputable def gF (i : Nat) (lo hi : Int) : Prop := ∃ g, GG[90]? = some ((0, 11, 36), g) ∧ segAt g i = some (0, lo, hi)
theorem o90 (hG : GOK ad tys GG ws) : ∃ fs : List Value, ws[90]? = some (ad 90, .inr (11, fs)) ∧ fs.length = 36 := by
  obtain ⟨e, a1, a2, a3⟩ := hG 90 _ rfl
  obtain ⟨fs, rfl, hl⟩ := a2
  exact ⟨fs, a1, hl⟩
theorem V_getI {i : Nat} {v : Value} (hi : mI k pc = (17, a, x, 11, i)) (hG : GOK ad tys GG ws) (hx : rd ws 90 i = some v) (kk : V l D tys A k d 0 0 post 0 0 (pc + 3) lv (v :: st) ws) : V l D tys A k d 0 0 post 0 0 pc lv (.ref (ad 90) :: st) ws := by
  obtain ⟨fs, a1, hl⟩ := o90 hG
  rw [rd_at a1] at hx
  exact V_get hi a1 hx kk
theorem V_putI {i : Nat} {lo hi : Int} {v : Int32} (hi0 : mI k pc = (18, a, x, 11, i)) (hG : GOK ad tys GG ws) (hs : gF i lo hi) (h36 : i < 36) (hty : clTy 11 i = .int) (hn : nfin 11 i = true) (h1 : lo ≤ v.toInt) (h2 : v.toInt ≤ hi) (kk : ∀ w : va_W, GOK ad tys GG w → Upd1 ws w 90 i (.int v) → V l D tys A k d 0 0 post 0 0 (pc + 3) lv st w) : V l D tys A k d 0 0 post 0 0 pc lv (.int v :: .ref (ad 90) :: st) ws := by
  obtain ⟨g, hg, hs⟩ := hs
  obtain ⟨e, a1, a2, a3⟩ := hG 90 _ hg
  obtain ⟨fs, rfl, hl⟩ := a2
  refine V_put hi0 a1 (by omega) (fun C T N hc => ?_) (by rw [hty]; rfl) (by rw [hty]; rfl) ?_
  · unfold nfin at hn
    rw [hc] at hn
    simpa using hn
  · obtain ⟨u1, u2⟩ := GOK_upd (e' := .inr (11, fs.set i (.int v))) hG hg a1 ⟨_, rfl, by rw [List.length_set]; exact hl⟩ (rdE_obj (by omega) _) hs ⟨v.toInt, by rw [Int32.ofInt_toInt], h1, h2⟩
    exact kk _ u1 u2
theorem V_callM {d' : Nat} {As : List Value} {post' : Option Value → va_W → Prop} (hi : mI k pc = (26, a, x, y, 0)) (hy : y < 352) (hk : mKind y = 0) (hci : mCi y = 11) (hG : GOK ad tys GG ws) (hc : CT l D tys A y d' 0 0 (.ref (ad 90) :: As) ws post') (hd : d' < d) (hn : As.length = mN y) (hst : (st.map fun v => v.category).sum ≤ 8) (kk : ∀ (r : Option Value) (ws' : va_W), post' r ws' → V l D tys A k d 0 0 post 0 0 (pc + 3) lv (r.toList ++ st) ws') : V l D tys A k d 0 0 post 0 0 pc lv (As.reverse ++ .ref (ad 90) :: st) ws := by
  obtain ⟨fs, a1, hl⟩ := o90 hG
  obtain ⟨T, N, hcl⟩ := ci_at hy hk (by omega)
  rw [hci] at hcl
  exact V_virt hi hy hc hd hn a1 hcl hst ⟨Nat.le_refl _, Nat.le_refl _⟩ kk
theorem ar_of {c ty n : Nat} {segs : List SG} (hG : GOK ad tys GG ws) (hg : GG[c]? = some ((1, ty, n), segs)) : ∃ (cA : ClassId) (f : Nat → Int32), ws[c]? = some (ad c, .inl (cA, n, .inl f)) ∧ tys[ty]? = some (cA, ftyp ty) := by
  obtain ⟨e, b1, b2, b3⟩ := hG c _ hg
  obtain ⟨cA, f, rfl, c1, -⟩ := b2
  exact ⟨cA, f, b1, c1⟩
theorem cel {c j ty n : Nat} {lo hi : Int} {segs : List SG} (hG : GOK ad tys GG ws) (hg : GG[c]? = some ((1, ty, n), segs)) (hj : j < n) (hs : segAt segs j = some (0, lo, hi)) : ∃ z : Int, rd ws c j = some (.int (Int32.ofInt z)) ∧ lo ≤ z ∧ z ≤ hi := by
  obtain ⟨e, b1, b2, b3⟩ := hG c _ hg
  obtain ⟨cA, f, rfl, c1, -⟩ := b2
  have hr : rdE (.inl (cA, n, .inl f)) j = some (.int (f j)) := by show (if j < n then _ else _) = _; rw [if_pos hj]
  obtain ⟨sp, r1, r2⟩ := b3 j _ hr
  rw [hs] at r1
  cases r1
  obtain ⟨z, z1, z2, z3⟩ := r2
  exact ⟨z, by rw [rd_at b1, hr, z1], z2, z3⟩
theorem ix_in {j n : Nat} (hj : j < n) (hn : n ≤ 100000) : vp_in (Int32.ofInt j) n ∧ (Int32.ofInt j).toNatClampNeg = j := by
  have e : (Int32.ofInt (j : Int)).toInt = (j : Int) := Int32.toInt_ofInt_of_le (by omega) (by omega)
  refine ⟨vp_in_iff.mpr (by rw [e]; omega), ?_⟩
  show (Int32.ofInt (j : Int)).toInt.toNat = j
  rw [e]; rfl
theorem V_bldI {c n j : Nat} {segs : List SG} {v ix : Int32} (hi : mI k pc = (19, a, 1, y, z)) (hix : ix = Int32.ofInt (j : Int)) (hG : GOK ad tys GG ws) (hg : GG[c]? = some ((1, 1, n), segs)) (hj : j < n) (hn : n ≤ 100000) (hx : rd ws c j = some (.int v)) (kk : V l D tys A k d 0 0 post 0 0 (pc + 1) lv (.int v :: st) ws) : V l D tys A k d 0 0 post 0 0 pc lv (.int ix :: .ref (ad c) :: st) ws := by
  subst hix
  obtain ⟨cA, f, h1, h2⟩ := ar_of hG hg
  refine V_bald hi h1 h2 (ix_in hj hn).1 ?_
  rw [(ix_in hj hn).2]
  rw [rd_at h1] at hx
  have hx : (if j < n then some (Value.int (f j)) else none) = some (.int v) := hx
  rw [if_pos hj] at hx
  cases hx
  exact kk
theorem f5 : gF 5 0 1400 := ⟨_, rfl, by decide +kernel⟩
theorem f7 : gF 7 0 1400 := ⟨_, rfl, by decide +kernel⟩
theorem f8 : gF 8 0 1400 := ⟨_, rfl, by decide +kernel⟩
theorem f9 : gF 9 0 1400 := ⟨_, rfl, by decide +kernel⟩
theorem f10 : gF 10 0 4 := ⟨_, rfl, by decide +kernel⟩
theorem f11 : gF 11 (-2147483648) 2147483647 := ⟨_, rfl, by decide +kernel⟩
theorem f12 : gF 12 0 3 := ⟨_, rfl, by decide +kernel⟩
theorem f13 : gF 13 (-1) 1400 := ⟨_, rfl, by decide +kernel⟩
theorem gr4 : ∃ g, GG[90]? = some ((0, 11, 36), g) ∧ segAt g 4 = some (2, ((94 : Nat) : Int), ((94 : Nat) : Int)) := ⟨_, rfl, by decide +kernel⟩
theorem gr14 : ∃ g, GG[90]? = some ((0, 11, 36), g) ∧ segAt g 14 = some (2, ((96 : Nat) : Int), ((96 : Nat) : Int)) := ⟨_, rfl, by decide +kernel⟩
theorem rref {c i : Nat} (hs : ∃ g, GG[90]? = some ((0, 11, 36), g) ∧ segAt g i = some (2, (c : Int), (c : Int))) (hi2 : i < 36) (hG : GOK ad tys GG ws) : rd ws 90 i = some (.ref (ad c)) := by
  obtain ⟨g, hg, hs⟩ := hs
  obtain ⟨e, a1, a2, a3⟩ := hG 90 _ hg
  obtain ⟨fs, rfl, hl⟩ := a2
  have hv : fs[i]? = some fs[i] := List.getElem?_eq_getElem (by omega)
  obtain ⟨sp, q1, q2⟩ := a3 i _ hv
  rw [hs] at q1
  cases q1
  have q2 : fs[i] = .ref (ad ((c : Int).toNat)) := q2
  rw [Int.toNat_natCast] at q2
  rw [rd_at a1]
  show fs[i]? = _
  rw [hv, q2]
theorem gt94 : ∃ s, GG[94]? = some ((1, 1, 1400), s) ∧ ∀ j, j < 1400 → segAt s j = some (0, -128, 127) := by
  refine ⟨_, rfl, fun j hj => ?_⟩
  show (bif Nat.blt j 1400 then some _ else _) = _
  rw [show Nat.blt j 1400 = true from Nat.blt_eq.mpr hj]
  rfl
noncomputable def SAME (w0 w : va_W) : Prop := ∀ c j, rd w c j = rd w0 c j
theorem good_ct (hG : GOK ad tys GG ws) {f : Int} (hf : rd ws 90 12 = some (.int (Int32.ofInt f))) (f0 : 0 ≤ f) (f3 : f ≤ 3) : CT l D tys A 214 0 0 0 [.ref (ad 90)] ws (fun r w => w = ws ∧ r = some (.int (if f = 0 then 1 else 0))) := by
  refine CT_of_V (by omega) (show (1 : Nat) ≤ mML 214 by decide +kernel) ?_
  refine V_aload (v := ad 90) mi_214_0 (List.Mem.head _) ?_
  refine V_getI mi_214_1 hG hf ?_
  have hc : cdP 1 (Int32.ofInt f) 0 ↔ cdZ 1 (f - 0) := cdP_iff (x := 1) (a := f) (b := 0) (by omega) (by omega) (by omega) (by omega)
  refine V_if mi_214_4 (fun h => ?_) (fun h => ?_)
  · have h : f - 0 ≠ 0 := hc.mp h
    refine V_ipush mi_214_11 ?_
    exact V_retI mi_214_12 (fun _ => by decide) ⟨rfl, by rw [if_neg (by omega)]; rfl⟩
  · have h : ¬ (f - 0 ≠ 0) := fun q => h (hc.mpr q)
    refine V_ipush mi_214_7 ?_
    refine V_goto mi_214_8 ?_
    exact V_retI mi_214_12 (fun _ => by decide) ⟨rfl, by rw [if_pos (by omega)]; rfl⟩
theorem coder_ct {i : Nat} {q : String × Nat × String × List Int32} (hq : xsT[i]? = some q) : CT l D tys A 347 0 0 0 [.ref (D.2 1000 i)] ws (fun r w => w = ws ∧ r = some (.int 0)) := by
  refine CT_of_V (by omega) (show (1 : Nat) ≤ mML 347 by decide +kernel) ?_
  refine V_gets mi_347_0 (fun _ => ?_) (fun h => absurd rfl h) (fun h => absurd rfl h)
  refine V_if mi_347_3 (fun h => absurd (show (1 : Int32) = 0 from h) (by decide)) (fun _ => ?_)
  refine V_aload (v := D.2 1000 i) mi_347_6 (List.Mem.head _) ?_
  refine V_getX mi_347_7 hq (fun h => absurd h (by decide)) (fun _ => ?_)
  refine V_goto mi_347_10 ?_
  exact V_retX mi_347_14 (by decide) (by decide) ⟨rfl, rfl⟩
theorem lat_ct {i : Nat} {q : String × Nat × String × List Int32} (hq : xsT[i]? = some q) : CT l D tys A 348 0 0 0 [.ref (D.2 1000 i)] ws (fun r w => w = ws ∧ r = some (.int 1)) := by
  refine CT_of_V (by omega) (show (1 : Nat) ≤ mML 348 by decide +kernel) ?_
  refine V_gets mi_348_0 (fun _ => ?_) (fun h => absurd rfl h) (fun h => absurd rfl h)
  refine V_if mi_348_3 (fun h => absurd (show (1 : Int32) = 0 from h) (by decide)) (fun _ => ?_)
  refine V_aload (v := D.2 1000 i) mi_348_6 (List.Mem.head _) ?_
  refine V_getX mi_348_7 hq (fun h => absurd h (by decide)) (fun _ => ?_)
  refine V_if mi_348_10 (fun h => absurd (show (0 : Int32) = 0 from rfl) h) (fun _ => ?_)
  refine V_ipush mi_348_13 ?_
  refine V_goto mi_348_14 ?_
  exact V_retI mi_348_18 (fun _ => by decide) ⟨rfl, rfl⟩
theorem shr0 (v : Int32) : ibF 9 v 0 = v := by
  show v >>> (0 : Int32) = v
  simp
theorem len_ct {i : Nat} {q : String × Nat × String × List Int32} (hq : xsT[i]? = some q) : CT l D tys A 345 1 0 0 [.ref (D.2 1000 i)] ws (fun r w => w = ws ∧ r = some (.int (Int32.ofInt (q.2.2.2.length : Int)))) := by
  refine CT_of_V (by omega) (show (1 : Nat) ≤ mML 345 by decide +kernel) ?_
  refine V_aload (v := D.2 1000 i) mi_345_0 (List.Mem.head _) ?_
  refine V_getX mi_345_1 hq (fun _ => ?_) (fun h => absurd rfl h)
  refine V_lenX mi_345_4 hq ?_
  refine V_aload (v := D.2 1000 i) mi_345_5 (List.Mem.head _) ?_
  refine V_virtX (As := []) (st := [.int (Int32.ofNat q.2.2.2.length)]) mi_345_6 (by omega) (coder_ct hq) (by omega) (show 0 = mN 347 by decide +kernel) hq (by decide +kernel) (by simp [Value.category]) ⟨Nat.le_refl _, Nat.le_refl _⟩ ?_
  rintro r w ⟨rfl, rfl⟩
  refine V_ibin mi_345_9 (by omega) ?_
  rw [shr0]
  exact V_retI mi_345_10 (fun h => absurd h (by decide +kernel)) ⟨rfl, rfl⟩
theorem chk_ct {p n : Int} {v : Value} (hv : v = .null ∨ v = .ref (D.2 1000 200)) (p0 : 0 ≤ p) (pn : p < n) (n1 : n ≤ 100) : CT l D tys A 351 0 0 0 [.int (Int32.ofInt p), .int (Int32.ofInt n), v] ws (fun r w => w = ws ∧ r = some (.int (Int32.ofInt p))) := by
  refine CT_of_V (by omega) (by rcases hv with rfl | rfl <;> exact (show (3 : Nat) ≤ mML 351 by decide +kernel)) ?_
  refine V_iload (v := Int32.ofInt p) mi_351_0 (List.Mem.head _) ?_
  have h1 : cdP 2 (Int32.ofInt p) 0 ↔ cdZ 2 (p - 0) := cdP_iff (x := 2) (a := p) (b := 0) (by omega) (by omega) (by omega) (by omega)
  refine V_if mi_351_1 (fun h => absurd (show p - 0 < 0 from h1.mp h) (by omega)) (fun _ => ?_)
  refine V_iload (v := Int32.ofInt p) mi_351_4 (List.Mem.head _) ?_
  refine V_iload (v := Int32.ofInt n) mi_351_5 (List.Mem.tail _ (List.Mem.head _)) ?_
  have h2 := cdP_iff (x := 2) (a := p) (b := n) (by omega) (by omega) (by omega) (by omega)
  refine V_icmp mi_351_6 (fun _ => ?_) (fun h => absurd (h2.mpr (show p - n < 0 by omega)) h)
  refine V_iload (v := Int32.ofInt p) mi_351_16 (List.Mem.head _) ?_
  exact V_retI mi_351_17 (fun h => absurd h (by decide +kernel)) ⟨rfl, rfl⟩
theorem idx_ct {p n : Int} (p0 : 0 ≤ p) (pn : p < n) (n1 : n ≤ 100) : CT l D tys A 350 1 0 0 [.int (Int32.ofInt p), .int (Int32.ofInt n)] ws (fun r w => w = ws ∧ r = none) := by
  refine CT_of_V (by omega) (show (2 : Nat) ≤ mML 350 by decide +kernel) ?_
  refine V_iload (v := Int32.ofInt p) mi_350_0 (List.Mem.head _) ?_
  refine V_iload (v := Int32.ofInt n) mi_350_1 (List.Mem.tail _ (List.Mem.head _)) ?_
  have go : ∀ (v : Value) (lv : List (Nat × Value)), v = .null ∨ v = .ref (D.2 1000 200) → V l D tys A 350 1 0 0 (fun r w => w = ws ∧ r = none) 0 0 5 lv [v, .int (Int32.ofInt n), .int (Int32.ofInt p)] ws := by
    intro v lv hv
    refine V_stat (As := [.int (Int32.ofInt p), .int (Int32.ofInt n), v]) (st := []) mi_350_5 (by omega) (chk_ct hv p0 pn n1) (by omega) (show 3 = mN 351 by decide +kernel) (by simp) ⟨Nat.le_refl _, Nat.le_refl _⟩ ?_
    rintro r w ⟨rfl, rfl⟩
    refine V_pop mi_350_8 rfl ?_
    exact V_retV mi_350_9 ⟨rfl, rfl⟩
  exact V_gets mi_350_2 (fun h => absurd h (by decide)) (fun _ => go _ _ (Or.inr rfl)) (fun _ => go _ _ (Or.inl rfl))
noncomputable def chF (b : Int32) : Int32 := ((ibF 5 b (Int32.ofInt 255)).toUInt32 % 65536).toInt32
theorem chF_all : (List.range 26).all (fun m => decide (chF (Int32.ofInt (97 + m : Nat)) = Int32.ofInt (97 + m : Nat)) && (decide ((Int32.ofInt (97 + m : Nat)).toUInt32.toUInt16.toUInt32.toInt32 = Int32.ofInt (97 + m : Nat)) && decide ((Int32.ofInt (97 + m : Nat)).toInt8.toInt32 = Int32.ofInt (97 + m : Nat)))) = true := by decide +kernel
theorem chF_ok {b : Int32} (h1 : 97 ≤ b.toInt) (h2 : b.toInt ≤ 122) : chF b = b ∧ b.toUInt32.toUInt16.toUInt32.toInt32 = b ∧ b.toInt8.toInt32 = b := by
  have e : b = Int32.ofInt ((97 + (b.toInt - 97).toNat : Nat) : Int) := by
    rw [show ((97 + (b.toInt - 97).toNat : Nat) : Int) = b.toInt by omega, Int32.ofInt_toInt]
  have h := List.all_eq_true.mp chF_all (b.toInt - 97).toNat (List.mem_range.mpr (by omega))
  rw [← e] at h
  simpa using h
theorem xb {i : Nat} {q : String × Nat × String × List Int32} (hq : xsT[i]? = some q) {j : Nat} (hj : j < q.2.2.2.length) : 97 ≤ (q.2.2.2.getD j 0).toInt ∧ (q.2.2.2.getD j 0).toInt ≤ 122 := by
  have h := List.all_eq_true.mp xs_byt q (List.mem_of_getElem? hq)
  have h := List.all_eq_true.mp h (q.2.2.2.getD j 0) (by rw [List.getD_eq_getElem?_getD, List.getElem?_eq_getElem hj]; exact List.getElem_mem hj)
  simpa using h
theorem lc_ct {i j : Nat} {q : String × Nat × String × List Int32} (hq : xsT[i]? = some q) (hj : j < q.2.2.2.length) (hl : q.2.2.2.length ≤ 9) : CT l D tys A 349 2 0 0 [.ref (D.2 1000 (100 + i)), .int (Int32.ofInt (j : Int))] ws (fun r w => w = ws ∧ r = some (.int (q.2.2.2.getD j 0))) := by
  refine CT_of_V (by omega) (show (2 : Nat) ≤ mML 349 by decide +kernel) ?_
  refine V_iload (v := Int32.ofInt (j : Int)) mi_349_0 (List.Mem.tail _ (List.Mem.head _)) ?_
  refine V_aload (v := D.2 1000 (100 + i)) mi_349_1 (List.Mem.head _) ?_
  refine V_lenX mi_349_2 hq ?_
  refine V_stat (As := [.int (Int32.ofInt (j : Int)), .int (Int32.ofInt (q.2.2.2.length : Int))]) (st := []) mi_349_3 (by omega) (idx_ct (by omega) (by omega) (by omega)) (by omega) (show 2 = mN 350 by decide +kernel) (by simp) ⟨Nat.le_refl _, Nat.le_refl _⟩ ?_
  rintro r w ⟨rfl, rfl⟩
  refine V_aload (v := D.2 1000 (100 + i)) mi_349_6 (List.Mem.head _) ?_
  refine V_iload (v := Int32.ofInt (j : Int)) mi_349_7 (List.Mem.tail _ (List.Mem.head _)) ?_
  refine V_bldX mi_349_8 hq (ix_in hj (by omega)).1 ?_
  rw [(ix_in hj (by omega)).2]
  refine V_ipush mi_349_9 ?_
  refine V_ibin mi_349_12 (by omega) ?_
  refine V_i2c mi_349_13 ?_
  obtain ⟨x1, x2⟩ := xb hq hj
  obtain ⟨c1, c2, c3⟩ := chF_ok x1 x2
  rw [show ((ibF 5 (q.2.2.2.getD j 0) (Int32.ofInt 255)).toUInt32 % 65536).toInt32 = q.2.2.2.getD j 0 from c1]
  exact V_retX mi_349_14 c2 c3 ⟨rfl, rfl⟩
theorem chr_ct {i j : Nat} {q : String × Nat × String × List Int32} (hq : xsT[i]? = some q) (hj : j < q.2.2.2.length) (hl : q.2.2.2.length ≤ 9) : CT l D tys A 346 3 0 0 [.ref (D.2 1000 i), .int (Int32.ofInt (j : Int))] ws (fun r w => w = ws ∧ r = some (.int (q.2.2.2.getD j 0))) := by
  refine CT_of_V (by omega) (show (2 : Nat) ≤ mML 346 by decide +kernel) ?_
  refine V_aload (v := D.2 1000 i) mi_346_0 (List.Mem.head _) ?_
  refine V_virtX (As := []) (st := []) mi_346_1 (by omega) (lat_ct hq) (by omega) (show 0 = mN 348 by decide +kernel) hq (by decide +kernel) (by simp) ⟨Nat.le_refl _, Nat.le_refl _⟩ ?_
  rintro r w ⟨rfl, rfl⟩
  refine V_if mi_346_4 (fun h => absurd (show (1 : Int32) = 0 from h) (by decide)) (fun _ => ?_)
  refine V_aload (v := D.2 1000 i) mi_346_7 (List.Mem.head _) ?_
  refine V_getX mi_346_8 hq (fun _ => ?_) (fun h => absurd rfl h)
  refine V_iload (v := Int32.ofInt (j : Int)) mi_346_11 (List.Mem.tail _ (List.Mem.head _)) ?_
  refine V_stat (As := [.ref (D.2 1000 (100 + i)), .int (Int32.ofInt (j : Int))]) (st := []) mi_346_12 (by omega) (lc_ct hq hj hl) (by omega) (show 2 = mN 349 by decide +kernel) (by simp) ⟨Nat.le_refl _, Nat.le_refl _⟩ ?_
  rintro r w ⟨rfl, rfl⟩
  obtain ⟨x1, x2⟩ := xb hq hj
  obtain ⟨c1, c2, c3⟩ := chF_ok x1 x2
  exact V_retX mi_346_15 c2 c3 ⟨rfl, rfl⟩
theorem V_callS {d' i : Nat} {q : String × Nat × String × List Int32} {As : List Value} {post' : Option Value → va_W → Prop} (hi : mI k pc = (26, a, x, y, 0)) (hy : y < 352) (hc : CT l D tys A y d' 0 0 (.ref (D.2 1000 i) :: As) ws post') (hd : d' < d) (hn : As.length = mN y) (hq : xsT[i]? = some q) (hcl : (mY y).cls = "java/lang/String") (hst : (st.map fun v => v.category).sum ≤ 8) (kk : ∀ (r : Option Value) (ws' : va_W), post' r ws' → V l D tys A k d 0 0 post 0 0 (pc + 3) lv (r.toList ++ st) ws') : V l D tys A k d 0 0 post 0 0 pc lv (As.reverse ++ .ref (D.2 1000 i) :: st) ws := V_virtX hi hy hc hd hn hq hcl hst ⟨Nat.le_refl _, Nat.le_refl _⟩ kk
noncomputable def LI (D : va_G) (ad : Nat → Nat) (i : Nat) (b : Int32) (j : Nat) : List (Nat × Value) := [(0, .ref (ad 90)), (1, .ref (D.2 1000 i)), (2, .int b), (3, .int (Int32.ofInt (j : Int)))]
theorem is_zero {i j : Nat} {q : String × Nat × String × List Int32} (hq : xsT[i]? = some q) (hl : q.2.2.2.length ≤ 9) (hj : j ≤ 10) : V l D tys A 216 4 0 0 (fun r w => w = ws ∧ r = some (.int (Int32.ofInt 0))) 0 0 39 (LI D ad i (Int32.ofInt 0) j) [] ws := by
  refine V_iload (v := Int32.ofInt (j : Int)) mi_216_39 (by simp [LI]) ?_
  refine V_aload (v := D.2 1000 i) mi_216_40 (by simp [LI]) ?_
  refine V_callS (As := []) (st := [.int (Int32.ofInt (j : Int))]) mi_216_41 (by omega) (len_ct hq) (by omega) (show 0 = mN 345 by decide +kernel) hq (by decide +kernel) (by simp [Value.category]) ?_
  rintro r w ⟨rfl, rfl⟩
  have out : V l D tys A 216 4 0 0 (fun r w' => w' = w ∧ r = some (.int (Int32.ofInt 0))) 0 0 82 (LI D ad i (Int32.ofInt 0) j) [] w := by
    refine V_iload (v := Int32.ofInt 0) mi_216_82 (by simp [LI]) ?_
    exact V_retI mi_216_83 (fun _ => by decide) ⟨rfl, rfl⟩
  refine V_icmp mi_216_44 (fun _ => out) (fun _ => ?_)
  refine V_iload (v := Int32.ofInt 0) mi_216_47 (by simp [LI]) ?_
  exact V_if mi_216_48 (fun _ => out) (fun h => absurd (show Int32.ofInt 0 = 0 from rfl) h)
noncomputable def bI (b : Bool) : Int32 := if b then Int32.ofInt 1 else Int32.ofInt 0
theorem upd_ne {w w' : va_W} {c j c' j' : Nat} {v : Value} (hu : Upd1 w w' c j v) (h : ¬ (c' = c ∧ j' = j)) : rd w' c' j' = rd w c' j' := by rw [hu, if_neg h]
theorem upd_eq {w w' : va_W} {c j : Nat} {v : Value} (hu : Upd1 w w' c j v) : rd w' c j = some v := by rw [hu, if_pos ⟨rfl, rfl⟩]
theorem in2_ct {v lo hi : Int} (v1 : -9223372036854775808 ≤ v) (v2 : v ≤ 9223372036854775807) (a1 : -9223372036854775808 ≤ lo) (a2 : lo ≤ 9223372036854775807) (b1 : -9223372036854775808 ≤ hi) (b2 : hi ≤ 9223372036854775807) : CT l D tys A 193 0 0 0 [.long (Int64.ofInt v), .long (Int64.ofInt lo), .long (Int64.ofInt hi)] ws (fun r w => w = ws ∧ ((r = some (.int (Int32.ofInt 1)) ∧ lo ≤ v ∧ v ≤ hi) ∨ (r = some (.int (Int32.ofInt 0)) ∧ ¬ (lo ≤ v ∧ v ≤ hi)))) := by
  refine CT_of_V (by omega) (show (6 : Nat) ≤ mML 193 by decide +kernel) ?_
  have no : ∀ lv : List (Nat × Value), ¬ (lo ≤ v ∧ v ≤ hi) → V l D tys A 193 0 0 0 (fun r w => w = ws ∧ ((r = some (.int (Int32.ofInt 1)) ∧ lo ≤ v ∧ v ≤ hi) ∨ (r = some (.int (Int32.ofInt 0)) ∧ ¬ (lo ≤ v ∧ v ≤ hi)))) 0 0 17 lv [] ws := fun lv hn => V_ipush mi_193_17 (V_retI mi_193_18 (fun _ => by decide) ⟨rfl, Or.inr ⟨rfl, hn⟩⟩)
  refine V_lload (v := Int64.ofInt v) mi_193_0 (List.Mem.head _) ?_
  refine V_lload (v := Int64.ofInt lo) mi_193_1 (List.Mem.tail _ (List.Mem.head _)) ?_
  refine V_lcmp mi_193_2 ?_
  have c1 := cdL_iff (x := 2) v1 v2 a1 a2
  have c2 := cdL_iff (x := 4) v1 v2 b1 b2
  refine V_if mi_193_3 (fun h => no _ (fun q => absurd (show v - lo < 0 from c1.mp h) (by omega))) (fun h1 => ?_)
  have h1 : ¬ (v - lo < 0) := fun q => h1 (c1.mpr q)
  refine V_lload (v := Int64.ofInt v) mi_193_6 (List.Mem.head _) ?_
  refine V_lload (v := Int64.ofInt hi) mi_193_7 (List.Mem.tail _ (List.Mem.tail _ (List.Mem.head _))) ?_
  refine V_lcmp mi_193_9 ?_
  refine V_if mi_193_10 (fun h => no _ (fun q => absurd (show v - hi > 0 from c2.mp h) (by omega))) (fun h2 => ?_)
  have h2 : ¬ (0 < v - hi) := fun q => h2 (c2.mpr q)
  refine V_ipush mi_193_13 ?_
  refine V_goto mi_193_14 ?_
  exact V_retI mi_193_18 (fun _ => by decide) ⟨rfl, Or.inl ⟨rfl, by omega, by omega⟩⟩
noncomputable def kK : List (Nat × CUT) := [(144, [(0, 1400)], [(0, rA 90)], [], [((90, 8), iA (0, [(1, 0)]))], (1401, [((-1), 0)]))]
theorem i2lm {m : Int} (h1 : -1 ≤ m) (h2 : m ≤ 255) : (Int32.ofInt m).toInt64 = Int64.ofInt m := Int32.toInt64_ofInt (by show -2147483648 ≤ _; omega) (by show _ ≤ 2147483647; omega)
theorem xs_l : xsT.all (fun q => Nat.ble 1 q.2.2.2.length && Nat.ble q.2.2.2.length 9) = true := by decide +kernel
theorem xs_f {i : Nat} (h : i < 24) : ∃ q, xsT[i]? = some q ∧ 1 ≤ q.2.2.2.length ∧ q.2.2.2.length ≤ 9 := by
  obtain ⟨q, hq⟩ := xs_at h
  have e := List.all_eq_true.mp xs_l q (List.mem_of_getElem? hq)
  rw [Bool.and_eq_true] at e
  exact ⟨q, hq, Nat.le_of_ble_eq_true e.1, Nat.le_of_ble_eq_true e.2⟩
theorem pre1 {w : va_W} {c j : Nat} {lo hi z : Int} (h : rd w c j = some (.int (Int32.ofInt z))) (h1 : lo ≤ z) (h2 : z ≤ hi) : preOK ad [((c, j), (0, lo, hi))] w := by
  intro q hq
  rw [List.mem_singleton.mp hq]
  exact ⟨_, h, z, rfl, h1, h2⟩
theorem gf96 : ∃ s, GG[96]? = some ((1, 0, 294), s) ∧ segAt s 0 = some (0, 0, 9) ∧ segAt s 3 = some (0, 0, 6) ∧ segAt s 4 = some (0, 0, 12) ∧ segAt s 5 = some (0, -2147483648, 2147483647) := ⟨_, rfl, by decide +kernel, by decide +kernel, by decide +kernel, by decide +kernel⟩
/-- what stays: the cells but for ms, and how much the tape holds -/
noncomputable def KEEP (ms : List Nat) (w0 w : va_W) : Prop := (∀ c, c ∉ ms → ∀ j, rd w c j = rd w0 c j) ∧ ∀ j, spM ms j → rd w 90 j = rd w0 90 j
theorem KEEP_F {ms : List Nat} {w0 w : va_W} (h : FRm ms w0 w) : KEEP ms w0 w := ⟨h.1, h.2.2.2⟩
theorem KEEP_tr {ms m2 : List Nat} {w0 w1 w2 : va_W} (h : KEEP ms w0 w1) (h2 : KEEP m2 w1 w2) (hs : ∀ x ∈ m2, x ∈ ms) : KEEP ms w0 w2 := ⟨fun c hc j => (h2.1 c (fun q => hc (hs c q)) j).trans (h.1 c hc j), fun j hj => (h2.2 j (spM_sub hs hj)).trans (h.2 j hj)⟩
noncomputable def HP (ad : Nat → Nat) (tys : List (ClassId × FieldType)) (ms : List Nat) (w0 : va_W) (r : Option Value) (w : va_W) : Prop := GOK ad tys GG w ∧ (∃ v : Int32, r = some (.int v)) ∧ KEEP ms w0 w
end HA
end
section
section GVH
variable {l : Launch} {D : va_G} {tys : List (ClassId × FieldType)} {A : Nat → Prop} {ad : Nat → Nat} {ws : va_W}
noncomputable def AG (ad : Nat → Nat) (tys : List (ClassId × FieldType)) (n fr fo : Int32) (w0 : va_W) (r : Option Value) (w : va_W) : Prop := GOK ad tys GG w ∧ FRm [] w0 w ∧ ∃ z : Int, r = some (.int (Int32.ofInt z)) ∧ -6 ≤ z ∧ z ≤ 0 ∧ (z < 0 ∨ ∃ N R F m : Nat, n = Int32.ofInt (N : Int) ∧ fr = Int32.ofInt (R : Int) ∧ fo = Int32.ofInt (F : Int) ∧ 1 ≤ N ∧ N ≤ 6 ∧ R < 4 ∧ F < 4 ∧ m ≤ 8 ∧ rd w0 107 F = some (.int (Int32.ofInt (m : Int))))
theorem ag_of {c : CR} {dd : Nat} {n fr fo : Int32} {lo hi : Int} (hc : CRok l D tys A ad GG dd c) (hd : dd ≤ 3) (hy : c.1 = 301) (hv : okvs ad c.2.1 [.ref (ad 90), .int n, .int fr, .int fo]) (hG : GOK ad tys GG ws) (hp : preOK ad c.2.2.1 ws) (hr : c.2.2.2.1 = some (0, lo, hi)) (hm : c.2.2.2.2.2 = []) (h6 : -6 ≤ lo) (h0 : hi ≤ 0) (hz : hi < 0 ∨ ∃ N R F m : Nat, n = Int32.ofInt (N : Int) ∧ fr = Int32.ofInt (R : Int) ∧ fo = Int32.ofInt (F : Int) ∧ 1 ≤ N ∧ N ≤ 6 ∧ R < 4 ∧ F < 4 ∧ m ≤ 8 ∧ rd ws 107 F = some (.int (Int32.ofInt (m : Int)))) : ∃ d', d' < 4 ∧ CT l D tys A 301 d' 0 0 [.ref (ad 90), .int n, .int fr, .int fo] ws (AG ad tys n fr fo ws) := by
  obtain ⟨d', h1, h2⟩ := hc _ ws hv hG hp
  rw [hy] at h2
  refine ⟨d', by omega, CT_post h2 ?_⟩
  rintro r w ⟨q1, q2, q3, -⟩
  rw [hr] at q3
  rw [hm] at q2
  refine ⟨q1, q2, ?_⟩
  cases r with
  | none => exact q3.elim
  | some v =>
    obtain ⟨z, rfl, z1, z2⟩ := q3
    have z1 : lo ≤ z := z1
    have z2 : z ≤ hi := z2
    refine ⟨z, rfl, by omega, by omega, ?_⟩
    rcases hz with hz | hz
    · exact Or.inl (by omega)
    · exact Or.inr hz
theorem okI {lo hi : Int} {v : Int32} (h1 : lo ≤ v.toInt) (h2 : v.toInt ≤ hi) : okv ad (0, lo, hi) (.int v) := ⟨v.toInt, by rw [Int32.ofInt_toInt], h1, h2⟩
theorem natI {v : Int32} (h : 0 ≤ v.toInt) : v = Int32.ofInt ((v.toInt.toNat : Nat) : Int) := by rw [Int.toNat_of_nonneg h, Int32.ofInt_toInt]
theorem gf107 : ∃ s, GG[107]? = some ((1, 0, 4), s) ∧ ∀ j, j < 4 → segAt s j = some (0, -1, 60) := by
  refine ⟨_, rfl, fun j hj => ?_⟩
  show (bif Nat.blt j 4 then some _ else _) = _
  rw [show Nat.blt j 4 = true from Nat.blt_eq.mpr hj]
  rfl
theorem ag_ct (hAD : ∀ i : Nat, ad (1000 + i) = D.2 1000 i) (hG : GOK ad tys GG ws) (n fr fo : Int32) : ∃ d', d' < 4 ∧ CT l D tys A 301 d' 0 0 [.ref (ad 90), .int n, .int fr, .int fo] ws (AG ad tys n fr fo ws) := by
  have n1 := Int32.le_toInt n
  have n2 := Int32.toInt_lt n
  have a1 := Int32.le_toInt fr
  have a2 := Int32.toInt_lt fr
  have b1 := Int32.le_toInt fo
  have b2 := Int32.toInt_lt fo
  have no : ∀ q ∈ ([] : List ((Nat × Nat) × SP3)), ∃ v, rd ws q.1.1 q.1.2 = some v ∧ okv ad q.2 v := fun q hq => by cases hq
  rcases (show n.toInt ≤ 0 ∨ 7 ≤ n.toInt ∨ (1 ≤ n.toInt ∧ n.toInt ≤ 6) by omega) with h | h | h
  · exact ag_of (r216 hAD) (by omega) rfl ⟨rfl, okI (by omega) (by omega), okI (by omega) (by omega), okI (by omega) (by omega), trivial⟩ hG (no) rfl rfl (by omega) (by omega) (Or.inl (by decide))
  · exact ag_of (r218 hAD) (by omega) rfl ⟨rfl, okI (by omega) (by omega), okI (by omega) (by omega), okI (by omega) (by omega), trivial⟩ hG (no) rfl rfl (by omega) (by omega) (Or.inl (by decide))
  rcases (show fr.toInt ≤ -1 ∨ 4 ≤ fr.toInt ∨ (0 ≤ fr.toInt ∧ fr.toInt ≤ 3) by omega) with h2 | h2 | h2
  · exact ag_of (r220 hAD) (by omega) rfl ⟨rfl, okI (by omega) (by omega), okI (by omega) (by omega), okI (by omega) (by omega), trivial⟩ hG (no) rfl rfl (by omega) (by omega) (Or.inl (by decide))
  · exact ag_of (r222 hAD) (by omega) rfl ⟨rfl, okI (by omega) (by omega), okI (by omega) (by omega), okI (by omega) (by omega), trivial⟩ hG (no) rfl rfl (by omega) (by omega) (Or.inl (by decide))
  rcases (show fo.toInt ≤ -1 ∨ 4 ≤ fo.toInt ∨ (0 ≤ fo.toInt ∧ fo.toInt ≤ 3) by omega) with h3 | h3 | h3
  · exact ag_of (r224 hAD) (by omega) rfl ⟨rfl, okI (by omega) (by omega), okI (by omega) (by omega), okI (by omega) (by omega), trivial⟩ hG (no) rfl rfl (by omega) (by omega) (Or.inl (by decide))
  · exact ag_of (r226 hAD) (by omega) rfl ⟨rfl, okI (by omega) (by omega), okI (by omega) (by omega), okI (by omega) (by omega), trivial⟩ hG (no) rfl rfl (by omega) (by omega) (Or.inl (by decide))
  obtain ⟨s7, e7, f7⟩ := gf107
  rcases (show fo.toInt = 0 ∨ fo.toInt = 1 ∨ fo.toInt = 2 ∨ fo.toInt = 3 by omega) with h4 | h4 | h4 | h4
  · obtain ⟨m, hm, m0, m1⟩ := cel (j := 0) hG e7 (by omega) (f7 0 (by omega))
    rcases (show m = -1 ∨ (0 ≤ m ∧ m ≤ 8) ∨ 9 ≤ m by omega) with h5 | h5 | h5
    · exact ag_of (r228 hAD) (by omega) rfl ⟨rfl, okI (by omega) (by omega), okI (by omega) (by omega), okI (by omega) (by omega), trivial⟩ hG (pre1 hm (by omega) (by omega)) rfl rfl (by omega) (by omega) (Or.inl (by decide))
    · exact ag_of (r230 hAD) (by omega) rfl ⟨rfl, okI (by omega) (by omega), okI (by omega) (by omega), okI (by omega) (by omega), trivial⟩ hG (pre1 hm (by omega) (by omega)) rfl rfl (by omega) (by omega) (Or.inr ⟨n.toInt.toNat, fr.toInt.toNat, 0, m.toNat, natI (by omega), natI (by omega), (by rw [show ((0 : Nat) : Int) = fo.toInt by omega, Int32.ofInt_toInt]), by omega, by omega, by omega, by omega, by omega, by rw [Int.toNat_of_nonneg h5.1]; exact hm⟩)
    · exact ag_of (r233 hAD) (by omega) rfl ⟨rfl, okI (by omega) (by omega), okI (by omega) (by omega), okI (by omega) (by omega), trivial⟩ hG (pre1 hm (by omega) (by omega)) rfl rfl (by omega) (by omega) (Or.inl (by decide))
  · obtain ⟨m, hm, m0, m1⟩ := cel (j := 1) hG e7 (by omega) (f7 1 (by omega))
    rcases (show m = -1 ∨ (0 ≤ m ∧ m ≤ 8) ∨ 9 ≤ m by omega) with h5 | h5 | h5
    · exact ag_of (r235 hAD) (by omega) rfl ⟨rfl, okI (by omega) (by omega), okI (by omega) (by omega), okI (by omega) (by omega), trivial⟩ hG (pre1 hm (by omega) (by omega)) rfl rfl (by omega) (by omega) (Or.inl (by decide))
    · exact ag_of (r237 hAD) (by omega) rfl ⟨rfl, okI (by omega) (by omega), okI (by omega) (by omega), okI (by omega) (by omega), trivial⟩ hG (pre1 hm (by omega) (by omega)) rfl rfl (by omega) (by omega) (Or.inr ⟨n.toInt.toNat, fr.toInt.toNat, 1, m.toNat, natI (by omega), natI (by omega), (by rw [show ((1 : Nat) : Int) = fo.toInt by omega, Int32.ofInt_toInt]), by omega, by omega, by omega, by omega, by omega, by rw [Int.toNat_of_nonneg h5.1]; exact hm⟩)
    · exact ag_of (r240 hAD) (by omega) rfl ⟨rfl, okI (by omega) (by omega), okI (by omega) (by omega), okI (by omega) (by omega), trivial⟩ hG (pre1 hm (by omega) (by omega)) rfl rfl (by omega) (by omega) (Or.inl (by decide))
  · obtain ⟨m, hm, m0, m1⟩ := cel (j := 2) hG e7 (by omega) (f7 2 (by omega))
    rcases (show m = -1 ∨ (0 ≤ m ∧ m ≤ 8) ∨ 9 ≤ m by omega) with h5 | h5 | h5
    · exact ag_of (r242 hAD) (by omega) rfl ⟨rfl, okI (by omega) (by omega), okI (by omega) (by omega), okI (by omega) (by omega), trivial⟩ hG (pre1 hm (by omega) (by omega)) rfl rfl (by omega) (by omega) (Or.inl (by decide))
    · exact ag_of (r244 hAD) (by omega) rfl ⟨rfl, okI (by omega) (by omega), okI (by omega) (by omega), okI (by omega) (by omega), trivial⟩ hG (pre1 hm (by omega) (by omega)) rfl rfl (by omega) (by omega) (Or.inr ⟨n.toInt.toNat, fr.toInt.toNat, 2, m.toNat, natI (by omega), natI (by omega), (by rw [show ((2 : Nat) : Int) = fo.toInt by omega, Int32.ofInt_toInt]), by omega, by omega, by omega, by omega, by omega, by rw [Int.toNat_of_nonneg h5.1]; exact hm⟩)
    · exact ag_of (r247 hAD) (by omega) rfl ⟨rfl, okI (by omega) (by omega), okI (by omega) (by omega), okI (by omega) (by omega), trivial⟩ hG (pre1 hm (by omega) (by omega)) rfl rfl (by omega) (by omega) (Or.inl (by decide))
  · obtain ⟨m, hm, m0, m1⟩ := cel (j := 3) hG e7 (by omega) (f7 3 (by omega))
    rcases (show m = -1 ∨ (0 ≤ m ∧ m ≤ 8) ∨ 9 ≤ m by omega) with h5 | h5 | h5
    · exact ag_of (r249 hAD) (by omega) rfl ⟨rfl, okI (by omega) (by omega), okI (by omega) (by omega), okI (by omega) (by omega), trivial⟩ hG (pre1 hm (by omega) (by omega)) rfl rfl (by omega) (by omega) (Or.inl (by decide))
    · exact ag_of (r251 hAD) (by omega) rfl ⟨rfl, okI (by omega) (by omega), okI (by omega) (by omega), okI (by omega) (by omega), trivial⟩ hG (pre1 hm (by omega) (by omega)) rfl rfl (by omega) (by omega) (Or.inr ⟨n.toInt.toNat, fr.toInt.toNat, 3, m.toNat, natI (by omega), natI (by omega), (by rw [show ((3 : Nat) : Int) = fo.toInt by omega, Int32.ofInt_toInt]), by omega, by omega, by omega, by omega, by omega, by rw [Int.toNat_of_nonneg h5.1]; exact hm⟩)
    · exact ag_of (r254 hAD) (by omega) rfl ⟨rfl, okI (by omega) (by omega), okI (by omega) (by omega), okI (by omega) (by omega), trivial⟩ hG (pre1 hm (by omega) (by omega)) rfl rfl (by omega) (by omega) (Or.inl (by decide))
theorem gv_no {n : Int32} {d : Nat} {lv : List (Nat × Value)} {w0 w : va_W} (hG : GOK ad tys GG w) (K : KEEP [102, 103, 104] w0 w) : V l D tys A 304 d 0 0 (HP ad tys [102, 103, 104] w0) 0 0 50 lv [] w := V_ipush mi_304_50 (V_retI mi_304_51 (fun h => absurd h (by decide +kernel)) ⟨hG, ⟨_, rfl⟩, K⟩)
theorem gv_ct (hAD : ∀ i : Nat, ad (1000 + i) = D.2 1000 i) (hG : GOK ad tys GG ws) (n fr fo no : Int32) : CT l D tys A 304 4 0 0 [.ref (ad 90), .int n, .int fr, .int fo, .int no] ws (HP ad tys [102, 103, 104] ws) := by
  refine CT_of_V (by omega) (show (5 : Nat) ≤ mML 304 by decide +kernel) ?_
  obtain ⟨d', hd, hct⟩ := ag_ct (l := l) (A := A) hAD hG n fr fo
  have hl : lv_args 0 [Value.ref (ad 90), .int n, .int fr, .int fo, .int no] = [(0, .ref (ad 90)), (1, .int n), (2, .int fr), (3, .int fo), (4, .int no)] := rfl
  rw [hl]
  refine V_aload (v := ad 90) mi_304_0 (by simp) ?_
  refine V_iload (v := n) mi_304_1 (by simp) ?_
  refine V_iload (v := fr) mi_304_2 (by simp) ?_
  refine V_iload (v := fo) mi_304_3 (by simp) ?_
  refine V_callM (As := [.int n, .int fr, .int fo]) (st := []) mi_304_4 (by omega) (by decide +kernel) (by decide +kernel) hG hct (by omega) (show 3 = mN 301 by decide +kernel) (by simp) ?_
  rintro r w ⟨G, F, z, rfl, z6, z0, hz⟩
  refine V_istore mi_304_7 ?_
  have m5 : (5, Value.int (Int32.ofInt z)) ∈ stL 5 (.int (Int32.ofInt z)) [(0, .ref (ad 90)), (1, .int n), (2, .int fr), (3, .int fo), (4, .int no)] := by simp [stL]
  refine V_iload (v := Int32.ofInt z) mi_304_9 m5 ?_
  have hc : cdP 3 (Int32.ofInt z) 0 ↔ cdZ 3 (z - 0) := cdP_iff (x := 3) (a := z) (b := 0) (by omega) (by omega) (by omega) (by omega)
  refine V_if mi_304_11 (fun hge => ?_) (fun _ => ?_)
  · have hge : 0 ≤ z - 0 := hc.mp hge
    rcases hz with hz | ⟨N, R, Fo, m, rfl, rfl, rfl, hN1, hN, hR, hF, hm, hM⟩
    · omega
    have hM := (F.1 107 (by simp) Fo).trans hM
    have h2m : 2 ^ m ≤ 256 := by
      have q := List.all_eq_true.mp all_m m (List.mem_range.mpr (by omega))
      simp only [Bool.and_eq_true, decide_eq_true_eq] at q
      exact q.2
    refine V_aload (v := ad 90) mi_304_17 (by simp [stL, Value.category]) ?_
    refine V_iload (v := Int32.ofInt (N : Int)) mi_304_18 (by simp [stL, Value.category]) ?_
    refine V_iload (v := Int32.ofInt (R : Int)) mi_304_19 (by simp [stL, Value.category]) ?_
    refine V_iload (v := Int32.ofInt (Fo : Int)) mi_304_20 (by simp [stL, Value.category]) ?_
    refine V_callM (As := [.int (Int32.ofInt (N : Int)), .int (Int32.ofInt (R : Int)), .int (Int32.ofInt (Fo : Int))]) (st := []) mi_304_21 (by omega) (by decide +kernel) (by decide +kernel) G (fillGive_ct hAD hN hR hF hm hM G) (by omega) (show 3 = mN 302 by decide +kernel) (by simp) ?_
    rintro r w2 ⟨rfl, hI⟩
    have K2 : KEEP [102, 103, 104] ws w2 := KEEP_tr (m2 := [102, 103, 104]) ⟨fun c _ j => F.1 c (by simp) j, fun j hj => F.2.2.2 j (spM_sub (m2 := []) (fun x hx => by cases hx) hj)⟩ (KEEP_F hI.2.1) (fun _ h => h)
    obtain ⟨p, p1, p2, p3, -⟩ := hI.2.2.2.1 0 0 (Nat.le_refl _) (by omega) (Nat.two_pow_pos m)
    obtain ⟨s4, e104, f104⟩ := gc104
    refine V_aload (v := ad 90) mi_304_24 (by simp [stL, Value.category]) ?_
    refine V_getR mi_304_25 gf28 (by omega) hI.1 ?_
    refine V_ipush mi_304_28 ?_
    refine V_aldX (j := 0) mi_304_29 rfl hI.1 e104 (by omega) (by omega) p1 ?_
    refine V_ipush mi_304_30 ?_
    have hc2 := cdP_iff (x := 3) (a := p) (b := 1000000) (by omega) (by omega) (by omega) (by omega)
    refine V_icmp mi_304_33 (fun _ => gv_no (n := no) hI.1 K2) (fun hlt => ?_)
    have hlt : ¬ (0 ≤ p - 1000000) := fun q => hlt (hc2.mpr q)
    have no1 := Int32.le_toInt no
    have no2 := Int32.toInt_lt no
    refine V_iload (v := no) mi_304_36 (by simp [stL, Value.category]) ?_
    refine V_i2l mi_304_38 ?_
    refine V_lpush mi_304_39 ?_
    refine V_iload (v := Int32.ofInt (N : Int)) mi_304_40 (by simp [stL, Value.category]) ?_
    refine V_ipush mi_304_41 ?_
    refine V_ibin mi_304_42 (by omega) ?_
    rw [show ibF 1 (Int32.ofInt (N : Int)) (Int32.ofInt 1) = Int32.ofInt ((N : Int) - 1) by show Int32.ofInt (N : Int) - Int32.ofInt 1 = _; rw [← Int32.ofInt_sub]]
    refine V_i2l mi_304_43 ?_
    have el : no.toInt64 = Int64.ofInt no.toInt := by
      have q := Int32.toInt64_ofInt (n := no.toInt) (by show -2147483648 ≤ _; omega) (by show _ ≤ 2147483647; omega)
      rw [Int32.ofInt_toInt] at q
      exact q
    rw [el, Int32.toInt64_ofInt (n := (N : Int) - 1) (by show -2147483648 ≤ _; omega) (by show _ ≤ 2147483647; omega)]
    refine V_stat (As := [.long (Int64.ofInt no.toInt), .long (Int64.ofInt 0), .long (Int64.ofInt ((N : Int) - 1))]) (st := []) mi_304_44 (by omega) (in_ct (by omega) (by omega) (by omega) (by omega) (by omega) (by omega)) (by omega) (show 3 = mN 193 by decide +kernel) (by simp) ⟨Nat.le_refl _, Nat.le_refl _⟩ ?_
    rintro r w3 ⟨rfl, hr⟩
    rcases hr with ⟨rfl, i0, i1⟩ | rfl
    · refine V_if mi_304_47 (fun _ => ?_) (fun h => absurd (show (1 : Int32) ≠ 0 by decide) h)
      refine V_ipush mi_304_52 ?_
      refine V_istore mi_304_53 ?_
      refine V_ipush mi_304_55 ?_
      refine V_istore mi_304_56 ?_
      refine V_ipush mi_304_58 ?_
      refine V_istore mi_304_59 ?_
      have en := natI i0
      refine V_sub (lv' := LG9 ad (Int32.ofInt (N : Int)) (Int32.ofInt (R : Int)) (Int32.ofInt (Fo : Int)) (Int32.ofInt z) no.toInt.toNat 0 0 0) (fun q hq => ?_) (gv_k hAD (by omega) h2m hN (i := no.toInt.toNat) (by omega) (fun z w hw => ⟨hw.1, ⟨z, rfl⟩, KEEP_tr (m2 := [102, 103, 104]) ⟨fun c _ j => F.1 c (by simp) j, fun j hj => F.2.2.2 j (spM_sub (m2 := []) (fun x hx => by cases hx) hj)⟩ (KEEP_F hw.2.1) (fun _ h => h)⟩) (no.toInt.toNat + 2) 0 0 0 _ (by omega) (by omega) (Nat.two_pow_pos m) hI ⟨p, p1, p2, by omega⟩)
      simp only [LG9, List.mem_cons, List.not_mem_nil, or_false] at hq
      rw [← en] at hq
      rcases hq with h | h | h | h | h | h | h | h | h <;> simp [h, stL, Value.category]
    · exact V_if mi_304_47 (fun h => absurd (show (0 : Int32) = 0 from rfl) h) (fun _ => gv_no (n := no) hI.1 K2)
  · refine V_iload (v := Int32.ofInt z) mi_304_14 m5 ?_
    exact V_retI mi_304_16 (fun h => absurd h (by decide +kernel)) ⟨G, ⟨_, rfl⟩, fun c _ j => F.1 c (by simp) j, fun j hj => F.2.2.2 j (spM_sub (m2 := []) (fun x hx => by cases hx) hj)⟩
end GVH
end
