section
noncomputable def okBv (v : CV) (sp : Nat × Int × Int) : Bool := Nat.beq v.1 sp.1 && (match v.1 with
  | 0 => leI sp.2.1 v.2 && leI v.2 sp.2.2
  | 1 => leI sp.2.1 v.2 && leI v.2 sp.2.2
  | 2 => Nat.beq v.2.toNat sp.2.1.toNat
  | _ => false)
theorem okBv_ok {ad : Nat → Nat} {v : CV} {sp : Nat × Int × Int} (h : okBv v sp = true) : okv ad sp (cnC ad v) := by
  obtain ⟨t, z⟩ := v
  obtain ⟨t2, lo, hi⟩ := sp
  unfold okBv at h
  rw [Bool.and_eq_true] at h
  have e : t = t2 := beN h.1
  subst e
  match t, h.2 with
  | 0, h =>
    have h : (leI lo z && leI z hi) = true := h
    rw [Bool.and_eq_true, leI_iff, leI_iff] at h
    exact ⟨z, rfl, h.1, h.2⟩
  | 1, h =>
    have h : (leI lo z && leI z hi) = true := h
    rw [Bool.and_eq_true, leI_iff, leI_iff] at h
    exact ⟨z, rfl, h.1, h.2⟩
  | 2, h =>
    have h : z.toNat = lo.toNat := beN h
    show Value.ref (ad z.toNat) = .ref (ad lo.toNat)
    rw [h]
  | t + 3, h => cases h
noncomputable def zsg (tg : Nat) : List SG → Nat → Bool
  | [], n => Nat.beq n 0
  | q :: t, n => Nat.beq q.2.1 tg && (leI q.2.2.1 0 && (leI 0 q.2.2.2 && (bif Nat.ble n q.1 then true else zsg tg t (n - q.1))))
theorem zsg_ok {tg : Nat} : ∀ {g : List SG} {n j : Nat}, zsg tg g n = true → j < n → ∃ sp, segAt g j = some sp ∧ sp.1 = tg ∧ sp.2.1 ≤ 0 ∧ 0 ≤ sp.2.2
  | [], n, j, h, hj => by
    have h : n = 0 := beN h
    omega
  | q :: t, n, j, h, hj => by
    unfold zsg at h
    simp only [Bool.and_eq_true, leI_iff] at h
    obtain ⟨h1, h2, h3, h4⟩ := h
    show ∃ sp, (bif Nat.blt j q.1 then some q.2 else segAt t (j - q.1)) = some sp ∧ sp.1 = tg ∧ sp.2.1 ≤ 0 ∧ 0 ≤ sp.2.2
    cases hq : Nat.blt j q.1 with
    | true => exact ⟨q.2, rfl, beN h1, h2, h3⟩
    | false =>
      have hge : ¬ j < q.1 := fun e => by rw [Nat.blt_eq.mpr e] at hq; cases hq
      cases hn : Nat.ble n q.1 with
      | true => have := Nat.le_of_ble_eq_true hn; omega
      | false =>
        rw [hn] at h4
        exact zsg_ok (n := n - q.1) h4 (by omega)
noncomputable def ptB (dv : CV) (l : List CV) (g : List SG) (n : Nat) : Bool := (List.range n).all (fun j => match segAt g j with
  | some sp => okBv (l.getD j dv) sp
  | none => false)
theorem ptB_ok {dv : CV} {l : List CV} {g : List SG} {n j : Nat} (h : ptB dv l g n = true) (hj : j < n) : ∃ sp, segAt g j = some sp ∧ okBv (l.getD j dv) sp = true := by
  have := List.all_eq_true.mp h j (List.mem_range.mpr hj)
  cases hs : segAt g j with
  | none => rw [hs] at this; cases this
  | some sp => rw [hs] at this; exact ⟨sp, rfl, this⟩
noncomputable def gokB (e : CE) (g : GC) : Bool := Nat.beq e.1 g.1.1 && (match e.1 with
  | 0 => Nat.beq e.2.1 g.1.2.1 && (Nat.beq e.2.2.2.length g.1.2.2 && ptB (3, 0) e.2.2.2 g.2 e.2.2.2.length)
  | 1 => Nat.beq e.2.1 g.1.2.1 && (Nat.blt e.2.1 3 && (Nat.beq e.2.2.1 g.1.2.2 && (match e.2.2.2 with
    | [] => zsg 0 g.2 e.2.2.1
    | _ :: _ => ptB (0, 0) e.2.2.2 g.2 e.2.2.1 && e.2.2.2.all (fun v => Nat.beq v.1 0))))
  | 2 => Nat.beq e.2.2.1 g.1.2.2 && zsg 1 g.2 e.2.2.1
  | 3 => Nat.beq e.2.2.1 g.1.2.2 && (ptB (3, 0) e.2.2.2 g.2 e.2.2.1 && e.2.2.2.all (fun v => Nat.beq v.1 2))
  | _ => false)
noncomputable def gokL : List CE → List GC → Bool
  | _, [] => true
  | e :: w, g :: t => gokB e g && gokL w t
  | [], _ :: _ => false
theorem gokL_ok : ∀ {w : List CE} {G : List GC}, gokL w G = true → ∀ (c : Nat) (g : GC), G[c]? = some g → ∃ e, w[c]? = some e ∧ gokB e g = true
  | [], [], _, c, g, hg => by simp at hg
  | _ :: _, [], _, c, g, hg => by simp at hg
  | [], _ :: _, h, c, g, hg => by cases h
  | e :: w, g0 :: t, h, 0, g, hg => by
    have h : (gokB e g0 && gokL w t) = true := h
    rw [Bool.and_eq_true] at h
    rw [List.getElem?_cons_zero] at hg
    cases hg
    exact ⟨e, by rw [List.getElem?_cons_zero], h.1⟩
  | e :: w, g0 :: t, h, c + 1, g, hg => by
    have h : (gokB e g0 && gokL w t) = true := h
    rw [Bool.and_eq_true] at h
    rw [List.getElem?_cons_succ] at hg ⊢
    exact gokL_ok h.2 c g hg
theorem gok_of {tys : List (ClassId × FieldType)} {ad : Nat → Nat} {w : List CE} {G : List GC} (HT : ∀ t, t < 5 → tys[t]? = some (cid tys t, ftyp t)) (h : gokL w G = true) : GOK ad tys G (cwF tys ad 0 w) := by
  intro c g hg
  obtain ⟨e, he, hb⟩ := gokL_ok h c g hg
  refine ⟨ceE tys ad e, cw_at he, ?_⟩
  clear he h hg
  obtain ⟨kd, ty, n, l⟩ := e
  obtain ⟨⟨gk, gt, gn⟩, segs⟩ := g
  unfold gokB at hb
  rw [Bool.and_eq_true] at hb
  obtain ⟨h1, h2⟩ := hb
  have h1 : kd = gk := beN h1
  subst h1
  match kd, h2 with
  | 0, h2 =>
    have h2 : (Nat.beq ty gt && (Nat.beq l.length gn && ptB (3, 0) l segs l.length)) = true := h2
    simp only [Bool.and_eq_true] at h2
    obtain ⟨a1, a2, a3⟩ := h2
    have a1 : ty = gt := beN a1
    have a2 : l.length = gn := beN a2
    subst a1
    refine ⟨⟨l.map (cnC ad), rfl, by rw [List.length_map]; exact a2⟩, fun j v hv => ?_⟩
    have hv : (l.map (cnC ad))[j]? = some v := hv
    rw [List.getElem?_map] at hv
    cases hl : l[j]? with
    | none => rw [hl] at hv; cases hv
    | some q =>
      rw [hl] at hv
      cases hv
      obtain ⟨sp, s1, s2⟩ := ptB_ok a3 (List.getElem?_eq_some_iff.mp hl).1
      rw [List.getD_eq_getElem?_getD, hl] at s2
      exact ⟨sp, s1, okBv_ok s2⟩
  | 1, h2 =>
    simp only [Bool.and_eq_true] at h2
    obtain ⟨a1, a2, a3, a4⟩ := h2
    have a1 : ty = gt := beN a1
    have a3 : n = gn := beN a3
    subst a1; subst a3
    have a2 : ty < 3 := Nat.blt_eq.mp a2
    refine ⟨⟨cid tys ty, _, rfl, HT ty (by omega), a2⟩, fun j v hv => ?_⟩
    have hv : (if j < n then some (Value.int (Int32.ofInt (l.getD j (0, 0)).2)) else none) = some v := hv
    by_cases hj : j < n
    · rw [if_pos hj] at hv
      cases hv
      match l, a4 with
      | [], a4 =>
        obtain ⟨⟨t, lo, hi⟩, s1, s2, s3, s4⟩ := zsg_ok a4 hj
        cases s2
        exact ⟨_, s1, 0, rfl, s3, s4⟩
      | q :: r, a4 =>
        have a4 : (ptB (0, 0) (q :: r) segs n && (q :: r).all (fun v => Nat.beq v.1 0)) = true := a4
        rw [Bool.and_eq_true] at a4
        obtain ⟨sp, s1, s2⟩ := ptB_ok a4.1 hj
        have ht : Nat.beq ((q :: r).getD j (0, 0)).1 0 = true := by
          rw [List.getD_eq_getElem?_getD]
          cases hl : (q :: r)[j]? with
          | none => rfl
          | some p => exact List.all_eq_true.mp a4.2 p (List.mem_of_getElem? hl)
        have := okBv_ok (ad := ad) s2
        rw [cnC0 ht] at this
        exact ⟨sp, s1, this⟩
    · rw [if_neg hj] at hv; cases hv
  | 2, h2 =>
    have h2 : (Nat.beq n gn && zsg 1 segs n) = true := h2
    rw [Bool.and_eq_true] at h2
    have a3 : n = gn := beN h2.1
    subst a3
    refine ⟨⟨cid tys 3, _, rfl, HT 3 (by omega)⟩, fun j v hv => ?_⟩
    have hv : (if j < n then some (Value.long 0) else none) = some v := hv
    by_cases hj : j < n
    · rw [if_pos hj] at hv
      cases hv
      obtain ⟨⟨t, lo, hi⟩, s1, s2, s3, s4⟩ := zsg_ok h2.2 hj
      cases s2
      exact ⟨_, s1, 0, rfl, s3, s4⟩
    · rw [if_neg hj] at hv; cases hv
  | 3, h2 =>
    have h2 : (Nat.beq n gn && (ptB (3, 0) l segs n && l.all (fun v => Nat.beq v.1 2))) = true := h2
    simp only [Bool.and_eq_true] at h2
    obtain ⟨a3, a4, a5⟩ := h2
    have a3 : n = gn := beN a3
    subst a3
    refine ⟨⟨cid tys 4, _, rfl, HT 4 (by omega)⟩, fun j v hv => ?_⟩
    have hv : (if j < n then some (va_rf (rfC ad (l.getD j (3, 0)))) else none) = some v := hv
    by_cases hj : j < n
    · rw [if_pos hj] at hv
      cases hv
      obtain ⟨sp, s1, s2⟩ := ptB_ok a4 hj
      refine ⟨sp, s1, ?_⟩
      have o := okBv_ok (ad := ad) s2
      have ht : Nat.beq (l.getD j (3, 0)).1 2 = true := by
        rw [List.getD_eq_getElem?_getD] at s2 ⊢
        cases hl : l[j]? with
        | none => rw [hl] at s2; unfold okBv at s2; rw [Bool.and_eq_true] at s2; exact Bool.noConfusion s2.2
        | some p => exact List.all_eq_true.mp a5 p (List.mem_of_getElem? hl)
      rw [cnC2 ht] at o
      generalize l.getD j (3, 0) = q at ht o ⊢
      obtain ⟨t, z⟩ := q
      cases beN ht
      exact o
    · rw [if_neg hj] at hv; cases hv
noncomputable def preB (w : List CE) (q : (Nat × Nat) × SP3) : Bool := match w[q.1.1]? with
  | some e => (match e.1 with
    | 0 => (match e.2.2.2[q.1.2]? with
      | some v => okBv v q.2
      | none => false)
    | 1 => Nat.blt q.1.2 e.2.2.1 && (Nat.beq q.2.1 0 && (leI q.2.2.1 (e.2.2.2.getD q.1.2 (0, 0)).2 && leI (e.2.2.2.getD q.1.2 (0, 0)).2 q.2.2.2))
    | _ => false)
  | none => false
theorem preB_ok {tys : List (ClassId × FieldType)} {ad : Nat → Nat} {w : List CE} {F : List ((Nat × Nat) × SP3)} (h : F.all (preB w) = true) : preOK ad F (cwF tys ad 0 w) := by
  intro q hq
  have h := List.all_eq_true.mp h q hq
  obtain ⟨⟨c, j⟩, t, lo, hi⟩ := q
  unfold preB at h
  dsimp only at h
  cases he : w[c]? with
  | none => rw [he] at h; cases h
  | some e =>
    rw [he] at h
    have ha := cw_at (tys := tys) (ad := ad) he
    obtain ⟨kd, ty, n, l⟩ := e
    match kd, h with
    | 0, h =>
      have h : (match l[j]? with
        | some v => okBv v (t, lo, hi)
        | none => false) = true := h
      cases hl : l[j]? with
      | none => rw [hl] at h; cases h
      | some v =>
        rw [hl] at h
        refine ⟨cnC ad v, ?_, okBv_ok h⟩
        unfold rd
        dsimp only
        rw [ha]
        show (l.map (cnC ad))[j]? = _
        rw [List.getElem?_map, hl]
        rfl
    | 1, h =>
      have h : (Nat.blt j n && (Nat.beq t 0 && (leI lo (l.getD j (0, 0)).2 && leI (l.getD j (0, 0)).2 hi))) = true := h
      simp only [Bool.and_eq_true, leI_iff] at h
      obtain ⟨a1, a2, a3, a4⟩ := h
      cases beN a2
      refine ⟨.int (Int32.ofInt (l.getD j (0, 0)).2), ?_, _, rfl, a3, a4⟩
      unfold rd
      dsimp only
      rw [ha]
      show (if j < n then some (Value.int (Int32.ofInt (l.getD j (0, 0)).2)) else none) = _
      rw [if_pos (Nat.blt_eq.mp a1)]
    | k + 2, h => cases h
theorem fr_all : hX.length = 90 ∧ wfW 90 [] [] hX = true ∧ hM.length = 111 ∧ wfW 111 [] [] hM = true ∧ gokL hM GG = true := by decide +kernel
theorem lX : hX.length = 90 := fr_all.1
theorem lM : hM.length = 111 := fr_all.2.2.1
theorem wf_X : wfW 90 [] [] hX = true := fr_all.2.1
theorem fr_gok : gokL hM GG = true := fr_all.2.2.2.2
end
section
noncomputable def xsC (q : String × Nat × String × List Int32) : List Cond := Cond.exactly (Term.string q.1 q.2.1) "java/lang/String" :: Cond.eq (.field (Term.string q.1 q.2.1) "java/lang/String" "coder" "B") (.int 0) :: Cond.arrayOf (.field (Term.string q.1 q.2.1) "java/lang/String" "value" "[B") .byte :: Cond.eq (.length (.field (Term.string q.1 q.2.1) "java/lang/String" "value" "[B")) (.int (Int32.ofNat q.2.2.2.length)) :: (List.range q.2.2.2.length).map (fun j => Cond.eq (.elem (.field (Term.string q.1 q.2.1) "java/lang/String" "value" "[B") (.int (Int32.ofNat j))) (.int (q.2.2.2.getD j 0)))
noncomputable def xsN : List Nat := [55, 67, 84, 98, 127, 145, 163, 9, 17, 31, 43, 113, 181, 201, 227, 251, 468, 275, 299, 328, 354, 381, 410, 439]
noncomputable def pfC : List Cond → List Cond → Bool
  | [], _ => true
  | a :: t, l => match l with
    | [] => false
    | b :: r => bif decide (a = b) then pfC t r else false
theorem pfC_in : ∀ {a l : List Cond}, pfC a l = true → ∀ w ∈ a, w ∈ l
  | [], _, _, w, hw => by cases hw
  | a :: t, [], h, w, hw => by cases h
  | a :: t, b :: r, h, w, hw => by
    have h : (bif decide (a = b) then pfC t r else false) = true := h
    cases hb : decide (a = b) with
    | false => rw [hb] at h; cases h
    | true =>
      rw [hb, cond_true] at h
      rcases List.mem_cons.mp hw with rfl | hw
      · rw [of_decide_eq_true hb]
        exact List.mem_cons_self
      · exact List.mem_cons_of_mem _ (pfC_in h w hw)
set_option maxRecDepth 100000 in
theorem xs_words : (List.range 24).all (fun i => match xsT[i]?, xsN[i]? with | some q, some n => pfC (xsC q) ((flatC (Jvm.Cond.and given_1 narrow_1)).drop n) | _, _ => false) = true := by decide +kernel
theorem xs_small : xsT.all (fun q => decide (q.2.2.2.length < 2 ^ 31)) = true := by decide +kernel
noncomputable def xsI : List Nat := [465, 473, 478, 479, 485, 501, 511, 393, 450, 463, 464, 484, 1370, 1389, 1398, 1399, 1423, 1404, 1405, 1406, 1407, 1408, 1409, 1410]
theorem xs_refs : (List.range 24).all (fun i => match xsT[i]?, xsI[i]? with | some q, some n => decide (tables_1[n]? = some (Cond.stringRef q.1 q.2.1 q.2.2.1)) | _, _ => false) = true := by decide +kernel
theorem xs_ref {i : Nat} {q : String × Nat × String × List Int32} (h : xsT[i]? = some q) : Cond.stringRef q.1 q.2.1 q.2.2.1 ∈ lw_tbl := by
  have hi : i < 24 := by rw [← xs_len]; exact (List.getElem?_eq_some_iff.mp h).1
  have t := List.all_eq_true.mp xs_refs i (List.mem_range.mpr hi)
  rw [h] at t
  cases hn : xsI[i]? with
  | none => rw [hn] at t; cases t
  | some n =>
    rw [hn] at t
    exact tbl_in (List.mem_of_getElem? (of_decide_eq_true t))
theorem xs_in {i : Nat} {q : String × Nat × String × List Int32} (h : xsT[i]? = some q) : ∀ w ∈ xsC q, w ∈ flatC (Jvm.Cond.and given_1 narrow_1) := by
  have hi : i < 24 := by rw [← xs_len]; exact (List.getElem?_eq_some_iff.mp h).1
  have t := List.all_eq_true.mp xs_words i (List.mem_range.mpr hi)
  rw [h] at t
  cases hn : xsN[i]? with
  | none => rw [hn] at t; cases t
  | some n =>
    rw [hn] at t
    exact fun w hw => List.mem_of_mem_drop (pfC_in t w hw)
theorem xk_start {s : State} {args : Array Value} {A : Nat → Prop} (hA : ∀ a : Nat, a < s.heap.size → ¬ A a) (hts0 : ∀ w ∈ lw_tbl, w.before args s = true) (hgv : (Jvm.Cond.and given_1 narrow_1).before args s = true) : ∃ x : Nat → Nat, XK A x s s.heap := by
  have hs := flat_of_before _ hgv
  have h1 : ∀ i : Nat, ∃ p : Nat × Nat, ∀ q, xsT[i]? = some q → vk_R q.1 q.2.1 q.2.2.1 p.1 s ∧ va_O "java/lang/String" p.1 A s s.heap ∧ va_OF "java/lang/String" "coder" "B" (.int 0) p.1 A s s.heap ∧ va_OF "java/lang/String" "value" "[B" (.ref p.2) p.1 A s s.heap ∧ va_T .byte p.2 q.2.2.2.length (fun j => .int (q.2.2.2.getD j 0)) A s s.heap := by
    intro i
    cases hq : xsT[i]? with
    | none => exact ⟨(0, 0), fun q h => by cases h⟩
    | some q =>
      have hm := List.mem_of_getElem? hq
      have hw : ∀ w ∈ xsC q, w.before args s = true := fun w hw => hs w (xs_in hq w hw)
      have hl : q.2.2.2.length < 2 ^ 31 := of_decide_eq_true (List.all_eq_true.mp xs_small q hm)
      obtain ⟨adK, adV, hS, hev⟩ := vk_Sof (args := args) (s := s) (N := 1) (tm := fun _ => Term.string q.1 q.2.1) (len := [q.2.2.2.length]) (byt := [q.2.2.2]) (A := A)
        (fun i hi => by rw [show i = 0 by omega]; exact hl)
        (fun i hi => hw _ List.mem_cons_self)
        (fun i hi => hw _ (List.mem_cons_of_mem _ List.mem_cons_self))
        (fun i hi => hw _ (List.mem_cons_of_mem _ (List.mem_cons_of_mem _ List.mem_cons_self)))
        (fun i hi => by rw [show i = 0 by omega]; exact hw _ (List.mem_cons_of_mem _ (List.mem_cons_of_mem _ (List.mem_cons_of_mem _ List.mem_cons_self))))
        (fun i hi j hj => by
          have e : i = 0 := by omega
          subst e
          exact hw _ (List.mem_cons_of_mem _ (List.mem_cons_of_mem _ (List.mem_cons_of_mem _ (List.mem_cons_of_mem _ (List.mem_map.mpr ⟨j, List.mem_range.mpr hj, rfl⟩))))))
        (fun i j hi hj hij => absurd (show i = j by omega) hij) hA
      obtain ⟨a1, a2, a3, a4⟩ := hS.1 0 (by omega)
      exact ⟨(adK 0, adV 0), fun q' hq' => by cases hq'; exact ⟨vk_R.of (hts0 _ (xs_ref hq)) (hev 0 (by omega)), a1, a2, a3, a4⟩⟩
  obtain ⟨F, hF⟩ := Classical.axiomOfChoice h1
  have z1 : va_Z "java/lang/String" "COMPACT_STRINGS" "Z" (.int 1) A s s.heap := va_Zof (args := args) (hts0 _ (tbl_in (List.mem_of_getElem? (i := 407) (by decide +kernel)))) (hts0 _ (tbl_in (List.mem_of_getElem? (i := 14) (by decide +kernel)))) (va_eqt (hs (Cond.eq (Term.static "java/lang/String" "COMPACT_STRINGS" "Z") (.int 1)) (by decide +kernel))) hA
  have z2 : va_Zq "jdk/internal/util/Preconditions" "SIOOBE_FORMATTER" "Ljava/util/function/BiFunction;" A s s.heap := va_Zqof (args := args) (hts0 _ (tbl_in (List.mem_of_getElem? (i := 423) (by decide +kernel)))) (hts0 _ (tbl_in (List.mem_of_getElem? (i := 16) (by decide +kernel)))) (hs (Cond.isRef (Term.static "jdk/internal/util/Preconditions" "SIOOBE_FORMATTER" "Ljava/util/function/BiFunction;")) (by decide +kernel)) hA
  have fin : ∀ t0 : Nat, (va_Z "jdk/internal/util/Preconditions" "SIOOBE_FORMATTER" "Ljava/util/function/BiFunction;" .null A s s.heap ∨ va_Z "jdk/internal/util/Preconditions" "SIOOBE_FORMATTER" "Ljava/util/function/BiFunction;" (.ref t0) A s s.heap) → ∃ x : Nat → Nat, XK A x s s.heap := by
    intro t0 hz
    refine ⟨fun j => if j < 100 then (F j).1 else if j < 200 then (F (j - 100)).2 else t0, fun i q hq => ?_, z1, ?_⟩
    · have hi : i < 24 := by rw [← xs_len]; exact (List.getElem?_eq_some_iff.mp hq).1
      have e1 : (if i < 100 then (F i).1 else if i < 200 then (F (i - 100)).2 else t0) = (F i).1 := if_pos (by omega)
      have e2 : (if 100 + i < 100 then (F (100 + i)).1 else if 100 + i < 200 then (F (100 + i - 100)).2 else t0) = (F i).2 := by rw [if_neg (by omega), if_pos (by omega), show 100 + i - 100 = i by omega]
      dsimp only
      rw [e1, e2]
      exact hF i q hq
    · have e3 : (if 200 < 100 then (F 200).1 else if 200 < 200 then (F (200 - 100)).2 else t0) = t0 := by rw [if_neg (by omega), if_neg (by omega)]
      dsimp only
      rw [e3]
      exact hz
  rcases z2 with h | ⟨t, h⟩
  · exact fin 0 (Or.inl h)
  · exact fin t (Or.inr h)
end
section
theorem prim_known {s : State} {args : Array Value} {ty : FieldType} (h : (Cond.arrayClass ty).before args s = true) (hr : ∀ c, s.vm.findClass ("[" ++ ty.toString) = some c → va_RA s c ty) : ∃ cA, ArrOfT s cA ty ∧ va_RA s cA ty := by
  obtain ⟨cA, kA, comp, h1, h2, h3⟩ := Cond.arrayClass_spec h
  exact ⟨cA, fun n z => ⟨fun k h => (by cases h), kA, h2, comp, h3⟩, hr _ h1⟩
theorem hill_known {s : State} {C : String} (h : va_AO C s) : ∃ cA, ArrOfT s cA (.object C) ∧ va_RA s cA (.object C) := by
  obtain ⟨comp, c, k, h1, h2, h3, h4, h5⟩ := Cond.arrayOver_spec h
  exact ⟨c, fun n z => ⟨fun k h => (by cases h), k, h3, comp, h4⟩, k, comp, h3, h4, h1, h5⟩
noncomputable def inB (y : Nat) : Bool := match vwCl[y]? with
  | some (C, _, N) => wAt (cW y).1 (Cond.instantiable C N)
  | none => true
theorem in_all : (List.range 12).all inB = true := by decide +kernel
theorem wa_over : (Cond.arrayOver (.object "HalvedNames$Hill")) ∈ lw_tbl := tbl_in (List.mem_of_getElem? (i := 296) (by decide +kernel))
theorem kk_start {s : State} {args : Array Value} {A : Nat → Prop} (hA : ∀ a : Nat, a < s.heap.size → ¬ A a) (hgv : (Jvm.Cond.and given_1 narrow_1).before args s = true) (hts0 : ∀ w ∈ lw_tbl, w.before args s = true) (hts : ∀ w ∈ gtb, w.before args s = true) : ∃ (D : va_G) (tys : List (ClassId × FieldType)), KK D tys A s ∧ ∀ t, t < 5 → tys[t]? = some (cid tys t, ftyp t) := by
  have ho : va_AO "HalvedNames$Hill" s := va_AO.of (hts0 _ wa_over)
  obtain ⟨c0, a0, b0⟩ := prim_known (hts _ (wAt_in wa_int)) (fun c h => h)
  obtain ⟨c1, a1, b1⟩ := prim_known (hts _ (wAt_in wa_byte)) (fun c h => h)
  obtain ⟨c2, a2, b2⟩ := prim_known (hts _ (wAt_in wa_bool)) (fun c h => h)
  obtain ⟨c3, a3, b3⟩ := prim_known (hts _ (wAt_in wa_long)) (fun c h => h)
  obtain ⟨c4, a4, b4⟩ := hill_known ho
  have hD : ∀ c : Nat, ∃ d : ClassId × (Nat → Nat), ∀ q, vwCl[c]? = some q → u_Kn s q.1 q.2.1 q.2.2 d.1 d.2 := by
    intro c
    cases hc : vwCl[c]? with
    | none => exact ⟨(0, fun _ => 0), fun q h => by cases h⟩
    | some q =>
      obtain ⟨C, T, N⟩ := q
      have hl : c < 12 := (List.getElem?_eq_some_iff.mp hc).1
      have hi := List.all_eq_true.mp in_all c (List.mem_range.mpr hl)
      unfold inB at hi
      rw [hc] at hi
      obtain ⟨cC, iS, hk⟩ := u_known hts (cls_ok c C T N hc).1 (hts _ (wAt_in hi))
      exact ⟨(cC, iS), fun q h => by cases h; exact hk⟩
  obtain ⟨F, hF⟩ := Classical.axiomOfChoice hD
  obtain ⟨x, hx⟩ := xk_start hA hts0 hgv
  refine ⟨(fun c => (F c).1, fun c => if c = 1000 then x else (F c).2), [(c0, .int), (c1, .byte), (c2, .boolean), (c3, .long), (c4, .object "HalvedNames$Hill")], ⟨⟨fun c q h => ?_, fun k q h => ?_⟩, ho, by show XK A (if (1000 : Nat) = 1000 then x else (F 1000).2) s s.heap; rw [if_pos rfl]; exact hx⟩, fun t ht => ?_⟩
  · have hc : c < 12 := (List.getElem?_eq_some_iff.mp h).1
    show u_Kn s q.1 q.2.1 q.2.2 (F c).1 (if c = 1000 then x else (F c).2)
    rw [if_neg (by omega)]
    exact hF c q h
  · match k, h with
    | 0, h => cases h; exact ⟨a0, b0⟩
    | 1, h => cases h; exact ⟨a1, b1⟩
    | 2, h => cases h; exact ⟨a2, b2⟩
    | 3, h => cases h; exact ⟨a3, b3⟩
    | 4, h => cases h; exact ⟨a4, b4⟩
    | k + 5, h => simp at h
  · match t, ht with
    | 0, _ => rfl
    | 1, _ => rfl
    | 2, _ => rfl
    | 3, _ => rfl
    | 4, _ => rfl
    | t + 5, ht => omega
/-! the law's own steps -/
noncomputable def LFix (D : va_G) (tys : List (ClassId × FieldType)) (A : Nat → Prop) (p : Program) (R : Room) (s : State) (m : MethodId) (args : Array Value) (c : Code) : Prop :=
  p.tables.exec = Jvm.exec ∧ c.code = code ∧ c.maxLocals = 4 ∧ s.vm.findClass "HalvedNamesLaw" = some m.cls ∧ (∀ w ∈ gtb, w.before args s = true) ∧ KK D tys A s ∧ 14 ≤ R.frames ∧ 528 ≤ R.locals ∧ (∀ q, s.heap.size ≤ q → A q)
section LAW
variable {p : Program} {l : Launch} {e : Env} {R : Room} {s : State} {m : MethodId} {args : Array Value} {below : List Frame} {meth : Method} {c : Code} {Q : State → Prop} {D : va_G} {tys : List (ClassId × FieldType)} {A : Nat → Prop}
noncomputable def LV (p : Program) (l : Launch) (e : Env) (R : Room) (s : State) (m : MethodId) (args : Array Value) (below : List Frame) (meth : Method) (c : Code) (Q : State → Prop) (D : va_G) (A : Nat → Prop) (cells slots pc : Nat) (lv : List (Nat × Value)) (st : List Value) (ws : va_W) : Prop :=
  ∀ (H : Heap) (locs : List Loc) (ls : Array Slot), lv_has ls 4 lv → Hp D A s ws H locs → W p l e R s m args below meth c H locs cells slots Q (F0 m pc ls st)
variable {cells slots pc : Nat} {lv : List (Nat × Value)} {st : List Value} {ws : va_W}
theorem L_virt {d' mc' ms' b q0 ci N x y : Nat} {T : u_T} {fs As : List Value} {post' : Option Value → va_W → Prop} (F : LFix D tys A p R s m args c) (hy : y < 352) (hk : mKind y = 0) {w : Int} (hw : wAt w (Cond.methodLink "HalvedNamesLaw" x (mY y)) = true) (hdc : decode code pc = .ok (.invokevirtual x, 3)) (hc : CT l D tys A y d' mc' ms' (.ref b :: As) ws post') (hd : d' < 11) (hn : As.length = mN y) (he : ws[q0]? = some (b, .inr (ci, fs))) (hcl : vwCl[ci]? = some ((mY y).cls, T, N)) (hst : (st.map fun v => v.category).sum ≤ 8) (hm : cells + mc' ≤ R.cells ∧ slots + ms' ≤ R.slots)
    (kk : ∀ (r : Option Value) (ws' : va_W), post' r ws' → LV p l e R s m args below meth c Q D A (cells + mc') (slots + ms') (pc + 3) lv (r.toList ++ st) ws') : LV p l e R s m args below meth c Q D A cells slots pc lv (As.reverse ++ .ref b :: st) ws := by
  intro H locs ls hl hH
  have K := fun r ws' H1 locs1 hp h => kk r ws' hp H1 locs1 ls hl h
  obtain ⟨hx, hb, hml, hown, hts, hK, hR1, hR2, hA⟩ := F
  obtain ⟨y1, y2, y3, y4, y5, y6, y7, y8⟩ := y_facts hy
  obtain ⟨v1, v2⟩ := y_virt hy hk
  have hG : GoodIn gtb (wsV "HalvedNamesLaw" x (mY y).cls (mY y) (mWs y)) := by
    intro w hw2
    have hw2 : w ∈ ([.methodLink "HalvedNamesLaw" x (mY y), .instanceMethod (mY y), .selects (mY y).cls (mY y) (mY y), .initialized (mY y).cls] : List Cond) ++ mWs y := hw2
    rcases List.mem_append.mp hw2 with hw2 | hw2
    · simp only [List.mem_cons, List.not_mem_nil, or_false] at hw2
      rcases hw2 with rfl | rfl | rfl | rfl
      · exact lw_good_all _ (wAt_in hw)
      · exact lw_good_all _ v1
      · exact lw_good_all _ v2
      · exact lw_good_all _ y2
    · exact ws_good hy w hw2
  refine va_callQ (va_runV (n := mN y) (As := As) (rest := st) ⟨hx, hb, hml, hown, hts⟩ (hc _ (fun _ _ h => h)) (cwV (mN y) hts hG rfl rfl rfl ⟨rfl, y3, y4, y5⟩ ⟨?_, ?_⟩) ⟨PV_blind, va_recv hK.1 hH.1 hcl he, fun U hU hW => ⟨rfl, by rw [hU]; exact hH.1, KK.moved hW (by rw [hU]; exact hH.2.2.2.1) hK, hH.2.1, fun q hq => hA q (Nat.le_trans hH.2.2.1 (by rw [← hU]; exact hq))⟩⟩ rfl hn hl.1 rfl ?_ hdc hm) hH.2.2 (fun r ws' H1 locs1 h1 h2 h3 h4 => K r ws' H1 locs1 h1 ⟨h2, h3, h4⟩)
  · show d' + 1 + 1 ≤ R.frames
    omega
  · show 8 + (mML y + 11) + 40 * (d' + 1) ≤ R.locals
    omega
  · show 2 * 0 + _ ≤ 8
    omega
theorem L_spec {d' mc' ms' b x y : Nat} {As : List Value} {post' : Option Value → va_W → Prop} (F : LFix D tys A p R s m args c) (hy : y < 352) (hk : mKind y = 2) {w : Int} (hw : wAt w (Cond.methodLink "HalvedNamesLaw" x (mY y)) = true) (hdc : decode code pc = .ok (.invokespecial x, 3)) (hrt : mRet y = none) (hc : CT l D tys A y d' mc' ms' (.ref b :: As) ws post') (hd : d' < 11) (hn : As.length = mN y) (hst : (st.map fun v => v.category).sum ≤ 8) (hm : cells + mc' ≤ R.cells ∧ slots + ms' ≤ R.slots)
    (kk : ∀ (r : Option Value) (ws' : va_W), post' r ws' → LV p l e R s m args below meth c Q D A (cells + mc') (slots + ms') (pc + 3) lv (r.toList ++ st) ws') : LV p l e R s m args below meth c Q D A cells slots pc lv (As.reverse ++ .ref b :: st) ws := by
  intro H locs ls hl hH
  have K := fun r ws' H1 locs1 hp h => kk r ws' hp H1 locs1 ls hl h
  obtain ⟨hx, hb, hml, hown, hts, hK, hR1, hR2, hA⟩ := F
  obtain ⟨y1, y2, y3, y4, y5, y6, y7, y8⟩ := y_facts hy
  obtain ⟨v1, v2⟩ := y_spec hy hk
  have hww : mWs y = Cond.code (mY y) (mCode y) (mML y) none :: gtb := by unfold mWs; rw [hrt]
  refine va_callQ (va_runI (n := mN y) (As := As) (rest := st) ⟨hx, hb, hml, hown, hts⟩ (hc _ (fun _ _ h => h)) (cwI (mN y) hts (ws_good hy) hww rfl rfl (hts _ y2) (hts _ (wAt_in hw)) (hts _ v1) v2 ⟨y3, y4, y5⟩ ⟨?_, ?_⟩) ⟨PV_blind, fun U hU hW => ⟨rfl, by rw [hU]; exact hH.1, KK.moved hW (by rw [hU]; exact hH.2.2.2.1) hK, hH.2.1, fun q hq => hA q (Nat.le_trans hH.2.2.1 (by rw [← hU]; exact hq))⟩⟩ rfl hn hl.1 rfl ?_ hdc hm) hH.2.2 (fun r ws' H1 locs1 h1 h2 h3 h4 => K r ws' H1 locs1 h1 ⟨h2, h3, h4⟩)
  · show d' + 1 + 1 ≤ R.frames
    omega
  · show 8 + (mML y + 11) + 40 * (d' + 1) ≤ R.locals
    omega
  · show 2 * 0 + _ ≤ 8
    omega
theorem L_new {C : String} {T : u_T} {N ci index : Nat} {fs : List Value} {w w1 w2 : Int} (F : LFix D tys A p R s m args c) (hcl : vwCl[ci]? = some (C, T, N)) (hw : wAt w (Cond.classLink "HalvedNamesLaw" index C) = true) (hw1 : wAt w1 (Cond.instantiable C N) = true) (hw2 : wAt w2 (Cond.initialized C) = true) (hdc : decode code pc = .ok (.new index, 3)) (hfs : ∀ j, j < N → defaultValue (clTy ci j) = vp_V fs j) (hc : cells + 1 ≤ R.cells ∧ slots + N ≤ R.slots)
    (kk : ∀ q : Nat, LV p l e R s m args below meth c Q D A (cells + 1) (slots + N) (pc + 3) lv (.ref q :: st) (ws ++ [(q, .inr (ci, fs))])) : LV p l e R s m args below meth c Q D A cells slots pc lv st ws := by
  intro H locs ls hl hH
  have K := fun q H1 h => kk q H1 locs ls hl h
  obtain ⟨hx, hb, hml, hown, hts, hK, hR1, hR2, hA⟩ := F
  exact va_new hx hb hts (cls_ok ci C T N hcl).1 (clTy ci) (cl_ty ci C T N hcl) hown (hts _ (wAt_in hw)) (hts _ (wAt_in hw1)) (hts _ (wAt_in hw2)) hK.1 hH.1 hH.2.1 hH.2.2 hA hcl hfs hc.1 hc.2 hdc (fun q H1 k2 k3 k4 => K q H1 ⟨k2, k3, k4⟩)
end LAW
end
section
section LAW2
variable {p : Program} {l : Launch} {e : Env} {R : Room} {s : State} {m : MethodId} {args : Array Value} {below : List Frame} {meth : Method} {c : Code} {Q : State → Prop} {D : va_G} {tys : List (ClassId × FieldType)} {A : Nat → Prop}
variable {cells slots pc : Nat} {lv : List (Nat × Value)} {st : List Value} {ws : va_W}
theorem L_dup {v : Value} (F : LFix D tys A p R s m args c) (hd : decode code pc = .ok (.dup, 1)) (hv : v.category = 1) (kk : LV p l e R s m args below meth c Q D A cells slots (pc + 1) lv (v :: v :: st) ws) : LV p l e R s m args below meth c Q D A cells slots pc lv (v :: st) ws := by
  intro H locs ls hl hH
  exact lv_dup F.1 F.2.1 hd hv (kk H locs ls hl hH)
theorem L_ast {v i : Nat} (F : LFix D tys A p R s m args c) {f : Fin 4} (hd : decode code pc = .ok (.astore_n f, 1)) (hf : (f : Nat) = i) (kk : LV p l e R s m args below meth c Q D A cells slots (pc + 1) (stL i (.ref v) lv) st ws) : LV p l e R s m args below meth c Q D A cells slots pc lv (.ref v :: st) ws := by
  intro H locs ls hl hH
  exact lv_astore_n F.1 F.2.1 hd hf hl (by omega) rfl (fun ls' hl' => kk H locs ls' hl' hH)
theorem L_ist {v : Int32} {i : Nat} (F : LFix D tys A p R s m args c) {f : Fin 4} (hd : decode code pc = .ok (.istore_n f, 1)) (hf : (f : Nat) = i) (kk : LV p l e R s m args below meth c Q D A cells slots (pc + 1) (stL i (.int v) lv) st ws) : LV p l e R s m args below meth c Q D A cells slots pc lv (.int v :: st) ws := by
  intro H locs ls hl hH
  exact lv_istore_n F.1 F.2.1 hd hf hl (by omega) rfl (fun ls' hl' => kk H locs ls' hl' hH)
theorem L_al {v i : Nat} (F : LFix D tys A p R s m args c) {f : Fin 4} (hd : decode code pc = .ok (.aload_n f, 1)) (hf : (f : Nat) = i) (hv : (i, Value.ref v) ∈ lv) (kk : LV p l e R s m args below meth c Q D A cells slots (pc + 1) lv (.ref v :: st) ws) : LV p l e R s m args below meth c Q D A cells slots pc lv st ws := by
  intro H locs ls hl hH
  exact lv_aload_n F.1 F.2.1 hd hf (hl.2.2 _ hv) (kk H locs ls hl hH)
theorem L_il {v : Int32} {i : Nat} (F : LFix D tys A p R s m args c) {f : Fin 4} (hd : decode code pc = .ok (.iload_n f, 1)) (hf : (f : Nat) = i) (hv : (i, Value.int v) ∈ lv) (kk : LV p l e R s m args below meth c Q D A cells slots (pc + 1) lv (.int v :: st) ws) : LV p l e R s m args below meth c Q D A cells slots pc lv st ws := by
  intro H locs ls hl hH
  exact lv_iload_n F.1 F.2.1 hd hf (hl.2.2 _ hv) (kk H locs ls hl hH)
theorem L_arg {b L : Nat} {xs : Nat → Int32} {i : Int32} {k : Int} (F : LFix D tys A p R s m args c) (hX : va_X b L xs s s.heap) (hbl : b < s.heap.size) (hbA : ¬ A b) (h0 : (0, Value.ref b) ∈ lv) (h3 : (3, Value.int i) ∈ lv) (d0 : decode code pc = .ok (.aload_n 0, 1)) (d1 : decode code (pc + 1) = .ok (.iload_n 3, 1)) (d2 : decode code (pc + 2) = .ok (.iconst k, 1)) (d3 : decode code (pc + 3) = .ok (.iadd, 1)) (d4 : decode code (pc + 4) = .ok (.iaload, 1)) (hin : vp_in (i + Int32.ofInt k) L)
    (kk : LV p l e R s m args below meth c Q D A cells slots (pc + 5) lv (.int (xs (i + Int32.ofInt k).toNatClampNeg) :: st) ws) : LV p l e R s m args below meth c Q D A cells slots pc lv st ws := by
  intro H locs ls hl hH
  refine lv_aload_n F.1 F.2.1 d0 rfl (hl.2.2 _ h0) ?_
  refine lv_iload_n F.1 F.2.1 d1 rfl (hl.2.2 _ h3) ?_
  refine lv_iconst F.1 F.2.1 d2 rfl ?_
  refine lv_iadd F.1 F.2.1 d3 ?_
  exact va_sld F.1 F.2.1 hX hbl hbA hH.2.2 hin d4 (kk H locs ls hl hH)
theorem dfl_map {ad ad' : Nat → Nat} {y N : Nat} (h : (List.range N).all (fun j => okT (clTy y j)) = true) : (dflN y N).map (cnC ad) = (dflN y N).map (cnC ad') := by
  refine List.map_congr_left (fun v hv => ?_)
  unfold dflN at hv
  obtain ⟨j, hj, rfl⟩ := List.mem_map.mp hv
  have hk := List.all_eq_true.mp h j hj
  rw [← dv_ok hk, dv_ok (ad := ad') hk]
theorem dfl_vp {ad : Nat → Nat} {y N : Nat} (h : (List.range N).all (fun j => okT (clTy y j)) = true) : ∀ j, j < N → defaultValue (clTy y j) = vp_V ((dflN y N).map (cnC ad)) j := by
  intro j hj
  have hk := List.all_eq_true.mp h j (List.mem_range.mpr hj)
  show _ = ((dflN y N).map (cnC ad)).getD j .null
  unfold dflN
  rw [List.getD_eq_getElem?_getD, List.getElem?_map, List.getElem?_map, List.getElem?_range hj]
  exact dv_ok hk
theorem okX : (List.range 13).all (fun j => okT (clTy 10 j)) = true := by decide +kernel
theorem okM : (List.range 36).all (fun j => okT (clTy 11 j)) = true := by decide +kernel
theorem hX_eq : cx limT 4000 3 0 (0, [(0, (2, 0))], [], [(0, 10, 13, dflN 10 13)], 0, 0) = some hX := by
  have hl := lX
  unfold hX at hl ⊢
  generalize cx limT 4000 3 0 (0, [(0, (2, 0))], [], [(0, 10, 13, dflN 10 13)], 0, 0) = o at hl ⊢
  cases o with
  | none => cases hl
  | some w => rfl
theorem hM_eq : cx limT 4000 3 192 (0, [(0, (2, 90))], [], hX ++ [(0, 11, 36, dflN 11 36)], 0, 0) = some hM := by
  have hl := lM
  unfold hM at hl ⊢
  generalize cx limT 4000 3 192 (0, [(0, (2, 90))], [], hX ++ [(0, 11, 36, dflN 11 36)], 0, 0) = o at hl ⊢
  cases o with
  | none => cases hl
  | some w => rfl
noncomputable def PX (w : List CE) (tys : List (ClassId × FieldType)) (q : Nat) : Option Value → va_W → Prop := fun r ws' => r = none ∧ ∃ ad' : Nat → Nat, ad' 0 = q ∧ ws' = cwF tys ad' 0 w
theorem ctX (HT : ∀ t, t < 5 → tys[t]? = some (cid tys t, ftyp t)) (q : Nat) : CT l D tys A 0 3 (limT 0).1 (limT 0).2 [.ref q] [(q, .inr (10, (dflN 10 13).map (cnC (fun _ => 0))))] (PX hX tys q) := by
  refine CT_of_V (by decide) (show (1 : Nat) ≤ mML 0 by decide +kernel) ?_
  have K := cx_ok (l := l) (D := D) (A := A) HT _ _ _ _ _ _ _ _ _ _ hX_eq (fun _ => q) (PX hX tys q) (fun ad' ha _ => ⟨rfl, ad', ha 0 (Nat.lt_succ_self 0), rfl⟩)
  have K : V l D tys A 0 3 (limT 0).1 (limT 0).2 (PX hX tys q) 0 0 0 (lv_args 0 [.ref q]) [] [(q, .inr (10, (dflN 10 13).map (cnC (fun _ => q))))] := K
  rw [dfl_map (ad' := fun _ => 0) okX] at K
  exact K
noncomputable def PM (w : List CE) (tys : List (ClassId × FieldType)) (q0 q : Nat) : Option Value → va_W → Prop := fun r ws' => r = none ∧ ∃ ad' : Nat → Nat, ad' 0 = q0 ∧ ad' 90 = q ∧ ws' = cwF tys ad' 0 w
theorem ctM (HT : ∀ t, t < 5 → tys[t]? = some (cid tys t, ftyp t)) (ad : Nat → Nat) (q : Nat) : CT l D tys A 192 3 (limT 192).1 (limT 192).2 [.ref q] (cwF tys ad 0 hX ++ [(q, .inr (11, (dflN 11 36).map (cnC (fun _ => 0))))]) (PM hM tys (ad 0) q) := by
  refine CT_of_V (by decide) (show (1 : Nat) ≤ mML 192 by decide +kernel) ?_
  have hlen : (hX ++ [((0 : Nat), (11 : Nat), (36 : Nat), dflN 11 36)]).length = 91 := by rw [List.length_append, lX]; rfl
  have K := cx_ok (l := l) (D := D) (A := A) HT _ _ _ _ _ _ _ _ _ _ hM_eq (upA ad 90 q) (PM hM tys (ad 0) q) (fun ad' ha _ => ⟨rfl, ad', by rw [ha 0 (by rw [hlen]; omega)]; rfl, by rw [ha 90 (by rw [hlen]; omega)]; exact if_pos rfl, rfl⟩)
  have hw := wf_X
  rw [← lX] at hw
  have e3 := (wfW_eq (tys := tys) (ad := ad) (ad' := upA ad 90 q) hw (fun i hi => if_neg (by rw [lX] at hi; omega))).2.2
  rw [cwF_app, e3, lX] at K
  have K : V l D tys A 192 3 (limT 192).1 (limT 192).2 (PM hM tys (ad 0) q) 0 0 0 [(0, Value.ref (upA ad 90 q 90))] [] (cwF tys ad 0 hX ++ [(upA ad 90 q 90, .inr (11, (dflN 11 36).map (cnC (upA ad 90 q))))]) := K
  rw [show upA ad 90 q 90 = q from if_pos rfl, dfl_map (ad' := fun _ => 0) okM] at K
  exact K
theorem wl_X : wAt 20 (Cond.classLink "HalvedNamesLaw" 7 "HalvedNames") = true := by decide +kernel
theorem wl_M : wAt 1201 (Cond.classLink "HalvedNamesLaw" 10 "HalvedNamesModel") = true := by decide +kernel
theorem wl_Xi : wAt 22 (Cond.methodLink "HalvedNamesLaw" 9 (mY 0)) = true := by decide +kernel
theorem wl_Mi : wAt 1203 (Cond.methodLink "HalvedNamesLaw" 12 (mY 192)) = true := by decide +kernel
theorem wi_X : wAt (cW 10).1 (Cond.instantiable "HalvedNames" 13) = true := by decide +kernel
theorem wi_M : wAt (cW 11).1 (Cond.instantiable "HalvedNamesModel" 36) = true := by decide +kernel
theorem wn_X : wAt (cW 10).2 (Cond.initialized "HalvedNames") = true := by decide +kernel
theorem wn_M : wAt (cW 11).2 (Cond.initialized "HalvedNamesModel") = true := by decide +kernel
theorem dl_0 : decode code 0 = .ok (.new 7, 3) := by decide +kernel
theorem dl_3 : decode code 3 = .ok (.dup, 1) := by decide +kernel
theorem dl_4 : decode code 4 = .ok (.invokespecial 9, 3) := by decide +kernel
theorem dl_7 : decode code 7 = .ok (.astore_n 1, 1) := by decide +kernel
theorem dl_8 : decode code 8 = .ok (.new 10, 3) := by decide +kernel
theorem dl_11 : decode code 11 = .ok (.dup, 1) := by decide +kernel
theorem dl_12 : decode code 12 = .ok (.invokespecial 12, 3) := by decide +kernel
theorem dl_15 : decode code 15 = .ok (.astore_n 2, 1) := by decide +kernel
theorem L_start {b : Nat} {wX wM : List CE} (F : LFix D tys A p R s m args c) (cX : ∀ q : Nat, CT l D tys A 0 3 (limT 0).1 (limT 0).2 [.ref q] [(q, .inr (10, (dflN 10 13).map (cnC (fun _ => 0))))] (PX wX tys q)) (cM : ∀ (ad : Nat → Nat) (q : Nat), CT l D tys A 192 3 (limT 192).1 (limT 192).2 [.ref q] (cwF tys ad 0 wX ++ [(q, .inr (11, (dflN 11 36).map (cnC (fun _ => 0))))]) (PM wM tys (ad 0) q)) (hR : 600000 ≤ R.cells ∧ 7302250 ≤ R.slots) (kk : ∀ ad : Nat → Nat, LV p l e R s m args below meth c Q D A 111 12403 16 [(2, .ref (ad 90)), (1, .ref (ad 0)), (0, .ref b)] [] (cwF tys ad 0 wM)) : LV p l e R s m args below meth c Q D A 0 0 0 [(0, .ref b)] [] [] := by
  refine L_new (fs := (dflN 10 13).map (cnC (fun _ => 0))) F (show vwCl[10]? = some ("HalvedNames", _, 13) from rfl) wl_X wi_X wn_X dl_0 (dfl_vp okX) (by omega) (fun q => ?_)
  refine L_dup F dl_3 rfl ?_
  refine L_spec (As := []) (y := 0) F (by omega) (by decide +kernel) wl_Xi dl_4 (by decide +kernel) (cX q) (by omega) (by decide +kernel) (by show (1 + 0 : Nat) ≤ 8; omega) ⟨by show 0 + 1 + 89 ≤ _; omega, by show 0 + 13 + 6089 ≤ _; omega⟩ (fun r ws' hr => ?_)
  have hr : r = none ∧ ∃ ad' : Nat → Nat, ad' 0 = q ∧ ws' = cwF tys ad' 0 wX := hr
  obtain ⟨hr1, ad, ha, hr2⟩ := hr
  rw [hr1, hr2, ← ha]
  refine L_ast (i := 1) F dl_7 rfl ?_
  refine L_new (fs := (dflN 11 36).map (cnC (fun _ => 0))) F (show vwCl[11]? = some ("HalvedNamesModel", _, 36) from rfl) wl_M wi_M wn_M dl_8 (dfl_vp okM) ⟨by show 0 + 1 + 89 + 1 ≤ _; omega, by show 0 + 13 + 6089 + 36 ≤ _; omega⟩ (fun q2 => ?_)
  refine L_dup F dl_11 rfl ?_
  refine L_spec (As := []) (y := 192) F (by omega) (by decide +kernel) wl_Mi dl_12 (by decide +kernel) (cM ad q2) (by omega) (by decide +kernel) (by show (1 + 0 : Nat) ≤ 8; omega) ⟨by show 0 + 1 + 89 + 1 + 20 ≤ _; omega, by show 0 + 13 + 6089 + 36 + 6265 ≤ _; omega⟩ (fun r ws' hr => ?_)
  have hr : r = none ∧ ∃ ad' : Nat → Nat, ad' 0 = ad 0 ∧ ad' 90 = q2 ∧ ws' = cwF tys ad' 0 wM := hr
  obtain ⟨hr1, ad2, h0, h90, hr2⟩ := hr
  rw [hr1, hr2, ← h0, ← h90]
  refine L_ast (i := 2) F dl_15 rfl ?_
  exact kk ad2
end LAW2
end
