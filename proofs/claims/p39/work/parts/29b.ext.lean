noncomputable def xsC (q : String × Nat × String × List Int32) : List Cond := Cond.exactly (Term.string q.1 q.2.1) "java/lang/String" :: Cond.eq (.field (Term.string q.1 q.2.1) "java/lang/String" "coder" "B") (.int 0) :: Cond.arrayOf (.field (Term.string q.1 q.2.1) "java/lang/String" "value" "[B") .byte :: Cond.eq (.length (.field (Term.string q.1 q.2.1) "java/lang/String" "value" "[B")) (.int (Int32.ofNat q.2.2.2.length)) :: (List.range q.2.2.2.length).map (fun j => Cond.eq (.elem (.field (Term.string q.1 q.2.1) "java/lang/String" "value" "[B") (.int (Int32.ofNat j))) (.int (q.2.2.2.getD j 0)))
noncomputable def xsN : List Nat := [55, 67, 84, 98, 127, 145, 163, 9, 17, 31, 43, 113, 181, 201, 227, 251, 468, 275, 299, 328, 354, 381, 410, 439]
noncomputable def pfC : List Cond → List Cond → Bool
  | [], _ => true
  | a :: t, l => match l with
    | [] => false
    | b :: r => bif decide (a = b) then pfC t r else false
theorem pfC_in : ∀ {a l : List Cond}, pfC a l = true → ∀ w ∈ a, w ∈ l
  | [], _, _, w, hw => by cases hw
  | a :: t, [], h, w, hw => by cases h
  | a :: t, b :: r, h, w, hw => by
    have h : (bif decide (a = b) then pfC t r else false) = true := h
    cases hb : decide (a = b) with
    | false => rw [hb] at h; cases h
    | true =>
      rw [hb, cond_true] at h
      rcases List.mem_cons.mp hw with rfl | hw
      · rw [of_decide_eq_true hb]
        exact List.mem_cons_self
      · exact List.mem_cons_of_mem _ (pfC_in h w hw)
set_option maxRecDepth 100000 in
theorem xs_words : (List.range 24).all (fun i => match xsT[i]?, xsN[i]? with | some q, some n => pfC (xsC q) ((flatC (Jvm.Cond.and given_1 narrow_1)).drop n) | _, _ => false) = true := by decide +kernel
theorem xs_small : xsT.all (fun q => decide (q.2.2.2.length < 2 ^ 31)) = true := by decide +kernel
noncomputable def xsI : List Nat := [465, 473, 478, 479, 485, 501, 511, 393, 450, 463, 464, 484, 1370, 1389, 1398, 1399, 1423, 1404, 1405, 1406, 1407, 1408, 1409, 1410]
theorem xs_refs : (List.range 24).all (fun i => match xsT[i]?, xsI[i]? with | some q, some n => decide (tables_1[n]? = some (Cond.stringRef q.1 q.2.1 q.2.2.1)) | _, _ => false) = true := by decide +kernel
theorem xs_ref {i : Nat} {q : String × Nat × String × List Int32} (h : xsT[i]? = some q) : Cond.stringRef q.1 q.2.1 q.2.2.1 ∈ lw_tbl := by
  have hi : i < 24 := by rw [← xs_len]; exact (List.getElem?_eq_some_iff.mp h).1
  have t := List.all_eq_true.mp xs_refs i (List.mem_range.mpr hi)
  rw [h] at t
  cases hn : xsI[i]? with
  | none => rw [hn] at t; cases t
  | some n =>
    rw [hn] at t
    exact tbl_in (List.mem_of_getElem? (of_decide_eq_true t))
theorem xs_in {i : Nat} {q : String × Nat × String × List Int32} (h : xsT[i]? = some q) : ∀ w ∈ xsC q, w ∈ flatC (Jvm.Cond.and given_1 narrow_1) := by
  have hi : i < 24 := by rw [← xs_len]; exact (List.getElem?_eq_some_iff.mp h).1
  have t := List.all_eq_true.mp xs_words i (List.mem_range.mpr hi)
  rw [h] at t
  cases hn : xsN[i]? with
  | none => rw [hn] at t; cases t
  | some n =>
    rw [hn] at t
    exact fun w hw => List.mem_of_mem_drop (pfC_in t w hw)
theorem xk_start {s : State} {args : Array Value} {A : Nat → Prop} (hA : ∀ a : Nat, a < s.heap.size → ¬ A a) (hts0 : ∀ w ∈ lw_tbl, w.before args s = true) (hgv : (Jvm.Cond.and given_1 narrow_1).before args s = true) : ∃ x : Nat → Nat, XK A x s s.heap := by
  have hs := flat_of_before _ hgv
  have h1 : ∀ i : Nat, ∃ p : Nat × Nat, ∀ q, xsT[i]? = some q → vk_R q.1 q.2.1 q.2.2.1 p.1 s ∧ va_O "java/lang/String" p.1 A s s.heap ∧ va_OF "java/lang/String" "coder" "B" (.int 0) p.1 A s s.heap ∧ va_OF "java/lang/String" "value" "[B" (.ref p.2) p.1 A s s.heap ∧ va_T .byte p.2 q.2.2.2.length (fun j => .int (q.2.2.2.getD j 0)) A s s.heap := by
    intro i
    cases hq : xsT[i]? with
    | none => exact ⟨(0, 0), fun q h => by cases h⟩
    | some q =>
      have hm := List.mem_of_getElem? hq
      have hw : ∀ w ∈ xsC q, w.before args s = true := fun w hw => hs w (xs_in hq w hw)
      have hl : q.2.2.2.length < 2 ^ 31 := of_decide_eq_true (List.all_eq_true.mp xs_small q hm)
      obtain ⟨adK, adV, hS, hev⟩ := vk_Sof (args := args) (s := s) (N := 1) (tm := fun _ => Term.string q.1 q.2.1) (len := [q.2.2.2.length]) (byt := [q.2.2.2]) (A := A)
        (fun i hi => by rw [show i = 0 by omega]; exact hl)
        (fun i hi => hw _ List.mem_cons_self)
        (fun i hi => hw _ (List.mem_cons_of_mem _ List.mem_cons_self))
        (fun i hi => hw _ (List.mem_cons_of_mem _ (List.mem_cons_of_mem _ List.mem_cons_self)))
        (fun i hi => by rw [show i = 0 by omega]; exact hw _ (List.mem_cons_of_mem _ (List.mem_cons_of_mem _ (List.mem_cons_of_mem _ List.mem_cons_self))))
        (fun i hi j hj => by
          have e : i = 0 := by omega
          subst e
          exact hw _ (List.mem_cons_of_mem _ (List.mem_cons_of_mem _ (List.mem_cons_of_mem _ (List.mem_cons_of_mem _ (List.mem_map.mpr ⟨j, List.mem_range.mpr hj, rfl⟩))))))
        (fun i j hi hj hij => absurd (show i = j by omega) hij) hA
      obtain ⟨a1, a2, a3, a4⟩ := hS.1 0 (by omega)
      exact ⟨(adK 0, adV 0), fun q' hq' => by cases hq'; exact ⟨vk_R.of (hts0 _ (xs_ref hq)) (hev 0 (by omega)), a1, a2, a3, a4⟩⟩
  obtain ⟨F, hF⟩ := Classical.axiomOfChoice h1
  have z1 : va_Z "java/lang/String" "COMPACT_STRINGS" "Z" (.int 1) A s s.heap := va_Zof (args := args) (hts0 _ (tbl_in (List.mem_of_getElem? (i := 407) (by decide +kernel)))) (hts0 _ (tbl_in (List.mem_of_getElem? (i := 14) (by decide +kernel)))) (va_eqt (hs (Cond.eq (Term.static "java/lang/String" "COMPACT_STRINGS" "Z") (.int 1)) (by decide +kernel))) hA
  have z2 : va_Zq "jdk/internal/util/Preconditions" "SIOOBE_FORMATTER" "Ljava/util/function/BiFunction;" A s s.heap := va_Zqof (args := args) (hts0 _ (tbl_in (List.mem_of_getElem? (i := 423) (by decide +kernel)))) (hts0 _ (tbl_in (List.mem_of_getElem? (i := 16) (by decide +kernel)))) (hs (Cond.isRef (Term.static "jdk/internal/util/Preconditions" "SIOOBE_FORMATTER" "Ljava/util/function/BiFunction;")) (by decide +kernel)) hA
  have fin : ∀ t0 : Nat, (va_Z "jdk/internal/util/Preconditions" "SIOOBE_FORMATTER" "Ljava/util/function/BiFunction;" .null A s s.heap ∨ va_Z "jdk/internal/util/Preconditions" "SIOOBE_FORMATTER" "Ljava/util/function/BiFunction;" (.ref t0) A s s.heap) → ∃ x : Nat → Nat, XK A x s s.heap := by
    intro t0 hz
    refine ⟨fun j => if j < 100 then (F j).1 else if j < 200 then (F (j - 100)).2 else t0, fun i q hq => ?_, z1, ?_⟩
    · have hi : i < 24 := by rw [← xs_len]; exact (List.getElem?_eq_some_iff.mp hq).1
      have e1 : (if i < 100 then (F i).1 else if i < 200 then (F (i - 100)).2 else t0) = (F i).1 := if_pos (by omega)
      have e2 : (if 100 + i < 100 then (F (100 + i)).1 else if 100 + i < 200 then (F (100 + i - 100)).2 else t0) = (F i).2 := by rw [if_neg (by omega), if_pos (by omega), show 100 + i - 100 = i by omega]
      dsimp only
      rw [e1, e2]
      exact hF i q hq
    · have e3 : (if 200 < 100 then (F 200).1 else if 200 < 200 then (F (200 - 100)).2 else t0) = t0 := by rw [if_neg (by omega), if_neg (by omega)]
      dsimp only
      rw [e3]
      exact hz
  rcases z2 with h | ⟨t, h⟩
  · exact fin 0 (Or.inl h)
  · exact fin t (Or.inr h)
