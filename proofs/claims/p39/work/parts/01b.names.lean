noncomputable abbrev vwCl : List vw_C := [(RX0, TX0, 2), (RX1, TX1, 3), (RX2, TX2, 17), (RX3, TX3, 2), (RX4, TX4, 2), (RX5, TX5, 3), (RX7, TX7, 3), (RX8, TX8, 3), (RX9, TX9, 4), (RX10, TX10, 6), (RX11, TX11, 13), (RX12, TX12, 36)]
noncomputable def gtb : List Cond := lw_tbl.filter goodWord
theorem tbl_in {w : Cond} (h : w ∈ tables_1) : w ∈ lw_tbl := by unfold lw_tbl; exact List.mem_append_right _ h
noncomputable def ixA : List Cond → List Nat → Bool
  | [], _ => true
  | w :: t, ix => match ix with
    | [] => false
    | i :: r => decide ((tch i)[i % 240]? = some w) && ixA t r
theorem ixA_ok : ∀ {ws : List Cond} {ix : List Nat}, ixA ws ix = true → ∀ w ∈ ws, w ∈ lw_tbl
  | [], _, _, w, hw => by cases hw
  | v :: t, [], h, w, hw => by cases h
  | v :: t, i :: r, h, w, hw => by
    have h : (decide ((tch i)[i % 240]? = some v) && ixA t r) = true := h
    rw [Bool.and_eq_true] at h
    rcases List.mem_cons.mp hw with e | hw
    · rw [e]
      exact tbl_in (tch_in (List.mem_of_getElem? (of_decide_eq_true h.1)))
    · exact ixA_ok h.2 w hw
set_option maxRecDepth 100000 in
theorem im_X0 : ∀ w ∈ wsX00, w ∈ lw_tbl := ixA_ok (ix := [230, 232]) (by decide +kernel)
theorem ig_X0 : wsX00.all goodWord = true := by decide +kernel
theorem in_X0 : ∀ w ∈ wsX00, w ∈ gtb := fun w h => List.mem_filter.mpr ⟨im_X0 w h, List.all_eq_true.mp ig_X0 w h⟩
set_option maxRecDepth 100000 in
theorem im_X1 : ∀ w ∈ wsX10, w ∈ lw_tbl := ixA_ok (ix := [193, 195, 197]) (by decide +kernel)
theorem ig_X1 : wsX10.all goodWord = true := by decide +kernel
theorem in_X1 : ∀ w ∈ wsX10, w ∈ gtb := fun w h => List.mem_filter.mpr ⟨im_X1 w h, List.all_eq_true.mp ig_X1 w h⟩
set_option maxRecDepth 100000 in
theorem im_X2 : ∀ w ∈ wsX20, w ∈ lw_tbl := ixA_ok (ix := [148, 150, 152, 154, 156, 158, 160, 162, 164, 166, 168, 170, 172, 174, 176, 178, 180]) (by decide +kernel)
theorem ig_X2 : wsX20.all goodWord = true := by decide +kernel
theorem in_X2 : ∀ w ∈ wsX20, w ∈ gtb := fun w h => List.mem_filter.mpr ⟨im_X2 w h, List.all_eq_true.mp ig_X2 w h⟩
set_option maxRecDepth 100000 in
theorem im_X3 : ∀ w ∈ wsX30, w ∈ lw_tbl := ixA_ok (ix := [277, 279]) (by decide +kernel)
theorem ig_X3 : wsX30.all goodWord = true := by decide +kernel
theorem in_X3 : ∀ w ∈ wsX30, w ∈ gtb := fun w h => List.mem_filter.mpr ⟨im_X3 w h, List.all_eq_true.mp ig_X3 w h⟩
set_option maxRecDepth 100000 in
theorem im_X4 : ∀ w ∈ wsX40, w ∈ lw_tbl := ixA_ok (ix := [291, 293]) (by decide +kernel)
theorem ig_X4 : wsX40.all goodWord = true := by decide +kernel
theorem in_X4 : ∀ w ∈ wsX40, w ∈ gtb := fun w h => List.mem_filter.mpr ⟨im_X4 w h, List.all_eq_true.mp ig_X4 w h⟩
set_option maxRecDepth 100000 in
theorem im_X5 : ∀ w ∈ wsX50, w ∈ lw_tbl := ixA_ok (ix := [70, 72, 74]) (by decide +kernel)
theorem ig_X5 : wsX50.all goodWord = true := by decide +kernel
theorem in_X5 : ∀ w ∈ wsX50, w ∈ gtb := fun w h => List.mem_filter.mpr ⟨im_X5 w h, List.all_eq_true.mp ig_X5 w h⟩
set_option maxRecDepth 100000 in
theorem im_X7 : ∀ w ∈ wsX70, w ∈ lw_tbl := ixA_ok (ix := [262, 264, 266]) (by decide +kernel)
theorem ig_X7 : wsX70.all goodWord = true := by decide +kernel
theorem in_X7 : ∀ w ∈ wsX70, w ∈ gtb := fun w h => List.mem_filter.mpr ⟨im_X7 w h, List.all_eq_true.mp ig_X7 w h⟩
set_option maxRecDepth 100000 in
theorem im_X8 : ∀ w ∈ wsX80, w ∈ lw_tbl := ixA_ok (ix := [244, 246, 248]) (by decide +kernel)
theorem ig_X8 : wsX80.all goodWord = true := by decide +kernel
theorem in_X8 : ∀ w ∈ wsX80, w ∈ gtb := fun w h => List.mem_filter.mpr ⟨im_X8 w h, List.all_eq_true.mp ig_X8 w h⟩
set_option maxRecDepth 100000 in
theorem im_X9 : ∀ w ∈ wsX90, w ∈ lw_tbl := ixA_ok (ix := [213, 215, 217, 219]) (by decide +kernel)
theorem ig_X9 : wsX90.all goodWord = true := by decide +kernel
theorem in_X9 : ∀ w ∈ wsX90, w ∈ gtb := fun w h => List.mem_filter.mpr ⟨im_X9 w h, List.all_eq_true.mp ig_X9 w h⟩
set_option maxRecDepth 100000 in
theorem im_X10 : ∀ w ∈ wsX100, w ∈ lw_tbl := ixA_ok (ix := [50, 52, 54, 56, 58, 60]) (by decide +kernel)
theorem ig_X10 : wsX100.all goodWord = true := by decide +kernel
theorem in_X10 : ∀ w ∈ wsX100, w ∈ gtb := fun w h => List.mem_filter.mpr ⟨im_X10 w h, List.all_eq_true.mp ig_X10 w h⟩
set_option maxRecDepth 100000 in
theorem im_X11 : ∀ w ∈ wsX110, w ∈ lw_tbl := ixA_ok (ix := [310, 312, 314, 316, 318, 320, 322, 324, 326, 328, 330, 332, 334]) (by decide +kernel)
theorem ig_X11 : wsX110.all goodWord = true := by decide +kernel
theorem in_X11 : ∀ w ∈ wsX110, w ∈ gtb := fun w h => List.mem_filter.mpr ⟨im_X11 w h, List.all_eq_true.mp ig_X11 w h⟩
set_option maxRecDepth 100000 in
theorem im_X12 : ∀ w ∈ wsX120, w ∈ lw_tbl := ixA_ok (ix := [1242, 1244, 1246, 1248, 1250, 1252, 1254, 1256, 1258, 1260, 1262, 1264, 1266, 1268, 1270, 1272, 1274, 1276, 1278, 1280, 1282, 1284, 1286, 1288, 1290, 1292, 1294, 1296, 1298, 1300, 1302, 1304, 1306, 1308, 1310, 1312]) (by decide +kernel)
theorem ig_X12 : wsX120.all goodWord = true := by decide +kernel
theorem in_X12 : ∀ w ∈ wsX120, w ∈ gtb := fun w h => List.mem_filter.mpr ⟨im_X12 w h, List.all_eq_true.mp ig_X12 w h⟩

theorem cls_ok : ∀ (ci : Nat) (C : String) (T : u_T) (N : Nat), vwCl[ci]? = some (C, T, N) → (∀ w ∈ u_ws C T N, w ∈ gtb) ∧ (∃ ty : Nat → FieldType, ∀ k, k < N → parseFieldDescriptor (T k).2.2.1 = some (ty k)) ∧ (∀ a, a < N → ∀ b, b < N → a ≠ b → (T a).2.1 ≠ (T b).2.1) := by
  intro ci C T N h
  match ci, h with
  | 0, h => cases h; exact ⟨in_X0, ⟨tyX0, tyX0_ok⟩, nmX0⟩
  | 1, h => cases h; exact ⟨in_X1, ⟨tyX1, tyX1_ok⟩, nmX1⟩
  | 2, h => cases h; exact ⟨in_X2, ⟨tyX2, tyX2_ok⟩, nmX2⟩
  | 3, h => cases h; exact ⟨in_X3, ⟨tyX3, tyX3_ok⟩, nmX3⟩
  | 4, h => cases h; exact ⟨in_X4, ⟨tyX4, tyX4_ok⟩, nmX4⟩
  | 5, h => cases h; exact ⟨in_X5, ⟨tyX5, tyX5_ok⟩, nmX5⟩
  | 6, h => cases h; exact ⟨in_X7, ⟨tyX7, tyX7_ok⟩, nmX7⟩
  | 7, h => cases h; exact ⟨in_X8, ⟨tyX8, tyX8_ok⟩, nmX8⟩
  | 8, h => cases h; exact ⟨in_X9, ⟨tyX9, tyX9_ok⟩, nmX9⟩
  | 9, h => cases h; exact ⟨in_X10, ⟨tyX10, tyX10_ok⟩, nmX10⟩
  | 10, h => cases h; exact ⟨in_X11, ⟨tyX11, tyX11_ok⟩, nmX11⟩
  | 11, h => cases h; exact ⟨in_X12, ⟨tyX12, tyX12_ok⟩, nmX12⟩
  | n + 12, h => simp [vwCl] at h
