set_option maxRecDepth 100000 in
theorem wc_0 : (List.range' 0 25).map (fun k => (tch (mW k).1)[(mW k).1 % 240]?) = (List.range' 0 25).map (fun k => some (Cond.code (mY k) (mCode k) (mML k) (mRet k))) := rfl
set_option maxRecDepth 100000 in
theorem wc_25 : (List.range' 25 25).map (fun k => (tch (mW k).1)[(mW k).1 % 240]?) = (List.range' 25 25).map (fun k => some (Cond.code (mY k) (mCode k) (mML k) (mRet k))) := rfl
set_option maxRecDepth 100000 in
theorem wc_50 : (List.range' 50 25).map (fun k => (tch (mW k).1)[(mW k).1 % 240]?) = (List.range' 50 25).map (fun k => some (Cond.code (mY k) (mCode k) (mML k) (mRet k))) := rfl
set_option maxRecDepth 100000 in
theorem wc_75 : (List.range' 75 25).map (fun k => (tch (mW k).1)[(mW k).1 % 240]?) = (List.range' 75 25).map (fun k => some (Cond.code (mY k) (mCode k) (mML k) (mRet k))) := rfl
set_option maxRecDepth 100000 in
theorem wc_100 : (List.range' 100 25).map (fun k => (tch (mW k).1)[(mW k).1 % 240]?) = (List.range' 100 25).map (fun k => some (Cond.code (mY k) (mCode k) (mML k) (mRet k))) := rfl
set_option maxRecDepth 100000 in
theorem wc_125 : (List.range' 125 25).map (fun k => (tch (mW k).1)[(mW k).1 % 240]?) = (List.range' 125 25).map (fun k => some (Cond.code (mY k) (mCode k) (mML k) (mRet k))) := rfl
set_option maxRecDepth 100000 in
theorem wc_150 : (List.range' 150 25).map (fun k => (tch (mW k).1)[(mW k).1 % 240]?) = (List.range' 150 25).map (fun k => some (Cond.code (mY k) (mCode k) (mML k) (mRet k))) := rfl
set_option maxRecDepth 100000 in
theorem wc_175 : (List.range' 175 25).map (fun k => (tch (mW k).1)[(mW k).1 % 240]?) = (List.range' 175 25).map (fun k => some (Cond.code (mY k) (mCode k) (mML k) (mRet k))) := rfl
set_option maxRecDepth 100000 in
theorem wc_200 : (List.range' 200 25).map (fun k => (tch (mW k).1)[(mW k).1 % 240]?) = (List.range' 200 25).map (fun k => some (Cond.code (mY k) (mCode k) (mML k) (mRet k))) := rfl
set_option maxRecDepth 100000 in
theorem wc_225 : (List.range' 225 25).map (fun k => (tch (mW k).1)[(mW k).1 % 240]?) = (List.range' 225 25).map (fun k => some (Cond.code (mY k) (mCode k) (mML k) (mRet k))) := rfl
set_option maxRecDepth 100000 in
theorem wc_250 : (List.range' 250 25).map (fun k => (tch (mW k).1)[(mW k).1 % 240]?) = (List.range' 250 25).map (fun k => some (Cond.code (mY k) (mCode k) (mML k) (mRet k))) := rfl
set_option maxRecDepth 100000 in
theorem wc_275 : (List.range' 275 25).map (fun k => (tch (mW k).1)[(mW k).1 % 240]?) = (List.range' 275 25).map (fun k => some (Cond.code (mY k) (mCode k) (mML k) (mRet k))) := rfl
set_option maxRecDepth 100000 in
theorem wc_300 : (List.range' 300 25).map (fun k => (tch (mW k).1)[(mW k).1 % 240]?) = (List.range' 300 25).map (fun k => some (Cond.code (mY k) (mCode k) (mML k) (mRet k))) := rfl
set_option maxRecDepth 100000 in
theorem wc_325 : (List.range' 325 25).map (fun k => (tch (mW k).1)[(mW k).1 % 240]?) = (List.range' 325 25).map (fun k => some (Cond.code (mY k) (mCode k) (mML k) (mRet k))) := rfl
set_option maxRecDepth 100000 in
theorem wc_350 : (List.range' 350 2).map (fun k => (tch (mW k).1)[(mW k).1 % 240]?) = (List.range' 350 2).map (fun k => some (Cond.code (mY k) (mCode k) (mML k) (mRet k))) := rfl
theorem wc_all (k : Nat) (h : k < 352) : (tch (mW k).1)[(mW k).1 % 240]? = some (Cond.code (mY k) (mCode k) (mML k) (mRet k)) := by
  by_cases h25 : k < 25
  · exact List.map_inj_left.mp wc_0 k (by rw [List.mem_range']; exact ⟨k - 0, by omega, by omega⟩)
  by_cases h50 : k < 50
  · exact List.map_inj_left.mp wc_25 k (by rw [List.mem_range']; exact ⟨k - 25, by omega, by omega⟩)
  by_cases h75 : k < 75
  · exact List.map_inj_left.mp wc_50 k (by rw [List.mem_range']; exact ⟨k - 50, by omega, by omega⟩)
  by_cases h100 : k < 100
  · exact List.map_inj_left.mp wc_75 k (by rw [List.mem_range']; exact ⟨k - 75, by omega, by omega⟩)
  by_cases h125 : k < 125
  · exact List.map_inj_left.mp wc_100 k (by rw [List.mem_range']; exact ⟨k - 100, by omega, by omega⟩)
  by_cases h150 : k < 150
  · exact List.map_inj_left.mp wc_125 k (by rw [List.mem_range']; exact ⟨k - 125, by omega, by omega⟩)
  by_cases h175 : k < 175
  · exact List.map_inj_left.mp wc_150 k (by rw [List.mem_range']; exact ⟨k - 150, by omega, by omega⟩)
  by_cases h200 : k < 200
  · exact List.map_inj_left.mp wc_175 k (by rw [List.mem_range']; exact ⟨k - 175, by omega, by omega⟩)
  by_cases h225 : k < 225
  · exact List.map_inj_left.mp wc_200 k (by rw [List.mem_range']; exact ⟨k - 200, by omega, by omega⟩)
  by_cases h250 : k < 250
  · exact List.map_inj_left.mp wc_225 k (by rw [List.mem_range']; exact ⟨k - 225, by omega, by omega⟩)
  by_cases h275 : k < 275
  · exact List.map_inj_left.mp wc_250 k (by rw [List.mem_range']; exact ⟨k - 250, by omega, by omega⟩)
  by_cases h300 : k < 300
  · exact List.map_inj_left.mp wc_275 k (by rw [List.mem_range']; exact ⟨k - 275, by omega, by omega⟩)
  by_cases h325 : k < 325
  · exact List.map_inj_left.mp wc_300 k (by rw [List.mem_range']; exact ⟨k - 300, by omega, by omega⟩)
  by_cases h350 : k < 350
  · exact List.map_inj_left.mp wc_325 k (by rw [List.mem_range']; exact ⟨k - 325, by omega, by omega⟩)
  by_cases h352 : k < 352
  · exact List.map_inj_left.mp wc_350 k (by rw [List.mem_range']; exact ⟨k - 350, by omega, by omega⟩)
  omega
theorem cy_all (k : Nat) (h : k < 352) : okY k = true := by
  by_cases h25 : k < 25
  · exact okYF_ok h (List.all_eq_true.mp cy_0 k (by rw [List.mem_range']; exact ⟨k - 0, by omega, by omega⟩))
  by_cases h50 : k < 50
  · exact okYF_ok h (List.all_eq_true.mp cy_25 k (by rw [List.mem_range']; exact ⟨k - 25, by omega, by omega⟩))
  by_cases h75 : k < 75
  · exact okYF_ok h (List.all_eq_true.mp cy_50 k (by rw [List.mem_range']; exact ⟨k - 50, by omega, by omega⟩))
  by_cases h100 : k < 100
  · exact okYF_ok h (List.all_eq_true.mp cy_75 k (by rw [List.mem_range']; exact ⟨k - 75, by omega, by omega⟩))
  by_cases h125 : k < 125
  · exact okYF_ok h (List.all_eq_true.mp cy_100 k (by rw [List.mem_range']; exact ⟨k - 100, by omega, by omega⟩))
  by_cases h150 : k < 150
  · exact okYF_ok h (List.all_eq_true.mp cy_125 k (by rw [List.mem_range']; exact ⟨k - 125, by omega, by omega⟩))
  by_cases h175 : k < 175
  · exact okYF_ok h (List.all_eq_true.mp cy_150 k (by rw [List.mem_range']; exact ⟨k - 150, by omega, by omega⟩))
  by_cases h200 : k < 200
  · exact okYF_ok h (List.all_eq_true.mp cy_175 k (by rw [List.mem_range']; exact ⟨k - 175, by omega, by omega⟩))
  by_cases h225 : k < 225
  · exact okYF_ok h (List.all_eq_true.mp cy_200 k (by rw [List.mem_range']; exact ⟨k - 200, by omega, by omega⟩))
  by_cases h250 : k < 250
  · exact okYF_ok h (List.all_eq_true.mp cy_225 k (by rw [List.mem_range']; exact ⟨k - 225, by omega, by omega⟩))
  by_cases h275 : k < 275
  · exact okYF_ok h (List.all_eq_true.mp cy_250 k (by rw [List.mem_range']; exact ⟨k - 250, by omega, by omega⟩))
  by_cases h300 : k < 300
  · exact okYF_ok h (List.all_eq_true.mp cy_275 k (by rw [List.mem_range']; exact ⟨k - 275, by omega, by omega⟩))
  by_cases h325 : k < 325
  · exact okYF_ok h (List.all_eq_true.mp cy_300 k (by rw [List.mem_range']; exact ⟨k - 300, by omega, by omega⟩))
  by_cases h350 : k < 350
  · exact okYF_ok h (List.all_eq_true.mp cy_325 k (by rw [List.mem_range']; exact ⟨k - 325, by omega, by omega⟩))
  by_cases h352 : k < 352
  · exact okYF_ok h (List.all_eq_true.mp cy_350 k (by rw [List.mem_range']; exact ⟨k - 350, by omega, by omega⟩))
  omega
