set_option maxRecDepth 100000 in
theorem ck_0 : (List.range' 0 31).all chkM = true := by decide +kernel
set_option maxRecDepth 100000 in
theorem ck_31 : (List.range' 31 28).all chkM = true := by decide +kernel
set_option maxRecDepth 100000 in
theorem ck_59 : (List.range' 59 26).all chkM = true := by decide +kernel
set_option maxRecDepth 100000 in
theorem ck_85 : (List.range' 85 31).all chkM = true := by decide +kernel
set_option maxRecDepth 100000 in
theorem ck_116 : (List.range' 116 20).all chkM = true := by decide +kernel
set_option maxRecDepth 100000 in
theorem ck_136 : (List.range' 136 37).all chkM = true := by decide +kernel
set_option maxRecDepth 100000 in
theorem ck_173 : (List.range' 173 37).all chkM = true := by decide +kernel
set_option maxRecDepth 100000 in
theorem ck_210 : (List.range' 210 23).all chkM = true := by decide +kernel
set_option maxRecDepth 100000 in
theorem ck_233 : (List.range' 233 33).all chkM = true := by decide +kernel
set_option maxRecDepth 100000 in
theorem ck_266 : (List.range' 266 29).all chkM = true := by decide +kernel
set_option maxRecDepth 100000 in
theorem ck_295 : (List.range' 295 22).all chkM = true := by decide +kernel
set_option maxRecDepth 100000 in
theorem ck_317 : (List.range' 317 28).all chkM = true := by decide +kernel
set_option maxRecDepth 100000 in
theorem ck_345 : (List.range' 345 7).all chkM = true := by decide +kernel
theorem ck_all (k : Nat) (h : k < 352) : chkM k = true := by
  by_cases h31 : k < 31
  · exact List.all_eq_true.mp ck_0 k (by rw [List.mem_range']; exact ⟨k - 0, by omega, by omega⟩)
  by_cases h59 : k < 59
  · exact List.all_eq_true.mp ck_31 k (by rw [List.mem_range']; exact ⟨k - 31, by omega, by omega⟩)
  by_cases h85 : k < 85
  · exact List.all_eq_true.mp ck_59 k (by rw [List.mem_range']; exact ⟨k - 59, by omega, by omega⟩)
  by_cases h116 : k < 116
  · exact List.all_eq_true.mp ck_85 k (by rw [List.mem_range']; exact ⟨k - 85, by omega, by omega⟩)
  by_cases h136 : k < 136
  · exact List.all_eq_true.mp ck_116 k (by rw [List.mem_range']; exact ⟨k - 116, by omega, by omega⟩)
  by_cases h173 : k < 173
  · exact List.all_eq_true.mp ck_136 k (by rw [List.mem_range']; exact ⟨k - 136, by omega, by omega⟩)
  by_cases h210 : k < 210
  · exact List.all_eq_true.mp ck_173 k (by rw [List.mem_range']; exact ⟨k - 173, by omega, by omega⟩)
  by_cases h233 : k < 233
  · exact List.all_eq_true.mp ck_210 k (by rw [List.mem_range']; exact ⟨k - 210, by omega, by omega⟩)
  by_cases h266 : k < 266
  · exact List.all_eq_true.mp ck_233 k (by rw [List.mem_range']; exact ⟨k - 233, by omega, by omega⟩)
  by_cases h295 : k < 295
  · exact List.all_eq_true.mp ck_266 k (by rw [List.mem_range']; exact ⟨k - 266, by omega, by omega⟩)
  by_cases h317 : k < 317
  · exact List.all_eq_true.mp ck_295 k (by rw [List.mem_range']; exact ⟨k - 295, by omega, by omega⟩)
  by_cases h345 : k < 345
  · exact List.all_eq_true.mp ck_317 k (by rw [List.mem_range']; exact ⟨k - 317, by omega, by omega⟩)
  by_cases h352 : k < 352
  · exact List.all_eq_true.mp ck_345 k (by rw [List.mem_range']; exact ⟨k - 345, by omega, by omega⟩)
  omega
theorem tabOK (k pc : Nat) : okB k pc (mI k pc) = true := by
  by_cases h : k < 352
  · by_cases h2 : pc < mLen k
    · exact okF_ok h (chkM_ok (ck_all k h) h2)
    · have e : mI k pc = xi0 := by
        have h3 : Nat.blt pc (mLen k) = false := by
          cases hb : Nat.blt pc (mLen k) with
          | false => rfl
          | true => exact absurd (Nat.blt_eq.mp hb) h2
        unfold mI
        rw [h3]
        cases Nat.blt k 352 <;> rfl
      rw [e]; rfl
  · have e : mI k pc = xi0 := by
      have h3 : Nat.blt k 352 = false := by
        cases hb : Nat.blt k 352 with
        | false => rfl
        | true => exact absurd (Nat.blt_eq.mp hb) h
      unfold mI
      rw [h3]
      rfl
    rw [e]; rfl
