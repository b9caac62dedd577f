set_option maxRecDepth 100000 in
theorem cy_325 : (List.range' 325 25).all okYF = true := by decide +kernel
set_option maxRecDepth 100000 in
theorem cy_350 : (List.range' 350 2).all okYF = true := by decide +kernel
