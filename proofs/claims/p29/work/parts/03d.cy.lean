set_option maxRecDepth 100000 in
theorem cy_0 : (List.range' 0 25).all okYF = true := by decide +kernel
set_option maxRecDepth 100000 in
theorem cy_25 : (List.range' 25 25).all okYF = true := by decide +kernel
set_option maxRecDepth 100000 in
theorem cy_50 : (List.range' 50 25).all okYF = true := by decide +kernel
set_option maxRecDepth 100000 in
theorem cy_75 : (List.range' 75 25).all okYF = true := by decide +kernel
set_option maxRecDepth 100000 in
theorem cy_100 : (List.range' 100 25).all okYF = true := by decide +kernel
set_option maxRecDepth 100000 in
theorem cy_125 : (List.range' 125 25).all okYF = true := by decide +kernel
set_option maxRecDepth 100000 in
theorem cy_150 : (List.range' 150 25).all okYF = true := by decide +kernel
set_option maxRecDepth 100000 in
theorem cy_175 : (List.range' 175 25).all okYF = true := by decide +kernel
set_option maxRecDepth 100000 in
theorem cy_200 : (List.range' 200 25).all okYF = true := by decide +kernel
set_option maxRecDepth 100000 in
theorem cy_225 : (List.range' 225 25).all okYF = true := by decide +kernel
set_option maxRecDepth 100000 in
theorem cy_250 : (List.range' 250 25).all okYF = true := by decide +kernel
set_option maxRecDepth 100000 in
theorem cy_275 : (List.range' 275 25).all okYF = true := by decide +kernel
set_option maxRecDepth 100000 in
theorem cy_300 : (List.range' 300 25).all okYF = true := by decide +kernel
