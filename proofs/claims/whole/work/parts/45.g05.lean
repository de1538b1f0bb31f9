/-! every table is what its code says: methods 125 to 149 -/
set_option maxRecDepth 20000 in
theorem zokJ_25 : ((List.range 5).all fun k => zokJ (125 + k)) = true := by decide +kernel
set_option maxRecDepth 20000 in
theorem zokJ_26 : ((List.range 5).all fun k => zokJ (130 + k)) = true := by decide +kernel
set_option maxRecDepth 20000 in
theorem zokJ_27 : ((List.range 5).all fun k => zokJ (135 + k)) = true := by decide +kernel
set_option maxRecDepth 20000 in
theorem zokJ_28 : ((List.range 5).all fun k => zokJ (140 + k)) = true := by decide +kernel
set_option maxRecDepth 20000 in
theorem zokJ_29 : ((List.range 5).all fun k => zokJ (145 + k)) = true := by decide +kernel
