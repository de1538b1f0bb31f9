/-! every table is what its code says: methods 0 to 24 -/
set_option maxRecDepth 20000 in
theorem zokJ_0 : ((List.range 5).all fun k => zokJ (0 + k)) = true := by decide +kernel
set_option maxRecDepth 20000 in
theorem zokJ_1 : ((List.range 5).all fun k => zokJ (5 + k)) = true := by decide +kernel
set_option maxRecDepth 20000 in
theorem zokJ_2 : ((List.range 5).all fun k => zokJ (10 + k)) = true := by decide +kernel
set_option maxRecDepth 20000 in
theorem zokJ_3 : ((List.range 5).all fun k => zokJ (15 + k)) = true := by decide +kernel
set_option maxRecDepth 20000 in
theorem zokJ_4 : ((List.range 5).all fun k => zokJ (20 + k)) = true := by decide +kernel
