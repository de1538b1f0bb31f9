/-! every table is what its code says: methods 50 to 74 -/
set_option maxRecDepth 20000 in
theorem zokJ_10 : ((List.range 5).all fun k => zokJ (50 + k)) = true := by decide +kernel
set_option maxRecDepth 20000 in
theorem zokJ_11 : ((List.range 5).all fun k => zokJ (55 + k)) = true := by decide +kernel
set_option maxRecDepth 20000 in
theorem zokJ_12 : ((List.range 5).all fun k => zokJ (60 + k)) = true := by decide +kernel
set_option maxRecDepth 20000 in
theorem zokJ_13 : ((List.range 5).all fun k => zokJ (65 + k)) = true := by decide +kernel
set_option maxRecDepth 20000 in
theorem zokJ_14 : ((List.range 5).all fun k => zokJ (70 + k)) = true := by decide +kernel
