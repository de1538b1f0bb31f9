/-! every table is what its code says: methods 75 to 99 -/
set_option maxRecDepth 20000 in
theorem zokJ_15 : ((List.range 5).all fun k => zokJ (75 + k)) = true := by decide +kernel
set_option maxRecDepth 20000 in
theorem zokJ_16 : ((List.range 5).all fun k => zokJ (80 + k)) = true := by decide +kernel
set_option maxRecDepth 20000 in
theorem zokJ_17 : ((List.range 5).all fun k => zokJ (85 + k)) = true := by decide +kernel
set_option maxRecDepth 20000 in
theorem zokJ_18 : ((List.range 5).all fun k => zokJ (90 + k)) = true := by decide +kernel
set_option maxRecDepth 20000 in
theorem zokJ_19 : ((List.range 5).all fun k => zokJ (95 + k)) = true := by decide +kernel
