/-! every table is what its code says: methods 300 to 324 -/
set_option maxRecDepth 20000 in
theorem zokJ_60 : ((List.range 5).all fun k => zokJ (300 + k)) = true := by decide +kernel
set_option maxRecDepth 20000 in
theorem zokJ_61 : ((List.range 5).all fun k => zokJ (305 + k)) = true := by decide +kernel
set_option maxRecDepth 20000 in
theorem zokJ_62 : ((List.range 5).all fun k => zokJ (310 + k)) = true := by decide +kernel
set_option maxRecDepth 20000 in
theorem zokJ_63 : ((List.range 5).all fun k => zokJ (315 + k)) = true := by decide +kernel
set_option maxRecDepth 20000 in
theorem zokJ_64 : ((List.range 5).all fun k => zokJ (320 + k)) = true := by decide +kernel
