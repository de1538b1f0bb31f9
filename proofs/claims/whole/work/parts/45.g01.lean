/-! every table is what its code says: methods 25 to 49 -/
set_option maxRecDepth 20000 in
theorem zokJ_5 : ((List.range 5).all fun k => zokJ (25 + k)) = true := by decide +kernel
set_option maxRecDepth 20000 in
theorem zokJ_6 : ((List.range 5).all fun k => zokJ (30 + k)) = true := by decide +kernel
set_option maxRecDepth 20000 in
theorem zokJ_7 : ((List.range 5).all fun k => zokJ (35 + k)) = true := by decide +kernel
set_option maxRecDepth 20000 in
theorem zokJ_8 : ((List.range 5).all fun k => zokJ (40 + k)) = true := by decide +kernel
set_option maxRecDepth 20000 in
theorem zokJ_9 : ((List.range 5).all fun k => zokJ (45 + k)) = true := by decide +kernel
