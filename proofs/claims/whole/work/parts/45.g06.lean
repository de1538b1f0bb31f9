/-! every table is what its code says: methods 150 to 174 -/
set_option maxRecDepth 20000 in
theorem zokJ_30 : ((List.range 5).all fun k => zokJ (150 + k)) = true := by decide +kernel
set_option maxRecDepth 20000 in
theorem zokJ_31 : ((List.range 5).all fun k => zokJ (155 + k)) = true := by decide +kernel
set_option maxRecDepth 20000 in
theorem zokJ_32 : ((List.range 5).all fun k => zokJ (160 + k)) = true := by decide +kernel
set_option maxRecDepth 20000 in
theorem zokJ_33 : ((List.range 5).all fun k => zokJ (165 + k)) = true := by decide +kernel
set_option maxRecDepth 20000 in
theorem zokJ_34 : ((List.range 5).all fun k => zokJ (170 + k)) = true := by decide +kernel
