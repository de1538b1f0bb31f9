/-! every table is what its code says: methods 100 to 124 -/
set_option maxRecDepth 20000 in
theorem zokJ_20 : ((List.range 5).all fun k => zokJ (100 + k)) = true := by decide +kernel
set_option maxRecDepth 20000 in
theorem zokJ_21 : ((List.range 5).all fun k => zokJ (105 + k)) = true := by decide +kernel
set_option maxRecDepth 20000 in
theorem zokJ_22 : ((List.range 5).all fun k => zokJ (110 + k)) = true := by decide +kernel
set_option maxRecDepth 20000 in
theorem zokJ_23 : ((List.range 5).all fun k => zokJ (115 + k)) = true := by decide +kernel
set_option maxRecDepth 20000 in
theorem zokJ_24 : ((List.range 5).all fun k => zokJ (120 + k)) = true := by decide +kernel
