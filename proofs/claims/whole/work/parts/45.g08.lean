/-! every table is what its code says: methods 200 to 224 -/
set_option maxRecDepth 20000 in
theorem zokJ_40 : ((List.range 5).all fun k => zokJ (200 + k)) = true := by decide +kernel
set_option maxRecDepth 20000 in
theorem zokJ_41 : ((List.range 5).all fun k => zokJ (205 + k)) = true := by decide +kernel
set_option maxRecDepth 20000 in
theorem zokJ_42 : ((List.range 5).all fun k => zokJ (210 + k)) = true := by decide +kernel
set_option maxRecDepth 20000 in
theorem zokJ_43 : ((List.range 5).all fun k => zokJ (215 + k)) = true := by decide +kernel
set_option maxRecDepth 20000 in
theorem zokJ_44 : ((List.range 5).all fun k => zokJ (220 + k)) = true := by decide +kernel
