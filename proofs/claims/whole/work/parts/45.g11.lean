/-! every table is what its code says: methods 275 to 299 -/
set_option maxRecDepth 20000 in
theorem zokJ_55 : ((List.range 5).all fun k => zokJ (275 + k)) = true := by decide +kernel
set_option maxRecDepth 20000 in
theorem zokJ_56 : ((List.range 5).all fun k => zokJ (280 + k)) = true := by decide +kernel
set_option maxRecDepth 20000 in
theorem zokJ_57 : ((List.range 5).all fun k => zokJ (285 + k)) = true := by decide +kernel
set_option maxRecDepth 20000 in
theorem zokJ_58 : ((List.range 5).all fun k => zokJ (290 + k)) = true := by decide +kernel
set_option maxRecDepth 20000 in
theorem zokJ_59 : ((List.range 5).all fun k => zokJ (295 + k)) = true := by decide +kernel
