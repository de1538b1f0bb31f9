/-! every table is what its code says: methods 325 to 349 -/
set_option maxRecDepth 20000 in
theorem zokJ_65 : ((List.range 5).all fun k => zokJ (325 + k)) = true := by decide +kernel
set_option maxRecDepth 20000 in
theorem zokJ_66 : ((List.range 5).all fun k => zokJ (330 + k)) = true := by decide +kernel
set_option maxRecDepth 20000 in
theorem zokJ_67 : ((List.range 5).all fun k => zokJ (335 + k)) = true := by decide +kernel
set_option maxRecDepth 20000 in
theorem zokJ_68 : ((List.range 5).all fun k => zokJ (340 + k)) = true := by decide +kernel
set_option maxRecDepth 20000 in
theorem zokJ_69 : ((List.range 5).all fun k => zokJ (345 + k)) = true := by decide +kernel
