/-! every table is what its code says: methods 350 to 374 -/
set_option maxRecDepth 20000 in
theorem zokJ_70 : ((List.range 5).all fun k => zokJ (350 + k)) = true := by decide +kernel
set_option maxRecDepth 20000 in
theorem zokJ_71 : ((List.range 5).all fun k => zokJ (355 + k)) = true := by decide +kernel
set_option maxRecDepth 20000 in
theorem zokJ_72 : ((List.range 5).all fun k => zokJ (360 + k)) = true := by decide +kernel
set_option maxRecDepth 20000 in
theorem zokJ_73 : ((List.range 5).all fun k => zokJ (365 + k)) = true := by decide +kernel
set_option maxRecDepth 20000 in
theorem zokJ_74 : ((List.range 5).all fun k => zokJ (370 + k)) = true := by decide +kernel
