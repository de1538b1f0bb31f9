/-! every table is what its code says: methods 350 to 374 -/
set_option maxRecDepth 20000 in
theorem zokJ_70 : ((List.range 5).all fun k => zokJ (350 + k)) = true := by decide +kernel
set_option maxRecDepth 20000 in
theorem zokJ_71 : ((List.range 5).all fun k => zokJ (355 + k)) = true := by decide +kernel
set_option maxRecDepth 20000 in
theorem zokJ_72 : ((List.range 5).all fun k => zokJ (360 + k)) = true := by decide +kernel
set_option maxRecDepth 20000 in
theorem zokJ_73 : ((List.range 5).all fun k => zokJ (365 + k)) = true := by decide +kernel
set_option maxRecDepth 20000 in
theorem zokJ1_370 : zokJ 370 = true := by decide +kernel
set_option maxRecDepth 20000 in
theorem zokJ1_371 : zokJ 371 = true := by decide +kernel
set_option maxRecDepth 20000 in
theorem zokJ1_373 : zokJ 373 = true := by decide +kernel
set_option maxRecDepth 20000 in
theorem zokJ1_374 : zokJ 374 = true := by decide +kernel
