/-! every table is what its code says: methods 225 to 249 -/
set_option maxRecDepth 20000 in
theorem zokJ_45 : ((List.range 5).all fun k => zokJ (225 + k)) = true := by decide +kernel
set_option maxRecDepth 20000 in
theorem zokJ_46 : ((List.range 5).all fun k => zokJ (230 + k)) = true := by decide +kernel
set_option maxRecDepth 20000 in
theorem zokJ_47 : ((List.range 5).all fun k => zokJ (235 + k)) = true := by decide +kernel
set_option maxRecDepth 20000 in
theorem zokJ_48 : ((List.range 5).all fun k => zokJ (240 + k)) = true := by decide +kernel
set_option maxRecDepth 20000 in
theorem zokJ_49 : ((List.range 5).all fun k => zokJ (245 + k)) = true := by decide +kernel
