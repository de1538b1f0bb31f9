/-! every table is what its code says: methods 175 to 199 -/
set_option maxRecDepth 20000 in
theorem zokJ_35 : ((List.range 5).all fun k => zokJ (175 + k)) = true := by decide +kernel
set_option maxRecDepth 20000 in
theorem zokJ_36 : ((List.range 5).all fun k => zokJ (180 + k)) = true := by decide +kernel
set_option maxRecDepth 20000 in
theorem zokJ_37 : ((List.range 5).all fun k => zokJ (185 + k)) = true := by decide +kernel
set_option maxRecDepth 20000 in
theorem zokJ_38 : ((List.range 5).all fun k => zokJ (190 + k)) = true := by decide +kernel
set_option maxRecDepth 20000 in
theorem zokJ_39 : ((List.range 5).all fun k => zokJ (195 + k)) = true := by decide +kernel
