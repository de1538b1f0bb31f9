/-! every table is what its code says: methods 250 to 274 -/
set_option maxRecDepth 20000 in
theorem zokJ_50 : ((List.range 5).all fun k => zokJ (250 + k)) = true := by decide +kernel
set_option maxRecDepth 20000 in
theorem zokJ_51 : ((List.range 5).all fun k => zokJ (255 + k)) = true := by decide +kernel
set_option maxRecDepth 20000 in
theorem zokJ_52 : ((List.range 5).all fun k => zokJ (260 + k)) = true := by decide +kernel
set_option maxRecDepth 20000 in
theorem zokJ_53 : ((List.range 5).all fun k => zokJ (265 + k)) = true := by decide +kernel
set_option maxRecDepth 20000 in
theorem zokJ_54 : ((List.range 5).all fun k => zokJ (270 + k)) = true := by decide +kernel
