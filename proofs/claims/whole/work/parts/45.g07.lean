/-! every table is what its code says: methods 175 to 199 -/
set_option maxRecDepth 20000 in
theorem zokJ_7 : ((List.range 25).all fun k => zokJ (175 + k)) = true := by decide +kernel
