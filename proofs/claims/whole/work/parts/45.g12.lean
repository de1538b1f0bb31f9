/-! every table is what its code says: methods 300 to 324 -/
set_option maxRecDepth 20000 in
theorem zokJ_12 : ((List.range 25).all fun k => zokJ (300 + k)) = true := by decide +kernel
