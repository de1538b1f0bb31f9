/-! every table is what its code says: methods 0 to 24 -/
set_option maxRecDepth 20000 in
theorem zokJ_0 : ((List.range 25).all fun k => zokJ (0 + k)) = true := by decide +kernel
