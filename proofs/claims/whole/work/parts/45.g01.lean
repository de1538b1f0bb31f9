/-! every table is what its code says: methods 25 to 49 -/
set_option maxRecDepth 20000 in
theorem zokJ_1 : ((List.range 25).all fun k => zokJ (25 + k)) = true := by decide +kernel
