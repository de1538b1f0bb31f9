/-! every table is what its code says: methods 75 to 99 -/
set_option maxRecDepth 20000 in
theorem zokJ_3 : ((List.range 25).all fun k => zokJ (75 + k)) = true := by decide +kernel
