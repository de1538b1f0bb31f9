/-! every table is what its code says: methods 50 to 74 -/
set_option maxRecDepth 20000 in
theorem zokJ_2 : ((List.range 25).all fun k => zokJ (50 + k)) = true := by decide +kernel
