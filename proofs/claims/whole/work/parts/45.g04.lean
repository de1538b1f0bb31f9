/-! every table is what its code says: methods 100 to 124 -/
set_option maxRecDepth 20000 in
theorem zokJ_4 : ((List.range 25).all fun k => zokJ (100 + k)) = true := by decide +kernel
