/-! every table is what its code says: methods 275 to 299 -/
set_option maxRecDepth 20000 in
theorem zokJ_11 : ((List.range 25).all fun k => zokJ (275 + k)) = true := by decide +kernel
