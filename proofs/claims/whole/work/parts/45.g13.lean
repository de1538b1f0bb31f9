/-! every table is what its code says: methods 325 to 349 -/
set_option maxRecDepth 20000 in
theorem zokJ_13 : ((List.range 25).all fun k => zokJ (325 + k)) = true := by decide +kernel
