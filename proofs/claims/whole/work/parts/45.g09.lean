/-! every table is what its code says: methods 225 to 249 -/
set_option maxRecDepth 20000 in
theorem zokJ_9 : ((List.range 25).all fun k => zokJ (225 + k)) = true := by decide +kernel
