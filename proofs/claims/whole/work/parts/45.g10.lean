/-! every table is what its code says: methods 250 to 274 -/
set_option maxRecDepth 20000 in
theorem zokJ_10 : ((List.range 25).all fun k => zokJ (250 + k)) = true := by decide +kernel
