/-! every table is what its code says: methods 200 to 224 -/
set_option maxRecDepth 20000 in
theorem zokJ_8 : ((List.range 25).all fun k => zokJ (200 + k)) = true := by decide +kernel
