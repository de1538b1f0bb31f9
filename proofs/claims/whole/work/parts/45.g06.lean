/-! every table is what its code says: methods 150 to 174 -/
set_option maxRecDepth 20000 in
theorem zokJ_6 : ((List.range 25).all fun k => zokJ (150 + k)) = true := by decide +kernel
