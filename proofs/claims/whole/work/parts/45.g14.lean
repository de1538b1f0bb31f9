/-! every table is what its code says: methods 350 to 374 -/
set_option maxRecDepth 20000 in
theorem zokJ_14 : ((List.range 25).all fun k => zokJ (350 + k)) = true := by decide +kernel
