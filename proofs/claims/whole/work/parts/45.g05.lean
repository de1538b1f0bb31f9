/-! every table is what its code says: methods 125 to 149 -/
set_option maxRecDepth 20000 in
theorem zokJ_5 : ((List.range 25).all fun k => zokJ (125 + k)) = true := by decide +kernel
