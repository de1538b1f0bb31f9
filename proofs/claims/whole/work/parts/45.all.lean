/-! every method's table is what its code says -/
set_option maxRecDepth 20000 in
theorem zokJ_0 : ((List.range 25).all fun k => zokJ (0 + k)) = true := by decide +kernel
set_option maxRecDepth 20000 in
theorem zokJ_1 : ((List.range 25).all fun k => zokJ (25 + k)) = true := by decide +kernel
set_option maxRecDepth 20000 in
theorem zokJ_2 : ((List.range 25).all fun k => zokJ (50 + k)) = true := by decide +kernel
set_option maxRecDepth 20000 in
theorem zokJ_3 : ((List.range 25).all fun k => zokJ (75 + k)) = true := by decide +kernel
set_option maxRecDepth 20000 in
theorem zokJ_4 : ((List.range 25).all fun k => zokJ (100 + k)) = true := by decide +kernel
set_option maxRecDepth 20000 in
theorem zokJ_5 : ((List.range 25).all fun k => zokJ (125 + k)) = true := by decide +kernel
set_option maxRecDepth 20000 in
theorem zokJ_6 : ((List.range 25).all fun k => zokJ (150 + k)) = true := by decide +kernel
set_option maxRecDepth 20000 in
theorem zokJ_7 : ((List.range 25).all fun k => zokJ (175 + k)) = true := by decide +kernel
set_option maxRecDepth 20000 in
theorem zokJ_8 : ((List.range 25).all fun k => zokJ (200 + k)) = true := by decide +kernel
set_option maxRecDepth 20000 in
theorem zokJ_9 : ((List.range 25).all fun k => zokJ (225 + k)) = true := by decide +kernel
set_option maxRecDepth 20000 in
theorem zokJ_10 : ((List.range 25).all fun k => zokJ (250 + k)) = true := by decide +kernel
set_option maxRecDepth 20000 in
theorem zokJ_11 : ((List.range 25).all fun k => zokJ (275 + k)) = true := by decide +kernel
set_option maxRecDepth 20000 in
theorem zokJ_12 : ((List.range 25).all fun k => zokJ (300 + k)) = true := by decide +kernel
set_option maxRecDepth 20000 in
theorem zokJ_13 : ((List.range 25).all fun k => zokJ (325 + k)) = true := by decide +kernel
set_option maxRecDepth 20000 in
theorem zokJ_14 : ((List.range 25).all fun k => zokJ (350 + k)) = true := by decide +kernel
theorem zokJ_all {j : Nat} (hj : j < 375) : zokJ j = true := by
  have hr : j / 25 < 15 := by omega
  have hk : j = 25 * (j / 25) + j % 25 := by omega
  have hm : j % 25 ∈ List.range 25 := List.mem_range.mpr (Nat.mod_lt _ (by omega))
  rw [hk]
  generalize j / 25 = g at hr
  rcases (show g = 0 ∨ g = 1 ∨ g = 2 ∨ g = 3 ∨ g = 4 ∨ g = 5 ∨ g = 6 ∨ g = 7 ∨ g = 8 ∨ g = 9 ∨ g = 10 ∨ g = 11 ∨ g = 12 ∨ g = 13 ∨ g = 14 by omega) with rfl | rfl | rfl | rfl | rfl | rfl | rfl | rfl | rfl | rfl | rfl | rfl | rfl | rfl | rfl
  · exact List.all_eq_true.mp zokJ_0 _ hm
  · exact List.all_eq_true.mp zokJ_1 _ hm
  · exact List.all_eq_true.mp zokJ_2 _ hm
  · exact List.all_eq_true.mp zokJ_3 _ hm
  · exact List.all_eq_true.mp zokJ_4 _ hm
  · exact List.all_eq_true.mp zokJ_5 _ hm
  · exact List.all_eq_true.mp zokJ_6 _ hm
  · exact List.all_eq_true.mp zokJ_7 _ hm
  · exact List.all_eq_true.mp zokJ_8 _ hm
  · exact List.all_eq_true.mp zokJ_9 _ hm
  · exact List.all_eq_true.mp zokJ_10 _ hm
  · exact List.all_eq_true.mp zokJ_11 _ hm
  · exact List.all_eq_true.mp zokJ_12 _ hm
  · exact List.all_eq_true.mp zokJ_13 _ hm
  · exact List.all_eq_true.mp zokJ_14 _ hm
