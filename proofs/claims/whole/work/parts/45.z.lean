/-! all of them -/
theorem zokJ_all {j : Nat} (hj : j < 375) : zokJ j = true := by
  have hr : j / 25 < 15 := by omega
  have hk : j = 25 * (j / 25) + j % 25 := by omega
  have hm : j % 25 ∈ List.range 25 := List.mem_range.mpr (Nat.mod_lt _ (by omega))
  rw [hk]
  generalize j / 25 = g at hr
  rcases (show g = 0 ∨ g = 1 ∨ g = 2 ∨ g = 3 ∨ g = 4 ∨ g = 5 ∨ g = 6 ∨ g = 7 ∨ g = 8 ∨ g = 9 ∨ g = 10 ∨ g = 11 ∨ g = 12 ∨ g = 13 ∨ g = 14 by omega) with rfl | rfl | rfl | rfl | rfl | rfl | rfl | rfl | rfl | rfl | rfl | rfl | rfl | rfl | rfl
  · exact List.all_eq_true.mp zokJ_0 _ hm
  · exact List.all_eq_true.mp zokJ_1 _ hm
  · exact List.all_eq_true.mp zokJ_2 _ hm
  · exact List.all_eq_true.mp zokJ_3 _ hm
  · exact List.all_eq_true.mp zokJ_4 _ hm
  · exact List.all_eq_true.mp zokJ_5 _ hm
  · exact List.all_eq_true.mp zokJ_6 _ hm
  · exact List.all_eq_true.mp zokJ_7 _ hm
  · exact List.all_eq_true.mp zokJ_8 _ hm
  · exact List.all_eq_true.mp zokJ_9 _ hm
  · exact List.all_eq_true.mp zokJ_10 _ hm
  · exact List.all_eq_true.mp zokJ_11 _ hm
  · exact List.all_eq_true.mp zokJ_12 _ hm
  · exact List.all_eq_true.mp zokJ_13 _ hm
  · exact List.all_eq_true.mp zokJ_14 _ hm
