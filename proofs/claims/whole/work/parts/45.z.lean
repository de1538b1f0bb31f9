/-! all of them -/
theorem zokJ_all {j : Nat} (hj : j < 375) : zokJ j = true := by
  have hr : j / 5 < 75 := by omega
  have hk : j = 5 * (j / 5) + j % 5 := by omega
  have hm : j % 5 ∈ List.range 5 := List.mem_range.mpr (Nat.mod_lt _ (by omega))
  rw [hk]
  generalize j / 5 = g at hr
  rcases (show g = 0 ∨ g = 1 ∨ g = 2 ∨ g = 3 ∨ g = 4 ∨ g = 5 ∨ g = 6 ∨ g = 7 ∨ g = 8 ∨ g = 9 ∨ g = 10 ∨ g = 11 ∨ g = 12 ∨ g = 13 ∨ g = 14 ∨ g = 15 ∨ g = 16 ∨ g = 17 ∨ g = 18 ∨ g = 19 ∨ g = 20 ∨ g = 21 ∨ g = 22 ∨ g = 23 ∨ g = 24 ∨ g = 25 ∨ g = 26 ∨ g = 27 ∨ g = 28 ∨ g = 29 ∨ g = 30 ∨ g = 31 ∨ g = 32 ∨ g = 33 ∨ g = 34 ∨ g = 35 ∨ g = 36 ∨ g = 37 ∨ g = 38 ∨ g = 39 ∨ g = 40 ∨ g = 41 ∨ g = 42 ∨ g = 43 ∨ g = 44 ∨ g = 45 ∨ g = 46 ∨ g = 47 ∨ g = 48 ∨ g = 49 ∨ g = 50 ∨ g = 51 ∨ g = 52 ∨ g = 53 ∨ g = 54 ∨ g = 55 ∨ g = 56 ∨ g = 57 ∨ g = 58 ∨ g = 59 ∨ g = 60 ∨ g = 61 ∨ g = 62 ∨ g = 63 ∨ g = 64 ∨ g = 65 ∨ g = 66 ∨ g = 67 ∨ g = 68 ∨ g = 69 ∨ g = 70 ∨ g = 71 ∨ g = 72 ∨ g = 73 ∨ g = 74 by omega) with rfl | rfl | rfl | rfl | rfl | rfl | rfl | rfl | rfl | rfl | rfl | rfl | rfl | rfl | rfl | rfl | rfl | rfl | rfl | rfl | rfl | rfl | rfl | rfl | rfl | rfl | rfl | rfl | rfl | rfl | rfl | rfl | rfl | rfl | rfl | rfl | rfl | rfl | rfl | rfl | rfl | rfl | rfl | rfl | rfl | rfl | rfl | rfl | rfl | rfl | rfl | rfl | rfl | rfl | rfl | rfl | rfl | rfl | rfl | rfl | rfl | rfl | rfl | rfl | rfl | rfl | rfl | rfl | rfl | rfl | rfl | rfl | rfl | rfl | rfl
  · exact List.all_eq_true.mp zokJ_0 _ hm
  · exact List.all_eq_true.mp zokJ_1 _ hm
  · exact List.all_eq_true.mp zokJ_2 _ hm
  · exact List.all_eq_true.mp zokJ_3 _ hm
  · exact List.all_eq_true.mp zokJ_4 _ hm
  · exact List.all_eq_true.mp zokJ_5 _ hm
  · exact List.all_eq_true.mp zokJ_6 _ hm
  · exact List.all_eq_true.mp zokJ_7 _ hm
  · exact List.all_eq_true.mp zokJ_8 _ hm
  · exact List.all_eq_true.mp zokJ_9 _ hm
  · exact List.all_eq_true.mp zokJ_10 _ hm
  · exact List.all_eq_true.mp zokJ_11 _ hm
  · exact List.all_eq_true.mp zokJ_12 _ hm
  · exact List.all_eq_true.mp zokJ_13 _ hm
  · exact List.all_eq_true.mp zokJ_14 _ hm
  · exact List.all_eq_true.mp zokJ_15 _ hm
  · exact List.all_eq_true.mp zokJ_16 _ hm
  · exact List.all_eq_true.mp zokJ_17 _ hm
  · exact List.all_eq_true.mp zokJ_18 _ hm
  · exact List.all_eq_true.mp zokJ_19 _ hm
  · exact List.all_eq_true.mp zokJ_20 _ hm
  · exact List.all_eq_true.mp zokJ_21 _ hm
  · exact List.all_eq_true.mp zokJ_22 _ hm
  · exact List.all_eq_true.mp zokJ_23 _ hm
  · exact List.all_eq_true.mp zokJ_24 _ hm
  · exact List.all_eq_true.mp zokJ_25 _ hm
  · exact List.all_eq_true.mp zokJ_26 _ hm
  · exact List.all_eq_true.mp zokJ_27 _ hm
  · exact List.all_eq_true.mp zokJ_28 _ hm
  · exact List.all_eq_true.mp zokJ_29 _ hm
  · exact List.all_eq_true.mp zokJ_30 _ hm
  · exact List.all_eq_true.mp zokJ_31 _ hm
  · exact List.all_eq_true.mp zokJ_32 _ hm
  · exact List.all_eq_true.mp zokJ_33 _ hm
  · exact List.all_eq_true.mp zokJ_34 _ hm
  · exact List.all_eq_true.mp zokJ_35 _ hm
  · exact List.all_eq_true.mp zokJ_36 _ hm
  · exact List.all_eq_true.mp zokJ_37 _ hm
  · exact List.all_eq_true.mp zokJ_38 _ hm
  · exact List.all_eq_true.mp zokJ_39 _ hm
  · exact List.all_eq_true.mp zokJ_40 _ hm
  · exact List.all_eq_true.mp zokJ_41 _ hm
  · exact List.all_eq_true.mp zokJ_42 _ hm
  · exact List.all_eq_true.mp zokJ_43 _ hm
  · exact List.all_eq_true.mp zokJ_44 _ hm
  · exact List.all_eq_true.mp zokJ_45 _ hm
  · exact List.all_eq_true.mp zokJ_46 _ hm
  · exact List.all_eq_true.mp zokJ_47 _ hm
  · exact List.all_eq_true.mp zokJ_48 _ hm
  · exact List.all_eq_true.mp zokJ_49 _ hm
  · exact List.all_eq_true.mp zokJ_50 _ hm
  · exact List.all_eq_true.mp zokJ_51 _ hm
  · exact List.all_eq_true.mp zokJ_52 _ hm
  · exact List.all_eq_true.mp zokJ_53 _ hm
  · exact List.all_eq_true.mp zokJ_54 _ hm
  · exact List.all_eq_true.mp zokJ_55 _ hm
  · exact List.all_eq_true.mp zokJ_56 _ hm
  · exact List.all_eq_true.mp zokJ_57 _ hm
  · exact List.all_eq_true.mp zokJ_58 _ hm
  · exact List.all_eq_true.mp zokJ_59 _ hm
  · exact List.all_eq_true.mp zokJ_60 _ hm
  · exact List.all_eq_true.mp zokJ_61 _ hm
  · exact List.all_eq_true.mp zokJ_62 _ hm
  · exact List.all_eq_true.mp zokJ_63 _ hm
  · exact List.all_eq_true.mp zokJ_64 _ hm
  · exact List.all_eq_true.mp zokJ_65 _ hm
  · exact List.all_eq_true.mp zokJ_66 _ hm
  · exact List.all_eq_true.mp zokJ_67 _ hm
  · exact List.all_eq_true.mp zokJ_68 _ hm
  · exact List.all_eq_true.mp zokJ_69 _ hm
  · exact List.all_eq_true.mp zokJ_70 _ hm
  · exact List.all_eq_true.mp zokJ_71 _ hm
  · exact List.all_eq_true.mp zokJ_72 _ hm
  · exact List.all_eq_true.mp zokJ_73 _ hm
  · exact List.all_eq_true.mp zokJ_74 _ hm
