/-! all of them -/
theorem zokJ1_372 : zokJ 372 = true := by
  have h : zokL zq372 0 zk372 = true := zokL_ch (k := 30) 51 zk372 0 (fun i hi => match i, hi with
    | 0, _ => zch0
    | 1, _ => zch1
    | 2, _ => zch2
    | 3, _ => zch3
    | 4, _ => zch4
    | 5, _ => zch5
    | 6, _ => zch6
    | 7, _ => zch7
    | 8, _ => zch8
    | 9, _ => zch9
    | 10, _ => zch10
    | 11, _ => zch11
    | 12, _ => zch12
    | 13, _ => zch13
    | 14, _ => zch14
    | 15, _ => zch15
    | 16, _ => zch16
    | 17, _ => zch17
    | 18, _ => zch18
    | 19, _ => zch19
    | 20, _ => zch20
    | 21, _ => zch21
    | 22, _ => zch22
    | 23, _ => zch23
    | 24, _ => zch24
    | 25, _ => zch25
    | 26, _ => zch26
    | 27, _ => zch27
    | 28, _ => zch28
    | 29, _ => zch29
    | 30, _ => zch30
    | 31, _ => zch31
    | 32, _ => zch32
    | 33, _ => zch33
    | 34, _ => zch34
    | 35, _ => zch35
    | 36, _ => zch36
    | 37, _ => zch37
    | 38, _ => zch38
    | 39, _ => zch39
    | 40, _ => zch40
    | 41, _ => zch41
    | 42, _ => zch42
    | 43, _ => zch43
    | 44, _ => zch44
    | 45, _ => zch45
    | 46, _ => zch46
    | 47, _ => zch47
    | 48, _ => zch48
    | 49, _ => zch49
    | 50, _ => zch50
    | n + 51, h => absurd h (by omega)) (by decide +kernel)
  show (decide (zq372.1.cls = zow zq372.2.2.2.2) && decide (zml 372 = zq372.2.2.1) && zokL zq372 0 zk372) = true
  rw [h]
  decide +kernel
theorem zokJ_74 : ((List.range 5).all fun k => zokJ (370 + k)) = true := by
  show (zokJ 370 && (zokJ 371 && (zokJ 372 && (zokJ 373 && (zokJ 374 && true))))) = true
  rw [zokJ1_370, zokJ1_371, zokJ1_372, zokJ1_373, zokJ1_374]
  rfl
theorem zokJ_all {j : Nat} (hj : j < 375) : zokJ j = true := by
  have hr : j / 5 < 75 := by omega
  have hk : j = 5 * (j / 5) + j % 5 := by omega
  have hm : j % 5 ∈ List.range 5 := List.mem_range.mpr (Nat.mod_lt _ (by omega))
  rw [hk]
  generalize j / 5 = g at hr
  rcases (show g = 0 ∨ g = 1 ∨ g = 2 ∨ g = 3 ∨ g = 4 ∨ g = 5 ∨ g = 6 ∨ g = 7 ∨ g = 8 ∨ g = 9 ∨ g = 10 ∨ g = 11 ∨ g = 12 ∨ g = 13 ∨ g = 14 ∨ g = 15 ∨ g = 16 ∨ g = 17 ∨ g = 18 ∨ g = 19 ∨ g = 20 ∨ g = 21 ∨ g = 22 ∨ g = 23 ∨ g = 24 ∨ g = 25 ∨ g = 26 ∨ g = 27 ∨ g = 28 ∨ g = 29 ∨ g = 30 ∨ g = 31 ∨ g = 32 ∨ g = 33 ∨ g = 34 ∨ g = 35 ∨ g = 36 ∨ g = 37 ∨ g = 38 ∨ g = 39 ∨ g = 40 ∨ g = 41 ∨ g = 42 ∨ g = 43 ∨ g = 44 ∨ g = 45 ∨ g = 46 ∨ g = 47 ∨ g = 48 ∨ g = 49 ∨ g = 50 ∨ g = 51 ∨ g = 52 ∨ g = 53 ∨ g = 54 ∨ g = 55 ∨ g = 56 ∨ g = 57 ∨ g = 58 ∨ g = 59 ∨ g = 60 ∨ g = 61 ∨ g = 62 ∨ g = 63 ∨ g = 64 ∨ g = 65 ∨ g = 66 ∨ g = 67 ∨ g = 68 ∨ g = 69 ∨ g = 70 ∨ g = 71 ∨ g = 72 ∨ g = 73 ∨ g = 74 by omega) with rfl | rfl | rfl | rfl | rfl | rfl | rfl | rfl | rfl | rfl | rfl | rfl | rfl | rfl | rfl | rfl | rfl | rfl | rfl | rfl | rfl | rfl | rfl | rfl | rfl | rfl | rfl | rfl | rfl | rfl | rfl | rfl | rfl | rfl | rfl | rfl | rfl | rfl | rfl | rfl | rfl | rfl | rfl | rfl | rfl | rfl | rfl | rfl | rfl | rfl | rfl | rfl | rfl | rfl | rfl | rfl | rfl | rfl | rfl | rfl | rfl | rfl | rfl | rfl | rfl | rfl | rfl | rfl | rfl | rfl | rfl | rfl | rfl | rfl | rfl
  · exact List.all_eq_true.mp zokJ_0 _ hm
  · exact List.all_eq_true.mp zokJ_1 _ hm
  · exact List.all_eq_true.mp zokJ_2 _ hm
  · exact List.all_eq_true.mp zokJ_3 _ hm
  · exact List.all_eq_true.mp zokJ_4 _ hm
  · exact List.all_eq_true.mp zokJ_5 _ hm
  · exact List.all_eq_true.mp zokJ_6 _ hm
  · exact List.all_eq_true.mp zokJ_7 _ hm
  · exact List.all_eq_true.mp zokJ_8 _ hm
  · exact List.all_eq_true.mp zokJ_9 _ hm
  · exact List.all_eq_true.mp zokJ_10 _ hm
  · exact List.all_eq_true.mp zokJ_11 _ hm
  · exact List.all_eq_true.mp zokJ_12 _ hm
  · exact List.all_eq_true.mp zokJ_13 _ hm
  · exact List.all_eq_true.mp zokJ_14 _ hm
  · exact List.all_eq_true.mp zokJ_15 _ hm
  · exact List.all_eq_true.mp zokJ_16 _ hm
  · exact List.all_eq_true.mp zokJ_17 _ hm
  · exact List.all_eq_true.mp zokJ_18 _ hm
  · exact List.all_eq_true.mp zokJ_19 _ hm
  · exact List.all_eq_true.mp zokJ_20 _ hm
  · exact List.all_eq_true.mp zokJ_21 _ hm
  · exact List.all_eq_true.mp zokJ_22 _ hm
  · exact List.all_eq_true.mp zokJ_23 _ hm
  · exact List.all_eq_true.mp zokJ_24 _ hm
  · exact List.all_eq_true.mp zokJ_25 _ hm
  · exact List.all_eq_true.mp zokJ_26 _ hm
  · exact List.all_eq_true.mp zokJ_27 _ hm
  · exact List.all_eq_true.mp zokJ_28 _ hm
  · exact List.all_eq_true.mp zokJ_29 _ hm
  · exact List.all_eq_true.mp zokJ_30 _ hm
  · exact List.all_eq_true.mp zokJ_31 _ hm
  · exact List.all_eq_true.mp zokJ_32 _ hm
  · exact List.all_eq_true.mp zokJ_33 _ hm
  · exact List.all_eq_true.mp zokJ_34 _ hm
  · exact List.all_eq_true.mp zokJ_35 _ hm
  · exact List.all_eq_true.mp zokJ_36 _ hm
  · exact List.all_eq_true.mp zokJ_37 _ hm
  · exact List.all_eq_true.mp zokJ_38 _ hm
  · exact List.all_eq_true.mp zokJ_39 _ hm
  · exact List.all_eq_true.mp zokJ_40 _ hm
  · exact List.all_eq_true.mp zokJ_41 _ hm
  · exact List.all_eq_true.mp zokJ_42 _ hm
  · exact List.all_eq_true.mp zokJ_43 _ hm
  · exact List.all_eq_true.mp zokJ_44 _ hm
  · exact List.all_eq_true.mp zokJ_45 _ hm
  · exact List.all_eq_true.mp zokJ_46 _ hm
  · exact List.all_eq_true.mp zokJ_47 _ hm
  · exact List.all_eq_true.mp zokJ_48 _ hm
  · exact List.all_eq_true.mp zokJ_49 _ hm
  · exact List.all_eq_true.mp zokJ_50 _ hm
  · exact List.all_eq_true.mp zokJ_51 _ hm
  · exact List.all_eq_true.mp zokJ_52 _ hm
  · exact List.all_eq_true.mp zokJ_53 _ hm
  · exact List.all_eq_true.mp zokJ_54 _ hm
  · exact List.all_eq_true.mp zokJ_55 _ hm
  · exact List.all_eq_true.mp zokJ_56 _ hm
  · exact List.all_eq_true.mp zokJ_57 _ hm
  · exact List.all_eq_true.mp zokJ_58 _ hm
  · exact List.all_eq_true.mp zokJ_59 _ hm
  · exact List.all_eq_true.mp zokJ_60 _ hm
  · exact List.all_eq_true.mp zokJ_61 _ hm
  · exact List.all_eq_true.mp zokJ_62 _ hm
  · exact List.all_eq_true.mp zokJ_63 _ hm
  · exact List.all_eq_true.mp zokJ_64 _ hm
  · exact List.all_eq_true.mp zokJ_65 _ hm
  · exact List.all_eq_true.mp zokJ_66 _ hm
  · exact List.all_eq_true.mp zokJ_67 _ hm
  · exact List.all_eq_true.mp zokJ_68 _ hm
  · exact List.all_eq_true.mp zokJ_69 _ hm
  · exact List.all_eq_true.mp zokJ_70 _ hm
  · exact List.all_eq_true.mp zokJ_71 _ hm
  · exact List.all_eq_true.mp zokJ_72 _ hm
  · exact List.all_eq_true.mp zokJ_73 _ hm
  · exact List.all_eq_true.mp zokJ_74 _ hm
