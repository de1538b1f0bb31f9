/-! the reference's words and numbers written -/
theorem r_spelt_is (d : Nat) (M : zM) : zEm true (d + 1) 177 [(0, 105, 0), (0, 115, 0), (0, 0, 0), (0, 0, 0), (0, 0, 0), (0, 0, 0), (0, 0, 0), (0, 0, 0)] M = some ((1, V27 [19, 9], 0), M) := by
  have e : V27 [19, 9] = 262 := by decide
  rw [e]
  simp (disch := first | assumption | exact zrm0 | exact zrm1 _ | exact zrm2 _ _ | exact zrm3 _ _ _ | exact zrm4 _ _ _ _ | omega) only [m177, ↓k_dp, ↓k_dn, k_dp, k_dn, k_dT, k_dF, k_ip, k_in, if_true, if_false, ne_eq, not_true_eq_false, not_false_eq_true, Int.reduceAdd, zup_a, zup_e, zup_j, z32_id, k_lc, k_il0, k_i2l, k_lsub, k_lmul, k_il1, k_ladd, k_ls8, k_il2, k_ifle, k_ll8, k_il3, k_il4, k_il5, k_il6, k_il7, k_rl, e177_0, e177_3, e177_4, e177_5, e177_8, e177_9, e177_10, e177_11, e177_12, e177_13, e177_16, e177_17, e177_19, e177_20, e177_23, e177_26, e177_28, e177_29, e177_30, e177_31, e177_32, e177_35, e177_36, e177_38, e177_39, e177_42, e177_45, e177_47, e177_48, e177_49, e177_50, e177_51, e177_54, e177_55, e177_57, e177_59, e177_62, e177_65, e177_67, e177_68, e177_70, e177_71, e177_72, e177_75, e177_76, e177_78, e177_80, e177_83, e177_86, e177_88, e177_89, e177_91, e177_92, e177_93, e177_96, e177_97, e177_99, e177_101, e177_104, e177_107, e177_109, e177_110, e177_112, e177_113, e177_114, e177_117, e177_118, e177_120, e177_122, e177_125, e177_128, e177_130, e177_131, e177_133, e177_134, e177_135, e177_138, e177_139, e177_141, e177_143, Int.reduceSub, Int.reduceMul, z64_id]
theorem r_spelt_open (d : Nat) (M : zM) : zEm true (d + 1) 177 [(0, 111, 0), (0, 112, 0), (0, 101, 0), (0, 110, 0), (0, 0, 0), (0, 0, 0), (0, 0, 0), (0, 0, 0)] M = some ((1, V27 [14, 5, 16, 15], 0), M) := by
  have e : V27 [14, 5, 16, 15] = 307058 := by decide
  rw [e]
  simp (disch := first | assumption | exact zrm0 | exact zrm1 _ | exact zrm2 _ _ | exact zrm3 _ _ _ | exact zrm4 _ _ _ _ | omega) only [m177, ↓k_dp, ↓k_dn, k_dp, k_dn, k_dT, k_dF, k_ip, k_in, if_true, if_false, ne_eq, not_true_eq_false, not_false_eq_true, Int.reduceAdd, zup_a, zup_e, zup_j, z32_id, k_lc, k_il0, k_i2l, k_lsub, k_lmul, k_il1, k_ladd, k_ls8, k_il2, k_ifle, k_ll8, k_il3, k_il4, k_il5, k_il6, k_il7, k_rl, e177_0, e177_3, e177_4, e177_5, e177_8, e177_9, e177_10, e177_11, e177_12, e177_13, e177_16, e177_17, e177_19, e177_20, e177_23, e177_26, e177_28, e177_29, e177_30, e177_31, e177_32, e177_35, e177_36, e177_38, e177_39, e177_42, e177_45, e177_47, e177_48, e177_49, e177_50, e177_51, e177_54, e177_55, e177_57, e177_59, e177_62, e177_65, e177_67, e177_68, e177_70, e177_71, e177_72, e177_75, e177_76, e177_78, e177_80, e177_83, e177_86, e177_88, e177_89, e177_91, e177_92, e177_93, e177_96, e177_97, e177_99, e177_101, e177_104, e177_107, e177_109, e177_110, e177_112, e177_113, e177_114, e177_117, e177_118, e177_120, e177_122, e177_125, e177_128, e177_130, e177_131, e177_133, e177_134, e177_135, e177_138, e177_139, e177_141, e177_143, Int.reduceSub, Int.reduceMul, z64_id]
theorem r_spelt_carried (d : Nat) (M : zM) : zEm true (d + 1) 177 [(0, 99, 0), (0, 97, 0), (0, 114, 0), (0, 114, 0), (0, 105, 0), (0, 101, 0), (0, 100, 0), (0, 0, 0)] M = some ((1, V27 [4, 5, 9, 18, 18, 1, 3], 0), M) := by
  have e : V27 [4, 5, 9, 18, 18, 1, 3] = 1186537306 := by decide
  rw [e]
  simp (disch := first | assumption | exact zrm0 | exact zrm1 _ | exact zrm2 _ _ | exact zrm3 _ _ _ | exact zrm4 _ _ _ _ | omega) only [m177, ↓k_dp, ↓k_dn, k_dp, k_dn, k_dT, k_dF, k_ip, k_in, if_true, if_false, ne_eq, not_true_eq_false, not_false_eq_true, Int.reduceAdd, zup_a, zup_e, zup_j, z32_id, k_lc, k_il0, k_i2l, k_lsub, k_lmul, k_il1, k_ladd, k_ls8, k_il2, k_ifle, k_ll8, k_il3, k_il4, k_il5, k_il6, k_il7, k_rl, e177_0, e177_3, e177_4, e177_5, e177_8, e177_9, e177_10, e177_11, e177_12, e177_13, e177_16, e177_17, e177_19, e177_20, e177_23, e177_26, e177_28, e177_29, e177_30, e177_31, e177_32, e177_35, e177_36, e177_38, e177_39, e177_42, e177_45, e177_47, e177_48, e177_49, e177_50, e177_51, e177_54, e177_55, e177_57, e177_59, e177_62, e177_65, e177_67, e177_68, e177_70, e177_71, e177_72, e177_75, e177_76, e177_78, e177_80, e177_83, e177_86, e177_88, e177_89, e177_91, e177_92, e177_93, e177_96, e177_97, e177_99, e177_101, e177_104, e177_107, e177_109, e177_110, e177_112, e177_113, e177_114, e177_117, e177_118, e177_120, e177_122, e177_125, e177_128, e177_130, e177_131, e177_133, e177_134, e177_135, e177_138, e177_139, e177_141, e177_143, Int.reduceSub, Int.reduceMul, z64_id]
theorem r_spelt_lost (d : Nat) (M : zM) : zEm true (d + 1) 177 [(0, 108, 0), (0, 111, 0), (0, 115, 0), (0, 116, 0), (0, 0, 0), (0, 0, 0), (0, 0, 0), (0, 0, 0)] M = some ((1, V27 [20, 19, 15, 12], 0), M) := by
  have e : V27 [20, 19, 15, 12] = 247664 := by decide
  rw [e]
  simp (disch := first | assumption | exact zrm0 | exact zrm1 _ | exact zrm2 _ _ | exact zrm3 _ _ _ | exact zrm4 _ _ _ _ | omega) only [m177, ↓k_dp, ↓k_dn, k_dp, k_dn, k_dT, k_dF, k_ip, k_in, if_true, if_false, ne_eq, not_true_eq_false, not_false_eq_true, Int.reduceAdd, zup_a, zup_e, zup_j, z32_id, k_lc, k_il0, k_i2l, k_lsub, k_lmul, k_il1, k_ladd, k_ls8, k_il2, k_ifle, k_ll8, k_il3, k_il4, k_il5, k_il6, k_il7, k_rl, e177_0, e177_3, e177_4, e177_5, e177_8, e177_9, e177_10, e177_11, e177_12, e177_13, e177_16, e177_17, e177_19, e177_20, e177_23, e177_26, e177_28, e177_29, e177_30, e177_31, e177_32, e177_35, e177_36, e177_38, e177_39, e177_42, e177_45, e177_47, e177_48, e177_49, e177_50, e177_51, e177_54, e177_55, e177_57, e177_59, e177_62, e177_65, e177_67, e177_68, e177_70, e177_71, e177_72, e177_75, e177_76, e177_78, e177_80, e177_83, e177_86, e177_88, e177_89, e177_91, e177_92, e177_93, e177_96, e177_97, e177_99, e177_101, e177_104, e177_107, e177_109, e177_110, e177_112, e177_113, e177_114, e177_117, e177_118, e177_120, e177_122, e177_125, e177_128, e177_130, e177_131, e177_133, e177_134, e177_135, e177_138, e177_139, e177_141, e177_143, Int.reduceSub, Int.reduceMul, z64_id]
theorem r_spelt_by (d : Nat) (M : zM) : zEm true (d + 1) 177 [(0, 98, 0), (0, 121, 0), (0, 0, 0), (0, 0, 0), (0, 0, 0), (0, 0, 0), (0, 0, 0), (0, 0, 0)] M = some ((1, V27 [25, 2], 0), M) := by
  have e : V27 [25, 2] = 79 := by decide
  rw [e]
  simp (disch := first | assumption | exact zrm0 | exact zrm1 _ | exact zrm2 _ _ | exact zrm3 _ _ _ | exact zrm4 _ _ _ _ | omega) only [m177, ↓k_dp, ↓k_dn, k_dp, k_dn, k_dT, k_dF, k_ip, k_in, if_true, if_false, ne_eq, not_true_eq_false, not_false_eq_true, Int.reduceAdd, zup_a, zup_e, zup_j, z32_id, k_lc, k_il0, k_i2l, k_lsub, k_lmul, k_il1, k_ladd, k_ls8, k_il2, k_ifle, k_ll8, k_il3, k_il4, k_il5, k_il6, k_il7, k_rl, e177_0, e177_3, e177_4, e177_5, e177_8, e177_9, e177_10, e177_11, e177_12, e177_13, e177_16, e177_17, e177_19, e177_20, e177_23, e177_26, e177_28, e177_29, e177_30, e177_31, e177_32, e177_35, e177_36, e177_38, e177_39, e177_42, e177_45, e177_47, e177_48, e177_49, e177_50, e177_51, e177_54, e177_55, e177_57, e177_59, e177_62, e177_65, e177_67, e177_68, e177_70, e177_71, e177_72, e177_75, e177_76, e177_78, e177_80, e177_83, e177_86, e177_88, e177_89, e177_91, e177_92, e177_93, e177_96, e177_97, e177_99, e177_101, e177_104, e177_107, e177_109, e177_110, e177_112, e177_113, e177_114, e177_117, e177_118, e177_120, e177_122, e177_125, e177_128, e177_130, e177_131, e177_133, e177_134, e177_135, e177_138, e177_139, e177_141, e177_143, Int.reduceSub, Int.reduceMul, z64_id]
theorem r_writeNext (z : Int) (c : Int) (R : List Int) (D : Nat) (y : Int) (M : zM) (hR : okL (c :: R)) (hD : R.length + 3 ≤ D) (t0 : 0 ≤ M 197 39) (t1 : M 197 39 + R.length + 2 ≤ 64) : ∃ M', zEm true D 266 [(30, 197, z), (1, V27 (c :: R), y)] M = some ((98, 0, 0), M') ∧ rT M M' (R.length + 2) (fun i => if i < 1 then 32 else fN (c :: R) (i - 1)) := by
  obtain ⟨d, rfl⟩ : ∃ d, D = d + 2 := ⟨D - 2, by omega⟩
  obtain ⟨P, p1, p2⟩ := r_write d z 32 0 M t0 (by omega)
  obtain ⟨P', q1, q2⟩ := r_writeWord z R c (d + 1) 0 P hR (by omega) (by rw [p2.1]; omega) (by rw [p2.1]; omega)
  refine ⟨P', ?_, ?_⟩
  · generalize V27 (c :: R) = v at *
    simp (disch := first | assumption | exact zrm0 | exact zrm1 _ | exact zrm2 _ _ | exact zrm3 _ _ _ | exact zrm4 _ _ _ _ | omega) only [m266, ↓k_dp, ↓k_dn, k_dp, k_dn, k_dT, k_dF, k_ip, k_in, if_true, if_false, ne_eq, not_true_eq_false, not_false_eq_true, Int.reduceAdd, zup_a, zup_e, zup_j, z32_id, k_al0, k_ic, k_v2, k_ll1, k_rv, zb0_some, zb1_some, e266_0, e266_1, e266_3, e266_6, e266_7, e266_8, e266_11, p1, q1]
  · have e : (R.length : Int) + 2 = 1 + ((R.length : Int) + 1) := by omega
    rw [e]
    exact rT_comp (by omega) (by omega) p2 q2
theorem zrem_10 {n : Int} (n0 : 0 ≤ n) (n1 : n ≤ 1000) : zrem n 10 = n % 10 := by
  unfold zrem
  rw [Int.tdiv_eq_ediv_of_nonneg n0, z32_id (x := n / 10) (by omega) (by omega), z32_id (x := n / 10 * 10) (by omega) (by omega), z32_id (by omega) (by omega)]
  omega
theorem r_num1 (d : Nat) (z n y : Int) (M : zM) (n0 : 0 ≤ n) (n1 : n < 10) (t0 : 0 ≤ M 197 39) (t1 : M 197 39 < 64) : ∃ M', zEm true (d + 2) 265 [(30, 197, z), (0, n, y)] M = some ((98, 0, 0), M') ∧ rT M M' 1 (fun _ => 48 + n) := by
  obtain ⟨P, p1, p2⟩ := r_write d z (48 + n) 0 M t0 t1
  have h := zrem_10 n0 (by omega)
  have h2 : n % 10 = n := by omega
  exact ⟨P, by simp (disch := first | assumption | exact zrm0 | exact zrm1 _ | exact zrm2 _ _ | exact zrm3 _ _ _ | exact zrm4 _ _ _ _ | omega) only [m265, ↓k_dp, ↓k_dn, k_dp, k_dn, k_dT, k_dF, k_ip, k_in, if_true, if_false, ne_eq, not_true_eq_false, not_false_eq_true, Int.reduceAdd, zup_a, zup_e, zup_j, z32_id, k_il1, k_ic, k_icle, k_al0, k_idiv, k_v2, k_irem, k_iadd, k_rv, zb0_some, zb1_some, e265_0, e265_1, e265_3, e265_6, e265_7, e265_8, e265_10, e265_11, e265_14, e265_15, e265_17, e265_18, e265_20, e265_21, e265_22, e265_25, p1, h, h2], p2⟩
theorem r_numS (d : Nat) (z n y : Int) (M : zM) (k : Int) (f : Int → Int) (n0 : 10 ≤ n) (n1 : n ≤ 1000) (k0 : 0 ≤ k) (ih : ∃ M', zEm true (d + 2) 265 [(30, 197, z), (0, n / 10, 0)] M = some ((98, 0, 0), M') ∧ rT M M' k f) (t0 : 0 ≤ M 197 39) (t1 : M 197 39 + k < 64) : ∃ M', zEm true (d + 3) 265 [(30, 197, z), (0, n, y)] M = some ((98, 0, 0), M') ∧ rT M M' (k + 1) (fun i => if i < k then f i else 48 + n % 10) := by
  obtain ⟨P, p1, p2⟩ := ih
  obtain ⟨P', q1, q2⟩ := r_write (d + 1) z (48 + n % 10) 0 P (by rw [p2.1]; omega) (by rw [p2.1]; omega)
  have h := zrem_10 (n := n) (by omega) n1
  have hd : Int.tdiv n 10 = n / 10 := Int.tdiv_eq_ediv_of_nonneg (by omega)
  exact ⟨P', by simp (disch := first | assumption | exact zrm0 | exact zrm1 _ | exact zrm2 _ _ | exact zrm3 _ _ _ | exact zrm4 _ _ _ _ | omega) only [m265, ↓k_dp, ↓k_dn, k_dp, k_dn, k_dT, k_dF, k_ip, k_in, if_true, if_false, ne_eq, not_true_eq_false, not_false_eq_true, Int.reduceAdd, zup_a, zup_e, zup_j, z32_id, k_il1, k_ic, k_icle, k_al0, k_idiv, k_v2, k_irem, k_iadd, k_rv, zb0_some, zb1_some, e265_0, e265_1, e265_3, e265_6, e265_7, e265_8, e265_10, e265_11, e265_14, e265_15, e265_17, e265_18, e265_20, e265_21, e265_22, e265_25, p1, q1, h, hd], rT_comp k0 (by omega) p2 q2⟩
theorem r_writeNumber (d : Nat) (z n y : Int) (M : zM) (n0 : 0 ≤ n) (n1 : n ≤ 1000) (t0 : 0 ≤ M 197 39) (t1 : M 197 39 + 4 ≤ 64) : ∃ M', zEm true (d + 5) 265 [(30, 197, z), (0, n, y)] M = some ((98, 0, 0), M') ∧ rT M M' (dLen n) (dDig n) := by
  unfold dLen
  by_cases c1 : n < 10
  · rw [if_pos c1]
    obtain ⟨P, p1, p2⟩ := r_num1 (d + 3) z n y M n0 c1 t0 (by omega)
    exact ⟨P, p1, rT_congr p2 (fun i i0 i1 => by unfold dDig; rw [if_pos c1])⟩
  rw [if_neg c1]
  by_cases c2 : n < 100
  · rw [if_pos c2]
    obtain ⟨P, p1, p2⟩ := r_numS (d + 2) z n y M 1 _ (by omega) n1 (by omega) (r_num1 (d + 2) z (n / 10) 0 M (by omega) (by omega) t0 (by omega)) t0 (by omega)
    refine ⟨P, p1, rT_congr p2 (fun i i0 i1 => ?_)⟩
    unfold dDig
    rw [if_neg c1, if_pos c2]
    by_cases e : i = 0
    · rw [if_pos e, if_pos (by omega)]
    · rw [if_neg e, if_neg (by omega)]
  rw [if_neg c2]
  by_cases c3 : n < 1000
  · rw [if_pos c3]
    obtain ⟨P, p1, p2⟩ := r_numS (d + 2) z n y M 2 _ (by omega) n1 (by omega) (r_numS (d + 1) z (n / 10) 0 M 1 _ (by omega) (by omega) (by omega) (r_num1 (d + 1) z (n / 10 / 10) 0 M (by omega) (by omega) t0 (by omega)) t0 (by omega)) t0 (by omega)
    refine ⟨P, p1, rT_congr p2 (fun i i0 i1 => ?_)⟩
    unfold dDig
    rw [if_neg c1, if_neg c2, if_pos c3]
    by_cases e : i = 0
    · rw [if_pos e, if_pos (by omega), if_pos (by omega)]
      omega
    rw [if_neg e]
    by_cases e1 : i = 1
    · rw [if_pos e1, if_pos (by omega), if_neg (by omega)]
    · rw [if_neg e1, if_neg (by omega)]
  rw [if_neg c3]
  have e : n = 1000 := by omega
  subst e
  obtain ⟨P, p1, p2⟩ := r_numS (d + 2) z 1000 y M 3 _ (by omega) n1 (by omega) (r_numS (d + 1) z (1000 / 10) 0 M 2 _ (by omega) (by omega) (by omega) (r_numS d z (1000 / 10 / 10) 0 M 1 _ (by omega) (by omega) (by omega) (r_num1 d z (1000 / 10 / 10 / 10) 0 M (by omega) (by omega) t0 (by omega)) t0 (by omega)) t0 (by omega)) t0 (by omega)
  refine ⟨P, p1, rT_congr p2 (fun i i0 i1 => ?_)⟩
  unfold dDig
  rcases (show i = 0 ∨ i = 1 ∨ i = 2 ∨ i = 3 by omega) with rfl | rfl | rfl | rfl <;> rfl
theorem c_cryName (d : Nat) (x y : Int) (R : List Int) (hR : okL R) (M : zM) (hY : okY M) (h0 : M 54 3 = 0) : ∃ M', zEm true (d + 7) 70 [(22, 51, x), (1, V32 R, y)] M = some ((98, 0, 0), M') ∧ cT M M' R.length (fN R) := by
  obtain ⟨N, n1, n2⟩ := c_cryLoop d x y R hR M h0 8 (3, 0, 0) M 0 (Nat.le_refl _) (by have := hR.1; split <;> omega) (cT_none hY)
  refine ⟨N, ?_, n2⟩
  have e : 5 * ((8 : Nat) : Int) - 5 = 35 := by decide
  rw [e] at n1
  generalize V32 R = v at *
  rw [← n1]
  simp (disch := first | assumption | exact zrm0 | exact zrm1 _ | exact zrm2 _ _ | exact zrm3 _ _ _ | exact zrm4 _ _ _ _ | omega) only [m70, ↓k_dp, ↓k_dn, k_dp, k_dn, k_dT, k_dF, k_ip, k_in, if_true, if_false, ne_eq, not_true_eq_false, not_false_eq_true, Int.reduceAdd, zup_a, zup_e, zup_j, z32_id, k_ic, k_is3, k_il3, k_iflt, k_ll1, k_lushr, k_lc, k_land, k_l2i, k_is4, k_il4, k_ifeq, k_al0, k_gR, k_iadd, k_isub, k_i2c, k_v2r, k_pop, k_inc3, k_goto, k_rv, zb0_some, zb1_some, e70_0, e70_2, e70_4, e70_7, e70_8, e70_9, e70_10, e70_13, e70_14, e70_15, e70_17, e70_19, e70_22, e70_23, e70_26, e70_28, e70_30, e70_31, e70_32, e70_33, e70_34, e70_37, e70_38, e70_41, e70_44]
