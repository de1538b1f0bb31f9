/-! the reference takes an image back -/
theorem r_resA (d : Nat) (z0 k y : Int) (k0 : 0 ≤ k) (k1 : k ≤ 1) (M : zM) : ∀ (m : Nat) (i : Int) (N : zM), i + m = 368 → 0 ≤ i → (∀ x y, ¬ (x = 199 ∧ 0 ≤ y ∧ y < 368) → N x y = M x y) → (∀ a, 0 ≤ a → a < i → N 199 a = M 201 (368 * k + a)) → ∃ N', zEv true (d + 7) 298 27 [(30, 197, z0), (0, k, y), (0, i, 0)] [] N = zEv true (d + 7) 298 60 [(30, 197, z0), (0, k, y), (0, 0, 0)] [] N' ∧ (∀ x y, ¬ (x = 199 ∧ 0 ≤ y ∧ y < 368) → N' x y = M x y) ∧ ∀ a, 0 ≤ a → a < 368 → N' 199 a = M 201 (368 * k + a)
  | 0, i, N, hm, i0, h1, h2 => by
    refine ⟨N, ?_, h1, fun a a0 a1 => h2 a a0 (by omega)⟩
    rw [e298_27]
    simp (disch := first | assumption | exact zrm0 | exact zrm1 _ | exact zrm2 _ _ | exact zrm3 _ _ _ | exact zrm4 _ _ _ _ | omega) only [m298, ↓k_dp, ↓k_dn, k_dp, k_dn, k_dT, k_dF, k_ip, k_in, if_true, if_false, ne_eq, not_true_eq_false, not_false_eq_true, Int.reduceAdd, zup_a, zup_e, zup_j, z32_id, k_al0, k_ic, k_pI, k_il1, k_s3r, k_ifeq, k_gR, k_bldZ, k_bldB, k_bldD, k_bldT, k_ifne, k_rz, k_is2, k_il2, k_icge, k_imul, k_iadd, k_ild, k_ildS, k_ildW, k_ist, k_inc2, k_goto, k_lld, k_lst, zb0_some, zb1_some, e298_0, e298_1, e298_2, e298_5, e298_6, e298_7, e298_8, e298_11, e298_14, e298_15, e298_18, e298_19, e298_20, e298_23, e298_24, e298_25, e298_26, e298_28, e298_31, e298_34, e298_35, e298_38, e298_39, e298_40, e298_43, e298_46, e298_47, e298_48, e298_49, e298_50, e298_51, e298_52, e298_55, e298_58, e298_59, e298_61, e298_63, e298_66, e298_67, e298_70, e298_71, e298_72, e298_75, e298_77, e298_78, e298_79, e298_80, e298_81, e298_82, e298_83, e298_86, e298_89, e298_90, e298_91, e298_94, e298_95]
  | m + 1, i, N, hm, i0, h1, h2 => by
    have hi : N 201 (368 * k + i) = M 201 (368 * k + i) := h1 _ _ (by omega)
    obtain ⟨N', n1, n2, n3⟩ := r_resA d z0 k y k0 k1 M m (i + 1) (zup N 199 i (M 201 (368 * k + i))) (by omega) (by omega) (fun x y h => by
      rw [← h1 x y h]
      unfold zup
      rw [if_neg (by omega)]) (fun a a0 a1 => by
      by_cases c : a = i
      · rw [c, zup_e (by omega)]
      · rw [zup_j (by omega)]
        exact h2 a a0 (by omega))
    refine ⟨N', ?_, n2, n3⟩
    rw [e298_27]
    simp (disch := first | assumption | exact zrm0 | exact zrm1 _ | exact zrm2 _ _ | exact zrm3 _ _ _ | exact zrm4 _ _ _ _ | omega) only [m298, ↓k_dp, ↓k_dn, k_dp, k_dn, k_dT, k_dF, k_ip, k_in, if_true, if_false, ne_eq, not_true_eq_false, not_false_eq_true, Int.reduceAdd, zup_a, zup_e, zup_j, z32_id, k_al0, k_ic, k_pI, k_il1, k_s3r, k_ifeq, k_gR, k_bldZ, k_bldB, k_bldD, k_bldT, k_ifne, k_rz, k_is2, k_il2, k_icge, k_imul, k_iadd, k_ild, k_ildS, k_ildW, k_ist, k_inc2, k_goto, k_lld, k_lst, zb0_some, zb1_some, e298_0, e298_1, e298_2, e298_5, e298_6, e298_7, e298_8, e298_11, e298_14, e298_15, e298_18, e298_19, e298_20, e298_23, e298_24, e298_25, e298_26, e298_28, e298_31, e298_34, e298_35, e298_38, e298_39, e298_40, e298_43, e298_46, e298_47, e298_48, e298_49, e298_50, e298_51, e298_52, e298_55, e298_58, e298_59, e298_61, e298_63, e298_66, e298_67, e298_70, e298_71, e298_72, e298_75, e298_77, e298_78, e298_79, e298_80, e298_81, e298_82, e298_83, e298_86, e298_89, e298_90, e298_91, e298_94, e298_95, hi]
    exact n1
theorem r_resB (d : Nat) (z0 k y : Int) (k0 : 0 ≤ k) (k1 : k ≤ 1) (M : zM) : ∀ (m : Nat) (i : Int) (N : zM), i + m = 20 → 0 ≤ i → (∀ x y, ¬ (x = 204 ∧ 0 ≤ y ∧ y < 20) → N x y = M x y) → (∀ a, 0 ≤ a → a < i → N 204 a = M 206 (20 * k + a)) → ∃ N', zEv true (d + 7) 298 60 [(30, 197, z0), (0, k, y), (0, i, 0)] [] N = some ((0, 1, 0), zup N' 197 24 0) ∧ (∀ x y, ¬ (x = 204 ∧ 0 ≤ y ∧ y < 20) → N' x y = M x y) ∧ ∀ a, 0 ≤ a → a < 20 → N' 204 a = M 206 (20 * k + a)
  | 0, i, N, hm, i0, h1, h2 => by
    refine ⟨N, ?_, h1, fun a a0 a1 => h2 a a0 (by omega)⟩
    rw [e298_60]
    simp (disch := first | assumption | exact zrm0 | exact zrm1 _ | exact zrm2 _ _ | exact zrm3 _ _ _ | exact zrm4 _ _ _ _ | omega) only [m298, ↓k_dp, ↓k_dn, k_dp, k_dn, k_dT, k_dF, k_ip, k_in, if_true, if_false, ne_eq, not_true_eq_false, not_false_eq_true, Int.reduceAdd, zup_a, zup_e, zup_j, z32_id, k_al0, k_ic, k_pI, k_il1, k_s3r, k_ifeq, k_gR, k_bldZ, k_bldB, k_bldD, k_bldT, k_ifne, k_rz, k_is2, k_il2, k_icge, k_imul, k_iadd, k_ild, k_ildS, k_ildW, k_ist, k_inc2, k_goto, k_lld, k_lst, zb0_some, zb1_some, e298_0, e298_1, e298_2, e298_5, e298_6, e298_7, e298_8, e298_11, e298_14, e298_15, e298_18, e298_19, e298_20, e298_23, e298_24, e298_25, e298_26, e298_27, e298_28, e298_31, e298_34, e298_35, e298_38, e298_39, e298_40, e298_43, e298_46, e298_47, e298_48, e298_49, e298_50, e298_51, e298_52, e298_55, e298_58, e298_59, e298_61, e298_63, e298_66, e298_67, e298_70, e298_71, e298_72, e298_75, e298_77, e298_78, e298_79, e298_80, e298_81, e298_82, e298_83, e298_86, e298_89, e298_90, e298_91, e298_94, e298_95]
  | m + 1, i, N, hm, i0, h1, h2 => by
    have hi : N 206 (20 * k + i) = M 206 (20 * k + i) := h1 _ _ (by omega)
    obtain ⟨N', n1, n2, n3⟩ := r_resB d z0 k y k0 k1 M m (i + 1) (zup N 204 i (M 206 (20 * k + i))) (by omega) (by omega) (fun x y h => by
      rw [← h1 x y h]
      unfold zup
      rw [if_neg (by omega)]) (fun a a0 a1 => by
      by_cases c : a = i
      · rw [c, zup_e (by omega)]
      · rw [zup_j (by omega)]
        exact h2 a a0 (by omega))
    refine ⟨N', ?_, n2, n3⟩
    rw [e298_60]
    simp (disch := first | assumption | exact zrm0 | exact zrm1 _ | exact zrm2 _ _ | exact zrm3 _ _ _ | exact zrm4 _ _ _ _ | omega) only [m298, ↓k_dp, ↓k_dn, k_dp, k_dn, k_dT, k_dF, k_ip, k_in, if_true, if_false, ne_eq, not_true_eq_false, not_false_eq_true, Int.reduceAdd, zup_a, zup_e, zup_j, z32_id, k_al0, k_ic, k_pI, k_il1, k_s3r, k_ifeq, k_gR, k_bldZ, k_bldB, k_bldD, k_bldT, k_ifne, k_rz, k_is2, k_il2, k_icge, k_imul, k_iadd, k_ild, k_ildS, k_ildW, k_ist, k_inc2, k_goto, k_lld, k_lst, zb0_some, zb1_some, e298_0, e298_1, e298_2, e298_5, e298_6, e298_7, e298_8, e298_11, e298_14, e298_15, e298_18, e298_19, e298_20, e298_23, e298_24, e298_25, e298_26, e298_27, e298_28, e298_31, e298_34, e298_35, e298_38, e298_39, e298_40, e298_43, e298_46, e298_47, e298_48, e298_49, e298_50, e298_51, e298_52, e298_55, e298_58, e298_59, e298_61, e298_63, e298_66, e298_67, e298_70, e298_71, e298_72, e298_75, e298_77, e298_78, e298_79, e298_80, e298_81, e298_82, e298_83, e298_86, e298_89, e298_90, e298_91, e298_94, e298_95, hi]
    exact n1
theorem r_restore (d : Nat) (z0 k y : Int) (M : zM) : (¬ ((0 ≤ k ∧ k ≤ 1) ∧ M 207 k ≠ 0) → zEm true (d + 8) 298 [(30, 197, z0), (0, k, y)] M = some ((0, 0, 0), zup M 197 0 0)) ∧ (((0 ≤ k ∧ k ≤ 1) ∧ M 207 k ≠ 0) → ∃ N, zEm true (d + 8) 298 [(30, 197, z0), (0, k, y)] M = some ((0, 1, 0), N) ∧ N 197 24 = 0 ∧ (∀ a, 0 ≤ a → a < 368 → N 199 a = M 201 (368 * k + a)) ∧ (∀ a, 0 ≤ a → a < 20 → N 204 a = M 206 (20 * k + a)) ∧ ∀ x y, ¬ (x = 197 ∧ (y = 0 ∨ y = 24)) → ¬ (x = 199 ∧ 0 ≤ y ∧ y < 368) → ¬ (x = 204 ∧ 0 ≤ y ∧ y < 20) → N x y = M x y) := by
  refine ⟨fun c => ?_, fun c => ?_⟩
  · by_cases c1 : 0 ≤ k ∧ k ≤ 1
    · have c2 : M 207 k = 0 := Classical.byContradiction (fun h => c ⟨c1, h⟩)
      simp (disch := first | assumption | exact zrm0 | exact zrm1 _ | exact zrm2 _ _ | exact zrm3 _ _ _ | exact zrm4 _ _ _ _ | omega) only [m298, ↓k_dp, ↓k_dn, k_dp, k_dn, k_dT, k_dF, k_ip, k_in, if_true, if_false, ne_eq, not_true_eq_false, not_false_eq_true, Int.reduceAdd, zup_a, zup_e, zup_j, z32_id, k_al0, k_ic, k_pI, k_il1, k_s3r, k_ifeq, k_gR, k_bldZ, k_bldB, k_bldD, k_bldT, k_ifne, k_rz, k_is2, k_il2, k_icge, k_imul, k_iadd, k_ild, k_ildS, k_ildW, k_ist, k_inc2, k_goto, k_lld, k_lst, zb0_some, zb1_some, e298_0, e298_1, e298_2, e298_5, e298_6, e298_7, e298_8, e298_11, e298_14, e298_15, e298_18, e298_19, e298_20, e298_23, e298_24, e298_25, e298_26, e298_28, e298_31, e298_34, e298_35, e298_38, e298_39, e298_40, e298_43, e298_46, e298_47, e298_48, e298_49, e298_50, e298_51, e298_52, e298_55, e298_58, e298_59, e298_60, e298_61, e298_63, e298_66, e298_67, e298_70, e298_71, e298_72, e298_75, e298_77, e298_78, e298_79, e298_80, e298_81, e298_82, e298_83, e298_86, e298_89, e298_90, e298_91, e298_94, e298_95, r_isIn, if_pos c1, c2]
    · simp (disch := first | assumption | exact zrm0 | exact zrm1 _ | exact zrm2 _ _ | exact zrm3 _ _ _ | exact zrm4 _ _ _ _ | omega) only [m298, ↓k_dp, ↓k_dn, k_dp, k_dn, k_dT, k_dF, k_ip, k_in, if_true, if_false, ne_eq, not_true_eq_false, not_false_eq_true, Int.reduceAdd, zup_a, zup_e, zup_j, z32_id, k_al0, k_ic, k_pI, k_il1, k_s3r, k_ifeq, k_gR, k_bldZ, k_bldB, k_bldD, k_bldT, k_ifne, k_rz, k_is2, k_il2, k_icge, k_imul, k_iadd, k_ild, k_ildS, k_ildW, k_ist, k_inc2, k_goto, k_lld, k_lst, zb0_some, zb1_some, e298_0, e298_1, e298_2, e298_5, e298_6, e298_7, e298_8, e298_11, e298_14, e298_15, e298_18, e298_19, e298_20, e298_23, e298_24, e298_25, e298_26, e298_28, e298_31, e298_34, e298_35, e298_38, e298_39, e298_40, e298_43, e298_46, e298_47, e298_48, e298_49, e298_50, e298_51, e298_52, e298_55, e298_58, e298_59, e298_60, e298_61, e298_63, e298_66, e298_67, e298_70, e298_71, e298_72, e298_75, e298_77, e298_78, e298_79, e298_80, e298_81, e298_82, e298_83, e298_86, e298_89, e298_90, e298_91, e298_94, e298_95, r_isIn, if_neg c1]
  obtain ⟨c1, c2⟩ := c
  obtain ⟨A, a1, a2, a3⟩ := r_resA d z0 k y c1.1 c1.2 (zup M 197 0 0) 368 0 (zup M 197 0 0) (by omega) (by omega) (fun _ _ _ => rfl) (fun a h0 h1 => by omega)
  obtain ⟨B, b1, b2, b3⟩ := r_resB d z0 k y c1.1 c1.2 A 20 0 A (by omega) (by omega) (fun _ _ _ => rfl) (fun a h0 h1 => by omega)
  refine ⟨zup B 197 24 0, ?_, zup_e (by omega), fun a h0 h1 => ?_, fun a h0 h1 => ?_, fun x y h1 h3 h4 => ?_⟩
  · simp (disch := first | assumption | exact zrm0 | exact zrm1 _ | exact zrm2 _ _ | exact zrm3 _ _ _ | exact zrm4 _ _ _ _ | omega) only [m298, ↓k_dp, ↓k_dn, k_dp, k_dn, k_dT, k_dF, k_ip, k_in, if_true, if_false, ne_eq, not_true_eq_false, not_false_eq_true, Int.reduceAdd, zup_a, zup_e, zup_j, z32_id, k_al0, k_ic, k_pI, k_il1, k_s3r, k_ifeq, k_gR, k_bldZ, k_bldB, k_bldD, k_bldT, k_ifne, k_rz, k_is2, k_il2, k_icge, k_imul, k_iadd, k_ild, k_ildS, k_ildW, k_ist, k_inc2, k_goto, k_lld, k_lst, zb0_some, zb1_some, e298_0, e298_1, e298_2, e298_5, e298_6, e298_7, e298_8, e298_11, e298_14, e298_15, e298_18, e298_19, e298_20, e298_23, e298_24, e298_25, e298_26, e298_28, e298_31, e298_34, e298_35, e298_38, e298_39, e298_40, e298_43, e298_46, e298_47, e298_48, e298_49, e298_50, e298_51, e298_52, e298_55, e298_58, e298_59, e298_60, e298_61, e298_63, e298_66, e298_67, e298_70, e298_71, e298_72, e298_75, e298_77, e298_78, e298_79, e298_80, e298_81, e298_82, e298_83, e298_86, e298_89, e298_90, e298_91, e298_94, e298_95, r_isIn, if_pos c1]
    rw [a1, b1]
  · rw [zup_a (by omega), b2 _ _ (by omega), a3 a h0 h1, zup_a (by omega)]
  · rw [zup_a (by omega), b3 a h0 h1, a2 _ _ (by omega), zup_a (by omega)]
  · unfold zup at a2 ⊢
    rw [if_neg (by omega), b2 x y h4, a2 x y h3, if_neg (by omega)]
