/-! hand and question as the law calls them, on either kind of valley -/
theorem pairV_handU (d : Nat) (x0 z0 h y1 z1 w y2 z2 : Int) (M : zM) (hC : relC M) (hV : emV M) : zPairU M (zEm true (d + 8) 5 [(29, 0, x0), (0, h, y1), (0, w, y2)] M) (fun M1 => zEm true (d + 8) 215 [(30, 197, z0), (0, h, z1), (0, w, z2)] M1) := by
  obtain ⟨n0, n1, n2, n3, n4, n5⟩ := relC_n hC
  obtain ⟨⟨g6, g6'⟩, ⟨g1, g2⟩, ⟨g3, g4⟩, -⟩ := okG_M hC.2
  have v7 := hV.2.1
  have m1 : zthr M 199 1 = M 199 1 := zthr_o (by omega)
  have m2 : 0 ≤ zthr M 199 1 := by rw [m1, n1]; exact g1
  have m3 : zthr M 199 1 ≤ 10 := by rw [m1, n1]; exact g2
  have c1 : ¬ (0 ≤ h ∧ h < M 30 7) := by omega
  exact Or.inr ⟨by simp (disch := first | assumption | exact zrm0 | exact zrm1 _ | exact zrm2 _ _ | exact zrm3 _ _ _ | exact zrm4 _ _ _ _ | omega) only [m5, ↓k_dp, ↓k_dn, k_dp, k_dn, k_dT, k_dF, k_ip, k_in, if_true, if_false, ne_eq, not_true_eq_false, not_false_eq_true, Int.reduceAdd, zup_a, zup_e, zup_j, z32_id, k_al0, k_il1, k_v2r, k_ifne, k_thr, k_il2, k_gR, k_ild, k_ildS, k_ildW, k_ri, k_ifeq, k_ic, k_goto, k_v5r, zb0_some, zb1_some, e5_0, e5_1, e5_2, e5_5, e5_8, e5_18, e5_19, e5_60, e5_61, e5_64, e5_67, e5_68, e5_69, e5_70, e5_71, e5_74, e5_77, e5_78, e5_79, e5_80, e5_81, e5_84, e5_87, e5_88, e5_89, e5_90, e5_91, e5_94, e5_95, e5_98, e5_101, e5_102, e5_105, e5_106, e5_107, e5_108, e5_111, e5_112, e5_115, e5_118, e5_119, e5_122, e5_123, e5_124, e5_125, e5_128, e5_129, e5_132, e5_133, e5_134, e5_135, e5_138, e5_139, e5_140, e5_143, e5_144, e5_147, e5_148, e5_149, e5_150, e5_153, e5_154, c_isHand, if_neg c1], by simp (disch := first | assumption | exact zrm0 | exact zrm1 _ | exact zrm2 _ _ | exact zrm3 _ _ _ | exact zrm4 _ _ _ _ | omega) only [m215, ↓k_dp, ↓k_dn, k_dp, k_dn, k_dT, k_dF, k_ip, k_in, if_true, if_false, ne_eq, not_true_eq_false, not_false_eq_true, Int.reduceAdd, zup_a, zup_e, zup_j, z32_id, k_al0, k_ic, k_pI, k_il1, k_v2r, k_ifne, k_v1r, k_ri, k_il2, k_gR, k_iadd, k_ild, k_ildS, k_ildW, k_s2r, k_ifeq, k_goto, k_v3r, zb0_some, zb1_some, e215_0, e215_1, e215_2, e215_5, e215_6, e215_7, e215_10, e215_13, e215_14, e215_17, e215_18, e215_19, e215_60, e215_61, e215_64, e215_66, e215_67, e215_68, e215_69, e215_70, e215_71, e215_74, e215_76, e215_77, e215_78, e215_79, e215_80, e215_81, e215_84, e215_86, e215_87, e215_88, e215_89, e215_90, e215_91, e215_94, e215_96, e215_97, e215_98, e215_101, e215_104, e215_105, e215_108, e215_109, e215_110, e215_111, e215_114, e215_116, e215_117, e215_118, e215_121, e215_124, e215_125, e215_128, e215_129, e215_130, e215_131, e215_132, e215_133, e215_136, e215_137, e215_138, e215_139, e215_140, e215_143, e215_144, e215_145, e215_148, rT_isHand, m1, n1, if_neg c1, r_refuse]⟩
theorem pairV_questionU (d : Nat) (x0 z0 h y1 z1 w y2 z2 : Int) (M : zM) (hC : relC M) (hV : emV M) : zPairU M (zEm true (d + 8) 7 [(29, 0, x0), (0, h, y1), (0, w, y2)] M) (fun M1 => zEm true (d + 8) 218 [(30, 197, z0), (0, h, z1), (0, w, z2)] M1) := by
  obtain ⟨n0, n1, n2, n3, n4, n5⟩ := relC_n hC
  obtain ⟨⟨g6, g6'⟩, ⟨g1, g2⟩, ⟨g3, g4⟩, -⟩ := okG_M hC.2
  have v8 := hV.2.2
  have m1 : zthr M 199 2 = M 199 2 := zthr_o (by omega)
  have m2 : 0 ≤ zthr M 199 2 := by rw [m1, n2]; exact g3
  have m3 : zthr M 199 2 ≤ 5 := by rw [m1, n2]; exact g4
  have c1 : ¬ (0 ≤ h ∧ h < M 30 8) := by omega
  exact Or.inr ⟨by simp (disch := first | assumption | exact zrm0 | exact zrm1 _ | exact zrm2 _ _ | exact zrm3 _ _ _ | exact zrm4 _ _ _ _ | omega) only [m7, ↓k_dp, ↓k_dn, k_dp, k_dn, k_dT, k_dF, k_ip, k_in, if_true, if_false, ne_eq, not_true_eq_false, not_false_eq_true, Int.reduceAdd, zup_a, zup_e, zup_j, z32_id, k_al0, k_il1, k_v2r, k_ifne, k_thr, k_il2, k_gR, k_ild, k_ildS, k_ildW, k_ri, zb0_some, zb1_some, e7_0, e7_1, e7_2, e7_5, e7_8, e7_18, e7_19, e7_52, e7_53, e7_56, e7_59, e7_60, e7_61, e7_62, e7_63, e7_66, e7_69, e7_70, e7_71, e7_72, e7_73, e7_76, e7_79, e7_80, e7_81, e7_82, e7_83, e7_86, e7_89, e7_90, e7_91, e7_92, e7_93, e7_96, e7_99, e7_100, e7_101, e7_102, c_isQuestion, if_neg c1], by simp (disch := first | assumption | exact zrm0 | exact zrm1 _ | exact zrm2 _ _ | exact zrm3 _ _ _ | exact zrm4 _ _ _ _ | omega) only [m218, ↓k_dp, ↓k_dn, k_dp, k_dn, k_dT, k_dF, k_ip, k_in, if_true, if_false, ne_eq, not_true_eq_false, not_false_eq_true, Int.reduceAdd, zup_a, zup_e, zup_j, z32_id, k_al0, k_ic, k_pI, k_il1, k_v2r, k_ifne, k_v1r, k_ri, k_il2, k_gR, k_iadd, k_ild, k_ildS, k_ildW, zb0_some, zb1_some, e218_0, e218_1, e218_2, e218_5, e218_6, e218_7, e218_10, e218_13, e218_14, e218_17, e218_18, e218_19, e218_52, e218_53, e218_56, e218_58, e218_59, e218_60, e218_61, e218_62, e218_63, e218_66, e218_68, e218_69, e218_70, e218_71, e218_72, e218_73, e218_76, e218_78, e218_79, e218_80, e218_81, e218_82, e218_83, e218_86, e218_88, e218_89, e218_90, e218_91, e218_92, e218_93, e218_96, e218_98, e218_99, e218_100, e218_101, e218_102, e218_103, e218_106, rT_isQuestion, m1, n2, if_neg c1, r_refuse]⟩
theorem st_handU (a b : Int) {M : zM} (h : Rel M) : zPairU M (zEm true 119 5 [(29, 0, 0), (0, a, 0), (0, b, 0)] M) (fun M1 => zEm true 119 215 [(30, 197, 0), (0, a, 0), (0, b, 0)] M1) := by
  obtain ⟨hA, hZ, hH, hI, hK⟩ := h
  rcases hZ with ⟨hX, hF⟩ | ⟨hX, hF⟩
  · obtain ⟨hC, hE, hD, hG⟩ := relX_to hX
    exact pair_handU 111 0 0 a 0 0 b 0 0 M hC hE hF
  · obtain ⟨hC, hV, hE, hD, hG⟩ := relXs_to hX
    exact pairV_handU 111 0 0 a 0 0 b 0 0 M hC hV
theorem st_questionU (a b : Int) {M : zM} (h : Rel M) : zPairU M (zEm true 119 7 [(29, 0, 0), (0, a, 0), (0, b, 0)] M) (fun M1 => zEm true 119 218 [(30, 197, 0), (0, a, 0), (0, b, 0)] M1) := by
  obtain ⟨hA, hZ, hH, hI, hK⟩ := h
  rcases hZ with ⟨hX, hF⟩ | ⟨hX, hF⟩
  · obtain ⟨hC, hE, hD, hG⟩ := relX_to hX
    exact pair_questionU 111 0 0 a 0 0 b 0 0 M hC hE hF
  · obtain ⟨hC, hV, hE, hD, hG⟩ := relXs_to hX
    exact pairV_questionU 111 0 0 a 0 0 b 0 0 M hC hV
