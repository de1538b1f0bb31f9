/-! the crier: the reference, and the pair -/
theorem r_crier (d : Nat) (z0 q y b : Int) (R : List Int) (A : zM) (hR : okL (b :: R)) (g2 : 0 ≤ A 199 2 ∧ A 199 2 ≤ 5) (c : 0 ≤ q ∧ q < A 199 2) (hk : A 204 (15 + q) = V27 (b :: R)) (hr : 0 ≤ A 199 (111 + q) ∧ A 199 (111 + q) ≤ 2) (hm : A 199 (111 + q) ≠ 0 → 0 ≤ A 199 (121 + q) ∧ A 199 (121 + q) ≤ 1000) : ∃ (n : Int) (F : Int → Int) (B : zM), zEm true (d + 12) 267 [(30, 197, z0), (0, q, y)] A = some ((0, n, 0), B) ∧ rT (zup (zup A 197 0 0) 197 39 0) B n F ∧ (A 199 (111 + q) = 0 → n = (b :: R).length + 8 ∧ F = fO (b :: R)) ∧ (A 199 (111 + q) = 1 → n = (b :: R).length + 12 + dLen (A 199 (121 + q)) ∧ F = fD (b :: R) 5 12 (A 199 (121 + q))) ∧ (A 199 (111 + q) = 2 → n = (b :: R).length + 9 + dLen (A 199 (121 + q)) ∧ F = fD (b :: R) 6 9 (A 199 (121 + q))) := by
  have hl := hR.1
  have hlc : ((b :: R).length : Int) = R.length + 1 := by simp only [List.length_cons]; omega
  have hq := r_isQuestion (d + 9) z0 q 0 (zup A 197 0 0) (by rw [zup_a (by omega)]; omega) (by rw [zup_a (by omega)]; omega)
  rw [zup_a (by omega), if_pos c] at hq
  obtain ⟨T, hT⟩ : ∃ T, T = zup (zup A 197 0 0) 197 39 0 := ⟨_, rfl⟩
  have hT0 : ∀ x y, x ≠ 197 → T x y = A x y := fun x y h => by rw [hT, zup_a h, zup_a h]
  have t39 : T 197 39 = 0 := by rw [hT]; exact zup_e (by omega)
  obtain ⟨N1, a1, a2⟩ := r_writeWord z0 R b (d + 11) 0 T hR (by simp only [List.length_cons] at hl; omega) (by omega) (by simp only [List.length_cons] at hl; omega)
  rw [← hlc] at a2
  rw [← hk] at a1
  have a2' := a2
  obtain ⟨p1, -, p3⟩ := a2'
  have n1 : ∀ y, N1 199 y = A 199 y := fun y => by rw [p3 _ _ (by omega) (by omega), hT0 _ _ (by omega)]
  have hc := n1 (111 + q)
  rw [← hT]
  by_cases c0 : A 199 (111 + q) = 0
  · obtain ⟨N2, b1, b2⟩ := r_next_is (d + 11) z0 0 N1 (by omega) (by omega) (by omega)
    have k2 := rT_comp (by omega) (by omega) a2 b2
    obtain ⟨N3, c1, c2⟩ := r_next_open (d + 11) z0 0 N2 (by omega) (by rw [k2.1]; omega) (by rw [k2.1]; omega)
    have k3 := rT_comp (by omega) (by omega) k2 c2
    have hn : N3 197 39 = (b :: R).length + 8 := by rw [k3.1]; omega
    refine ⟨(b :: R).length + 8, fO (b :: R), N3, ?_, ?_, fun _ => ⟨rfl, rfl⟩, fun h => by omega, fun h => by omega⟩
    · generalize (b :: R).length = ln at *
      simp (disch := first | assumption | exact zrm0 | exact zrm1 _ | exact zrm2 _ _ | exact zrm3 _ _ _ | exact zrm4 _ _ _ _ | omega) only [m267, ↓k_dp, ↓k_dn, k_dp, k_dn, k_dT, k_dF, k_ip, k_in, if_true, if_false, ne_eq, not_true_eq_false, not_false_eq_true, Int.reduceAdd, zup_a, zup_e, zup_j, z32_id, k_al0, k_ic, k_pI, k_il1, k_v2r, k_ifne, k_ri, k_gR, k_iadd, k_lld, k_v2, k_ild, k_ildS, k_ildW, k_s8r, k_gI, k_icne, k_goto, zb0_some, zb1_some, e267_0, e267_1, e267_2, e267_5, e267_6, e267_7, e267_10, e267_13, e267_14, e267_15, e267_16, e267_17, e267_20, e267_21, e267_22, e267_25, e267_27, e267_28, e267_29, e267_30, e267_33, e267_34, e267_37, e267_39, e267_40, e267_41, e267_42, e267_45, e267_46, e267_48, e267_50, e267_51, e267_52, e267_53, e267_54, e267_55, e267_56, e267_59, e267_62, e267_63, e267_65, e267_67, e267_69, e267_71, e267_72, e267_73, e267_74, e267_75, e267_78, e267_81, e267_82, e267_85, e267_86, e267_87, e267_88, e267_91, e267_93, e267_94, e267_95, e267_96, e267_97, e267_100, e267_102, e267_104, e267_106, e267_108, e267_110, e267_112, e267_114, e267_115, e267_118, e267_121, e267_123, e267_125, e267_127, e267_129, e267_130, e267_131, e267_132, e267_133, e267_136, e267_139, e267_140, e267_142, e267_144, e267_145, e267_146, e267_147, e267_148, e267_149, e267_150, e267_153, e267_156, e267_157, e267_159, e267_162, e267_163, e267_164, e267_167, e267_169, e267_170, e267_171, e267_172, e267_175, e267_176, e267_179, hq, ← hT, hT0, a1, hc, c0, r_spelt_is, r_spelt_open, b1, c1, hn]
    · have e : ((b :: R).length : Int) + 3 + 5 = (b :: R).length + 8 := by omega
      rw [e] at k3
      refine rT_congr k3 (fun i i0 i1 => ?_)
      unfold fO
      by_cases d1 : i < ((b :: R).length : Int)
      · rw [if_pos (by omega), if_pos d1, if_pos d1]
      · rw [if_neg d1]
        by_cases d2 : i < ((b :: R).length : Int) + 3
        · rw [if_pos d2, if_neg d1]; congr 1; omega
        · rw [if_neg d2, if_neg d1]; congr 1; omega
  · obtain ⟨h44, h44'⟩ := hm c0
    have hd := dLen_bd (A 199 (121 + q))
    by_cases c1 : A 199 (111 + q) = 1
    · obtain ⟨N2, b1, b2⟩ := r_next_carried (d + 11) z0 0 N1 (by omega) (by omega) (by omega)
      have k2 := rT_comp (by omega) (by omega) a2 b2
      obtain ⟨N3, e1, e2⟩ := r_next_by5 (d + 11) z0 0 N2 (by omega) (by rw [k2.1]; omega) (by rw [k2.1]; omega)
      have k3 := rT_comp (by omega) (by omega) k2 e2
      obtain ⟨N4, f1, f2⟩ := r_write (d + 10) z0 32 0 N3 (by rw [k3.1]; omega) (by rw [k3.1]; omega)
      have k4 := rT_comp (by omega) (by omega) k3 f2
      have m121 : N4 199 (121 + q) = A 199 (121 + q) := by rw [k4.2.2 _ _ (by omega) (by omega), hT0 _ _ (by omega)]
      obtain ⟨N5, g1, g3⟩ := r_writeNumber (d + 6) z0 (A 199 (121 + q)) 0 N4 h44 h44' (by rw [k4.1]; omega) (by rw [k4.1]; omega)
      have k5 := rT_comp (by omega) (by omega) k4 g3
      have hn : N5 197 39 = (b :: R).length + 12 + dLen (A 199 (121 + q)) := by rw [k5.1]; omega
      refine ⟨(b :: R).length + 12 + dLen (A 199 (121 + q)), fD (b :: R) 5 12 (A 199 (121 + q)), N5, ?_, ?_, fun h => by omega, fun _ => ⟨rfl, rfl⟩, fun h => by omega⟩
      · generalize (b :: R).length = ln at *
        generalize dLen (A 199 (121 + q)) = dl at *
        simp (disch := first | assumption | exact zrm0 | exact zrm1 _ | exact zrm2 _ _ | exact zrm3 _ _ _ | exact zrm4 _ _ _ _ | omega) only [m267, ↓k_dp, ↓k_dn, k_dp, k_dn, k_dT, k_dF, k_ip, k_in, if_true, if_false, ne_eq, not_true_eq_false, not_false_eq_true, Int.reduceAdd, zup_a, zup_e, zup_j, z32_id, k_al0, k_ic, k_pI, k_il1, k_v2r, k_ifne, k_ri, k_gR, k_iadd, k_lld, k_v2, k_ild, k_ildS, k_ildW, k_s8r, k_gI, k_icne, k_goto, zb0_some, zb1_some, e267_0, e267_1, e267_2, e267_5, e267_6, e267_7, e267_10, e267_13, e267_14, e267_15, e267_16, e267_17, e267_20, e267_21, e267_22, e267_25, e267_27, e267_28, e267_29, e267_30, e267_33, e267_34, e267_37, e267_39, e267_40, e267_41, e267_42, e267_45, e267_46, e267_48, e267_50, e267_51, e267_52, e267_53, e267_54, e267_55, e267_56, e267_59, e267_62, e267_63, e267_65, e267_67, e267_69, e267_71, e267_72, e267_73, e267_74, e267_75, e267_78, e267_81, e267_82, e267_85, e267_86, e267_87, e267_88, e267_91, e267_93, e267_94, e267_95, e267_96, e267_97, e267_100, e267_102, e267_104, e267_106, e267_108, e267_110, e267_112, e267_114, e267_115, e267_118, e267_121, e267_123, e267_125, e267_127, e267_129, e267_130, e267_131, e267_132, e267_133, e267_136, e267_139, e267_140, e267_142, e267_144, e267_145, e267_146, e267_147, e267_148, e267_149, e267_150, e267_153, e267_156, e267_157, e267_159, e267_162, e267_163, e267_164, e267_167, e267_169, e267_170, e267_171, e267_172, e267_175, e267_176, e267_179, hq, ← hT, hT0, a1, hc, c1, r_spelt_carried, r_spelt_by, b1, e1, f1, m121, g1, hn]
      · have e : ((b :: R).length : Int) + 8 + 3 + 1 = (b :: R).length + 12 := by omega
        rw [e] at k5
        refine rT_congr k5 (fun i i0 i1 => ?_)
        unfold fD
        by_cases d0 : i < ((b :: R).length : Int) + 12
        · rw [if_pos d0, if_pos d0]
          by_cases d1 : i < ((b :: R).length : Int)
          · rw [if_pos (by omega), if_pos (by omega), if_pos d1, if_pos d1]
          · rw [if_neg d1]
            by_cases d3 : i < ((b :: R).length : Int) + 8 + 3
            · rw [if_pos d3]
              by_cases d2 : i < ((b :: R).length : Int) + 8
              · rw [if_pos d2, if_neg d1]; congr 1; omega
              · rw [if_neg d2, if_neg d1]; congr 1; omega
            · rw [if_neg d3, if_neg d1, show i - ((b :: R).length : Int) = 11 by omega]; rfl
        · rw [if_neg d0, if_neg d0]
    · have c2 : A 199 (111 + q) = 2 := by omega
      obtain ⟨N2, b1, b2⟩ := r_next_lost (d + 11) z0 0 N1 (by omega) (by omega) (by omega)
      have k2 := rT_comp (by omega) (by omega) a2 b2
      obtain ⟨N3, e1, e2⟩ := r_next_by6 (d + 11) z0 0 N2 (by omega) (by rw [k2.1]; omega) (by rw [k2.1]; omega)
      have k3 := rT_comp (by omega) (by omega) k2 e2
      obtain ⟨N4, f1, f2⟩ := r_write (d + 10) z0 32 0 N3 (by rw [k3.1]; omega) (by rw [k3.1]; omega)
      have k4 := rT_comp (by omega) (by omega) k3 f2
      have m121 : N4 199 (121 + q) = A 199 (121 + q) := by rw [k4.2.2 _ _ (by omega) (by omega), hT0 _ _ (by omega)]
      obtain ⟨N5, g1, g3⟩ := r_writeNumber (d + 6) z0 (A 199 (121 + q)) 0 N4 h44 h44' (by rw [k4.1]; omega) (by rw [k4.1]; omega)
      have k5 := rT_comp (by omega) (by omega) k4 g3
      have hn : N5 197 39 = (b :: R).length + 9 + dLen (A 199 (121 + q)) := by rw [k5.1]; omega
      refine ⟨(b :: R).length + 9 + dLen (A 199 (121 + q)), fD (b :: R) 6 9 (A 199 (121 + q)), N5, ?_, ?_, fun h => by omega, fun h => by omega, fun _ => ⟨rfl, rfl⟩⟩
      · generalize (b :: R).length = ln at *
        generalize dLen (A 199 (121 + q)) = dl at *
        simp (disch := first | assumption | exact zrm0 | exact zrm1 _ | exact zrm2 _ _ | exact zrm3 _ _ _ | exact zrm4 _ _ _ _ | omega) only [m267, ↓k_dp, ↓k_dn, k_dp, k_dn, k_dT, k_dF, k_ip, k_in, if_true, if_false, ne_eq, not_true_eq_false, not_false_eq_true, Int.reduceAdd, zup_a, zup_e, zup_j, z32_id, k_al0, k_ic, k_pI, k_il1, k_v2r, k_ifne, k_ri, k_gR, k_iadd, k_lld, k_v2, k_ild, k_ildS, k_ildW, k_s8r, k_gI, k_icne, k_goto, zb0_some, zb1_some, e267_0, e267_1, e267_2, e267_5, e267_6, e267_7, e267_10, e267_13, e267_14, e267_15, e267_16, e267_17, e267_20, e267_21, e267_22, e267_25, e267_27, e267_28, e267_29, e267_30, e267_33, e267_34, e267_37, e267_39, e267_40, e267_41, e267_42, e267_45, e267_46, e267_48, e267_50, e267_51, e267_52, e267_53, e267_54, e267_55, e267_56, e267_59, e267_62, e267_63, e267_65, e267_67, e267_69, e267_71, e267_72, e267_73, e267_74, e267_75, e267_78, e267_81, e267_82, e267_85, e267_86, e267_87, e267_88, e267_91, e267_93, e267_94, e267_95, e267_96, e267_97, e267_100, e267_102, e267_104, e267_106, e267_108, e267_110, e267_112, e267_114, e267_115, e267_118, e267_121, e267_123, e267_125, e267_127, e267_129, e267_130, e267_131, e267_132, e267_133, e267_136, e267_139, e267_140, e267_142, e267_144, e267_145, e267_146, e267_147, e267_148, e267_149, e267_150, e267_153, e267_156, e267_157, e267_159, e267_162, e267_163, e267_164, e267_167, e267_169, e267_170, e267_171, e267_172, e267_175, e267_176, e267_179, hq, ← hT, hT0, a1, hc, c2, r_spelt_lost, r_spelt_by, b1, e1, f1, m121, g1, hn]
      · have e : ((b :: R).length : Int) + 5 + 3 + 1 = (b :: R).length + 9 := by omega
        rw [e] at k5
        refine rT_congr k5 (fun i i0 i1 => ?_)
        unfold fD
        by_cases d0 : i < ((b :: R).length : Int) + 9
        · rw [if_pos d0, if_pos d0]
          by_cases d1 : i < ((b :: R).length : Int)
          · rw [if_pos (by omega), if_pos (by omega), if_pos d1, if_pos d1]
          · rw [if_neg d1]
            by_cases d3 : i < ((b :: R).length : Int) + 5 + 3
            · rw [if_pos d3]
              by_cases d2 : i < ((b :: R).length : Int) + 5
              · rw [if_pos d2, if_neg d1]; congr 1; omega
              · rw [if_neg d2, if_neg d1]; congr 1; omega
            · rw [if_neg d3, if_neg d1, show i - ((b :: R).length : Int) = 8 by omega]; rfl
        · rw [if_neg d0, if_neg d0]
