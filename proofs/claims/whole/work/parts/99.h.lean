/-! what was heard: both -/
def zPairHA (M : zM) (cc : zO) (rc : zM → zO) : Prop := ∃ v M1 M2, cc = some ((0, v, 0), M1) ∧ rc M1 = some ((0, v, 0), M2) ∧ relH M2 ∧ relA M2 ∧ ∀ x y, ¬ zFH x y → ¬ zFT x y → M2 x y = M x y
theorem r_heard (d : Nat) (z0 : Int) (M : zM) (hS : okS (zrS M)) (hG : okG (zrG M)) (t0 : 0 ≤ M 198 0) (t1 : M 198 0 ≤ 255) : (M 197 2 ≠ 2 → zEm true (d + 8) 260 [(30, 197, z0)] M = some ((0, -1, 0), zup (zup M 197 0 0) 197 2 0)) ∧ (M 197 2 = 2 → ∀ w, w = zit (hR (zrS M) (zrG M) (M 198 0) (M 198 1)) (zshl 1 (M 199 1)).toNat 0 (0, zshl 1 (M 199 1) - 1, zit (fun h N => zup N 214 h 0) 10 0 (zup (zup M 197 0 0) 197 2 0)) → (0 ≤ w.1 ∧ w.1 ≤ 2000) → (∀ h, 0 ≤ h → h < 10 → 0 ≤ w.2.2 214 h ∧ w.2.2 214 h ≤ 2000) → zEm true (d + 8) 260 [(30, 197, z0)] M = some ((0, w.1, 0), if w.1 ≤ 0 then w.2.2 else zup (zup w.2.2 197 36 w.2.1) 197 37 (zit (eF (fun h => w.2.2 214 h) w.1) (M 199 1).toNat 0 (-1))) ∧ ∀ x y, x ≠ 214 → ¬ (x = 197 ∧ (y = 0 ∨ y = 2)) → w.2.2 x y = M x y) := by
  obtain ⟨⟨g6, g6'⟩, ⟨g1, g2⟩, -⟩ := okR_M hG
  obtain ⟨p1, p2, p3⟩ := pw_ok g1 g2
  refine ⟨fun c => ?_, fun c w hw hn ht => ?_⟩
  · simp (disch := first | assumption | exact zrm0 | exact zrm1 _ | exact zrm2 _ _ | exact zrm3 _ _ _ | exact zrm4 _ _ _ _ | omega) only [m260, ↓k_dp, ↓k_dn, k_dp, k_dn, k_dT, k_dF, k_ip, k_in, if_true, if_false, ne_eq, not_true_eq_false, not_false_eq_true, Int.reduceAdd, zup_a, zup_e, zup_j, z32_id, k_al0, k_ic, k_pI, k_v1r, k_iceq, k_ri, k_is1, k_gR, k_ild, k_ildS, k_ildW, k_ishl, k_isub, k_is2, k_is3, k_il3, k_icge, k_ist, k_inc3, k_goto, k_v3r, k_s1r, k_icle, k_inc1, k_il2, k_iand, k_is4, k_il4, k_s2r, k_ifeq, k_dup2, k_iadd, k_inc4, k_il1, k_ifne, k_gI, k_imul, zb0_some, zb1_some, e260_0, e260_1, e260_2, e260_5, e260_6, e260_9, e260_10, e260_13, e260_14, e260_15, e260_16, e260_17, e260_18, e260_19, e260_22, e260_23, e260_24, e260_25, e260_26, e260_27, e260_28, e260_29, e260_30, e260_31, e260_33, e260_36, e260_37, e260_40, e260_41, e260_42, e260_43, e260_46, e260_49, e260_50, e260_51, e260_52, e260_53, e260_54, e260_57, e260_58, e260_59, e260_60, e260_63, e260_64, e260_65, e260_66, e260_69, e260_70, e260_73, e260_74, e260_75, e260_76, e260_79, e260_80, e260_83, e260_84, e260_85, e260_88, e260_91, e260_94, e260_95, e260_96, e260_97, e260_98, e260_99, e260_101, e260_103, e260_105, e260_108, e260_109, e260_111, e260_114, e260_117, e260_118, e260_121, e260_123, e260_124, e260_125, e260_126, e260_127, e260_128, e260_131, e260_134, e260_137, e260_140, e260_141, e260_144, e260_145, e260_146, e260_147, e260_148, e260_151, e260_152, e260_153, e260_156, e260_157, e260_158, e260_159, e260_160, e260_163, e260_164, e260_165, e260_168, e260_169, e260_172, e260_173, e260_176, e260_177, e260_178, e260_181, e260_182, e260_183, e260_184, e260_185, e260_186, e260_189, e260_190, e260_191, e260_194, e260_195, e260_198, e260_199, e260_200, e260_201, e260_202, e260_205, e260_208, e260_209, e260_210, e260_213, e260_216, e260_219, e260_220, r_take]
  · obtain ⟨T, hT⟩ : ∃ T, T = zup (zup M 197 0 0) 197 2 0 := ⟨_, rfl⟩
    have hTo : ∀ x y, ¬ (x = 197 ∧ (y = 0 ∨ y = 2)) → T x y = M x y := fun x y h => by
      rw [hT]
      unfold zup
      rw [if_neg (by omega), if_neg (by omega)]
    rw [← hT] at hw
    obtain ⟨Z, hZ⟩ : ∃ Z, Z = zit (fun h N => zup N 214 h 0) 10 0 T := ⟨_, rfl⟩
    have hl := zfor (α := zM) (ph := true) (d := d + 7) (j := 260) (pc := 30) (fun h N => zup N 214 h 0) (fun h N => 0 ≤ h) (fun h _ => [(30, 197, z0), (0, 0, 0), (0, zshl 1 (M 199 1) - 1, 0), (0, h, 0), (3, 0, 0)]) (fun N => N) 10
      (fun k b hk hp => ⟨by
        rw [e260_30]
        simp (disch := first | assumption | exact zrm0 | exact zrm1 _ | exact zrm2 _ _ | exact zrm3 _ _ _ | exact zrm4 _ _ _ _ | omega) only [m260, ↓k_dp, ↓k_dn, k_dp, k_dn, k_dT, k_dF, k_ip, k_in, if_true, if_false, ne_eq, not_true_eq_false, not_false_eq_true, Int.reduceAdd, zup_a, zup_e, zup_j, z32_id, k_al0, k_ic, k_pI, k_v1r, k_iceq, k_ri, k_is1, k_gR, k_ild, k_ildS, k_ildW, k_ishl, k_isub, k_is2, k_is3, k_il3, k_icge, k_ist, k_inc3, k_goto, k_v3r, k_s1r, k_icle, k_inc1, k_il2, k_iand, k_is4, k_il4, k_s2r, k_ifeq, k_dup2, k_iadd, k_inc4, k_il1, k_ifne, k_gI, k_imul, zb0_some, zb1_some, e260_0, e260_1, e260_2, e260_5, e260_6, e260_9, e260_10, e260_13, e260_14, e260_15, e260_16, e260_17, e260_18, e260_19, e260_22, e260_23, e260_24, e260_25, e260_26, e260_27, e260_28, e260_29, e260_31, e260_33, e260_36, e260_37, e260_40, e260_41, e260_42, e260_43, e260_46, e260_49, e260_50, e260_51, e260_52, e260_53, e260_54, e260_57, e260_58, e260_59, e260_60, e260_63, e260_64, e260_65, e260_66, e260_69, e260_70, e260_73, e260_74, e260_75, e260_76, e260_79, e260_80, e260_83, e260_84, e260_85, e260_88, e260_91, e260_94, e260_95, e260_96, e260_97, e260_98, e260_99, e260_101, e260_103, e260_105, e260_108, e260_109, e260_111, e260_114, e260_117, e260_118, e260_121, e260_123, e260_124, e260_125, e260_126, e260_127, e260_128, e260_131, e260_134, e260_137, e260_140, e260_141, e260_144, e260_145, e260_146, e260_147, e260_148, e260_151, e260_152, e260_153, e260_156, e260_157, e260_158, e260_159, e260_160, e260_163, e260_164, e260_165, e260_168, e260_169, e260_172, e260_173, e260_176, e260_177, e260_178, e260_181, e260_182, e260_183, e260_184, e260_185, e260_186, e260_189, e260_190, e260_191, e260_194, e260_195, e260_198, e260_199, e260_200, e260_201, e260_202, e260_205, e260_208, e260_209, e260_210, e260_213, e260_216, e260_219, e260_220], by omega⟩) 10 0 T (by omega) (Int.le_refl _)
    rw [← hZ] at hl hw
    obtain ⟨h1, -⟩ := hl
    have hZo : ∀ x y, x ≠ 214 → Z x y = T x y := fun x y h => by
      rw [hZ, zit_pt (fun _ _ => 0) (by omega), if_neg (fun z => h z.1)]
    have hZM : ∀ x y, x ≠ 214 → ¬ (x = 197 ∧ (y = 0 ∨ y = 2)) → Z x y = M x y := fun x y h h2 => by rw [hZo x y h, hTo x y h2]
    have eG : zrG Z = zrG M := zrG_eq (fun y _ _ => hZM 199 y (by omega) (by omega))
    have eS : zrS Z = zrS M := zrS_eq (fun y _ _ _ => hZM 199 y (by omega) (by omega))
    have e80 : Z 198 0 = M 198 0 := hZM _ _ (by omega) (by omega)
    have e81 : Z 198 1 = M 198 1 := hZM _ _ (by omega) (by omega)
    have e1 : Z 199 1 = M 199 1 := hZM _ _ (by omega) (by omega)
    obtain ⟨l4', w', hw', k1, k2⟩ := r_heardLoop (d + 1) z0 (3, 0, 0) Z (by rw [eS]; exact hS) (by rw [eG]; exact hG) (zshl 1 (M 199 1) - 1) (by rw [e80]; exact t0) (by rw [e80]; exact t1)
    rw [eG, eS, e80, e81, e1, ← hw] at hw'
    subst hw'
    rw [e1] at k1
    have kF : ∀ x y, x ≠ 214 → ¬ (x = 197 ∧ (y = 0 ∨ y = 2)) → w'.2.2 x y = M x y := fun x y h3 h4 => by rw [k2 x y h3, hZM x y h3 h4]
    refine ⟨?_, kF⟩
    have e30 : w'.2.2 199 1 = M 199 1 := kF _ _ (by omega) (by omega)
    have eT1 : T 199 1 = M 199 1 := hTo _ _ (by omega)
    simp (disch := first | assumption | exact zrm0 | exact zrm1 _ | exact zrm2 _ _ | exact zrm3 _ _ _ | exact zrm4 _ _ _ _ | omega) only [m260, ↓k_dp, ↓k_dn, k_dp, k_dn, k_dT, k_dF, k_ip, k_in, if_true, if_false, ne_eq, not_true_eq_false, not_false_eq_true, Int.reduceAdd, zup_a, zup_e, zup_j, z32_id, k_al0, k_ic, k_pI, k_v1r, k_iceq, k_ri, k_is1, k_gR, k_ild, k_ildS, k_ildW, k_ishl, k_isub, k_is2, k_is3, k_il3, k_icge, k_ist, k_inc3, k_goto, k_v3r, k_s1r, k_icle, k_inc1, k_il2, k_iand, k_is4, k_il4, k_s2r, k_ifeq, k_dup2, k_iadd, k_inc4, k_il1, k_ifne, k_gI, k_imul, zb0_some, zb1_some, e260_0, e260_1, e260_2, e260_5, e260_6, e260_9, e260_10, e260_13, e260_14, e260_15, e260_16, e260_17, e260_18, e260_19, e260_22, e260_23, e260_24, e260_25, e260_26, e260_27, e260_28, e260_29, e260_31, e260_33, e260_36, e260_37, e260_40, e260_41, e260_42, e260_43, e260_46, e260_49, e260_50, e260_51, e260_52, e260_53, e260_54, e260_57, e260_58, e260_59, e260_60, e260_63, e260_64, e260_65, e260_66, e260_69, e260_70, e260_73, e260_74, e260_75, e260_76, e260_79, e260_80, e260_83, e260_84, e260_85, e260_88, e260_91, e260_94, e260_95, e260_96, e260_97, e260_98, e260_99, e260_101, e260_103, e260_105, e260_108, e260_109, e260_111, e260_114, e260_117, e260_118, e260_121, e260_123, e260_124, e260_125, e260_126, e260_127, e260_128, e260_131, e260_134, e260_137, e260_140, e260_141, e260_144, e260_145, e260_146, e260_147, e260_148, e260_151, e260_152, e260_153, e260_156, e260_157, e260_158, e260_159, e260_160, e260_163, e260_164, e260_165, e260_168, e260_169, e260_172, e260_173, e260_176, e260_177, e260_178, e260_181, e260_182, e260_183, e260_184, e260_185, e260_186, e260_189, e260_190, e260_191, e260_194, e260_195, e260_198, e260_199, e260_200, e260_201, e260_202, e260_205, e260_208, e260_209, e260_210, e260_213, e260_216, e260_219, e260_220, r_take, c, hT.symm, eT1, p3]
    rw [h1]
    simp (disch := first | assumption | exact zrm0 | exact zrm1 _ | exact zrm2 _ _ | exact zrm3 _ _ _ | exact zrm4 _ _ _ _ | omega) only [m260, ↓k_dp, ↓k_dn, k_dp, k_dn, k_dT, k_dF, k_ip, k_in, if_true, if_false, ne_eq, not_true_eq_false, not_false_eq_true, Int.reduceAdd, zup_a, zup_e, zup_j, z32_id, k_al0, k_ic, k_pI, k_v1r, k_iceq, k_ri, k_is1, k_gR, k_ild, k_ildS, k_ildW, k_ishl, k_isub, k_is2, k_is3, k_il3, k_icge, k_ist, k_inc3, k_goto, k_v3r, k_s1r, k_icle, k_inc1, k_il2, k_iand, k_is4, k_il4, k_s2r, k_ifeq, k_dup2, k_iadd, k_inc4, k_il1, k_ifne, k_gI, k_imul, zb0_some, zb1_some, e260_0, e260_1, e260_2, e260_5, e260_6, e260_9, e260_10, e260_13, e260_14, e260_15, e260_16, e260_17, e260_18, e260_19, e260_22, e260_23, e260_24, e260_25, e260_26, e260_27, e260_28, e260_29, e260_30, e260_31, e260_33, e260_36, e260_37, e260_40, e260_41, e260_42, e260_43, e260_46, e260_49, e260_50, e260_52, e260_53, e260_54, e260_57, e260_58, e260_59, e260_60, e260_63, e260_64, e260_65, e260_66, e260_69, e260_70, e260_73, e260_74, e260_75, e260_76, e260_79, e260_80, e260_83, e260_84, e260_85, e260_88, e260_91, e260_94, e260_95, e260_96, e260_97, e260_98, e260_99, e260_101, e260_103, e260_105, e260_108, e260_109, e260_111, e260_114, e260_117, e260_118, e260_121, e260_123, e260_124, e260_125, e260_126, e260_127, e260_128, e260_131, e260_134, e260_137, e260_140, e260_141, e260_144, e260_145, e260_146, e260_147, e260_148, e260_151, e260_152, e260_153, e260_156, e260_157, e260_158, e260_159, e260_160, e260_163, e260_164, e260_165, e260_168, e260_169, e260_172, e260_173, e260_176, e260_177, e260_178, e260_181, e260_182, e260_183, e260_184, e260_185, e260_186, e260_189, e260_190, e260_191, e260_194, e260_195, e260_198, e260_199, e260_200, e260_201, e260_202, e260_205, e260_208, e260_209, e260_210, e260_213, e260_216, e260_219, e260_220]
    rw [k1]
    by_cases cw : w'.1 ≤ 0
    · rw [if_pos cw]
      have cw0 : w'.1 = 0 := by omega
      simp (disch := first | assumption | exact zrm0 | exact zrm1 _ | exact zrm2 _ _ | exact zrm3 _ _ _ | exact zrm4 _ _ _ _ | omega) only [m260, ↓k_dp, ↓k_dn, k_dp, k_dn, k_dT, k_dF, k_ip, k_in, if_true, if_false, ne_eq, not_true_eq_false, not_false_eq_true, Int.reduceAdd, zup_a, zup_e, zup_j, z32_id, k_al0, k_ic, k_pI, k_v1r, k_iceq, k_ri, k_is1, k_gR, k_ild, k_ildS, k_ildW, k_ishl, k_isub, k_is2, k_is3, k_il3, k_icge, k_ist, k_inc3, k_goto, k_v3r, k_s1r, k_icle, k_inc1, k_il2, k_iand, k_is4, k_il4, k_s2r, k_ifeq, k_dup2, k_iadd, k_inc4, k_il1, k_ifne, k_gI, k_imul, zb0_some, zb1_some, e260_0, e260_1, e260_2, e260_5, e260_6, e260_9, e260_10, e260_13, e260_14, e260_15, e260_16, e260_17, e260_18, e260_19, e260_22, e260_23, e260_24, e260_25, e260_26, e260_27, e260_28, e260_29, e260_30, e260_31, e260_33, e260_36, e260_37, e260_40, e260_41, e260_42, e260_43, e260_46, e260_49, e260_50, e260_51, e260_52, e260_53, e260_54, e260_57, e260_58, e260_59, e260_60, e260_63, e260_64, e260_65, e260_66, e260_69, e260_70, e260_73, e260_74, e260_75, e260_76, e260_79, e260_80, e260_83, e260_84, e260_85, e260_88, e260_91, e260_94, e260_95, e260_96, e260_97, e260_98, e260_99, e260_101, e260_103, e260_105, e260_108, e260_109, e260_111, e260_114, e260_117, e260_118, e260_121, e260_123, e260_124, e260_125, e260_126, e260_127, e260_128, e260_131, e260_134, e260_137, e260_140, e260_141, e260_144, e260_145, e260_146, e260_147, e260_148, e260_151, e260_152, e260_153, e260_156, e260_157, e260_158, e260_159, e260_160, e260_163, e260_164, e260_165, e260_168, e260_169, e260_172, e260_173, e260_176, e260_177, e260_178, e260_181, e260_182, e260_183, e260_184, e260_185, e260_186, e260_189, e260_190, e260_191, e260_194, e260_195, e260_198, e260_199, e260_200, e260_201, e260_202, e260_205, e260_208, e260_209, e260_210, e260_213, e260_216, e260_219, e260_220, cw0]
    · rw [if_neg cw]
      have he := r_even (d + 6) z0 w'.1 w'.2.1 (zshl 1 (M 199 1)) l4' (zup w'.2.2 197 36 w'.2.1) (by rw [zup_a (by omega), e30]; exact g1) (by rw [zup_a (by omega), e30]; exact g2) hn.1 hn.2 (fun h h0 h1 => by rw [zup_a (by omega)]; exact ht h h0 h1)
      have et : (fun h => zup w'.2.2 197 36 w'.2.1 214 h) = fun h => w'.2.2 214 h := by funext h; exact zup_a (by omega)
      rw [et, zup_a (by omega), e30] at he
      simp (disch := first | assumption | exact zrm0 | exact zrm1 _ | exact zrm2 _ _ | exact zrm3 _ _ _ | exact zrm4 _ _ _ _ | omega) only [m260, ↓k_dp, ↓k_dn, k_dp, k_dn, k_dT, k_dF, k_ip, k_in, if_true, if_false, ne_eq, not_true_eq_false, not_false_eq_true, Int.reduceAdd, zup_a, zup_e, zup_j, z32_id, k_al0, k_ic, k_pI, k_v1r, k_iceq, k_ri, k_is1, k_gR, k_ild, k_ildS, k_ildW, k_ishl, k_isub, k_is2, k_is3, k_il3, k_icge, k_ist, k_inc3, k_goto, k_v3r, k_s1r, k_icle, k_inc1, k_il2, k_iand, k_is4, k_il4, k_s2r, k_ifeq, k_dup2, k_iadd, k_inc4, k_il1, k_ifne, k_gI, k_imul, zb0_some, zb1_some, e260_0, e260_1, e260_2, e260_5, e260_6, e260_9, e260_10, e260_13, e260_14, e260_15, e260_16, e260_17, e260_18, e260_19, e260_22, e260_23, e260_24, e260_25, e260_26, e260_27, e260_28, e260_29, e260_30, e260_31, e260_33, e260_36, e260_37, e260_40, e260_41, e260_42, e260_43, e260_46, e260_49, e260_50, e260_51, e260_52, e260_53, e260_54, e260_57, e260_58, e260_59, e260_60, e260_63, e260_64, e260_65, e260_66, e260_69, e260_70, e260_73, e260_74, e260_75, e260_76, e260_79, e260_80, e260_83, e260_84, e260_85, e260_88, e260_91, e260_94, e260_95, e260_96, e260_97, e260_98, e260_99, e260_101, e260_103, e260_105, e260_108, e260_109, e260_111, e260_114, e260_117, e260_118, e260_121, e260_123, e260_124, e260_125, e260_126, e260_127, e260_128, e260_131, e260_134, e260_137, e260_140, e260_141, e260_144, e260_145, e260_146, e260_147, e260_148, e260_151, e260_152, e260_153, e260_156, e260_157, e260_159, e260_160, e260_163, e260_164, e260_165, e260_168, e260_169, e260_172, e260_173, e260_176, e260_177, e260_178, e260_181, e260_182, e260_183, e260_184, e260_185, e260_186, e260_189, e260_190, e260_191, e260_194, e260_195, e260_198, e260_199, e260_200, e260_201, e260_202, e260_205, e260_208, e260_209, e260_210, e260_213, e260_216, e260_219, e260_220]
      exact he
theorem pair_heard (d : Nat) (x0 z0 : Int) (M : zM) (hA : relA M) (hCC : relC M) (hE : relE M) (hH : relH M) : zPairHA M (zEm true (d + 8) 32 [(29, 0, x0)] M) (fun M1 => zEm true (d + 8) 260 [(30, 197, z0)] M1) := by
  obtain ⟨⟨a1, a2⟩, a3, a4⟩ := hA
  obtain ⟨n0, n1, n2, n3, n4, n5⟩ := relC_n hCC
  obtain ⟨⟨g6, g6'⟩, ⟨g1, g2⟩, -⟩ := okG_M hCC.2
  obtain ⟨p1, p2, p3⟩ := pw_ok g1 g2
  obtain ⟨b1, b2, b3⟩ := a4 0 (by omega) (by omega)
  obtain ⟨c1, c2, c3⟩ := a4 1 (by omega) (by omega)
  have kc := c_heard d x0 M a1 hCC.2
  have relA_of : ∀ Z, Z 2 1 = 0 → Z 197 2 = 0 → (∀ i, Z 3 i = M 3 i) → (∀ i, Z 198 i = M 198 i) → relA Z := fun Z h1 h2 h3 h4 => ⟨by rw [h1]; omega, by rw [h1, h2], fun i i0 i1 => by rw [h3, h4]; exact a4 i i0 i1⟩
  by_cases c : M 2 1 = 2
  · obtain ⟨w, hw⟩ : ∃ w, w = zit (hC (zvS M 37) (zvG M 30) (M 3 0) (M 3 1)) (zshl 1 (M 30 7)).toNat 0 (0, zshl 1 (M 30 7) - 1, zit (fun h N => zup N 79 h 0) (M 30 7).toNat 0 (zup M 2 1 0)) := ⟨_, rfl⟩
    obtain ⟨k1, k2⟩ := kc.2 c w hw
    obtain ⟨M1, hM1⟩ : ∃ M1, M1 = if w.1 ≤ 0 then w.2.2 else zup (zup w.2.2 51 7 w.2.1) 51 8 (zit (eF (fun h => w.2.2 79 h) w.1) (M 30 7).toNat 0 (-1)) := ⟨_, rfl⟩
    rw [← hM1] at k1
    have m1 : ∀ x y, x ≠ 79 → ¬ (x = 2 ∧ y = 1) → ¬ (x = 51 ∧ (y = 7 ∨ y = 8)) → M1 x y = M x y := fun x y h1 h2 h3 => by
      rw [hM1]
      split
      · exact k2 x y h1 h2
      · unfold zup
        rw [if_neg (by omega), if_neg (by omega)]
        exact k2 x y h1 h2
    have eS : zrS M1 = zvS M 37 := by rw [zrS_eq (M := M) (fun y _ _ _ => m1 199 y (by omega) (by omega) (by omega))]; exact hE.1
    have eG : zrG M1 = zvG M 30 := by rw [zrG_eq (M := M) (fun y _ _ => m1 199 y (by omega) (by omega) (by omega))]; exact hCC.1
    have e80 : M1 198 0 = M 3 0 := by rw [m1 _ _ (by omega) (by omega) (by omega)]; exact b1
    have e81 : M1 198 1 = M 3 1 := by rw [m1 _ _ (by omega) (by omega) (by omega)]; exact c1
    have e1 : M1 199 1 = M 30 7 := by rw [m1 _ _ (by omega) (by omega) (by omega)]; exact n1
    have e2 : M1 197 2 = 2 := by rw [m1 _ _ (by omega) (by omega) (by omega), a3]; exact c
    have kr := (r_heard d z0 M1 (by rw [eS]; exact hE.2.1.1) (by rw [eG]; exact hCC.2) (by rw [e80]; exact b2) (by rw [e80]; exact b3)).2 e2
    rw [eS, eG, e80, e81, e1] at kr
    obtain ⟨r, hr⟩ : ∃ r, r = zit (hR (zvS M 37) (zvG M 30) (M 3 0) (M 3 1)) (zshl 1 (M 30 7)).toNat 0 (0, zshl 1 (M 30 7) - 1, zit (fun h N => zup N 214 h 0) 10 0 (zup (zup M1 197 0 0) 197 2 0)) := ⟨_, rfl⟩
    have e7 : zvG M 30 0 7 = M 30 7 := zvG_0 (by omega) (by omega)
    have hrel := zit_rel (f := hC (zvS M 37) (zvG M 30) (M 3 0) (M 3 1)) (g := hR (zvS M 37) (zvG M 30) (M 3 0) (M 3 1)) (fun k (a b : hT) => a.1 = b.1 ∧ (0 ≤ a.1 ∧ a.1 ≤ k) ∧ a.2.1 = b.2.1 ∧ (∀ h, 0 ≤ h → h < 10 → 0 ≤ b.2.2 214 h ∧ b.2.2 214 h ≤ k) ∧ ∀ h, 0 ≤ h → h < M 30 7 → a.2.2 79 h = b.2.2 214 h) (zshl 1 (M 30 7)).toNat 0 (0, zshl 1 (M 30 7) - 1, zit (fun h N => zup N 79 h 0) (M 30 7).toNat 0 (zup M 2 1 0)) (0, zshl 1 (M 30 7) - 1, zit (fun h N => zup N 214 h 0) 10 0 (zup (zup M1 197 0 0) 197 2 0)) ⟨rfl, ⟨Int.le_refl _, Int.le_refl _⟩, rfl, fun h h0 h1 => by
        dsimp only
        rw [zit_pt (fun _ _ => 0) (by omega), if_pos ⟨rfl, h0, by omega⟩]; omega, fun h h0 h1 => by
        dsimp only
        rw [zit_pt (fun _ _ => 0) (by omega), zit_pt (fun _ _ => 0) (by omega), if_pos ⟨rfl, h0, by omega⟩, if_pos ⟨rfl, h0, by omega⟩]⟩ (fun k a b k0 k1 hp => by
        obtain ⟨q1, ⟨q2, q3⟩, q4, q5, q6⟩ := hp
        unfold hC hR
        split
        · dsimp only
          have hz : ∀ h, zbit k h = 0 ∨ zbit k h = 1 := fun h => zbit_01 k h
          have hb : ∀ h, 0 ≤ h → h < 10 → zit (fun h N => zup N 214 h (if zbit k h ≠ 0 then z32 (N 214 h + 1) else N 214 h)) 10 0 b.2.2 214 h = b.2.2 214 h + zbit k h := fun h h0 h1 => by
            rw [zit_pt (fun h a => if zbit k h ≠ 0 then z32 (a + 1) else a) (by omega), if_pos ⟨rfl, h0, by omega⟩]
            have := q5 h h0 h1
            rcases hz h with z | z
            · rw [z, if_neg (by omega)]; omega
            · rw [z, if_pos (by omega), z32_id (by omega) (by omega)]
          refine ⟨by rw [q1], by rw [z32_id (by omega) (by omega)]; omega, by rw [q4], fun h h0 h1 => ?_, fun h h0 h1 => ?_⟩
          · rw [hb h h0 h1]
            have := q5 h h0 h1
            rcases hz h with z | z <;> rw [z] <;> omega
          · rw [hb h h0 (by omega), zit_pt (fun h a => z32 (a + zbit k h)) (by omega), if_pos ⟨rfl, h0, by rw [e7]; omega⟩, q6 h h0 h1]
            have := q5 h h0 (by omega)
            rcases hz h with z | z <;> rw [z, z32_id (by omega) (by omega)]
        · exact ⟨q1, by omega, q4, fun h h0 h1 => by have := q5 h h0 h1; omega, q6⟩)
    rw [← hw, ← hr] at hrel
    obtain ⟨q1, ⟨q2, q3⟩, q4, q5, q6⟩ := hrel
    obtain ⟨s1, s2⟩ := kr r hr (by omega) (fun h h0 h1 => by have := q5 h h0 h1; omega)
    have hev : zit (eF (fun h => w.2.2 79 h) w.1) (M 30 7).toNat 0 (-1) = zit (eF (fun h => r.2.2 214 h) r.1) (M 30 7).toNat 0 (-1) := by
      rw [q1]
      refine zit_congrP (fun k b => -1 ≤ b ∧ b < k) _ _ _ ⟨by omega, by omega⟩ (fun k b k0 k1 hb => ⟨?_, ?_⟩)
      · unfold eF
        by_cases cb : b = -1
        · rw [if_pos cb, if_pos cb]
        · dsimp only
          rw [if_neg cb, if_neg cb]
          simp only [q6 k k0 (by omega), q6 b (by omega) (by omega)]
      · unfold eF
        split
        · omega
        · split <;> omega
    obtain ⟨h1, h2, h3, h4, h5, h6, h7, h8⟩ := hH
    have w21 : w.2.2 2 1 = 0 := by
      have : ∀ x y, x ≠ 79 → w.2.2 x y = zup M 2 1 0 x y := fun x y hx => by
        rw [hw]
        refine zit_inv (fun _ (p : hT) => p.2.2 x y = zup M 2 1 0 x y) _ _ _ ?_ (fun k p k0 k1 hp => by rw [hC_o hx]; exact hp)
        dsimp only
        rw [zit_pt (fun _ _ => 0) (by omega), if_neg (fun z => hx z.1)]
      rw [this _ _ (by omega), zup_e (by omega)]
    have r2 : r.2.2 197 2 = 0 := by
      have : ∀ x y, x ≠ 214 → r.2.2 x y = zup (zup M1 197 0 0) 197 2 0 x y := fun x y hx => by
        rw [hr]
        refine zit_inv (fun _ (p : hT) => p.2.2 x y = zup (zup M1 197 0 0) 197 2 0 x y) _ _ _ ?_ (fun k p k0 k1 hp => by rw [hR_o hx]; exact hp)
        dsimp only
        rw [zit_pt (fun _ _ => 0) (by omega), if_neg (fun z => hx z.1)]
      rw [this _ _ (by omega), zup_e (by omega)]
    have m121 : M1 2 1 = 0 := by
      rw [hM1]
      split
      · exact w21
      · rw [zup_a (by omega), zup_a (by omega)]; exact w21
    rw [q1] at k1
    by_cases cr : r.1 ≤ 0
    · rw [if_pos cr] at s1
      have e5 : M1 = w.2.2 := by rw [hM1, q1, if_pos cr]
      have zz : ∀ x y, x ≠ 79 → x ≠ 214 → ¬ (x = 2 ∧ y = 1) → ¬ (x = 197 ∧ (y = 0 ∨ y = 2)) → r.2.2 x y = M x y := fun x y z1 z2 z3 z4 => by rw [s2 x y z2 z4, e5, k2 x y z1 z3]
      refine ⟨r.1, M1, r.2.2, k1, s1, ?_, relA_of _ (by rw [s2 _ _ (by omega) (by omega)]; exact m121) r2 (fun i => zz _ _ (by omega) (by omega) (by omega) (by omega)) (fun i => zz _ _ (by omega) (by omega) (by omega) (by omega)), fun x y hx hy => ?_⟩
      · unfold relH
        simp (disch := omega) only [zz]
        exact ⟨h1, h2, h3, h4, h5, h6, h7, h8⟩
      · unfold zFH at hx
        unfold zFT at hy
        exact zz x y (by omega) (by omega) (by omega) (by omega)
    · rw [if_neg cr] at s1
      have e5 : M1 = zup (zup w.2.2 51 7 w.2.1) 51 8 (zit (eF (fun h => r.2.2 214 h) r.1) (M 30 7).toNat 0 (-1)) := by rw [hM1, hev, q1, if_neg cr]
      generalize zit (eF (fun h => r.2.2 214 h) r.1) (M 30 7).toNat 0 (-1) = ev at s1 e5
      have zz : ∀ x y, x ≠ 79 → x ≠ 214 → ¬ (x = 2 ∧ y = 1) → ¬ (x = 197 ∧ (y = 0 ∨ y = 2 ∨ y = 36 ∨ y = 37)) → ¬ (x = 51 ∧ (y = 7 ∨ y = 8)) → zup (zup r.2.2 197 36 r.2.1) 197 37 ev x y = M x y := fun x y z1 z2 z3 z4 z5 => by
        have : zup (zup r.2.2 197 36 r.2.1) 197 37 ev x y = r.2.2 x y := by unfold zup; rw [if_neg (by omega), if_neg (by omega)]
        rw [this, s2 x y z2 (by omega), m1 x y z1 z3 z5]
      have z7 : zup (zup r.2.2 197 36 r.2.1) 197 37 ev 51 7 = r.2.1 := by rw [zup_a (by omega), zup_a (by omega), s2 _ _ (by omega) (by omega), e5, zup_j (by omega), zup_e (by omega)]; exact q4
      have z8 : zup (zup r.2.2 197 36 r.2.1) 197 37 ev 51 8 = ev := by rw [zup_a (by omega), zup_a (by omega), s2 _ _ (by omega) (by omega), e5, zup_e (by omega)]
      have z36 : zup (zup r.2.2 197 36 r.2.1) 197 37 ev 197 36 = r.2.1 := by rw [zup_j (by omega), zup_e (by omega)]
      have z37 : zup (zup r.2.2 197 36 r.2.1) 197 37 ev 197 37 = ev := zup_e (by omega)
      refine ⟨r.1, M1, _, k1, s1, ?_, relA_of _ (by rw [zup_a (by omega), zup_a (by omega), s2 _ _ (by omega) (by omega)]; exact m121) (by rw [zup_j (by omega), zup_j (by omega)]; exact r2) (fun i => zz _ _ (by omega) (by omega) (by omega) (by omega) (by omega)) (fun i => zz _ _ (by omega) (by omega) (by omega) (by omega) (by omega)), fun x y hx hy => ?_⟩
      · unfold relH
        rw [z7, z8, z36, z37]
        simp (disch := omega) only [zz]
        exact ⟨h1, h2, h3, h4, h5, trivial, trivial, h8⟩
      · unfold zFH at hx
        unfold zFT at hy
        exact zz x y (by omega) (by omega) (by omega) (by omega) (by omega)
  · have k1 := kc.1 c
    have eS : zrS (zup M 2 1 0) = zvS M 37 := by rw [zrS_out (Or.inl (by omega))]; exact hE.1
    have eG : zrG (zup M 2 1 0) = zvG M 30 := by rw [zrG_out (Or.inl (by omega))]; exact hCC.1
    have e80 : zup M 2 1 0 198 0 = M 3 0 := by rw [zup_a (by omega)]; exact b1
    have s1 := (r_heard d z0 (zup M 2 1 0) (by rw [eS]; exact hE.2.1.1) (by rw [eG]; exact hCC.2) (by rw [e80]; exact b2) (by rw [e80]; exact b3)).1 (by rw [zup_a (by omega), a3]; exact c)
    have zz : ∀ x y, ¬ (x = 2 ∧ y = 1) → ¬ (x = 197 ∧ (y = 0 ∨ y = 2)) → zup (zup (zup M 2 1 0) 197 0 0) 197 2 0 x y = M x y := fun x y z1 z2 => by
      unfold zup
      rw [if_neg (by omega), if_neg (by omega), if_neg (by omega)]
    refine ⟨-1, _, _, k1, s1, ?_, relA_of _ (by rw [zup_a (by omega), zup_a (by omega), zup_e (by omega)]) (zup_e (by omega)) (fun i => zz _ _ (by omega) (by omega)) (fun i => zz _ _ (by omega) (by omega)), fun x y hx hy => ?_⟩
    · unfold relH at hH ⊢
      simp (disch := omega) only [zz]
      exact hH
    · unfold zFT at hy
      exact zz x y (by omega) (by omega)
