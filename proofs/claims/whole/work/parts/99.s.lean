/-! the fewest irons: the pair -/
theorem r_bH (d : Nat) (z0 q y n : Int) (M : zM) (hS : okS (zrS M)) (hG : okG (zrG M)) (q0 : 0 ≤ q) (q1 : q < 5) : ∀ (j : Nat) (left sum : Int) (l7 : zV) (N : zM), (j : Int) ≤ M 199 1 → okB M N → N 197 29 = M 199 1 → okXR M N q (M 199 1).toNat → left ≤ 200 → 0 ≤ sum → sum ≤ 100 * (M 199 1 - j) → dInv (gB (zrS M) (zrG M) q) (rB (zrS M) (zrG M) q) (M 199 1) j left (sNeed (zrS M) (zrG M) q - sum) → ∃ N', zEv true (d + 7) 254 93 [(30, 197, z0), (0, q, y), (0, sWay (zrS M) (zrG M) (zrS M 4 q) 1, 0), (0, n, 0), (0, left, 0), (0, sum, 0), (0, M 199 1 - j, 0), l7] [] N = some ((0, z32 (n * M 199 3), 0), N') ∧ (∀ x y, x ≠ 210 → N' x y = N x y) ∧ (∀ h, 0 ≤ h → h < M 199 1 - j → N' 210 h = N 210 h) ∧ ∀ h, M 199 1 - j ≤ h → h < M 199 1 → N' 210 h = dSh (gB (zrS M) (zrG M) q) (rB (zrS M) (zrG M) q) (M 199 1) j left (sNeed (zrS M) (zrG M) q - sum) h
  | 0, left, sum, l7, N, hj, hN, h29, hR, l1, s0, s1, hI => by
    have n3 : N 199 3 = M 199 3 := hN _ _ (by omega) (by omega) (by omega)
    refine ⟨N, ?_, fun _ _ _ => rfl, fun _ _ _ => rfl, fun h a b => by omega⟩
    generalize sWay (zrS M) (zrG M) (zrS M 4 q) 1 = ag
    have e : M 199 1 - ((0 : Nat) : Int) = M 199 1 := by omega
    rw [e, e254_93]
    obtain ⟨⟨g6, g6'⟩, ⟨g1, g2⟩, -⟩ := okR_M hG
    simp (disch := first | assumption | exact zrm0 | exact zrm1 _ | exact zrm2 _ _ | exact zrm3 _ _ _ | exact zrm4 _ _ _ _ | omega) only [m254, ↓k_dp, ↓k_dn, k_dp, k_dn, k_dT, k_dF, k_ip, k_in, if_true, if_false, ne_eq, not_true_eq_false, not_false_eq_true, Int.reduceAdd, zup_a, zup_e, zup_j, z32_id, k_al0, k_ic, k_pI, k_il1, k_v2r, k_ifne, k_ri, k_v2, k_gR, k_iadd, k_ild, k_ildS, k_ildW, k_v3r, k_is2, k_is3, k_il3, k_icgt, k_il2, k_inc3, k_goto, k_icle, k_is4, k_is5, k_is6, k_il6, k_gI, k_icge, k_is7, k_il5, k_il7, k_v4r, k_imul, k_il4, k_isub, k_inc7, k_ist, k_inc6, zb0_some, zb1_some, e254_0, e254_1, e254_2, e254_5, e254_6, e254_7, e254_10, e254_13, e254_14, e254_15, e254_16, e254_17, e254_20, e254_21, e254_22, e254_25, e254_27, e254_28, e254_29, e254_30, e254_31, e254_34, e254_35, e254_36, e254_37, e254_38, e254_41, e254_44, e254_45, e254_46, e254_49, e254_50, e254_51, e254_52, e254_55, e254_56, e254_59, e254_62, e254_65, e254_66, e254_69, e254_72, e254_73, e254_74, e254_75, e254_76, e254_79, e254_80, e254_81, e254_84, e254_85, e254_87, e254_88, e254_90, e254_91, e254_95, e254_96, e254_99, e254_102, e254_103, e254_106, e254_108, e254_109, e254_111, e254_112, e254_114, e254_117, e254_118, e254_119, e254_122, e254_125, e254_127, e254_128, e254_129, e254_130, e254_132, e254_133, e254_135, e254_136, e254_137, e254_138, e254_139, e254_142, e254_143, e254_146, e254_149, e254_152, e254_153, e254_156, e254_158, e254_160, e254_161, e254_163, e254_164, e254_166, e254_167, e254_169, e254_172, e254_173, e254_175, e254_177, e254_179, e254_180, e254_182, e254_185, e254_188, e254_189, e254_190, e254_193, e254_194, e254_195, e254_196, h29, n3]
  | j + 1, left, sum, l7, N, hj, hN, h29, hR, l1, s0, s1, hI => by
    obtain ⟨h, hh⟩ : ∃ h, h = M 199 1 - ((j : Int) + 1) := ⟨_, rfl⟩
    obtain ⟨⟨g6, g6'⟩, ⟨g1, g2⟩, -⟩ := okR_M hG
    have eS : zrS N = zrS M := zrS_eq (fun b _ _ _ => hN 199 b (by omega) (by omega) (by omega))
    have eG : zrG N = zrG M := zrG_eq (fun b _ _ => hN 199 b (by omega) (by omega) (by omega))
    have n199 : N 199 1 = M 199 1 := hN _ _ (by omega) (by omega) (by omega)
    have hn := sNeed_bd (q := q) hS hG
    have hg := gB_bd (q := q) hS hG
    have hr := fun h => (rB_bd (q := q) hS hG h).1
    have hok := dN_ok hg hr hI
    have hnx := dInv_next hg hr (by omega) hI
    have hk := r_bK d z0 q y h n sum left M N j hS hG q0 q1 hN hR (by omega) (by omega) hh s0 (by omega) l1 hI (dN (gB (zrS M) (zrG M) q) (rB (zrS M) (zrG M) q) (M 199 1) j left (sNeed (zrS M) (zrG M) q - sum)).toNat 0 (by omega) (Int.le_refl _)
    have hds : ∀ b, dSh (gB (zrS M) (zrG M) q) (rB (zrS M) (zrG M) q) (M 199 1) (j + 1) left (sNeed (zrS M) (zrG M) q - sum) b = if b = h then dN (gB (zrS M) (zrG M) q) (rB (zrS M) (zrG M) q) (M 199 1) j left (sNeed (zrS M) (zrG M) q - sum) else dSh (gB (zrS M) (zrG M) q) (rB (zrS M) (zrG M) q) (M 199 1) j (left - dN (gB (zrS M) (zrG M) q) (rB (zrS M) (zrG M) q) (M 199 1) j left (sNeed (zrS M) (zrG M) q - sum)) (sNeed (zrS M) (zrG M) q - sum - gB (zrS M) (zrG M) q h (dN (gB (zrS M) (zrG M) q) (rB (zrS M) (zrG M) q) (M 199 1) j left (sNeed (zrS M) (zrG M) q - sum))) b := fun b => by rw [hh]; rfl
    rw [← hh] at hok hnx
    generalize dN (gB (zrS M) (zrG M) q) (rB (zrS M) (zrG M) q) (M 199 1) j left (sNeed (zrS M) (zrG M) q - sum) = K at *
    obtain ⟨k0, k1, k2, k3, k4⟩ := hok
    have r1 := r_gets (d + 4) z0 h 0 q 0 K 0 (zup N 210 h K) (by rw [zrS_out (Or.inl (by omega)), eS]; exact hS) (by rw [zrG_out (Or.inl (by omega)), eG]; exact hG) (by omega) (by rw [zup_a (by omega), n199]; omega) q0 q1 k0 (by rw [zrS_out (Or.inl (by omega)), zrG_out (Or.inl (by omega)), eS, eG]; omega)
    rw [zrS_out (Or.inl (by omega)), zrG_out (Or.inl (by omega)), eS, eG] at r1
    have bg := hg h K
    have ea : sNeed (zrS M) (zrG M) q - sum - gB (zrS M) (zrG M) q h K = sNeed (zrS M) (zrG M) q - (sum + gB (zrS M) (zrG M) q h K) := by omega
    rw [ea] at hnx hds
    obtain ⟨N', i1, i2, i3, i4⟩ := r_bH d z0 q y n M hS hG q0 q1 j (left - K) (sum + gB (zrS M) (zrG M) q h K) (0, K, 0) (zup N 210 h K) (by omega) (fun x y a b c => by rw [zup_a b]; exact hN x y a b c) (by rw [zup_a (by omega)]; exact h29) (fun i t a b c => by rw [zup_a (by omega)]; exact hR i t a b c) (by omega) (by omega) (by omega) hnx
    have eh : M 199 1 - (j : Int) = h + 1 := by omega
    rw [eh] at i1 i3 i4
    have eh2 : M 199 1 - ((j + 1 : Nat) : Int) = h := by omega
    rw [eh2]
    refine ⟨N', ?_, fun x y a => by rw [i2 x y a, zup_a a], fun b b0 b1 => by rw [i3 b b0 (by omega), zup_j (by omega)], fun b b0 b1 => ?_⟩
    · rw [← i1, e254_93]
      generalize sWay (zrS M) (zrG M) (zrS M 4 q) 1 = ag at *
      generalize gB (zrS M) (zrG M) q h K = gg at *
      simp (disch := first | assumption | exact zrm0 | exact zrm1 _ | exact zrm2 _ _ | exact zrm3 _ _ _ | exact zrm4 _ _ _ _ | omega) only [m254, ↓k_dp, ↓k_dn, k_dp, k_dn, k_dT, k_dF, k_ip, k_in, if_true, if_false, ne_eq, not_true_eq_false, not_false_eq_true, Int.reduceAdd, zup_a, zup_e, zup_j, z32_id, k_al0, k_ic, k_pI, k_il1, k_v2r, k_ifne, k_ri, k_v2, k_gR, k_iadd, k_ild, k_ildS, k_ildW, k_v3r, k_is2, k_is3, k_il3, k_icgt, k_il2, k_inc3, k_goto, k_icle, k_is4, k_is5, k_is6, k_il6, k_gI, k_icge, k_is7, k_il5, k_il7, k_v4r, k_imul, k_il4, k_isub, k_inc7, k_ist, k_inc6, zb0_some, zb1_some, e254_0, e254_1, e254_2, e254_5, e254_6, e254_7, e254_10, e254_13, e254_14, e254_15, e254_16, e254_17, e254_20, e254_21, e254_22, e254_25, e254_27, e254_28, e254_29, e254_30, e254_31, e254_34, e254_35, e254_36, e254_37, e254_38, e254_41, e254_44, e254_45, e254_46, e254_49, e254_50, e254_51, e254_52, e254_55, e254_56, e254_59, e254_62, e254_65, e254_66, e254_69, e254_72, e254_73, e254_74, e254_75, e254_76, e254_79, e254_80, e254_81, e254_84, e254_85, e254_87, e254_88, e254_90, e254_91, e254_95, e254_96, e254_99, e254_102, e254_103, e254_106, e254_108, e254_109, e254_111, e254_112, e254_114, e254_117, e254_118, e254_119, e254_122, e254_125, e254_127, e254_128, e254_129, e254_130, e254_132, e254_133, e254_135, e254_136, e254_137, e254_138, e254_139, e254_142, e254_143, e254_146, e254_149, e254_152, e254_153, e254_156, e254_158, e254_160, e254_161, e254_163, e254_164, e254_166, e254_167, e254_169, e254_172, e254_173, e254_175, e254_177, e254_179, e254_180, e254_182, e254_185, e254_188, e254_189, e254_190, e254_193, e254_194, e254_195, e254_196, h29]
      rw [hk]
      simp (disch := first | assumption | exact zrm0 | exact zrm1 _ | exact zrm2 _ _ | exact zrm3 _ _ _ | exact zrm4 _ _ _ _ | omega) only [m254, ↓k_dp, ↓k_dn, k_dp, k_dn, k_dT, k_dF, k_ip, k_in, if_true, if_false, ne_eq, not_true_eq_false, not_false_eq_true, Int.reduceAdd, zup_a, zup_e, zup_j, z32_id, k_al0, k_ic, k_pI, k_il1, k_v2r, k_ifne, k_ri, k_v2, k_gR, k_iadd, k_ild, k_ildS, k_ildW, k_v3r, k_is2, k_is3, k_il3, k_icgt, k_il2, k_inc3, k_goto, k_icle, k_is4, k_is5, k_is6, k_il6, k_gI, k_icge, k_is7, k_il5, k_il7, k_v4r, k_imul, k_il4, k_isub, k_inc7, k_ist, k_inc6, zb0_some, zb1_some, e254_0, e254_1, e254_2, e254_5, e254_6, e254_7, e254_10, e254_13, e254_14, e254_15, e254_16, e254_17, e254_20, e254_21, e254_22, e254_25, e254_27, e254_28, e254_29, e254_30, e254_31, e254_34, e254_35, e254_36, e254_37, e254_38, e254_41, e254_44, e254_45, e254_46, e254_49, e254_50, e254_51, e254_52, e254_55, e254_56, e254_59, e254_62, e254_65, e254_66, e254_69, e254_72, e254_73, e254_74, e254_75, e254_76, e254_79, e254_80, e254_81, e254_84, e254_85, e254_87, e254_88, e254_90, e254_91, e254_95, e254_96, e254_99, e254_102, e254_103, e254_106, e254_108, e254_109, e254_111, e254_112, e254_114, e254_117, e254_118, e254_119, e254_122, e254_125, e254_127, e254_128, e254_129, e254_130, e254_132, e254_133, e254_135, e254_136, e254_137, e254_138, e254_139, e254_142, e254_143, e254_146, e254_149, e254_152, e254_153, e254_156, e254_158, e254_160, e254_161, e254_163, e254_164, e254_166, e254_167, e254_169, e254_172, e254_173, e254_175, e254_177, e254_179, e254_180, e254_182, e254_185, e254_188, e254_189, e254_190, e254_193, e254_194, e254_195, e254_196, h29, r1]
    · rw [hds]
      by_cases c : b = h
      · rw [if_pos c, c, i3 h (by omega) (by omega), zup_e (by omega)]
      · rw [if_neg c]
        exact i4 b (by omega) b1
theorem r_bought (d : Nat) (z0 q y : Int) (M : zM) (hS : okS (zrS M)) (hG : okG (zrG M)) : (¬ (0 ≤ q ∧ q < M 199 2) → zEm true (d + 8) 254 [(30, 197, z0), (0, q, y)] M = some ((0, -1, 0), zup M 197 0 0)) ∧ ((0 ≤ q ∧ q < M 199 2) → ∃ M1, (zEm true (d + 8) 254 [(30, 197, z0), (0, q, y)] M = some ((0, if sLeast (zrS M) (zrG M) q = -1 then -1 else z32 (sLeast (zrS M) (zrG M) q * M 199 3), 0), M1)) ∧ (∀ x y, x ≠ 209 → x ≠ 210 → ¬ (x = 197 ∧ (y = 0 ∨ y = 29)) → M1 x y = M x y) ∧ (sLeast (zrS M) (zrG M) q = -1 → ∀ x y, x ≠ 209 → ¬ (x = 197 ∧ y = 0) → M1 x y = M x y) ∧ (sLeast (zrS M) (zrG M) q ≠ -1 → M1 197 29 = M 199 1 ∧ ∀ h, 0 ≤ h → h < M 199 1 → M1 210 h = sShare (zrS M) (zrG M) q h)) := by
  obtain ⟨⟨g6, g6'⟩, ⟨g1, g2⟩, ⟨g3, g4⟩, -⟩ := okR_M hG
  obtain ⟨T, hT⟩ : ∃ T, T = zup M 197 0 0 := ⟨_, rfl⟩
  have t2 : T 199 2 = M 199 2 := by rw [hT, zup_a (by omega)]
  have hq := r_isQuestion (d + 5) z0 q 0 T (by omega) (by omega)
  rw [t2] at hq
  refine ⟨fun c => ?_, fun c => ?_⟩
  · rw [← hT]
    rw [if_neg c] at hq
    simp (disch := first | assumption | exact zrm0 | exact zrm1 _ | exact zrm2 _ _ | exact zrm3 _ _ _ | exact zrm4 _ _ _ _ | omega) only [m254, ↓k_dp, ↓k_dn, k_dp, k_dn, k_dT, k_dF, k_ip, k_in, if_true, if_false, ne_eq, not_true_eq_false, not_false_eq_true, Int.reduceAdd, zup_a, zup_e, zup_j, z32_id, k_al0, k_ic, k_pI, k_il1, k_v2r, k_ifne, k_ri, k_v2, k_gR, k_iadd, k_ild, k_ildS, k_ildW, k_v3r, k_is2, k_is3, k_il3, k_icgt, k_il2, k_inc3, k_goto, k_icle, k_is4, k_is5, k_is6, k_il6, k_gI, k_icge, k_is7, k_il5, k_il7, k_v4r, k_imul, k_il4, k_isub, k_inc7, k_ist, k_inc6, zb0_some, zb1_some, e254_0, e254_1, e254_2, e254_5, e254_6, e254_7, e254_10, e254_13, e254_14, e254_15, e254_16, e254_17, e254_20, e254_21, e254_22, e254_25, e254_27, e254_28, e254_29, e254_30, e254_31, e254_34, e254_35, e254_36, e254_38, e254_41, e254_44, e254_45, e254_46, e254_49, e254_50, e254_51, e254_52, e254_55, e254_56, e254_59, e254_62, e254_65, e254_66, e254_69, e254_72, e254_73, e254_74, e254_75, e254_76, e254_79, e254_80, e254_81, e254_84, e254_85, e254_87, e254_88, e254_90, e254_91, e254_93, e254_95, e254_96, e254_99, e254_102, e254_103, e254_105, e254_106, e254_108, e254_109, e254_111, e254_112, e254_114, e254_117, e254_118, e254_119, e254_122, e254_125, e254_127, e254_128, e254_129, e254_130, e254_132, e254_133, e254_135, e254_136, e254_137, e254_138, e254_139, e254_142, e254_143, e254_146, e254_149, e254_152, e254_153, e254_156, e254_158, e254_160, e254_161, e254_163, e254_164, e254_166, e254_167, e254_169, e254_172, e254_173, e254_175, e254_177, e254_179, e254_180, e254_182, e254_185, e254_188, e254_189, e254_190, e254_193, e254_194, e254_195, e254_196, hq, ← hT]
  rw [if_pos c] at hq
  have hX : ∀ U, okX T U → okB M U := fun U h x y a b c => by rw [h x y a, hT, zup_a c]
  obtain ⟨N, n1, n2, n3⟩ := r_layMost (d + 2) z0 q 0 T (by rw [hT, zrS_out (Or.inl (by omega))]; exact hS) (by rw [hT, zrG_out (Or.inl (by omega))]; exact hG) c.1 (by omega)
  have eX : okXR M N q (M 199 1).toNat := fun i t a b c => by
    have := n3 i t (by rw [hT, zup_a (by omega)]; exact a) b c
    rw [hT, zup_a (by omega)] at this
    unfold zXf at this ⊢
    rw [zrS_out (Or.inl (by omega)), zrG_out (Or.inl (by omega)), zup_a (by omega)] at this
    exact this
  have hB := hX N n2
  have eS : zrS N = zrS M := zrS_eq (fun b _ _ _ => hB 199 b (by omega) (by omega) (by omega))
  have eG : zrG N = zrG M := zrG_eq (fun b _ _ => hB 199 b (by omega) (by omega) (by omega))
  have e4 : N 199 (106 + q) = zrS M 4 q := by rw [zrS_4 c.1 (by omega)]; exact hB _ _ (by omega) (by omega) (by omega)
  have hw := r_noiseAll (d + 3) z0 (zrS M 4 q) 0 1 0 N (by rw [eS]; exact hS) (by rw [eG]; exact hG) (by omega) (by omega)
  rw [eS, eG] at hw
  have hF := r_bF d z0 q y (3, 0, 0) (3, 0, 0) (3, 0, 0) (3, 0, 0) M N hS hG hB eX 201 0 (by omega) (Int.le_refl _)
  have hL : zfnd (fun t => decide (sNeed (zrS M) (zrG M) q ≤ zXf M q (M 199 1).toNat t)) 201 0 = sLeast (zrS M) (zrG M) q := by
    have hn := sNeed_bd (q := q) hS hG
    unfold sLeast
    rw [dFirst (gB_bd (q := q) hS hG) (fun h => (rB_bd (q := q) hS hG h).1) _ (by omega), zrG_07]
  rw [hL] at hF
  have m1 : N 199 1 = M 199 1 := hB _ _ (by omega) (by omega) (by omega)
  rcases sLeast_ok (q := q) hS hG with hl | ⟨l0, l1, hI⟩
  · rw [if_pos hl] at hF
    refine ⟨N, ?_, fun x y a b c => by rw [n2 x y a, hT]; unfold zup; rw [if_neg (by omega)], fun _ x y a b => by rw [n2 x y a, hT]; unfold zup; rw [if_neg (by omega)], fun h => absurd hl h⟩
    rw [if_pos hl]
    generalize sWay (zrS M) (zrG M) (zrS M 4 q) 1 = ag at *
    simp (disch := first | assumption | exact zrm0 | exact zrm1 _ | exact zrm2 _ _ | exact zrm3 _ _ _ | exact zrm4 _ _ _ _ | omega) only [m254, ↓k_dp, ↓k_dn, k_dp, k_dn, k_dT, k_dF, k_ip, k_in, if_true, if_false, ne_eq, not_true_eq_false, not_false_eq_true, Int.reduceAdd, zup_a, zup_e, zup_j, z32_id, k_al0, k_ic, k_pI, k_il1, k_v2r, k_ifne, k_ri, k_v2, k_gR, k_iadd, k_ild, k_ildS, k_ildW, k_v3r, k_is2, k_is3, k_il3, k_icgt, k_il2, k_inc3, k_goto, k_icle, k_is4, k_is5, k_is6, k_il6, k_gI, k_icge, k_is7, k_il5, k_il7, k_v4r, k_imul, k_il4, k_isub, k_inc7, k_ist, k_inc6, zb0_some, zb1_some, e254_0, e254_1, e254_2, e254_5, e254_6, e254_7, e254_10, e254_13, e254_14, e254_15, e254_16, e254_17, e254_20, e254_21, e254_22, e254_25, e254_27, e254_28, e254_29, e254_30, e254_31, e254_34, e254_35, e254_36, e254_38, e254_41, e254_44, e254_45, e254_46, e254_49, e254_50, e254_51, e254_52, e254_55, e254_56, e254_59, e254_62, e254_65, e254_66, e254_69, e254_72, e254_73, e254_74, e254_75, e254_76, e254_79, e254_80, e254_81, e254_84, e254_85, e254_87, e254_88, e254_90, e254_91, e254_93, e254_95, e254_96, e254_99, e254_102, e254_103, e254_105, e254_106, e254_108, e254_109, e254_111, e254_112, e254_114, e254_117, e254_118, e254_119, e254_122, e254_125, e254_127, e254_128, e254_129, e254_130, e254_132, e254_133, e254_135, e254_136, e254_137, e254_138, e254_139, e254_142, e254_143, e254_146, e254_149, e254_152, e254_153, e254_156, e254_158, e254_160, e254_161, e254_163, e254_164, e254_166, e254_167, e254_169, e254_172, e254_173, e254_175, e254_177, e254_179, e254_180, e254_182, e254_185, e254_188, e254_189, e254_190, e254_193, e254_194, e254_195, e254_196, hq, ← hT, n1, hw, e4, m1]
    rw [hF]
    simp (disch := first | assumption | exact zrm0 | exact zrm1 _ | exact zrm2 _ _ | exact zrm3 _ _ _ | exact zrm4 _ _ _ _ | omega) only [m254, ↓k_dp, ↓k_dn, k_dp, k_dn, k_dT, k_dF, k_ip, k_in, if_true, if_false, ne_eq, not_true_eq_false, not_false_eq_true, Int.reduceAdd, zup_a, zup_e, zup_j, z32_id, k_al0, k_ic, k_pI, k_il1, k_v2r, k_ifne, k_ri, k_v2, k_gR, k_iadd, k_ild, k_ildS, k_ildW, k_v3r, k_is2, k_is3, k_il3, k_icgt, k_il2, k_inc3, k_goto, k_icle, k_is4, k_is5, k_is6, k_il6, k_gI, k_icge, k_is7, k_il5, k_il7, k_v4r, k_imul, k_il4, k_isub, k_inc7, k_ist, k_inc6, zb0_some, zb1_some, e254_0, e254_1, e254_2, e254_5, e254_6, e254_7, e254_10, e254_13, e254_14, e254_15, e254_16, e254_17, e254_20, e254_21, e254_22, e254_25, e254_27, e254_28, e254_29, e254_30, e254_31, e254_34, e254_35, e254_36, e254_38, e254_41, e254_44, e254_45, e254_46, e254_49, e254_50, e254_51, e254_52, e254_55, e254_56, e254_59, e254_62, e254_65, e254_66, e254_69, e254_72, e254_73, e254_74, e254_75, e254_76, e254_79, e254_80, e254_81, e254_84, e254_85, e254_87, e254_88, e254_90, e254_91, e254_93, e254_95, e254_96, e254_99, e254_102, e254_103, e254_105, e254_106, e254_108, e254_109, e254_111, e254_112, e254_114, e254_117, e254_118, e254_119, e254_122, e254_125, e254_127, e254_128, e254_129, e254_130, e254_132, e254_133, e254_135, e254_136, e254_137, e254_138, e254_139, e254_142, e254_143, e254_146, e254_149, e254_152, e254_153, e254_156, e254_158, e254_160, e254_161, e254_163, e254_164, e254_166, e254_167, e254_169, e254_172, e254_173, e254_175, e254_177, e254_179, e254_180, e254_182, e254_185, e254_188, e254_189, e254_190, e254_193, e254_194, e254_195, e254_196]
  · have hne : sLeast (zrS M) (zrG M) q ≠ -1 := by omega
    rw [if_neg hne] at hF
    rw [zrG_07] at hI
    have hI2 : dInv (gB (zrS M) (zrG M) q) (rB (zrS M) (zrG M) q) (M 199 1) (M 199 1).toNat (sLeast (zrS M) (zrG M) q) (sNeed (zrS M) (zrG M) q - 0) := by rw [Int.sub_zero]; exact hI
    obtain ⟨N', i1, i2, i3, i4⟩ := r_bH d z0 q y (sLeast (zrS M) (zrG M) q) M hS hG c.1 (by omega) (M 199 1).toNat (sLeast (zrS M) (zrG M) q) 0 (3, 0, 0) (zup N 197 29 (M 199 1)) (by omega) (fun x y a b c => by rw [zup_a c]; exact hB x y a b c) (zup_e (by omega)) (fun i t a b c => by rw [zup_a (by omega)]; exact eX i t a b c) l1 (Int.le_refl _) (by omega) hI2
    rw [Int.sub_zero] at i4
    rw [show M 199 1 - ((M 199 1).toNat : Int) = 0 by omega] at i1 i3 i4
    refine ⟨N', ?_, fun x y a b c => ?_, fun h => absurd h hne, fun _ => ⟨?_, fun h h0 h1 => ?_⟩⟩
    · rw [if_neg hne, ← i1]
      generalize sWay (zrS M) (zrG M) (zrS M 4 q) 1 = ag at *
      generalize sLeast (zrS M) (zrG M) q = L at *
      simp (disch := first | assumption | exact zrm0 | exact zrm1 _ | exact zrm2 _ _ | exact zrm3 _ _ _ | exact zrm4 _ _ _ _ | omega) only [m254, ↓k_dp, ↓k_dn, k_dp, k_dn, k_dT, k_dF, k_ip, k_in, if_true, if_false, ne_eq, not_true_eq_false, not_false_eq_true, Int.reduceAdd, zup_a, zup_e, zup_j, z32_id, k_al0, k_ic, k_pI, k_il1, k_v2r, k_ifne, k_ri, k_v2, k_gR, k_iadd, k_ild, k_ildS, k_ildW, k_v3r, k_is2, k_is3, k_il3, k_icgt, k_il2, k_inc3, k_goto, k_icle, k_is4, k_is5, k_is6, k_il6, k_gI, k_icge, k_is7, k_il5, k_il7, k_v4r, k_imul, k_il4, k_isub, k_inc7, k_ist, k_inc6, zb0_some, zb1_some, e254_0, e254_1, e254_2, e254_5, e254_6, e254_7, e254_10, e254_13, e254_14, e254_15, e254_16, e254_17, e254_20, e254_21, e254_22, e254_25, e254_27, e254_28, e254_29, e254_30, e254_31, e254_34, e254_35, e254_36, e254_38, e254_41, e254_44, e254_45, e254_46, e254_49, e254_50, e254_51, e254_52, e254_55, e254_56, e254_59, e254_62, e254_65, e254_66, e254_69, e254_72, e254_73, e254_74, e254_75, e254_76, e254_79, e254_80, e254_81, e254_84, e254_85, e254_87, e254_88, e254_90, e254_91, e254_95, e254_96, e254_99, e254_102, e254_103, e254_105, e254_106, e254_108, e254_109, e254_111, e254_112, e254_114, e254_117, e254_118, e254_119, e254_122, e254_125, e254_127, e254_128, e254_129, e254_130, e254_132, e254_133, e254_135, e254_136, e254_137, e254_138, e254_139, e254_142, e254_143, e254_146, e254_149, e254_152, e254_153, e254_156, e254_158, e254_160, e254_161, e254_163, e254_164, e254_166, e254_167, e254_169, e254_172, e254_173, e254_175, e254_177, e254_179, e254_180, e254_182, e254_185, e254_188, e254_189, e254_190, e254_193, e254_194, e254_195, e254_196, hq, ← hT, n1, hw, e4, m1]
      rw [hF]
      simp (disch := first | assumption | exact zrm0 | exact zrm1 _ | exact zrm2 _ _ | exact zrm3 _ _ _ | exact zrm4 _ _ _ _ | omega) only [m254, ↓k_dp, ↓k_dn, k_dp, k_dn, k_dT, k_dF, k_ip, k_in, if_true, if_false, ne_eq, not_true_eq_false, not_false_eq_true, Int.reduceAdd, zup_a, zup_e, zup_j, z32_id, k_al0, k_ic, k_pI, k_il1, k_v2r, k_ifne, k_ri, k_v2, k_gR, k_iadd, k_ild, k_ildS, k_ildW, k_v3r, k_is2, k_is3, k_il3, k_icgt, k_il2, k_inc3, k_goto, k_icle, k_is4, k_is5, k_is6, k_il6, k_gI, k_icge, k_is7, k_il5, k_il7, k_v4r, k_imul, k_il4, k_isub, k_inc7, k_ist, k_inc6, zb0_some, zb1_some, e254_0, e254_1, e254_2, e254_5, e254_6, e254_7, e254_10, e254_13, e254_14, e254_15, e254_16, e254_17, e254_20, e254_21, e254_22, e254_25, e254_27, e254_28, e254_29, e254_30, e254_31, e254_34, e254_35, e254_36, e254_38, e254_41, e254_44, e254_45, e254_46, e254_49, e254_50, e254_51, e254_52, e254_55, e254_56, e254_59, e254_62, e254_65, e254_66, e254_69, e254_72, e254_73, e254_74, e254_75, e254_76, e254_79, e254_80, e254_81, e254_84, e254_85, e254_87, e254_88, e254_90, e254_91, e254_95, e254_96, e254_99, e254_102, e254_103, e254_105, e254_106, e254_108, e254_109, e254_111, e254_112, e254_114, e254_117, e254_118, e254_119, e254_122, e254_125, e254_127, e254_128, e254_129, e254_130, e254_132, e254_133, e254_135, e254_136, e254_137, e254_138, e254_139, e254_142, e254_143, e254_146, e254_149, e254_152, e254_153, e254_156, e254_158, e254_160, e254_161, e254_163, e254_164, e254_166, e254_167, e254_169, e254_172, e254_173, e254_175, e254_177, e254_179, e254_180, e254_182, e254_185, e254_188, e254_189, e254_190, e254_193, e254_194, e254_195, e254_196, m1]
    · rw [i2 x y b]
      unfold zup
      rw [if_neg (by omega), n2 x y a, hT]
      unfold zup
      rw [if_neg (by omega)]
    · rw [i2 _ _ (by omega), zup_e (by omega)]
    · rw [i4 h (by omega) h1]
      unfold sShare
      rw [zrG_07]
theorem pair_bought (d : Nat) (x0 z0 q y1 z1 : Int) (M : zM) (hC : relC M) (hE : relE M) (hF : relF M) (hH : relH M) : zPairH M (zEm true (d + 8) 27 [(29, 0, x0), (0, q, y1)] M) (fun M1 => zEm true (d + 8) 254 [(30, 197, z0), (0, q, z1)] M1) := by
  obtain ⟨n0, n1, n2, n3, n4, n5⟩ := relC_n hC
  have k := c_bought d x0 q y1 M hE.2.1.1 hC.2
  have hG2 := hC.2
  obtain ⟨⟨g6, g6'⟩, ⟨g1, g2⟩, ⟨g3, g4⟩, -⟩ := okG_M hG2
  by_cases c : 0 ≤ q ∧ q < M 30 8
  · obtain ⟨M1, k1, k2, k3, k4⟩ := k.2 c
    have e1 : ∀ y, M1 199 y = M 199 y := fun y => k2 199 y (by omega) (by omega) (by omega)
    have eS : zrS M1 = zrS M := zrS_eq (fun b _ _ _ => e1 b)
    have eG : zrG M1 = zrG M := zrG_eq (fun b _ _ => e1 b)
    have r := r_bought d z0 q z1 M1 (by rw [eS, hE.1]; exact hE.2.1.1) (by rw [eG, hC.1]; exact hC.2)
    rw [eS, eG, hE.1, hC.1, e1, e1, e1, n2, n1] at r
    obtain ⟨M2, r1, r2, r3, r4⟩ := r.2 c
    have n3' : M 199 3 = M 30 10 := by
      have := congrFun (congrFun hC.1 0) 10
      rwa [zrG_0t, zvG_0 (by omega) (by omega)] at this
    rw [n3'] at r1
    refine ⟨_, M1, M2, k1, r1, ?_, fun x y h => ?_⟩
    · unfold relH at hH ⊢
      obtain ⟨h1, h2, h3, h4, h5, h6, h7, h8⟩ := hH
      have a1 : ∀ y, y ≠ 0 → y ≠ 29 → M2 197 y = M 197 y := fun y b c => by rw [r2 _ _ (by omega) (by omega) (by omega), k2 _ _ (by omega) (by omega) (by omega)]
      have a2 : ∀ y, y ≠ 4 → M2 51 y = M 51 y := fun y b => by rw [r2 _ _ (by omega) (by omega) (by omega), k2 _ _ (by omega) (by omega) (by omega)]
      have a3 : ∀ x y, 53 ≤ x → (x < 56 ∨ 58 < x) → x ≠ 209 → x ≠ 210 → x ≠ 197 → M2 x y = M x y := fun x y _ _ _ _ _ => by rw [r2 _ _ (by omega) (by omega) (by omega), k2 _ _ (by omega) (by omega) (by omega)]
      simp (disch := omega) only [a1, a2, a3]
      refine ⟨h1, h2, h3, ?_, h5, h6, h7, h8⟩
      by_cases cl : sLeast (zvS M 37) (zvG M 30) q = -1
      · have b1 : ∀ y, y ≠ 0 → M2 197 y = M 197 y := fun y b => by rw [r3 cl _ _ (by omega) (by omega), k3 cl _ _ (by omega)]
        have b2 : ∀ x y, x ≠ 197 → x ≠ 209 → x < 56 ∨ 58 < x → M2 x y = M x y := fun x y _ _ _ => by rw [r3 cl _ _ (by omega) (by omega), k3 cl _ _ (by omega)]
        simp (disch := omega) only [b1, b2]
        exact h4
      · obtain ⟨p1, p2⟩ := k4 cl
        obtain ⟨q1, q2⟩ := r4 cl
        have b1 : M2 51 4 = M 30 7 := by rw [r2 _ _ (by omega) (by omega) (by omega)]; exact p1
        rw [b1, q1]
        refine ⟨⟨g1, g2⟩, rfl, fun h h0 h1 => ?_⟩
        rw [q2 h h0 h1, r2 _ _ (by omega) (by omega) (by omega), p2 h h0 h1]
    · unfold zFH at h
      rw [r2 _ _ (by omega) (by omega) (by omega), k2 _ _ (by omega) (by omega) (by omega)]
  · have r := (r_bought d z0 q z1 M (by rw [hE.1]; exact hE.2.1.1) (by rw [hC.1]; exact hC.2)).1 (by rw [n2]; exact c)
    exact zPairH_Q hH (k.1 c) r
