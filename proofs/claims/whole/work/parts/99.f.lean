/-! what was heard: the class, whole -/
abbrev hT : Type := Int × Int × zM
def hC (S G : zM) (loud off : Int) (s : Int) (p : hT) : hT := if sAbs (z32 (sWay S G s 0 - loud)) ≤ off then (z32 (p.1 + 1), zand p.2.1 s, zit (fun h N => zup N 79 h (z32 (N 79 h + zbit s h))) (G 0 7).toNat 0 p.2.2) else p
def hR (S G : zM) (loud off : Int) (s : Int) (p : hT) : hT := if sAbs (z32 (sWay S G s 0 - loud)) ≤ off then (z32 (p.1 + 1), zand p.2.1 s, zit (fun h N => zup N 214 h (if zbit s h ≠ 0 then z32 (N 214 h + 1) else N 214 h)) 10 0 p.2.2) else p
theorem hC_o {S G : zM} {loud off s : Int} {p : hT} {x y : Int} (h : x ≠ 79) : (hC S G loud off s p).2.2 x y = p.2.2 x y := by
  unfold hC
  split
  · dsimp only
    rw [zit_pt (fun h a => z32 (a + zbit s h)) (by omega), if_neg (fun z => h z.1)]
  · rfl
theorem hR_o {S G : zM} {loud off s : Int} {p : hT} {x y : Int} (h : x ≠ 214) : (hR S G loud off s p).2.2 x y = p.2.2 x y := by
  unfold hR
  split
  · dsimp only
    rw [zit_pt (fun h a => if zbit s h ≠ 0 then z32 (a + 1) else a) (by omega), if_neg (fun z => h z.1)]
  · rfl
theorem c_heardLoop (d : Nat) (x0 a loud off l4 : Int) (M : zM) (hG : okG (zvG M 30)) (u0 : Int) : ∃ w, w = zit (hC (zvS M 37) (zvG M 30) loud off) (zshl 1 (M 30 7)).toNat 0 (0, u0, M) ∧ zEv true (d + 7) 32 93 [(29, 0, x0), (0, a, 0), (0, loud, 0), (0, off, 0), (0, 0, 0), (0, u0, 0), (0, 0, 0)] [] M = zEv true (d + 7) 32 150 [(29, 0, x0), (0, a, 0), (0, loud, 0), (0, off, 0), (0, w.1, 0), (0, w.2.1, 0), (0, zshl 1 (M 30 7), 0)] [] w.2.2 ∧ ∀ x y, x ≠ 79 → w.2.2 x y = M x y := by
  obtain ⟨⟨g6, g6'⟩, ⟨g1, g2⟩, -⟩ := okG_M hG
  obtain ⟨p1, p2, p3⟩ := pw_ok g1 g2
  have e7 : zvG M 30 0 7 = M 30 7 := zvG_0 (by omega) (by omega)
  have hl := zfor (α := hT) (ph := true) (d := d + 7) (j := 32) (pc := 93) (hC (zvS M 37) (zvG M 30) loud off) (fun s p => 0 ≤ s ∧ ∀ x y, x ≠ 79 → p.2.2 x y = M x y) (fun s p => [(29, 0, x0), (0, a, 0), (0, loud, 0), (0, off, 0), (0, p.1, 0), (0, p.2.1, 0), (0, s, 0)]) (fun p => p.2.2) (zshl 1 (M 30 7))
    (fun s p hk hp => by
      obtain ⟨n, u, N⟩ := p
      obtain ⟨h0, hN⟩ := hp
      dsimp only at hN
      have eG : zvG N 30 = zvG M 30 := zvG_eq (fun x y h1 h2 => hN x y (by omega))
      have eS : zvS N 37 = zvS M 37 := zvS_eq (fun x y h1 h2 => hN x y (by omega))
      have e30 : N 30 7 = M 30 7 := hN _ _ (by omega)
      have k1 : 0 ≤ N 30 7 := by omega
      have k2 : N 30 7 ≤ 10 := by omega
      refine ⟨?_, by omega, fun x y h => by rw [hC_o h]; exact hN x y h⟩
      rw [e32_93]
      unfold hC
      dsimp only
      rw [e7]
      by_cases c : sAbs (z32 (sWay (zvS M 37) (zvG M 30) s 0 - loud)) ≤ off
      · rw [if_pos c]
        unfold sAbs at c
        simp (disch := first | assumption | exact zrm0 | exact zrm1 _ | exact zrm2 _ _ | exact zrm3 _ _ _ | exact zrm4 _ _ _ _ | omega) only [m32, ↓k_dp, ↓k_dn, k_dp, k_dn, k_dT, k_dF, k_ip, k_in, if_true, if_false, ne_eq, not_true_eq_false, not_false_eq_true, Int.reduceAdd, zup_a, zup_e, zup_j, z32_id, k_al0, k_gR, k_gI, k_ic, k_icne, k_goto, k_is1, k_v2r, k_is2, k_is3, k_pI, k_il1, k_ifne, k_ri, k_is4, k_il4, k_icge, k_ist, k_inc4, k_v1r, k_is5, k_is6, k_il6, k_icgt, k_v4r, k_il2, k_isub, k_abs, k_il3, k_il5, k_iand, k_v2, k_inc6, k_ifle, zb0_some, zb1_some, e32_0, e32_1, e32_4, e32_7, e32_8, e32_11, e32_12, e32_15, e32_16, e32_17, e32_18, e32_21, e32_22, e32_25, e32_26, e32_27, e32_30, e32_31, e32_34, e32_35, e32_36, e32_39, e32_40, e32_43, e32_44, e32_47, e32_48, e32_49, e32_50, e32_52, e32_54, e32_55, e32_58, e32_61, e32_64, e32_65, e32_68, e32_70, e32_71, e32_72, e32_75, e32_78, e32_79, e32_81, e32_82, e32_85, e32_88, e32_90, e32_91, e32_95, e32_96, e32_99, e32_102, e32_105, e32_106, e32_109, e32_110, e32_113, e32_115, e32_116, e32_119, e32_120, e32_121, e32_124, e32_125, e32_128, e32_131, e32_133, e32_135, e32_136, e32_138, e32_139, e32_141, e32_144, e32_147, e32_150, e32_152, e32_155, e32_156, e32_159, e32_161, e32_164, e32_165, e32_168, e32_169, e32_171, e32_174, e32_177, e32_179, s_allHands, e30, p3, s_wayNoise, eS, eG, c_tallyHands]
      · rw [if_neg c]
        unfold sAbs at c
        simp (disch := first | assumption | exact zrm0 | exact zrm1 _ | exact zrm2 _ _ | exact zrm3 _ _ _ | exact zrm4 _ _ _ _ | omega) only [m32, ↓k_dp, ↓k_dn, k_dp, k_dn, k_dT, k_dF, k_ip, k_in, if_true, if_false, ne_eq, not_true_eq_false, not_false_eq_true, Int.reduceAdd, zup_a, zup_e, zup_j, z32_id, k_al0, k_gR, k_gI, k_ic, k_icne, k_goto, k_is1, k_v2r, k_is2, k_is3, k_pI, k_il1, k_ifne, k_ri, k_is4, k_il4, k_icge, k_ist, k_inc4, k_v1r, k_is5, k_is6, k_il6, k_icgt, k_v4r, k_il2, k_isub, k_abs, k_il3, k_il5, k_iand, k_v2, k_inc6, k_ifle, zb0_some, zb1_some, e32_0, e32_1, e32_4, e32_7, e32_8, e32_11, e32_12, e32_15, e32_16, e32_17, e32_18, e32_21, e32_22, e32_25, e32_26, e32_27, e32_30, e32_31, e32_34, e32_35, e32_36, e32_39, e32_40, e32_43, e32_44, e32_47, e32_48, e32_49, e32_50, e32_52, e32_54, e32_55, e32_58, e32_61, e32_64, e32_65, e32_68, e32_70, e32_71, e32_72, e32_75, e32_78, e32_79, e32_81, e32_82, e32_85, e32_88, e32_90, e32_91, e32_95, e32_96, e32_99, e32_102, e32_105, e32_106, e32_109, e32_110, e32_113, e32_115, e32_116, e32_119, e32_120, e32_121, e32_124, e32_125, e32_128, e32_131, e32_133, e32_135, e32_136, e32_138, e32_139, e32_141, e32_144, e32_147, e32_150, e32_152, e32_155, e32_156, e32_159, e32_161, e32_164, e32_165, e32_168, e32_169, e32_171, e32_174, e32_177, e32_179, s_allHands, e30, p3, s_wayNoise, eS, eG]) (zshl 1 (M 30 7)).toNat 0 (0, u0, M) (by omega) ⟨Int.le_refl _, fun _ _ _ => rfl⟩
  obtain ⟨h1, -, h2⟩ := hl
  refine ⟨_, rfl, ?_, h2⟩
  dsimp only at h1
  rw [h1, e32_93]
  generalize zit (hC (zvS M 37) (zvG M 30) loud off) (zshl 1 (M 30 7)).toNat 0 (0, u0, M) = w at h2
  have e30 : w.2.2 30 7 = M 30 7 := h2 _ _ (by omega)
  simp (disch := first | assumption | exact zrm0 | exact zrm1 _ | exact zrm2 _ _ | exact zrm3 _ _ _ | exact zrm4 _ _ _ _ | omega) only [m32, ↓k_dp, ↓k_dn, k_dp, k_dn, k_dT, k_dF, k_ip, k_in, if_true, if_false, ne_eq, not_true_eq_false, not_false_eq_true, Int.reduceAdd, zup_a, zup_e, zup_j, z32_id, k_al0, k_gR, k_gI, k_ic, k_icne, k_goto, k_is1, k_v2r, k_is2, k_is3, k_pI, k_il1, k_ifne, k_ri, k_is4, k_il4, k_icge, k_ist, k_inc4, k_v1r, k_is5, k_is6, k_il6, k_icgt, k_v4r, k_il2, k_isub, k_abs, k_il3, k_il5, k_iand, k_v2, k_inc6, k_ifle, zb0_some, zb1_some, e32_0, e32_1, e32_4, e32_7, e32_8, e32_11, e32_12, e32_15, e32_16, e32_17, e32_18, e32_21, e32_22, e32_25, e32_26, e32_27, e32_30, e32_31, e32_34, e32_35, e32_36, e32_39, e32_40, e32_43, e32_44, e32_47, e32_48, e32_49, e32_50, e32_52, e32_54, e32_55, e32_58, e32_61, e32_64, e32_65, e32_68, e32_70, e32_71, e32_72, e32_75, e32_78, e32_79, e32_81, e32_82, e32_85, e32_88, e32_90, e32_91, e32_95, e32_96, e32_99, e32_102, e32_105, e32_106, e32_109, e32_110, e32_113, e32_115, e32_116, e32_119, e32_120, e32_121, e32_124, e32_125, e32_128, e32_131, e32_133, e32_135, e32_136, e32_138, e32_139, e32_141, e32_144, e32_147, e32_152, e32_155, e32_156, e32_159, e32_161, e32_164, e32_165, e32_168, e32_169, e32_171, e32_174, e32_177, e32_179, s_allHands, e30, p3]
theorem c_heard (d : Nat) (x0 : Int) (M : zM) (hA : 0 ≤ M 2 1) (hG : okG (zvG M 30)) : (M 2 1 ≠ 2 → zEm true (d + 8) 32 [(29, 0, x0)] M = some ((0, -1, 0), zup M 2 1 0)) ∧ (M 2 1 = 2 → ∀ w, w = zit (hC (zvS M 37) (zvG M 30) (M 3 0) (M 3 1)) (zshl 1 (M 30 7)).toNat 0 (0, zshl 1 (M 30 7) - 1, zit (fun h N => zup N 79 h 0) (M 30 7).toNat 0 (zup M 2 1 0)) → zEm true (d + 8) 32 [(29, 0, x0)] M = some ((0, w.1, 0), if w.1 ≤ 0 then w.2.2 else zup (zup w.2.2 51 7 w.2.1) 51 8 (zit (eF (fun h => w.2.2 79 h) w.1) (M 30 7).toNat 0 (-1))) ∧ ∀ x y, x ≠ 79 → ¬ (x = 2 ∧ y = 1) → w.2.2 x y = M x y) := by
  obtain ⟨⟨g6, g6'⟩, ⟨g1, g2⟩, -⟩ := okG_M hG
  obtain ⟨p1, p2, p3⟩ := pw_ok g1 g2
  refine ⟨fun c => ?_, fun c w hw => ?_⟩
  · simp (disch := first | assumption | exact zrm0 | exact zrm1 _ | exact zrm2 _ _ | exact zrm3 _ _ _ | exact zrm4 _ _ _ _ | omega) only [m32, ↓k_dp, ↓k_dn, k_dp, k_dn, k_dT, k_dF, k_ip, k_in, if_true, if_false, ne_eq, not_true_eq_false, not_false_eq_true, Int.reduceAdd, zup_a, zup_e, zup_j, z32_id, k_al0, k_gR, k_gI, k_ic, k_icne, k_goto, k_is1, k_v2r, k_is2, k_is3, k_pI, k_il1, k_ifne, k_ri, k_is4, k_il4, k_icge, k_ist, k_inc4, k_v1r, k_is5, k_is6, k_il6, k_icgt, k_v4r, k_il2, k_isub, k_abs, k_il3, k_il5, k_iand, k_v2, k_inc6, k_ifle, zb0_some, zb1_some, e32_0, e32_1, e32_4, e32_7, e32_8, e32_11, e32_12, e32_15, e32_16, e32_17, e32_18, e32_21, e32_22, e32_25, e32_26, e32_27, e32_30, e32_31, e32_34, e32_35, e32_36, e32_39, e32_40, e32_43, e32_44, e32_47, e32_48, e32_49, e32_50, e32_52, e32_54, e32_55, e32_58, e32_61, e32_64, e32_65, e32_68, e32_70, e32_71, e32_72, e32_75, e32_78, e32_79, e32_81, e32_82, e32_85, e32_88, e32_90, e32_91, e32_93, e32_95, e32_96, e32_99, e32_102, e32_105, e32_106, e32_109, e32_110, e32_113, e32_115, e32_116, e32_119, e32_120, e32_121, e32_124, e32_125, e32_128, e32_131, e32_133, e32_135, e32_136, e32_138, e32_139, e32_141, e32_144, e32_147, e32_150, e32_152, e32_155, e32_156, e32_159, e32_161, e32_164, e32_165, e32_168, e32_169, e32_171, e32_174, e32_177, e32_179, s_at]
  · obtain ⟨Z, hZ⟩ : ∃ Z, Z = zit (fun h N => zup N 79 h 0) (M 30 7).toNat 0 (zup M 2 1 0) := ⟨_, rfl⟩
    have hl := zfor (α := zM) (ph := true) (d := d + 7) (j := 32) (pc := 52) (fun h N => zup N 79 h 0) (fun h N => 0 ≤ h ∧ N 30 7 = M 30 7) (fun h _ => [(29, 0, x0), (0, 1, 0), (0, M 3 0, 0), (0, M 3 1, 0), (0, h, 0), (3, 0, 0), (3, 0, 0)]) (fun N => N) (M 30 7)
      (fun k b hk hp => ⟨by
        obtain ⟨h0, h1⟩ := hp
        rw [e32_52]
        simp (disch := first | assumption | exact zrm0 | exact zrm1 _ | exact zrm2 _ _ | exact zrm3 _ _ _ | exact zrm4 _ _ _ _ | omega) only [m32, ↓k_dp, ↓k_dn, k_dp, k_dn, k_dT, k_dF, k_ip, k_in, if_true, if_false, ne_eq, not_true_eq_false, not_false_eq_true, Int.reduceAdd, zup_a, zup_e, zup_j, z32_id, k_al0, k_gR, k_gI, k_ic, k_icne, k_goto, k_is1, k_v2r, k_is2, k_is3, k_pI, k_il1, k_ifne, k_ri, k_is4, k_il4, k_icge, k_ist, k_inc4, k_v1r, k_is5, k_is6, k_il6, k_icgt, k_v4r, k_il2, k_isub, k_abs, k_il3, k_il5, k_iand, k_v2, k_inc6, k_ifle, zb0_some, zb1_some, e32_0, e32_1, e32_4, e32_7, e32_8, e32_11, e32_12, e32_15, e32_16, e32_17, e32_18, e32_21, e32_22, e32_25, e32_26, e32_27, e32_30, e32_31, e32_34, e32_35, e32_36, e32_39, e32_40, e32_43, e32_44, e32_47, e32_48, e32_49, e32_50, e32_54, e32_55, e32_58, e32_61, e32_64, e32_65, e32_68, e32_70, e32_71, e32_72, e32_75, e32_78, e32_79, e32_81, e32_82, e32_85, e32_88, e32_90, e32_91, e32_93, e32_95, e32_96, e32_99, e32_102, e32_105, e32_106, e32_109, e32_110, e32_113, e32_115, e32_116, e32_119, e32_120, e32_121, e32_124, e32_125, e32_128, e32_131, e32_133, e32_135, e32_136, e32_138, e32_139, e32_141, e32_144, e32_147, e32_150, e32_152, e32_155, e32_156, e32_159, e32_161, e32_164, e32_165, e32_168, e32_169, e32_171, e32_174, e32_177, e32_179, h1], by omega, by rw [zup_a (by omega)]; exact hp.2⟩) (M 30 7).toNat 0 (zup M 2 1 0) (by omega) ⟨Int.le_refl _, zup_a (by omega)⟩
    rw [← hZ] at hl hw
    obtain ⟨h1, -, h2⟩ := hl
    have hZo : ∀ x y, x ≠ 79 → Z x y = zup M 2 1 0 x y := fun x y h => by
      rw [hZ, zit_pt (fun _ _ => 0) (by omega), if_neg (fun z => h z.1)]
    have eG : zvG Z 30 = zvG M 30 := zvG_eq (fun x y h1 h2 => by rw [hZo _ _ (by omega), zup_a (by omega)])
    have eS : zvS Z 37 = zvS M 37 := zvS_eq (fun x y h1 h2 => by rw [hZo _ _ (by omega), zup_a (by omega)])
    obtain ⟨w', hw', k1, k2⟩ := c_heardLoop d x0 1 (M 3 0) (M 3 1) 0 Z (by rw [eG]; exact hG) (zshl 1 (M 30 7) - 1)
    rw [eG, eS, h2, ← hw] at hw'
    subst hw'
    have f0 : (0 : Int) ≤ 0 ∧ (0 : Int) < M 2 1 ∧ (0 : Int) < 940 := by omega
    have f1 : (0 : Int) ≤ 1 ∧ (1 : Int) < M 2 1 ∧ (1 : Int) < 940 := by omega
    have kF : ∀ x y, x ≠ 79 → ¬ (x = 2 ∧ y = 1) → w'.2.2 x y = M x y := fun x y h3 h4 => by
      rw [k2 x y h3, hZo x y h3]
      unfold zup
      rw [if_neg (fun z => h4 ⟨z.1, z.2.1⟩)]
    refine ⟨?_, kF⟩
    rw [h2] at k1
    have e30 : w'.2.2 30 7 = M 30 7 := kF _ _ (by omega) (by omega)
    have q1 : 0 ≤ w'.2.2 30 7 := by omega
    have q2 : w'.2.2 30 7 ≤ 10 := by omega
    simp (disch := first | assumption | exact zrm0 | exact zrm1 _ | exact zrm2 _ _ | exact zrm3 _ _ _ | exact zrm4 _ _ _ _ | omega) only [m32, ↓k_dp, ↓k_dn, k_dp, k_dn, k_dT, k_dF, k_ip, k_in, if_true, if_false, ne_eq, not_true_eq_false, not_false_eq_true, Int.reduceAdd, zup_a, zup_e, zup_j, z32_id, k_al0, k_gR, k_gI, k_ic, k_icne, k_goto, k_is1, k_v2r, k_is2, k_is3, k_pI, k_il1, k_ifne, k_ri, k_is4, k_il4, k_icge, k_ist, k_inc4, k_v1r, k_is5, k_is6, k_il6, k_icgt, k_v4r, k_il2, k_isub, k_abs, k_il3, k_il5, k_iand, k_v2, k_inc6, k_ifle, zb0_some, zb1_some, e32_0, e32_1, e32_4, e32_7, e32_8, e32_11, e32_12, e32_15, e32_16, e32_17, e32_18, e32_21, e32_22, e32_25, e32_26, e32_27, e32_30, e32_31, e32_34, e32_35, e32_36, e32_39, e32_40, e32_43, e32_44, e32_47, e32_48, e32_49, e32_50, e32_54, e32_55, e32_58, e32_61, e32_64, e32_65, e32_68, e32_70, e32_71, e32_72, e32_75, e32_78, e32_79, e32_81, e32_82, e32_85, e32_88, e32_90, e32_91, e32_93, e32_95, e32_96, e32_99, e32_102, e32_105, e32_106, e32_109, e32_110, e32_113, e32_115, e32_116, e32_119, e32_120, e32_121, e32_124, e32_125, e32_128, e32_131, e32_133, e32_135, e32_136, e32_138, e32_139, e32_141, e32_144, e32_147, e32_150, e32_152, e32_155, e32_156, e32_159, e32_161, e32_164, e32_165, e32_168, e32_169, e32_171, e32_174, e32_177, e32_179, s_at, if_pos f0, if_pos f1, c]
    rw [h1]
    simp (disch := first | assumption | exact zrm0 | exact zrm1 _ | exact zrm2 _ _ | exact zrm3 _ _ _ | exact zrm4 _ _ _ _ | omega) only [m32, ↓k_dp, ↓k_dn, k_dp, k_dn, k_dT, k_dF, k_ip, k_in, if_true, if_false, ne_eq, not_true_eq_false, not_false_eq_true, Int.reduceAdd, zup_a, zup_e, zup_j, z32_id, k_al0, k_gR, k_gI, k_ic, k_icne, k_goto, k_is1, k_v2r, k_is2, k_is3, k_pI, k_il1, k_ifne, k_ri, k_is4, k_il4, k_icge, k_ist, k_inc4, k_v1r, k_is5, k_is6, k_il6, k_icgt, k_v4r, k_il2, k_isub, k_abs, k_il3, k_il5, k_iand, k_v2, k_inc6, k_ifle, zb0_some, zb1_some, e32_0, e32_1, e32_4, e32_7, e32_8, e32_11, e32_12, e32_15, e32_16, e32_17, e32_18, e32_21, e32_22, e32_25, e32_26, e32_27, e32_30, e32_31, e32_34, e32_35, e32_36, e32_39, e32_40, e32_43, e32_44, e32_47, e32_48, e32_49, e32_50, e32_52, e32_54, e32_55, e32_58, e32_61, e32_64, e32_65, e32_68, e32_70, e32_71, e32_72, e32_75, e32_78, e32_79, e32_81, e32_82, e32_85, e32_88, e32_90, e32_91, e32_95, e32_96, e32_99, e32_102, e32_105, e32_106, e32_109, e32_110, e32_113, e32_115, e32_116, e32_119, e32_120, e32_121, e32_124, e32_125, e32_128, e32_131, e32_133, e32_135, e32_136, e32_138, e32_139, e32_141, e32_144, e32_147, e32_150, e32_152, e32_155, e32_156, e32_159, e32_161, e32_164, e32_165, e32_168, e32_169, e32_171, e32_174, e32_177, e32_179, h2, s_allHands, p3]
    rw [k1]
    by_cases cw : w'.1 ≤ 0
    · rw [if_pos cw]
      simp (disch := first | assumption | exact zrm0 | exact zrm1 _ | exact zrm2 _ _ | exact zrm3 _ _ _ | exact zrm4 _ _ _ _ | omega) only [m32, ↓k_dp, ↓k_dn, k_dp, k_dn, k_dT, k_dF, k_ip, k_in, if_true, if_false, ne_eq, not_true_eq_false, not_false_eq_true, Int.reduceAdd, zup_a, zup_e, zup_j, z32_id, k_al0, k_gR, k_gI, k_ic, k_icne, k_goto, k_is1, k_v2r, k_is2, k_is3, k_pI, k_il1, k_ifne, k_ri, k_is4, k_il4, k_icge, k_ist, k_inc4, k_v1r, k_is5, k_is6, k_il6, k_icgt, k_v4r, k_il2, k_isub, k_abs, k_il3, k_il5, k_iand, k_v2, k_inc6, k_ifle, zb0_some, zb1_some, e32_0, e32_1, e32_4, e32_7, e32_8, e32_11, e32_12, e32_15, e32_16, e32_17, e32_18, e32_21, e32_22, e32_25, e32_26, e32_27, e32_30, e32_31, e32_34, e32_35, e32_36, e32_39, e32_40, e32_43, e32_44, e32_47, e32_48, e32_49, e32_50, e32_52, e32_54, e32_55, e32_58, e32_61, e32_64, e32_65, e32_68, e32_70, e32_71, e32_72, e32_75, e32_78, e32_79, e32_81, e32_82, e32_85, e32_88, e32_90, e32_91, e32_93, e32_95, e32_96, e32_99, e32_102, e32_105, e32_106, e32_109, e32_110, e32_113, e32_115, e32_116, e32_119, e32_120, e32_121, e32_124, e32_125, e32_128, e32_131, e32_133, e32_135, e32_136, e32_138, e32_139, e32_141, e32_144, e32_147, e32_150, e32_152, e32_155, e32_156, e32_159, e32_161, e32_164, e32_165, e32_168, e32_169, e32_171, e32_174, e32_177, e32_179]
    · rw [if_neg cw]
      have qa : 0 ≤ zup w'.2.2 51 7 w'.2.1 30 7 := by rw [zup_a (by omega)]; exact q1
      have qb : zup w'.2.2 51 7 w'.2.1 30 7 ≤ 10 := by rw [zup_a (by omega)]; exact q2
      simp (disch := first | assumption | exact zrm0 | exact zrm1 _ | exact zrm2 _ _ | exact zrm3 _ _ _ | exact zrm4 _ _ _ _ | omega) only [m32, ↓k_dp, ↓k_dn, k_dp, k_dn, k_dT, k_dF, k_ip, k_in, if_true, if_false, ne_eq, not_true_eq_false, not_false_eq_true, Int.reduceAdd, zup_a, zup_e, zup_j, z32_id, k_al0, k_gR, k_gI, k_ic, k_icne, k_goto, k_is1, k_v2r, k_is2, k_is3, k_pI, k_il1, k_ifne, k_ri, k_is4, k_il4, k_icge, k_ist, k_inc4, k_v1r, k_is5, k_is6, k_il6, k_icgt, k_v4r, k_il2, k_isub, k_abs, k_il3, k_il5, k_iand, k_v2, k_inc6, k_ifle, zb0_some, zb1_some, e32_0, e32_1, e32_4, e32_7, e32_8, e32_11, e32_12, e32_15, e32_16, e32_17, e32_18, e32_21, e32_22, e32_25, e32_26, e32_27, e32_30, e32_31, e32_34, e32_35, e32_36, e32_39, e32_40, e32_43, e32_44, e32_47, e32_48, e32_49, e32_50, e32_52, e32_54, e32_55, e32_58, e32_61, e32_64, e32_65, e32_68, e32_70, e32_71, e32_72, e32_75, e32_78, e32_79, e32_81, e32_82, e32_85, e32_88, e32_90, e32_91, e32_93, e32_95, e32_96, e32_99, e32_102, e32_105, e32_106, e32_109, e32_110, e32_113, e32_115, e32_116, e32_119, e32_120, e32_121, e32_124, e32_125, e32_128, e32_131, e32_133, e32_135, e32_136, e32_138, e32_139, e32_141, e32_144, e32_147, e32_150, e32_152, e32_155, e32_156, e32_159, e32_161, e32_164, e32_165, e32_168, e32_169, e32_171, e32_174, e32_177, e32_179, c_evenestHand, e30]
