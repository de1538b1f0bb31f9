/-! the crier: the pair -/
theorem fO_bd {R : List Int} {i : Int} (hR : okL R) (i0 : 0 ≤ i) (i1 : i < (R.length : Int) + 8) : 0 ≤ fO R i ∧ fO R i < 128 := by
  unfold fO
  split
  · exact fN_bd hR i0 (by omega)
  · exact zst_bd (by omega) (by omega)
theorem fD_bd {R : List Int} {k l n i : Int} (hR : okL R) (h : (k = 5 ∧ l = 12) ∨ (k = 6 ∧ l = 9)) (n0 : 0 ≤ n) (n1 : n ≤ 1000) (i0 : 0 ≤ i) : 0 ≤ fD R k l n i ∧ fD R k l n i < 128 := by
  unfold fD
  split
  · split
    · exact fN_bd hR i0 (by omega)
    · exact zst_bd (by omega) (by omega)
  · exact dDig_bd n0 n1
theorem relI_Y {M : zM} (h : relI M) : okY M := by
  obtain ⟨a1, a2, a3, a4, a5, a6⟩ := h
  exact ⟨a1, a2, a3, a4, a5⟩
theorem zPairI_Q {M : zM} {cc : zO} {rc : zM → zO} {v : Int} (hI : relI M) (h1 : cc = some ((0, v, 0), M)) (h2 : rc M = some ((0, v, 0), zup M 197 0 0)) : zPairI M cc rc := by
  refine ⟨v, M, _, h1, h2, ?_, fun x y h => ?_, ?_⟩
  · unfold relI at hI ⊢
    have h54 : ∀ x, x ≠ 197 → ∀ y, zup M 197 0 0 x y = M x y := fun x h y => zup_a h
    have h39 : zup M 197 0 0 197 39 = M 197 39 := zup_j (by omega)
    rw [h54 54 (by omega), h54 54 (by omega), h54 54 (by omega), h54 54 (by omega), h54 (-1) (by omega), h39]
    obtain ⟨a1, a2, a3, a4, a5, a6, a7⟩ := hI
    refine ⟨a1, a2, a3, a4, a5, a6, fun i i0 i1 => ?_⟩
    rw [h54 215 (by omega), h54 (M 54 0) (by omega)]
    exact a7 i i0 i1
  · unfold zFI at h
    unfold zup
    rw [if_neg (by omega)]
  · unfold zPot
    rw [zup_a (by omega), zup_a (by omega), zup_a (by omega)]
    exact ⟨Int.le_refl _, Int.le_refl _⟩
theorem pair_crier (d : Nat) (x0 z0 q y1 z1 : Int) (M : zM) (hC : relC M) (hE : relE M) (hD : relD M) (hI : relI M) : zPairI M (zEm true (d + 12) 35 [(29, 0, x0), (0, q, y1)] M) (fun M1 => zEm true (d + 12) 267 [(30, 197, z0), (0, q, z1)] M1) := by
  obtain ⟨n0, n1, n2, n3, n4, n5⟩ := relC_n hC
  have hG2 := hC.2
  obtain ⟨⟨g6, g6'⟩, ⟨g1, g2⟩, ⟨g3, g4⟩, -⟩ := okG_M hG2
  by_cases c : 0 ≤ q ∧ q < M 30 8
  · obtain ⟨R', hne, hR, k1, k2⟩ := hD.2.2 q c.1 c.2
    obtain ⟨b, R, rfl⟩ : ∃ b R, R' = b :: R := by
      cases R' with
      | nil => exact absurd rfl hne
      | cons b R => exact ⟨b, R, rfl⟩
    have q5 : q < 5 := by omega
    have e5 : zvS M 37 5 q = M 42 q := zvS_5 c.1 q5
    have e7 : zvS M 37 7 q = M 44 q := zvS_7 c.1 q5
    have r5 : M 199 (111 + q) = M 42 q := by
      have := congrFun (congrFun hE.1 5) q
      rwa [zrS_5 c.1 q5, e5] at this
    have r7 : M 199 (121 + q) = M 44 q := by
      have := congrFun (congrFun hE.1 7) q
      rwa [zrS_7 c.1 q5, e7] at this
    have s5 := hE.2.1.1.2.2.2.2.2.2.2.1 q c.1 q5
    have s7 := hE.2.1.1.2.2.2.2.2.2.2.2.2.1 q c.1 q5
    have s57 := hE.2.1.2.2 q c.1 q5
    rw [e5] at s5 s57
    rw [e7] at s7 s57
    have hm : M 42 q ≠ 0 → 0 ≤ M 44 q ∧ M 44 q ≤ 1000 := fun h => ⟨s57 h, s7.2⟩
    obtain ⟨n, F, A, a1, a2, a3, a4, a5, a6, a7, a8, a9⟩ := c_crier d x0 q y1 (b :: R) M hR (relI_Y hI) ⟨g3, g4⟩ c k1 s5 hm
    have f1 : ∀ y, A 199 y = M 199 y := fun y => a5 _ _ (by unfold zFY; omega)
    have f2 : ∀ y, A 204 y = M 204 y := fun y => a5 _ _ (by unfold zFY; omega)
    obtain ⟨n', F', B, b1, b2, b3, b4, b5⟩ := r_crier d z0 q z1 b R A hR (by rw [f1, n2]; exact ⟨g3, g4⟩) (by rw [f1, n2]; exact c) (by rw [f2]; exact k2) (by rw [f1, r5]; exact s5) (by rw [f1, f1, r5, r7]; exact hm)
    rw [f1, r5] at b3
    rw [f1, f1, r5, r7] at b4 b5
    have same : n' = n ∧ F' = F ∧ ∀ i, 0 ≤ i → i < n → 0 ≤ F i ∧ F i < 128 := by
      by_cases c0 : M 42 q = 0
      · obtain ⟨p1, p2⟩ := a7 c0
        obtain ⟨p3, p4⟩ := b3 c0
        refine ⟨by omega, by rw [p2, p4], fun i i0 i1 => ?_⟩
        rw [p2]
        exact fO_bd hR i0 (by omega)
      obtain ⟨h0, h1⟩ := hm c0
      by_cases c1 : M 42 q = 1
      · obtain ⟨p1, p2⟩ := a8 c1
        obtain ⟨p3, p4⟩ := b4 c1
        refine ⟨by omega, by rw [p2, p4], fun i i0 i1 => ?_⟩
        rw [p2]
        exact fD_bd hR (by omega) h0 h1 i0
      · have c2 : M 42 q = 2 := by omega
        obtain ⟨p1, p2⟩ := a9 c2
        obtain ⟨p3, p4⟩ := b5 c2
        refine ⟨by omega, by rw [p2, p4], fun i i0 i1 => ?_⟩
        rw [p2]
        exact fD_bd hR (by omega) h0 h1 i0
    obtain ⟨t1, t2, t3⟩ := same
    rw [t1, t2] at b2
    rw [t1] at b1
    obtain ⟨u1, u2, u3⟩ := cry_end a2 a3 a4 a5 a6 b2 t3
    exact ⟨n, A, B, a1, b1, u1, u2, u3⟩
  · have k : zEm true (d + 12) 35 [(29, 0, x0), (0, q, y1)] M = some ((0, -1, 0), M) := by
      simp (disch := first | assumption | exact zrm0 | exact zrm1 _ | exact zrm2 _ _ | exact zrm3 _ _ _ | exact zrm4 _ _ _ _ | omega) only [m35, ↓k_dp, ↓k_dn, k_dp, k_dn, k_dT, k_dF, k_ip, k_in, if_true, if_false, ne_eq, not_true_eq_false, not_false_eq_true, Int.reduceAdd, zup_a, zup_e, zup_j, z32_id, k_al0, k_il1, k_v2r, k_ifne, k_ic, k_ri, k_gR, k_v2, k_lld, k_ild, k_ildS, k_ildW, k_str, k_pop, k_goto, k_icne, k_v1r, zb0_some, zb1_some, e35_0, e35_1, e35_2, e35_5, e35_8, e35_9, e35_10, e35_11, e35_14, e35_17, e35_18, e35_21, e35_22, e35_25, e35_26, e35_29, e35_32, e35_33, e35_34, e35_37, e35_38, e35_41, e35_44, e35_45, e35_46, e35_49, e35_50, e35_53, e35_56, e35_59, e35_62, e35_63, e35_66, e35_67, e35_70, e35_73, e35_74, e35_77, e35_80, e35_81, e35_82, e35_83, e35_86, e35_89, e35_92, e35_95, e35_98, e35_99, e35_100, e35_103, e35_106, e35_107, e35_110, e35_113, e35_114, e35_115, e35_118, e35_119, e35_120, e35_123, e35_126, e35_129, c_isQuestion, if_neg c]
    have hq := r_isQuestion (d + 9) z0 q 0 (zup M 197 0 0) (by rw [zup_a (by omega)]; omega) (by rw [zup_a (by omega)]; omega)
    rw [zup_a (by omega), n2, if_neg c] at hq
    have r : zEm true (d + 12) 267 [(30, 197, z0), (0, q, z1)] M = some ((0, -1, 0), zup M 197 0 0) := by
      simp (disch := first | assumption | exact zrm0 | exact zrm1 _ | exact zrm2 _ _ | exact zrm3 _ _ _ | exact zrm4 _ _ _ _ | omega) only [m267, ↓k_dp, ↓k_dn, k_dp, k_dn, k_dT, k_dF, k_ip, k_in, if_true, if_false, ne_eq, not_true_eq_false, not_false_eq_true, Int.reduceAdd, zup_a, zup_e, zup_j, z32_id, k_al0, k_ic, k_pI, k_il1, k_v2r, k_ifne, k_ri, k_gR, k_iadd, k_lld, k_v2, k_ild, k_ildS, k_ildW, k_s8r, k_gI, k_icne, k_goto, zb0_some, zb1_some, e267_0, e267_1, e267_2, e267_5, e267_6, e267_7, e267_10, e267_13, e267_14, e267_15, e267_16, e267_17, e267_20, e267_21, e267_22, e267_25, e267_27, e267_28, e267_29, e267_30, e267_33, e267_34, e267_37, e267_39, e267_40, e267_41, e267_42, e267_45, e267_46, e267_48, e267_50, e267_51, e267_52, e267_53, e267_54, e267_55, e267_56, e267_59, e267_62, e267_63, e267_65, e267_67, e267_69, e267_71, e267_72, e267_73, e267_74, e267_75, e267_78, e267_81, e267_82, e267_85, e267_86, e267_87, e267_88, e267_91, e267_93, e267_94, e267_95, e267_96, e267_97, e267_100, e267_102, e267_104, e267_106, e267_108, e267_110, e267_112, e267_114, e267_115, e267_118, e267_121, e267_123, e267_125, e267_127, e267_129, e267_130, e267_131, e267_132, e267_133, e267_136, e267_139, e267_140, e267_142, e267_144, e267_145, e267_146, e267_147, e267_148, e267_149, e267_150, e267_153, e267_156, e267_157, e267_159, e267_162, e267_163, e267_164, e267_167, e267_169, e267_170, e267_171, e267_172, e267_175, e267_176, e267_179, hq]
    exact zPairI_Q hI k r
