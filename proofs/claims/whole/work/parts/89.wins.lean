/-! which streets win; a hand's power -/
set_option maxRecDepth 20000 in
theorem pw5_all : ((List.range 6).all fun h => decide (1 ≤ zshl 1 h) && decide (zshl 1 h ≤ 32)) = true := by decide +kernel
theorem pw5_ok {h : Int} (h0 : 0 ≤ h) (h1 : h ≤ 5) : 1 ≤ zshl 1 h ∧ zshl 1 h ≤ 32 := by
  obtain ⟨i, rfl⟩ := Int.eq_ofNat_of_zero_le h0
  have := List.all_eq_true.mp pw5_all i (List.mem_range.mpr (by omega))
  simp only [Bool.and_eq_true, decide_eq_true_eq] at this
  exact this
theorem sWinSF_bd {S G : zM} {q s b : Int} (s0 : 0 ≤ s) (s1 : s < 1024) (b0 : -1 ≤ b) (b1 : b < 1024) : -1 ≤ sWinSF S G q s b ∧ sWinSF S G q s b < 1024 := by
  unfold sWinSF
  split
  · split <;> omega
  · omega
theorem c_winStreets (d : Nat) (x0 q y : Int) (M : zM) (hG : okG (zvG M 30)) : (¬ (0 ≤ q ∧ q < M 30 8) → zEm true (d + 8) 24 [(29, 0, x0), (0, q, y)] M = some ((0, -1, 0), M)) ∧ ((0 ≤ q ∧ q < M 30 8) → zEm true (d + 8) 24 [(29, 0, x0), (0, q, y)] M = if sWinS (zvS M 37) (zvG M 30) q = -1 then some ((0, -1, 0), M) else some ((0, kB 10 (sWinS (zvS M 37) (zvG M 30) q), 0), zup M 51 2 (sWinS (zvS M 37) (zvG M 30) q))) := by
  obtain ⟨⟨g6, g6'⟩, ⟨g1, g2⟩, ⟨g3, g4⟩, -⟩ := okG_M hG
  obtain ⟨p1, p2⟩ := pw5_ok g6 g6'
  refine ⟨fun c => ?_, fun c => ?_⟩
  · simp (disch := first | assumption | exact zrm0 | exact zrm1 _ | exact zrm2 _ _ | exact zrm3 _ _ _ | exact zrm4 _ _ _ _ | omega) only [m24, ↓k_dp, ↓k_dn, k_dp, k_dn, k_dT, k_dF, k_ip, k_in, if_true, if_false, ne_eq, not_true_eq_false, not_false_eq_true, Int.reduceAdd, zup_a, zup_e, zup_j, z32_id, k_al0, k_il1, k_v2r, k_ifne, k_ic, k_ri, k_is2, k_is3, k_il3, k_gR, k_gI, k_ishl, k_icge, k_il2, k_s2r, k_ifeq, k_v3r, k_inc3, k_goto, k_icne, k_pI, k_s1r, zb0_some, zb1_some, e24_0, e24_1, e24_2, e24_5, e24_8, e24_9, e24_10, e24_11, e24_12, e24_13, e24_14, e24_15, e24_16, e24_17, e24_20, e24_23, e24_24, e24_27, e24_28, e24_29, e24_32, e24_35, e24_36, e24_37, e24_38, e24_41, e24_42, e24_45, e24_48, e24_51, e24_52, e24_53, e24_56, e24_59, e24_60, e24_61, e24_64, e24_65, e24_66, e24_67, e24_70, e24_71, e24_74, e24_75, e24_78, c_isQuestion, if_neg c]
  have hl := zfor (ph := true) (d := d + 7) (j := 24) (pc := 14) (sWinSF (zvS M 37) (zvG M 30) q) (fun s b => 0 ≤ s ∧ -1 ≤ b ∧ b < 1024) (fun s b => [(29, 0, x0), (0, q, y), (0, b, 0), (0, s, 0)]) (fun _ => M) (zshl 1 (M 30 6))
    (fun s b hk hp => by
      obtain ⟨s0, b0, b1⟩ := hp
      have s1 : s < 1024 := by omega
      constructor
      · rw [e24_14]
        unfold sWinSF
        by_cases c2 : sFewer s b = true
        · rw [if_pos c2]
          by_cases c3 : sCar (zvS M 37) (zvG M 30) (zor (zvS M 37 3 q) (sHands (zvG M 30) s)) (zand (zvS M 37 4 q) (zxor (sHands (zvG M 30) s) (-1))) = true
          · simp (disch := first | assumption | exact zrm0 | exact zrm1 _ | exact zrm2 _ _ | exact zrm3 _ _ _ | exact zrm4 _ _ _ _ | omega) only [m24, ↓k_dp, ↓k_dn, k_dp, k_dn, k_dT, k_dF, k_ip, k_in, if_true, if_false, ne_eq, not_true_eq_false, not_false_eq_true, Int.reduceAdd, zup_a, zup_e, zup_j, z32_id, k_al0, k_il1, k_v2r, k_ifne, k_ic, k_ri, k_is2, k_is3, k_il3, k_gR, k_gI, k_ishl, k_icge, k_il2, k_s2r, k_ifeq, k_v3r, k_inc3, k_goto, k_icne, k_pI, k_s1r, zb0_some, zb1_some, e24_0, e24_1, e24_2, e24_5, e24_8, e24_9, e24_10, e24_11, e24_12, e24_13, e24_15, e24_16, e24_17, e24_20, e24_23, e24_24, e24_27, e24_28, e24_29, e24_32, e24_35, e24_36, e24_37, e24_38, e24_41, e24_42, e24_45, e24_48, e24_51, e24_52, e24_53, e24_56, e24_59, e24_60, e24_61, e24_64, e24_65, e24_66, e24_67, e24_70, e24_71, e24_74, e24_75, e24_78, c_isFewer, c2, s_handsOfStreets, c_carriesWith, c3]
          · simp (disch := first | assumption | exact zrm0 | exact zrm1 _ | exact zrm2 _ _ | exact zrm3 _ _ _ | exact zrm4 _ _ _ _ | omega) only [m24, ↓k_dp, ↓k_dn, k_dp, k_dn, k_dT, k_dF, k_ip, k_in, if_true, if_false, ne_eq, not_true_eq_false, not_false_eq_true, Int.reduceAdd, zup_a, zup_e, zup_j, z32_id, k_al0, k_il1, k_v2r, k_ifne, k_ic, k_ri, k_is2, k_is3, k_il3, k_gR, k_gI, k_ishl, k_icge, k_il2, k_s2r, k_ifeq, k_v3r, k_inc3, k_goto, k_icne, k_pI, k_s1r, zb0_some, zb1_some, e24_0, e24_1, e24_2, e24_5, e24_8, e24_9, e24_10, e24_11, e24_12, e24_13, e24_15, e24_16, e24_17, e24_20, e24_23, e24_24, e24_27, e24_28, e24_29, e24_32, e24_35, e24_36, e24_37, e24_38, e24_41, e24_42, e24_45, e24_48, e24_51, e24_52, e24_53, e24_56, e24_59, e24_60, e24_61, e24_64, e24_65, e24_66, e24_67, e24_70, e24_71, e24_74, e24_75, e24_78, c_isFewer, c2, s_handsOfStreets, c_carriesWith, c3, Bool.false_eq_true]
        · rw [if_neg c2]
          simp (disch := first | assumption | exact zrm0 | exact zrm1 _ | exact zrm2 _ _ | exact zrm3 _ _ _ | exact zrm4 _ _ _ _ | omega) only [m24, ↓k_dp, ↓k_dn, k_dp, k_dn, k_dT, k_dF, k_ip, k_in, if_true, if_false, ne_eq, not_true_eq_false, not_false_eq_true, Int.reduceAdd, zup_a, zup_e, zup_j, z32_id, k_al0, k_il1, k_v2r, k_ifne, k_ic, k_ri, k_is2, k_is3, k_il3, k_gR, k_gI, k_ishl, k_icge, k_il2, k_s2r, k_ifeq, k_v3r, k_inc3, k_goto, k_icne, k_pI, k_s1r, zb0_some, zb1_some, e24_0, e24_1, e24_2, e24_5, e24_8, e24_9, e24_10, e24_11, e24_12, e24_13, e24_15, e24_16, e24_17, e24_20, e24_23, e24_24, e24_27, e24_28, e24_29, e24_32, e24_35, e24_36, e24_37, e24_38, e24_41, e24_42, e24_45, e24_48, e24_51, e24_52, e24_53, e24_56, e24_59, e24_60, e24_61, e24_64, e24_65, e24_66, e24_67, e24_70, e24_71, e24_74, e24_75, e24_78, c_isFewer, c2, Bool.false_eq_true]
      · exact ⟨by omega, sWinSF_bd s0 s1 b0 b1⟩) (zshl 1 (M 30 6)).toNat 0 (-1) (by omega) ⟨Int.le_refl _, by omega, by omega⟩
  have e6 : zvG M 30 0 6 = M 30 6 := zvG_0 (by omega) (by omega)
  obtain ⟨h1, -, h2, h3⟩ := hl
  simp (disch := first | assumption | exact zrm0 | exact zrm1 _ | exact zrm2 _ _ | exact zrm3 _ _ _ | exact zrm4 _ _ _ _ | omega) only [m24, ↓k_dp, ↓k_dn, k_dp, k_dn, k_dT, k_dF, k_ip, k_in, if_true, if_false, ne_eq, not_true_eq_false, not_false_eq_true, Int.reduceAdd, zup_a, zup_e, zup_j, z32_id, k_al0, k_il1, k_v2r, k_ifne, k_ic, k_ri, k_is2, k_is3, k_il3, k_gR, k_gI, k_ishl, k_icge, k_il2, k_s2r, k_ifeq, k_v3r, k_inc3, k_goto, k_icne, k_pI, k_s1r, zb0_some, zb1_some, e24_0, e24_1, e24_2, e24_5, e24_8, e24_9, e24_10, e24_11, e24_12, e24_13, e24_15, e24_16, e24_17, e24_20, e24_23, e24_24, e24_27, e24_28, e24_29, e24_32, e24_35, e24_36, e24_37, e24_38, e24_41, e24_42, e24_45, e24_48, e24_51, e24_52, e24_53, e24_56, e24_59, e24_60, e24_61, e24_64, e24_65, e24_66, e24_67, e24_70, e24_71, e24_74, e24_75, e24_78, c_isQuestion, if_pos c]
  rw [h1]
  unfold sWinS
  rw [e6]
  generalize zit (sWinSF (zvS M 37) (zvG M 30) q) _ _ _ = b at h2 h3
  by_cases cb : b = -1
  · simp (disch := first | assumption | exact zrm0 | exact zrm1 _ | exact zrm2 _ _ | exact zrm3 _ _ _ | exact zrm4 _ _ _ _ | omega) only [m24, ↓k_dp, ↓k_dn, k_dp, k_dn, k_dT, k_dF, k_ip, k_in, if_true, if_false, ne_eq, not_true_eq_false, not_false_eq_true, Int.reduceAdd, zup_a, zup_e, zup_j, z32_id, k_al0, k_il1, k_v2r, k_ifne, k_ic, k_ri, k_is2, k_is3, k_il3, k_gR, k_gI, k_ishl, k_icge, k_il2, k_s2r, k_ifeq, k_v3r, k_inc3, k_goto, k_icne, k_pI, k_s1r, zb0_some, zb1_some, e24_0, e24_1, e24_2, e24_5, e24_8, e24_9, e24_10, e24_11, e24_12, e24_13, e24_14, e24_15, e24_16, e24_17, e24_20, e24_23, e24_24, e24_27, e24_28, e24_29, e24_32, e24_35, e24_36, e24_37, e24_38, e24_41, e24_42, e24_45, e24_48, e24_51, e24_52, e24_53, e24_56, e24_59, e24_60, e24_61, e24_64, e24_65, e24_66, e24_67, e24_70, e24_71, e24_74, e24_75, e24_78]
  · simp (disch := first | assumption | exact zrm0 | exact zrm1 _ | exact zrm2 _ _ | exact zrm3 _ _ _ | exact zrm4 _ _ _ _ | omega) only [m24, ↓k_dp, ↓k_dn, k_dp, k_dn, k_dT, k_dF, k_ip, k_in, if_true, if_false, ne_eq, not_true_eq_false, not_false_eq_true, Int.reduceAdd, zup_a, zup_e, zup_j, z32_id, k_al0, k_il1, k_v2r, k_ifne, k_ic, k_ri, k_is2, k_is3, k_il3, k_gR, k_gI, k_ishl, k_icge, k_il2, k_s2r, k_ifeq, k_v3r, k_inc3, k_goto, k_icne, k_pI, k_s1r, zb0_some, zb1_some, e24_0, e24_1, e24_2, e24_5, e24_8, e24_9, e24_10, e24_11, e24_12, e24_13, e24_14, e24_15, e24_16, e24_17, e24_20, e24_23, e24_24, e24_27, e24_28, e24_29, e24_32, e24_35, e24_36, e24_37, e24_38, e24_41, e24_42, e24_45, e24_48, e24_51, e24_52, e24_53, e24_56, e24_59, e24_60, e24_61, e24_64, e24_65, e24_66, e24_67, e24_70, e24_71, e24_74, e24_75, e24_78, s_bitCount]
