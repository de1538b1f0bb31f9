/-! the reference's public acts -/
theorem rT_S {M : zM} {v : Int} : zrS (zup M 197 0 v) = zrS M := zrS_out (Or.inl (by omega))
theorem rT_G {M : zM} {v : Int} : zrG (zup M 197 0 v) = zrG M := zrG_out (Or.inl (by omega))
theorem rDone_same {M S' : zM} (hz : zt S' = S') (n0 : 0 ≤ M 197 24) (n1 : M 197 24 ≤ 8) : rDone M S' (M 199 78) (zpR (mSnap (zup M 197 0 0)) S') := by
  have h := rDone_of (fl := M 199 78) hz n0 n1
  have e0 : zup M 197 0 0 197 24 = M 197 24 := zup_j (by omega)
  have e : mSnap (zup M 197 0 0) 199 78 = M 199 78 := by
    rw [(mSnap_ok (by rw [e0]; exact n0) (by rw [e0]; exact n1)).1 199 78 (by omega), zup_a (by omega)]
  have h2 : zpR (zup (mSnap (zup M 197 0 0)) 199 78 (M 199 78)) S' = zpR (mSnap (zup M 197 0 0)) S' := by
    rw [← e]; exact zpR_same
  rwa [h2] at h
theorem r_buy (d : Nat) (x0 h y0 n y1 : Int) (M : zM) (hS : okS (zrS M)) (hG : okG (zrG M)) (hf : M 199 78 = if sPut (zrS M) (zrG M) = true then 1 else 0) (n0 : 0 ≤ M 197 24) (n1 : M 197 24 ≤ 8) : (¬ ((0 ≤ h ∧ h < M 199 1) ∧ 1 ≤ n ∧ n ≤ 20) → zEm true (d + 8) 232 [(30, 197, x0), (0, h, y0), (0, n, y1)] M = some ((0, -1, 0), zup M 197 0 0)) ∧ ((0 ≤ h ∧ h < M 199 1) ∧ 1 ≤ n ∧ n ≤ 20 → (sWhyBuy (zrS M) (zrG M) h n ≠ 0 → zEm true (d + 8) 232 [(30, 197, x0), (0, h, y0), (0, n, y1)] M = some ((0, sWhyBuy (zrS M) (zrG M) h n, 0), zup M 197 0 0)) ∧ (sWhyBuy (zrS M) (zrG M) h n = 0 → ∃ M', zEm true (d + 8) 232 [(30, 197, x0), (0, h, y0), (0, n, y1)] M = some ((0, 0, 0), M') ∧ rDone M (tBuy (zrS M) (zrG M) h n) (M 199 78) M')) := by
  obtain ⟨⟨g6, g6'⟩, ⟨g1, g2⟩, ⟨g3, g4⟩, -, -, -, gh⟩ := okR_M hG
  have e0 : zup M 197 0 0 197 24 = M 197 24 := zup_j (by omega)
  have e1 : zup M 197 0 0 199 1 = M 199 1 := zup_a (by omega)
  have e2 : zup M 197 0 0 199 2 = M 199 2 := zup_a (by omega)
  have e3 : zup M 197 0 0 199 78 = M 199 78 := zup_a (by omega)
  have g1T : 0 ≤ zup M 197 0 0 199 1 := by rw [e1]; exact g1
  have g2T : zup M 197 0 0 199 1 ≤ 10 := by rw [e1]; exact g2
  have g3T : 0 ≤ zup M 197 0 0 199 2 := by rw [e2]; exact g3
  have g4T : zup M 197 0 0 199 2 ≤ 5 := by rw [e2]; exact g4
  refine ⟨fun c => ?_, fun hv => ?_⟩
  · by_cases c1 : 0 ≤ h ∧ h < M 199 1
    · have c2 : ¬ (1 ≤ n ∧ n ≤ 20) := fun z => c ⟨c1, z⟩
      simp (disch := first | assumption | exact zrm0 | exact zrm1 _ | exact zrm2 _ _ | exact zrm3 _ _ _ | exact zrm4 _ _ _ _ | omega) only [m232, ↓k_dp, ↓k_dn, k_dp, k_dn, k_dT, k_dF, k_ip, k_in, if_true, if_false, ne_eq, not_true_eq_false, not_false_eq_true, Int.reduceAdd, zup_a, zup_e, zup_j, z32_id, k_al0, k_ic, k_pI, k_il1, k_v2r, k_ifeq, k_il2, k_s3r, k_v5r, k_goto, k_ri, zb0_some, zb1_some, e232_0, e232_1, e232_2, e232_5, e232_6, e232_7, e232_10, e232_13, e232_14, e232_15, e232_17, e232_20, e232_23, e232_24, e232_25, e232_26, e232_27, e232_28, e232_31, e232_34, e232_35, r_isHand, e1, if_pos c1, r_isIn, if_neg c2]
    · simp (disch := first | assumption | exact zrm0 | exact zrm1 _ | exact zrm2 _ _ | exact zrm3 _ _ _ | exact zrm4 _ _ _ _ | omega) only [m232, ↓k_dp, ↓k_dn, k_dp, k_dn, k_dT, k_dF, k_ip, k_in, if_true, if_false, ne_eq, not_true_eq_false, not_false_eq_true, Int.reduceAdd, zup_a, zup_e, zup_j, z32_id, k_al0, k_ic, k_pI, k_il1, k_v2r, k_ifeq, k_il2, k_s3r, k_v5r, k_goto, k_ri, zb0_some, zb1_some, e232_0, e232_1, e232_2, e232_5, e232_6, e232_7, e232_10, e232_13, e232_14, e232_15, e232_17, e232_20, e232_23, e232_24, e232_25, e232_26, e232_27, e232_28, e232_31, e232_34, e232_35, r_isHand, e1, if_neg c1]
  · obtain ⟨c1, c2, c3⟩ := hv
    have k := r_act_buy d x0 0 h 0 n 0 0 0 (zup M 197 0 0) (by omega) (by omega) (by rw [e0]; exact n0) (by rw [e0]; exact n1)
    rw [rT_S] at k
    rw [rT_G] at k
    refine ⟨fun c => ?_, fun c => ⟨_, ?_, rDone_same (by unfold tBuy; exact zt_up (by unfold sdom; omega) (zt_up (by unfold sdom; omega) zt_r)) n0 n1⟩⟩
    · have k1 := k.1 c
      simp (disch := first | assumption | exact zrm0 | exact zrm1 _ | exact zrm2 _ _ | exact zrm3 _ _ _ | exact zrm4 _ _ _ _ | omega) only [m232, ↓k_dp, ↓k_dn, k_dp, k_dn, k_dT, k_dF, k_ip, k_in, if_true, if_false, ne_eq, not_true_eq_false, not_false_eq_true, Int.reduceAdd, zup_a, zup_e, zup_j, z32_id, k_al0, k_ic, k_pI, k_il1, k_v2r, k_ifeq, k_il2, k_s3r, k_v5r, k_goto, k_ri, zb0_some, zb1_some, e232_0, e232_1, e232_2, e232_5, e232_6, e232_7, e232_10, e232_13, e232_14, e232_15, e232_17, e232_20, e232_23, e232_24, e232_25, e232_26, e232_27, e232_28, e232_31, e232_34, e232_35, r_isHand, e1, if_pos c1, r_isIn, if_pos (And.intro c2 c3), k1]
    · have k1 := k.2 c
      simp (disch := first | assumption | exact zrm0 | exact zrm1 _ | exact zrm2 _ _ | exact zrm3 _ _ _ | exact zrm4 _ _ _ _ | omega) only [m232, ↓k_dp, ↓k_dn, k_dp, k_dn, k_dT, k_dF, k_ip, k_in, if_true, if_false, ne_eq, not_true_eq_false, not_false_eq_true, Int.reduceAdd, zup_a, zup_e, zup_j, z32_id, k_al0, k_ic, k_pI, k_il1, k_v2r, k_ifeq, k_il2, k_s3r, k_v5r, k_goto, k_ri, zb0_some, zb1_some, e232_0, e232_1, e232_2, e232_5, e232_6, e232_7, e232_10, e232_13, e232_14, e232_15, e232_17, e232_20, e232_23, e232_24, e232_25, e232_26, e232_27, e232_28, e232_31, e232_34, e232_35, r_isHand, e1, if_pos c1, r_isIn, if_pos (And.intro c2 c3), k1]
theorem r_strike (d : Nat) (x0 h y0 : Int) (M : zM) (hS : okS (zrS M)) (hG : okG (zrG M)) (hf : M 199 78 = if sPut (zrS M) (zrG M) = true then 1 else 0) (n0 : 0 ≤ M 197 24) (n1 : M 197 24 ≤ 8) : (¬ (0 ≤ h ∧ h < M 199 1) → zEm true (d + 8) 233 [(30, 197, x0), (0, h, y0)] M = some ((0, -1, 0), zup M 197 0 0)) ∧ (0 ≤ h ∧ h < M 199 1 → ((if zbit (zrS M 0 8) h ≠ 0 then (1 : Int) else 0) ≠ 0 → zEm true (d + 8) 233 [(30, 197, x0), (0, h, y0)] M = some ((0, (if zbit (zrS M 0 8) h ≠ 0 then (1 : Int) else 0), 0), zup M 197 0 0)) ∧ ((if zbit (zrS M 0 8) h ≠ 0 then (1 : Int) else 0) = 0 → ∃ M', zEm true (d + 8) 233 [(30, 197, x0), (0, h, y0)] M = some ((0, 0, 0), M') ∧ rDone M (zup (zrS M) 0 8 (zxor (zrS M 0 8) (zshl 1 h))) (M 199 78) M')) := by
  obtain ⟨⟨g6, g6'⟩, ⟨g1, g2⟩, ⟨g3, g4⟩, -, -, -, gh⟩ := okR_M hG
  have e0 : zup M 197 0 0 197 24 = M 197 24 := zup_j (by omega)
  have e1 : zup M 197 0 0 199 1 = M 199 1 := zup_a (by omega)
  have e2 : zup M 197 0 0 199 2 = M 199 2 := zup_a (by omega)
  have e3 : zup M 197 0 0 199 78 = M 199 78 := zup_a (by omega)
  have g1T : 0 ≤ zup M 197 0 0 199 1 := by rw [e1]; exact g1
  have g2T : zup M 197 0 0 199 1 ≤ 10 := by rw [e1]; exact g2
  have g3T : 0 ≤ zup M 197 0 0 199 2 := by rw [e2]; exact g3
  have g4T : zup M 197 0 0 199 2 ≤ 5 := by rw [e2]; exact g4
  refine ⟨fun c => ?_, fun hv => ?_⟩
  · simp (disch := first | assumption | exact zrm0 | exact zrm1 _ | exact zrm2 _ _ | exact zrm3 _ _ _ | exact zrm4 _ _ _ _ | omega) only [m233, ↓k_dp, ↓k_dn, k_dp, k_dn, k_dT, k_dF, k_ip, k_in, if_true, if_false, ne_eq, not_true_eq_false, not_false_eq_true, Int.reduceAdd, zup_a, zup_e, zup_j, z32_id, k_al0, k_ic, k_pI, k_il1, k_v2r, k_ifeq, k_v5r, k_goto, k_ri, zb0_some, zb1_some, e233_0, e233_1, e233_2, e233_5, e233_6, e233_7, e233_10, e233_13, e233_14, e233_15, e233_16, e233_17, e233_18, e233_21, e233_24, e233_25, r_isHand, e1, if_neg c]
  · obtain ⟨c1⟩ := hv
    have k := r_act_strike d x0 0 h 0 0 0 0 0 (zup M 197 0 0)  (by rw [e0]; exact n0) (by rw [e0]; exact n1)
    rw [rT_S] at k
    refine ⟨fun c => ?_, fun c => ⟨_, ?_, rDone_same (zt_up (by unfold sdom; omega) zt_r) n0 n1⟩⟩
    · have k1 := k.1 c
      simp (disch := first | assumption | exact zrm0 | exact zrm1 _ | exact zrm2 _ _ | exact zrm3 _ _ _ | exact zrm4 _ _ _ _ | omega) only [m233, ↓k_dp, ↓k_dn, k_dp, k_dn, k_dT, k_dF, k_ip, k_in, if_true, if_false, ne_eq, not_true_eq_false, not_false_eq_true, Int.reduceAdd, zup_a, zup_e, zup_j, z32_id, k_al0, k_ic, k_pI, k_il1, k_v2r, k_ifeq, k_v5r, k_goto, k_ri, zb0_some, zb1_some, e233_0, e233_1, e233_2, e233_5, e233_6, e233_7, e233_10, e233_13, e233_14, e233_15, e233_16, e233_17, e233_18, e233_21, e233_24, e233_25, r_isHand, e1, if_pos c1, k1]
    · have k1 := k.2 c
      simp (disch := first | assumption | exact zrm0 | exact zrm1 _ | exact zrm2 _ _ | exact zrm3 _ _ _ | exact zrm4 _ _ _ _ | omega) only [m233, ↓k_dp, ↓k_dn, k_dp, k_dn, k_dT, k_dF, k_ip, k_in, if_true, if_false, ne_eq, not_true_eq_false, not_false_eq_true, Int.reduceAdd, zup_a, zup_e, zup_j, z32_id, k_al0, k_ic, k_pI, k_il1, k_v2r, k_ifeq, k_v5r, k_goto, k_ri, zb0_some, zb1_some, e233_0, e233_1, e233_2, e233_5, e233_6, e233_7, e233_10, e233_13, e233_14, e233_15, e233_16, e233_17, e233_18, e233_21, e233_24, e233_25, r_isHand, e1, if_pos c1, k1]
theorem r_work (d : Nat) (x0 h y0 : Int) (M : zM) (hS : okS (zrS M)) (hG : okG (zrG M)) (hf : M 199 78 = if sPut (zrS M) (zrG M) = true then 1 else 0) (n0 : 0 ≤ M 197 24) (n1 : M 197 24 ≤ 8) : (¬ (0 ≤ h ∧ h < M 199 1) → zEm true (d + 8) 234 [(30, 197, x0), (0, h, y0)] M = some ((0, -1, 0), zup M 197 0 0)) ∧ (0 ≤ h ∧ h < M 199 1 → ((if zbit (zrS M 0 8) h ≠ 0 then (0 : Int) else 1) ≠ 0 → zEm true (d + 8) 234 [(30, 197, x0), (0, h, y0)] M = some ((0, (if zbit (zrS M 0 8) h ≠ 0 then (0 : Int) else 1), 0), zup M 197 0 0)) ∧ ((if zbit (zrS M 0 8) h ≠ 0 then (0 : Int) else 1) = 0 → ∃ M', zEm true (d + 8) 234 [(30, 197, x0), (0, h, y0)] M = some ((0, 0, 0), M') ∧ rDone M (zup (zrS M) 0 8 (zxor (zrS M 0 8) (zshl 1 h))) (M 199 78) M')) := by
  obtain ⟨⟨g6, g6'⟩, ⟨g1, g2⟩, ⟨g3, g4⟩, -, -, -, gh⟩ := okR_M hG
  have e0 : zup M 197 0 0 197 24 = M 197 24 := zup_j (by omega)
  have e1 : zup M 197 0 0 199 1 = M 199 1 := zup_a (by omega)
  have e2 : zup M 197 0 0 199 2 = M 199 2 := zup_a (by omega)
  have e3 : zup M 197 0 0 199 78 = M 199 78 := zup_a (by omega)
  have g1T : 0 ≤ zup M 197 0 0 199 1 := by rw [e1]; exact g1
  have g2T : zup M 197 0 0 199 1 ≤ 10 := by rw [e1]; exact g2
  have g3T : 0 ≤ zup M 197 0 0 199 2 := by rw [e2]; exact g3
  have g4T : zup M 197 0 0 199 2 ≤ 5 := by rw [e2]; exact g4
  refine ⟨fun c => ?_, fun hv => ?_⟩
  · simp (disch := first | assumption | exact zrm0 | exact zrm1 _ | exact zrm2 _ _ | exact zrm3 _ _ _ | exact zrm4 _ _ _ _ | omega) only [m234, ↓k_dp, ↓k_dn, k_dp, k_dn, k_dT, k_dF, k_ip, k_in, if_true, if_false, ne_eq, not_true_eq_false, not_false_eq_true, Int.reduceAdd, zup_a, zup_e, zup_j, z32_id, k_al0, k_ic, k_pI, k_il1, k_v2r, k_ifeq, k_v5r, k_goto, k_ri, zb0_some, zb1_some, e234_0, e234_1, e234_2, e234_5, e234_6, e234_7, e234_10, e234_13, e234_14, e234_15, e234_16, e234_17, e234_18, e234_21, e234_24, e234_25, r_isHand, e1, if_neg c]
  · obtain ⟨c1⟩ := hv
    have k := r_act_work d x0 0 h 0 0 0 0 0 (zup M 197 0 0)  (by rw [e0]; exact n0) (by rw [e0]; exact n1)
    rw [rT_S] at k
    refine ⟨fun c => ?_, fun c => ⟨_, ?_, rDone_same (zt_up (by unfold sdom; omega) zt_r) n0 n1⟩⟩
    · have k1 := k.1 c
      simp (disch := first | assumption | exact zrm0 | exact zrm1 _ | exact zrm2 _ _ | exact zrm3 _ _ _ | exact zrm4 _ _ _ _ | omega) only [m234, ↓k_dp, ↓k_dn, k_dp, k_dn, k_dT, k_dF, k_ip, k_in, if_true, if_false, ne_eq, not_true_eq_false, not_false_eq_true, Int.reduceAdd, zup_a, zup_e, zup_j, z32_id, k_al0, k_ic, k_pI, k_il1, k_v2r, k_ifeq, k_v5r, k_goto, k_ri, zb0_some, zb1_some, e234_0, e234_1, e234_2, e234_5, e234_6, e234_7, e234_10, e234_13, e234_14, e234_15, e234_16, e234_17, e234_18, e234_21, e234_24, e234_25, r_isHand, e1, if_pos c1, k1]
    · have k1 := k.2 c
      simp (disch := first | assumption | exact zrm0 | exact zrm1 _ | exact zrm2 _ _ | exact zrm3 _ _ _ | exact zrm4 _ _ _ _ | omega) only [m234, ↓k_dp, ↓k_dn, k_dp, k_dn, k_dT, k_dF, k_ip, k_in, if_true, if_false, ne_eq, not_true_eq_false, not_false_eq_true, Int.reduceAdd, zup_a, zup_e, zup_j, z32_id, k_al0, k_ic, k_pI, k_il1, k_v2r, k_ifeq, k_v5r, k_goto, k_ri, zb0_some, zb1_some, e234_0, e234_1, e234_2, e234_5, e234_6, e234_7, e234_10, e234_13, e234_14, e234_15, e234_16, e234_17, e234_18, e234_21, e234_24, e234_25, r_isHand, e1, if_pos c1, k1]
theorem r_sway (d : Nat) (x0 h y0 q y1 w y2 : Int) (M : zM) (hS : okS (zrS M)) (hG : okG (zrG M)) (hf : M 199 78 = if sPut (zrS M) (zrG M) = true then 1 else 0) (n0 : 0 ≤ M 197 24) (n1 : M 197 24 ≤ 8) : (¬ ((0 ≤ h ∧ h < M 199 1) ∧ (0 ≤ q ∧ q < M 199 2) ∧ (0 ≤ w ∧ w ≤ 1)) → zEm true (d + 8) 235 [(30, 197, x0), (0, h, y0), (0, q, y1), (0, w, y2)] M = some ((0, -1, 0), zup M 197 0 0)) ∧ ((0 ≤ h ∧ h < M 199 1) ∧ (0 ≤ q ∧ q < M 199 2) ∧ (0 ≤ w ∧ w ≤ 1) → (sWhySway (zrS M) h q w ≠ 0 → zEm true (d + 8) 235 [(30, 197, x0), (0, h, y0), (0, q, y1), (0, w, y2)] M = some ((0, sWhySway (zrS M) h q w, 0), zup M 197 0 0)) ∧ (sWhySway (zrS M) h q w = 0 → ∃ M', zEm true (d + 8) 235 [(30, 197, x0), (0, h, y0), (0, q, y1), (0, w, y2)] M = some ((0, 0, 0), M') ∧ rDone M (tSway (zrS M) h q w) (M 199 78) M')) := by
  obtain ⟨⟨g6, g6'⟩, ⟨g1, g2⟩, ⟨g3, g4⟩, -, -, -, gh⟩ := okR_M hG
  have e0 : zup M 197 0 0 197 24 = M 197 24 := zup_j (by omega)
  have e1 : zup M 197 0 0 199 1 = M 199 1 := zup_a (by omega)
  have e2 : zup M 197 0 0 199 2 = M 199 2 := zup_a (by omega)
  have e3 : zup M 197 0 0 199 78 = M 199 78 := zup_a (by omega)
  have g1T : 0 ≤ zup M 197 0 0 199 1 := by rw [e1]; exact g1
  have g2T : zup M 197 0 0 199 1 ≤ 10 := by rw [e1]; exact g2
  have g3T : 0 ≤ zup M 197 0 0 199 2 := by rw [e2]; exact g3
  have g4T : zup M 197 0 0 199 2 ≤ 5 := by rw [e2]; exact g4
  refine ⟨fun c => ?_, fun hv => ?_⟩
  · by_cases c1 : 0 ≤ h ∧ h < M 199 1
    · by_cases c2 : 0 ≤ q ∧ q < M 199 2
      · have c3 : ¬ (0 ≤ w ∧ w ≤ 1) := fun z => c ⟨c1, c2, z⟩
        simp (disch := first | assumption | exact zrm0 | exact zrm1 _ | exact zrm2 _ _ | exact zrm3 _ _ _ | exact zrm4 _ _ _ _ | omega) only [m235, ↓k_dp, ↓k_dn, k_dp, k_dn, k_dT, k_dF, k_ip, k_in, if_true, if_false, ne_eq, not_true_eq_false, not_false_eq_true, Int.reduceAdd, zup_a, zup_e, zup_j, z32_id, k_al0, k_ic, k_pI, k_il1, k_v2r, k_ifeq, k_il2, k_il3, k_s1r, k_v5r, k_goto, k_ri, zb0_some, zb1_some, e235_0, e235_1, e235_2, e235_5, e235_6, e235_7, e235_10, e235_13, e235_14, e235_15, e235_18, e235_21, e235_22, e235_25, e235_28, e235_29, e235_30, e235_31, e235_32, e235_33, e235_36, e235_39, e235_40, r_isHand, r_isQuestion, r_isWay2, e1, e2, if_pos c1, if_pos c2, if_neg c3]
      · simp (disch := first | assumption | exact zrm0 | exact zrm1 _ | exact zrm2 _ _ | exact zrm3 _ _ _ | exact zrm4 _ _ _ _ | omega) only [m235, ↓k_dp, ↓k_dn, k_dp, k_dn, k_dT, k_dF, k_ip, k_in, if_true, if_false, ne_eq, not_true_eq_false, not_false_eq_true, Int.reduceAdd, zup_a, zup_e, zup_j, z32_id, k_al0, k_ic, k_pI, k_il1, k_v2r, k_ifeq, k_il2, k_il3, k_s1r, k_v5r, k_goto, k_ri, zb0_some, zb1_some, e235_0, e235_1, e235_2, e235_5, e235_6, e235_7, e235_10, e235_13, e235_14, e235_15, e235_18, e235_21, e235_22, e235_25, e235_28, e235_29, e235_30, e235_31, e235_32, e235_33, e235_36, e235_39, e235_40, r_isHand, r_isQuestion, e1, e2, if_pos c1, if_neg c2]
    · simp (disch := first | assumption | exact zrm0 | exact zrm1 _ | exact zrm2 _ _ | exact zrm3 _ _ _ | exact zrm4 _ _ _ _ | omega) only [m235, ↓k_dp, ↓k_dn, k_dp, k_dn, k_dT, k_dF, k_ip, k_in, if_true, if_false, ne_eq, not_true_eq_false, not_false_eq_true, Int.reduceAdd, zup_a, zup_e, zup_j, z32_id, k_al0, k_ic, k_pI, k_il1, k_v2r, k_ifeq, k_il2, k_il3, k_s1r, k_v5r, k_goto, k_ri, zb0_some, zb1_some, e235_0, e235_1, e235_2, e235_5, e235_6, e235_7, e235_10, e235_13, e235_14, e235_15, e235_18, e235_21, e235_22, e235_25, e235_28, e235_29, e235_30, e235_31, e235_32, e235_33, e235_36, e235_39, e235_40, r_isHand, e1, if_neg c1]
  · obtain ⟨c1, c2, c3⟩ := hv
    have k := r_act_sway d x0 0 h 0 q 0 w 0 (zup M 197 0 0) (by rw [rT_S]; exact hS) (by omega) (by omega) (by omega) (by omega) (by omega) (by omega) (by rw [e0]; exact n0) (by rw [e0]; exact n1)
    rw [rT_S] at k
    refine ⟨fun c => ?_, fun c => ⟨_, ?_, rDone_same (zt_sway zt_r (by omega) (by omega)) n0 n1⟩⟩
    · have k1 := k.1 c
      simp (disch := first | assumption | exact zrm0 | exact zrm1 _ | exact zrm2 _ _ | exact zrm3 _ _ _ | exact zrm4 _ _ _ _ | omega) only [m235, ↓k_dp, ↓k_dn, k_dp, k_dn, k_dT, k_dF, k_ip, k_in, if_true, if_false, ne_eq, not_true_eq_false, not_false_eq_true, Int.reduceAdd, zup_a, zup_e, zup_j, z32_id, k_al0, k_ic, k_pI, k_il1, k_v2r, k_ifeq, k_il2, k_il3, k_s1r, k_v5r, k_goto, k_ri, zb0_some, zb1_some, e235_0, e235_1, e235_2, e235_5, e235_6, e235_7, e235_10, e235_13, e235_14, e235_15, e235_18, e235_21, e235_22, e235_25, e235_28, e235_29, e235_30, e235_31, e235_32, e235_33, e235_36, e235_39, e235_40, r_isHand, r_isQuestion, r_isWay2, e1, e2, if_pos c1, if_pos c2, if_pos c3, k1]
    · have k1 := k.2 c
      simp (disch := first | assumption | exact zrm0 | exact zrm1 _ | exact zrm2 _ _ | exact zrm3 _ _ _ | exact zrm4 _ _ _ _ | omega) only [m235, ↓k_dp, ↓k_dn, k_dp, k_dn, k_dT, k_dF, k_ip, k_in, if_true, if_false, ne_eq, not_true_eq_false, not_false_eq_true, Int.reduceAdd, zup_a, zup_e, zup_j, z32_id, k_al0, k_ic, k_pI, k_il1, k_v2r, k_ifeq, k_il2, k_il3, k_s1r, k_v5r, k_goto, k_ri, zb0_some, zb1_some, e235_0, e235_1, e235_2, e235_5, e235_6, e235_7, e235_10, e235_13, e235_14, e235_15, e235_18, e235_21, e235_22, e235_25, e235_28, e235_29, e235_30, e235_31, e235_32, e235_33, e235_36, e235_39, e235_40, r_isHand, r_isQuestion, r_isWay2, e1, e2, if_pos c1, if_pos c2, if_pos c3, k1]
theorem r_put (d : Nat) (x0 q y0 : Int) (M : zM) (hS : okS (zrS M)) (hG : okG (zrG M)) (hf : M 199 78 = if sPut (zrS M) (zrG M) = true then 1 else 0) (n0 : 0 ≤ M 197 24) (n1 : M 197 24 ≤ 8) : (¬ (0 ≤ q ∧ q < M 199 2) → zEm true (d + 8) 236 [(30, 197, x0), (0, q, y0)] M = some ((0, -1, 0), zup M 197 0 0)) ∧ (0 ≤ q ∧ q < M 199 2 → (sWhyPut (zrS M) (zrG M) q ≠ 0 → zEm true (d + 8) 236 [(30, 197, x0), (0, q, y0)] M = some ((0, sWhyPut (zrS M) (zrG M) q, 0), zup M 197 0 0)) ∧ (sWhyPut (zrS M) (zrG M) q = 0 → ∃ M', zEm true (d + 8) 236 [(30, 197, x0), (0, q, y0)] M = some ((0, 0, 0), M') ∧ rDone M (tPut (zrS M) (zrG M) q) (1) M')) := by
  obtain ⟨⟨g6, g6'⟩, ⟨g1, g2⟩, ⟨g3, g4⟩, -, -, -, gh⟩ := okR_M hG
  have e0 : zup M 197 0 0 197 24 = M 197 24 := zup_j (by omega)
  have e1 : zup M 197 0 0 199 1 = M 199 1 := zup_a (by omega)
  have e2 : zup M 197 0 0 199 2 = M 199 2 := zup_a (by omega)
  have e3 : zup M 197 0 0 199 78 = M 199 78 := zup_a (by omega)
  have g1T : 0 ≤ zup M 197 0 0 199 1 := by rw [e1]; exact g1
  have g2T : zup M 197 0 0 199 1 ≤ 10 := by rw [e1]; exact g2
  have g3T : 0 ≤ zup M 197 0 0 199 2 := by rw [e2]; exact g3
  have g4T : zup M 197 0 0 199 2 ≤ 5 := by rw [e2]; exact g4
  refine ⟨fun c => ?_, fun hv => ?_⟩
  · simp (disch := first | assumption | exact zrm0 | exact zrm1 _ | exact zrm2 _ _ | exact zrm3 _ _ _ | exact zrm4 _ _ _ _ | omega) only [m236, ↓k_dp, ↓k_dn, k_dp, k_dn, k_dT, k_dF, k_ip, k_in, if_true, if_false, ne_eq, not_true_eq_false, not_false_eq_true, Int.reduceAdd, zup_a, zup_e, zup_j, z32_id, k_al0, k_ic, k_pI, k_il1, k_v2r, k_ifeq, k_v5r, k_goto, k_ri, zb0_some, zb1_some, e236_0, e236_1, e236_2, e236_5, e236_6, e236_7, e236_10, e236_13, e236_14, e236_15, e236_16, e236_17, e236_18, e236_21, e236_24, e236_25, r_isQuestion, e2, if_neg c]
  · obtain ⟨c1⟩ := hv
    have k := r_act_put d x0 0 q 0 0 0 0 0 (zup M 197 0 0) (by rw [rT_S]; exact hS) (by rw [rT_G]; exact hG) (by rw [rT_S, rT_G, e3]; exact hf) (by omega) (by omega) (by rw [e0]; exact n0) (by rw [e0]; exact n1)
    rw [rT_S] at k
    rw [rT_G] at k
    refine ⟨fun c => ?_, fun c => ⟨_, ?_, rDone_of (zt_put zt_r (by omega) (by omega) hG.2.1) n0 n1⟩⟩
    · have k1 := k.1 c
      simp (disch := first | assumption | exact zrm0 | exact zrm1 _ | exact zrm2 _ _ | exact zrm3 _ _ _ | exact zrm4 _ _ _ _ | omega) only [m236, ↓k_dp, ↓k_dn, k_dp, k_dn, k_dT, k_dF, k_ip, k_in, if_true, if_false, ne_eq, not_true_eq_false, not_false_eq_true, Int.reduceAdd, zup_a, zup_e, zup_j, z32_id, k_al0, k_ic, k_pI, k_il1, k_v2r, k_ifeq, k_v5r, k_goto, k_ri, zb0_some, zb1_some, e236_0, e236_1, e236_2, e236_5, e236_6, e236_7, e236_10, e236_13, e236_14, e236_15, e236_16, e236_17, e236_18, e236_21, e236_24, e236_25, r_isQuestion, e2, if_pos c1, k1]
    · have k1 := k.2 c
      simp (disch := first | assumption | exact zrm0 | exact zrm1 _ | exact zrm2 _ _ | exact zrm3 _ _ _ | exact zrm4 _ _ _ _ | omega) only [m236, ↓k_dp, ↓k_dn, k_dp, k_dn, k_dT, k_dF, k_ip, k_in, if_true, if_false, ne_eq, not_true_eq_false, not_false_eq_true, Int.reduceAdd, zup_a, zup_e, zup_j, z32_id, k_al0, k_ic, k_pI, k_il1, k_v2r, k_ifeq, k_v5r, k_goto, k_ri, zb0_some, zb1_some, e236_0, e236_1, e236_2, e236_5, e236_6, e236_7, e236_10, e236_13, e236_14, e236_15, e236_16, e236_17, e236_18, e236_21, e236_24, e236_25, r_isQuestion, e2, if_pos c1, k1]
theorem r_lay (d : Nat) (x0 w y0 n y1 : Int) (M : zM) (hS : okS (zrS M)) (hG : okG (zrG M)) (hf : M 199 78 = if sPut (zrS M) (zrG M) = true then 1 else 0) (n0 : 0 ≤ M 197 24) (n1 : M 197 24 ≤ 8) : (¬ ((0 ≤ w ∧ w ≤ 1) ∧ 0 ≤ n ∧ n ≤ 20) → zEm true (d + 8) 237 [(30, 197, x0), (0, w, y0), (0, n, y1)] M = some ((0, -1, 0), zup M 197 0 0)) ∧ ((0 ≤ w ∧ w ≤ 1) ∧ 0 ≤ n ∧ n ≤ 20 → ((if zrS M 8 w = n then (1 : Int) else 0) ≠ 0 → zEm true (d + 8) 237 [(30, 197, x0), (0, w, y0), (0, n, y1)] M = some ((0, (if zrS M 8 w = n then (1 : Int) else 0), 0), zup M 197 0 0)) ∧ ((if zrS M 8 w = n then (1 : Int) else 0) = 0 → ∃ M', zEm true (d + 8) 237 [(30, 197, x0), (0, w, y0), (0, n, y1)] M = some ((0, 0, 0), M') ∧ rDone M (zup (zrS M) 8 w n) (M 199 78) M')) := by
  obtain ⟨⟨g6, g6'⟩, ⟨g1, g2⟩, ⟨g3, g4⟩, -, -, -, gh⟩ := okR_M hG
  have e0 : zup M 197 0 0 197 24 = M 197 24 := zup_j (by omega)
  have e1 : zup M 197 0 0 199 1 = M 199 1 := zup_a (by omega)
  have e2 : zup M 197 0 0 199 2 = M 199 2 := zup_a (by omega)
  have e3 : zup M 197 0 0 199 78 = M 199 78 := zup_a (by omega)
  have g1T : 0 ≤ zup M 197 0 0 199 1 := by rw [e1]; exact g1
  have g2T : zup M 197 0 0 199 1 ≤ 10 := by rw [e1]; exact g2
  have g3T : 0 ≤ zup M 197 0 0 199 2 := by rw [e2]; exact g3
  have g4T : zup M 197 0 0 199 2 ≤ 5 := by rw [e2]; exact g4
  refine ⟨fun c => ?_, fun hv => ?_⟩
  · by_cases c1 : 0 ≤ w ∧ w ≤ 1
    · have c2 : ¬ (0 ≤ n ∧ n ≤ 20) := fun z => c ⟨c1, z⟩
      simp (disch := first | assumption | exact zrm0 | exact zrm1 _ | exact zrm2 _ _ | exact zrm3 _ _ _ | exact zrm4 _ _ _ _ | omega) only [m237, ↓k_dp, ↓k_dn, k_dp, k_dn, k_dT, k_dF, k_ip, k_in, if_true, if_false, ne_eq, not_true_eq_false, not_false_eq_true, Int.reduceAdd, zup_a, zup_e, zup_j, z32_id, k_al0, k_ic, k_pI, k_il1, k_s1r, k_ifeq, k_il2, k_s3r, k_v5r, k_goto, k_ri, zb0_some, zb1_some, e237_0, e237_1, e237_2, e237_5, e237_6, e237_9, e237_12, e237_13, e237_14, e237_16, e237_19, e237_22, e237_23, e237_24, e237_25, e237_26, e237_27, e237_30, e237_33, e237_34, r_isWay2, if_pos c1, r_isIn, if_neg c2]
    · simp (disch := first | assumption | exact zrm0 | exact zrm1 _ | exact zrm2 _ _ | exact zrm3 _ _ _ | exact zrm4 _ _ _ _ | omega) only [m237, ↓k_dp, ↓k_dn, k_dp, k_dn, k_dT, k_dF, k_ip, k_in, if_true, if_false, ne_eq, not_true_eq_false, not_false_eq_true, Int.reduceAdd, zup_a, zup_e, zup_j, z32_id, k_al0, k_ic, k_pI, k_il1, k_s1r, k_ifeq, k_il2, k_s3r, k_v5r, k_goto, k_ri, zb0_some, zb1_some, e237_0, e237_1, e237_2, e237_5, e237_6, e237_9, e237_12, e237_13, e237_14, e237_16, e237_19, e237_22, e237_23, e237_24, e237_25, e237_26, e237_27, e237_30, e237_33, e237_34, r_isWay2, if_neg c1]
  · obtain ⟨c1, c2, c3⟩ := hv
    have k := r_act_lay d x0 0 w 0 n 0 0 0 (zup M 197 0 0) (by omega) (by omega) (by rw [e0]; exact n0) (by rw [e0]; exact n1)
    rw [rT_S] at k
    refine ⟨fun c => ?_, fun c => ⟨_, ?_, rDone_same (zt_up (by unfold sdom; omega) zt_r) n0 n1⟩⟩
    · have k1 := k.1 c
      simp (disch := first | assumption | exact zrm0 | exact zrm1 _ | exact zrm2 _ _ | exact zrm3 _ _ _ | exact zrm4 _ _ _ _ | omega) only [m237, ↓k_dp, ↓k_dn, k_dp, k_dn, k_dT, k_dF, k_ip, k_in, if_true, if_false, ne_eq, not_true_eq_false, not_false_eq_true, Int.reduceAdd, zup_a, zup_e, zup_j, z32_id, k_al0, k_ic, k_pI, k_il1, k_s1r, k_ifeq, k_il2, k_s3r, k_v5r, k_goto, k_ri, zb0_some, zb1_some, e237_0, e237_1, e237_2, e237_5, e237_6, e237_9, e237_12, e237_13, e237_14, e237_16, e237_19, e237_22, e237_23, e237_24, e237_25, e237_26, e237_27, e237_30, e237_33, e237_34, r_isWay2, if_pos c1, r_isIn, if_pos (And.intro c2 c3), k1]
    · have k1 := k.2 c
      simp (disch := first | assumption | exact zrm0 | exact zrm1 _ | exact zrm2 _ _ | exact zrm3 _ _ _ | exact zrm4 _ _ _ _ | omega) only [m237, ↓k_dp, ↓k_dn, k_dp, k_dn, k_dT, k_dF, k_ip, k_in, if_true, if_false, ne_eq, not_true_eq_false, not_false_eq_true, Int.reduceAdd, zup_a, zup_e, zup_j, z32_id, k_al0, k_ic, k_pI, k_il1, k_s1r, k_ifeq, k_il2, k_s3r, k_v5r, k_goto, k_ri, zb0_some, zb1_some, e237_0, e237_1, e237_2, e237_5, e237_6, e237_9, e237_12, e237_13, e237_14, e237_16, e237_19, e237_22, e237_23, e237_24, e237_25, e237_26, e237_27, e237_30, e237_33, e237_34, r_isWay2, if_pos c1, r_isIn, if_pos (And.intro c2 c3), k1]
theorem r_weather (d : Nat) (x0 k y0 : Int) (M : zM) (hS : okS (zrS M)) (hG : okG (zrG M)) (hf : M 199 78 = if sPut (zrS M) (zrG M) = true then 1 else 0) (n0 : 0 ≤ M 197 24) (n1 : M 197 24 ≤ 8) : (¬ (0 ≤ k ∧ k ≤ 2) → zEm true (d + 8) 238 [(30, 197, x0), (0, k, y0)] M = some ((0, -1, 0), zup M 197 0 0)) ∧ (0 ≤ k ∧ k ≤ 2 → ((if zrS M 0 9 = k then (1 : Int) else 0) ≠ 0 → zEm true (d + 8) 238 [(30, 197, x0), (0, k, y0)] M = some ((0, (if zrS M 0 9 = k then (1 : Int) else 0), 0), zup M 197 0 0)) ∧ ((if zrS M 0 9 = k then (1 : Int) else 0) = 0 → ∃ M', zEm true (d + 8) 238 [(30, 197, x0), (0, k, y0)] M = some ((0, 0, 0), M') ∧ rDone M (zup (zrS M) 0 9 k) (M 199 78) M')) := by
  obtain ⟨⟨g6, g6'⟩, ⟨g1, g2⟩, ⟨g3, g4⟩, -, -, -, gh⟩ := okR_M hG
  have e0 : zup M 197 0 0 197 24 = M 197 24 := zup_j (by omega)
  have e1 : zup M 197 0 0 199 1 = M 199 1 := zup_a (by omega)
  have e2 : zup M 197 0 0 199 2 = M 199 2 := zup_a (by omega)
  have e3 : zup M 197 0 0 199 78 = M 199 78 := zup_a (by omega)
  have g1T : 0 ≤ zup M 197 0 0 199 1 := by rw [e1]; exact g1
  have g2T : zup M 197 0 0 199 1 ≤ 10 := by rw [e1]; exact g2
  have g3T : 0 ≤ zup M 197 0 0 199 2 := by rw [e2]; exact g3
  have g4T : zup M 197 0 0 199 2 ≤ 5 := by rw [e2]; exact g4
  refine ⟨fun c => ?_, fun hv => ?_⟩
  · simp (disch := first | assumption | exact zrm0 | exact zrm1 _ | exact zrm2 _ _ | exact zrm3 _ _ _ | exact zrm4 _ _ _ _ | omega) only [m238, ↓k_dp, ↓k_dn, k_dp, k_dn, k_dT, k_dF, k_ip, k_in, if_true, if_false, ne_eq, not_true_eq_false, not_false_eq_true, Int.reduceAdd, zup_a, zup_e, zup_j, z32_id, k_al0, k_ic, k_pI, k_il1, k_s3r, k_ifeq, k_v5r, k_goto, k_ri, zb0_some, zb1_some, e238_0, e238_1, e238_2, e238_5, e238_6, e238_7, e238_8, e238_11, e238_14, e238_15, e238_17, e238_18, e238_19, e238_20, e238_23, e238_26, e238_27, r_isIn, if_neg c]
  · obtain ⟨c1⟩ := hv
    have k := r_act_weather d x0 0 k 0 0 0 0 0 (zup M 197 0 0)  (by rw [e0]; exact n0) (by rw [e0]; exact n1)
    rw [rT_S] at k
    refine ⟨fun c => ?_, fun c => ⟨_, ?_, rDone_same (zt_up (by unfold sdom; omega) zt_r) n0 n1⟩⟩
    · have k1 := k.1 c
      simp (disch := first | assumption | exact zrm0 | exact zrm1 _ | exact zrm2 _ _ | exact zrm3 _ _ _ | exact zrm4 _ _ _ _ | omega) only [m238, ↓k_dp, ↓k_dn, k_dp, k_dn, k_dT, k_dF, k_ip, k_in, if_true, if_false, ne_eq, not_true_eq_false, not_false_eq_true, Int.reduceAdd, zup_a, zup_e, zup_j, z32_id, k_al0, k_ic, k_pI, k_il1, k_s3r, k_ifeq, k_v5r, k_goto, k_ri, zb0_some, zb1_some, e238_0, e238_1, e238_2, e238_5, e238_6, e238_7, e238_8, e238_11, e238_14, e238_15, e238_17, e238_18, e238_19, e238_20, e238_23, e238_26, e238_27, r_isIn, if_pos c1, k1]
    · have k1 := k.2 c
      simp (disch := first | assumption | exact zrm0 | exact zrm1 _ | exact zrm2 _ _ | exact zrm3 _ _ _ | exact zrm4 _ _ _ _ | omega) only [m238, ↓k_dp, ↓k_dn, k_dp, k_dn, k_dT, k_dF, k_ip, k_in, if_true, if_false, ne_eq, not_true_eq_false, not_false_eq_true, Int.reduceAdd, zup_a, zup_e, zup_j, z32_id, k_al0, k_ic, k_pI, k_il1, k_s3r, k_ifeq, k_v5r, k_goto, k_ri, zb0_some, zb1_some, e238_0, e238_1, e238_2, e238_5, e238_6, e238_7, e238_8, e238_11, e238_14, e238_15, e238_17, e238_18, e238_19, e238_20, e238_23, e238_26, e238_27, r_isIn, if_pos c1, k1]
