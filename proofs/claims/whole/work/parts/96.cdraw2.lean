/-! days by draws in the class, whole -/
theorem c_drawPass (d : Nat) (x0 a x1 n y sd0 y2 g0 r : Int) (N V : zM) (hV : okD V (zvG N 30)) (hd : V 0 10 < 400) (ha : 9 ≤ a) (sep : 30 + 7 ≤ a) (hG : okG (zvG N 30)) (g1 : 0 ≤ g0) (g2 : g0 < n) (n1 : n ≤ 60) : zEv true (d + 5) 61 91 [(29, 0, x0), (26, a, x1), (0, n, y), (0, sd0, y2), (0, g0, 0), (0, r, 0)] [] (zput N a V) = zEv true (d + 5) 61 8 [(29, 0, x0), (26, a, x1), (0, n, y), (0, sd0, y2), (0, g0 + 1, 0), (0, r, 0)] [] (zput N a (tDay2 V (zvG N 30))) := by
  have hz : zt V = V := hV.1
  have hG2 : okG (zvG (zput N a V) 30) := by rw [zvG_puto (by omega)]; exact hG
  have hs := s_passDay (d + 3) a x1 30 0 (zput N a V) (by omega) (by omega) hG2
  rw [zvS_put, hz, zvG_puto (by omega), zput_put, if_neg (by omega), if_neg (by omega)] at hs
  simp (disch := first | assumption | exact zrm0 | exact zrm1 _ | exact zrm2 _ _ | exact zrm3 _ _ _ | exact zrm4 _ _ _ _ | omega) only [m61, ↓k_dp, ↓k_dn, k_dp, k_dn, k_dT, k_dF, k_ip, k_in, if_true, if_false, ne_eq, not_true_eq_false, not_false_eq_true, Int.reduceAdd, zup_a, zup_e, zup_j, z32_id, k_al0, k_il3, k_pI, k_ic, k_is4, k_il4, k_il2, k_icge, k_al1, k_gI, k_v2r, k_is5, k_il5, k_gR, k_v3, k_inc5, k_goto, k_ifle, k_v3r, k_pop, k_inc4, k_ri, zb0_some, zb1_some, e61_0, e61_1, e61_2, e61_5, e61_6, e61_10, e61_11, e61_14, e61_15, e61_18, e61_21, e61_24, e61_25, e61_26, e61_27, e61_30, e61_33, e61_34, e61_36, e61_38, e61_39, e61_42, e61_45, e61_48, e61_49, e61_50, e61_52, e61_55, e61_58, e61_61, e61_62, e61_65, e61_68, e61_71, e61_72, e61_73, e61_76, e61_77, e61_78, e61_81, e61_84, e61_87, e61_90, e61_91, e61_92, e61_93, e61_96, e61_99, e61_100, e61_103, e61_106, e61_108, hs]
theorem c_drawTail (d : Nat) (x0 a x1 n y sd0 y2 g0 r : Int) (M U : zM) (su : Int) (hU : okD U (zvG M 30)) (hd : U 0 10 < 400) (ha : 9 ≤ a) (sep : 30 + 7 ≤ a) (hG : okG (zvG M 30)) (g1 : 0 ≤ g0) (g2 : g0 < n) (n1 : n ≤ 60) : zEv true (d + 5) 61 61 [(29, 0, x0), (26, a, x1), (0, n, y), (0, sd0, y2), (0, g0, 0), (0, r, 0)] [] (zput (zup M 0 14 su) a U) = zEv true (d + 5) 61 8 [(29, 0, x0), (26, a, x1), (0, n, y), (0, sd0, y2), (0, g0 + 1, 0), (0, r, 0)] [] (zput (zup M 0 14 (dPut (zvG M 30) (U, su)).2) a (tDay2 (dPut (zvG M 30) (U, su)).1 (zvG M 30))) := by
  obtain ⟨-, -, ⟨g3, g4⟩, -⟩ := okG_M hG
  have e8 : zvG M 30 0 8 = M 30 8 := zvG_0 (by omega) (by omega)
  have eG : ∀ w, zvG (zup M 0 14 w) 30 = zvG M 30 := fun w => zvG_out (by omega)
  have oP : okD (dPut (zvG M 30) (U, su)).1 (zvG M 30) := okD_put hG hU
  have dP : (dPut (zvG M 30) (U, su)).1 0 10 = U 0 10 := dPut_day
  have e14 : zput (zup M 0 14 su) a U 0 14 = su := by rw [zput_o (by omega), zup_e (by omega)]
  have ez : ∀ w, zup (zup M 0 14 su) 0 14 w = zup M 0 14 w := fun w => zup_zup
  by_cases c : 0 < M 30 8
  · have hq := dVal_bd (sd := dNext su) (n := M 30 8) c (by omega)
    have hs := s_put0 (d + 1) a x1 30 0 (dVal (dNext su) (M 30 8)) 0 (zup M 0 14 (dNext su)) U hU.1 (by omega) (by omega) (by rw [eG]; exact hG) hq.1 (by omega)
    rw [eG] at hs
    have hp : dPut (zvG M 30) (U, su) = (if sWhyPut U (zvG M 30) (dVal (dNext su) (M 30 8)) = 0 then tPut U (zvG M 30) (dVal (dNext su) (M 30 8)) else U, dNext su) := by
      unfold dPut
      rw [e8, if_pos c]
    rw [hp] at oP dP ⊢
    dsimp only at oP dP ⊢
    generalize (if sWhyPut U (zvG M 30) (dVal (dNext su) (M 30 8)) = 0 then tPut U (zvG M 30) (dVal (dNext su) (M 30 8)) else U) = V at oP dP hs ⊢
    have hk := c_drawPass d x0 a x1 n y sd0 y2 g0 r (zup M 0 14 (dNext su)) V (by rw [eG]; exact oP) (by omega) ha sep (by rw [eG]; exact hG) g1 g2 n1
    rw [eG] at hk
    rw [← hk]
    generalize sWhyPut U (zvG M 30) (dVal (dNext su) (M 30 8)) = wp at hs
    simp (disch := first | assumption | exact zrm0 | exact zrm1 _ | exact zrm2 _ _ | exact zrm3 _ _ _ | exact zrm4 _ _ _ _ | omega) only [m61, ↓k_dp, ↓k_dn, k_dp, k_dn, k_dT, k_dF, k_ip, k_in, if_true, if_false, ne_eq, not_true_eq_false, not_false_eq_true, Int.reduceAdd, zup_a, zup_e, zup_j, z32_id, k_al0, k_il3, k_pI, k_ic, k_is4, k_il4, k_il2, k_icge, k_al1, k_gI, k_v2r, k_is5, k_il5, k_gR, k_v3, k_inc5, k_goto, k_ifle, k_v3r, k_pop, k_inc4, k_ri, zb0_some, zb1_some, e61_0, e61_1, e61_2, e61_5, e61_6, e61_8, e61_10, e61_11, e61_14, e61_15, e61_18, e61_21, e61_24, e61_25, e61_26, e61_27, e61_30, e61_33, e61_34, e61_36, e61_38, e61_39, e61_42, e61_45, e61_48, e61_49, e61_50, e61_52, e61_55, e61_58, e61_61, e61_62, e61_65, e61_68, e61_71, e61_72, e61_73, e61_76, e61_77, e61_78, e61_81, e61_84, e61_87, e61_90, e61_92, e61_93, e61_96, e61_99, e61_100, e61_103, e61_106, e61_108, zput_o, c_draw, e14, zput_uo, ez, hs]
  · have hp : dPut (zvG M 30) (U, su) = (U, su) := by
      unfold dPut
      rw [e8, if_neg c]
    rw [hp]
    have hk := c_drawPass d x0 a x1 n y sd0 y2 g0 r (zup M 0 14 su) U (by rw [eG]; exact hU) (by omega) ha sep (by rw [eG]; exact hG) g1 g2 n1
    rw [eG] at hk
    rw [← hk]
    simp (disch := first | assumption | exact zrm0 | exact zrm1 _ | exact zrm2 _ _ | exact zrm3 _ _ _ | exact zrm4 _ _ _ _ | omega) only [m61, ↓k_dp, ↓k_dn, k_dp, k_dn, k_dT, k_dF, k_ip, k_in, if_true, if_false, ne_eq, not_true_eq_false, not_false_eq_true, Int.reduceAdd, zup_a, zup_e, zup_j, z32_id, k_al0, k_il3, k_pI, k_ic, k_is4, k_il4, k_il2, k_icge, k_al1, k_gI, k_v2r, k_is5, k_il5, k_gR, k_v3, k_inc5, k_goto, k_ifle, k_v3r, k_pop, k_inc4, k_ri, zb0_some, zb1_some, e61_0, e61_1, e61_2, e61_5, e61_6, e61_8, e61_10, e61_11, e61_14, e61_15, e61_18, e61_21, e61_24, e61_25, e61_26, e61_27, e61_30, e61_33, e61_34, e61_36, e61_38, e61_39, e61_42, e61_45, e61_48, e61_49, e61_50, e61_52, e61_55, e61_58, e61_61, e61_62, e61_65, e61_68, e61_71, e61_72, e61_73, e61_76, e61_77, e61_78, e61_81, e61_84, e61_87, e61_90, e61_92, e61_93, e61_96, e61_99, e61_100, e61_103, e61_106, e61_108, zput_o]
theorem c_drawOne (d : Nat) (x0 a x1 n y sd0 y2 g0 : Int) (l5 : zV) (M T : zM) (sd : Int) (hT : okD T (zvG M 30)) (hd : T 0 10 < 400) (ha : 9 ≤ a) (sep : 30 + 7 ≤ a) (hG : okG (zvG M 30)) (g1 : 0 ≤ g0) (g2 : g0 < n) (n1 : n ≤ 60) : zEv true (d + 5) 61 8 [(29, 0, x0), (26, a, x1), (0, n, y), (0, sd0, y2), (0, g0, 0), l5] [] (zput (zup M 0 14 sd) a T) = zEv true (d + 5) 61 8 [(29, 0, x0), (26, a, x1), (0, n, y), (0, sd0, y2), (0, g0 + 1, 0), (0, M 30 7, 0)] [] (zput (zup M 0 14 (dDay (zvG M 30) (T, sd)).2) a (dDay (zvG M 30) (T, sd)).1) := by
  have e7 : zvG M 30 0 7 = M 30 7 := zvG_0 (by omega) (by omega)
  have e14 : zput (zup M 0 14 sd) a T 0 14 = sd := by rw [zput_o (by omega), zup_e (by omega)]
  have ez : ∀ w, zup (zup M 0 14 sd) 0 14 w = zup M 0 14 w := fun w => zup_zup
  have o1 : okD (dHands (zvG M 30) (T, sd)).1 (zvG M 30) := okD_hands hG hT
  have e1 : (dHands (zvG M 30) (T, sd)).1 0 10 = T 0 10 := dHands_day
  have hv := dVal_bd (sd := dNext sd) (n := 3) (by omega) (by omega)
  have k1 := c_drawHands (d + 1) x0 a x1 n y sd0 y2 g0 M (zup T 0 9 (dVal (dNext sd) 3)) (dNext sd) (okD_row hT (by unfold sdom; omega) (by omega) (by omega) (okS_u09 hT.2.1 hv.1 (by omega))) ha sep hG
  have hh : zit (dHand (zvG M 30)) (M 30 7).toNat 0 (zup T 0 9 (dVal (dNext sd) 3), dNext sd) = dHands (zvG M 30) (T, sd) := by
    unfold dHands
    rw [e7]
  rw [hh] at k1
  have k2 := c_drawTail d x0 a x1 n y sd0 y2 g0 (M 30 7) M (dHands (zvG M 30) (T, sd)).1 (dHands (zvG M 30) (T, sd)).2 o1 (by omega) ha sep hG g1 g2 n1
  rw [k2] at k1
  unfold dDay
  rw [← k1, e61_8]
  simp (disch := first | assumption | exact zrm0 | exact zrm1 _ | exact zrm2 _ _ | exact zrm3 _ _ _ | exact zrm4 _ _ _ _ | omega) only [m61, ↓k_dp, ↓k_dn, k_dp, k_dn, k_dT, k_dF, k_ip, k_in, if_true, if_false, ne_eq, not_true_eq_false, not_false_eq_true, Int.reduceAdd, zup_a, zup_e, zup_j, z32_id, k_al0, k_il3, k_pI, k_ic, k_is4, k_il4, k_il2, k_icge, k_al1, k_gI, k_v2r, k_is5, k_il5, k_gR, k_v3, k_inc5, k_goto, k_ifle, k_v3r, k_pop, k_inc4, k_ri, zb0_some, zb1_some, e61_0, e61_1, e61_2, e61_5, e61_6, e61_10, e61_11, e61_14, e61_15, e61_18, e61_21, e61_24, e61_25, e61_26, e61_27, e61_30, e61_33, e61_34, e61_38, e61_39, e61_42, e61_45, e61_48, e61_49, e61_50, e61_52, e61_55, e61_58, e61_61, e61_62, e61_65, e61_68, e61_71, e61_72, e61_73, e61_76, e61_77, e61_78, e61_81, e61_84, e61_87, e61_90, e61_91, e61_92, e61_93, e61_96, e61_99, e61_100, e61_103, e61_106, e61_108, zput_o, zput_0, c_draw, e14, zput_uo, ez, zput_u0]
/-- as many days as there are before the last -/
theorem dDays_ok {G : zM} (hG : okG G) : ∀ (n : Nat) (S : zM) (sd : Int), okD S G → S 0 10 + n ≤ 400 → okD (dDays G n (S, sd)).1 G ∧ (dDays G n (S, sd)).1 0 10 = S 0 10 + n ∧ (0 < n → sPut (dDays G n (S, sd)).1 G = false)
  | 0, S, sd, hS, hn => ⟨hS, by show S 0 10 = _; omega, fun h => absurd h (by omega)⟩
  | n + 1, S, sd, hS, hn => by
    obtain ⟨h1, h2, h3⟩ := dDays_ok hG n S sd hS (by omega)
    have e : dDays G (n + 1) (S, sd) = dDay G (dDays G n (S, sd)) := zit_add n 0 (S, sd)
    rw [e]
    generalize dDays G n (S, sd) = p at h1 h2
    obtain ⟨T, su⟩ := p
    dsimp only at h1 h2
    obtain ⟨a1, a2, a3⟩ := dDay_ok (sd := su) hG h1 (by omega)
    exact ⟨a1, by rw [a2]; omega, fun _ => a3⟩
theorem c_drawDays0 (d : Nat) (x0 a x1 n y sd0 y2 : Int) (M : zM) (ha : 9 ≤ a) (sep : 30 + 7 ≤ a) (hG : okG (zvG M 30)) (n1 : n ≤ 60) : ∀ (m : Nat) (g0 : Int) (l5 : zV) (T : zM) (sd : Int), okD T (zvG M 30) → 0 ≤ g0 → g0 + m ≤ n → T 0 10 + m ≤ 400 → (g0 + m = n ∨ T 0 10 + m = 400) → zEv true (d + 5) 61 8 [(29, 0, x0), (26, a, x1), (0, n, y), (0, sd0, y2), (0, g0, 0), l5] [] (zput (zup M 0 14 sd) a T) = some ((0, g0 + m, 0), zput (zup M 0 14 (dDays (zvG M 30) m (T, sd)).2) a (dDays (zvG M 30) m (T, sd)).1)
  | 0, g0, l5, T, sd, hT, h0, h1, h2, h3 => by
    show _ = some ((0, g0 + ((0 : Nat) : Int), 0), zput (zup M 0 14 sd) a T)
    have e : g0 + ((0 : Nat) : Int) = g0 := by omega
    rw [e]
    by_cases c : n ≤ g0
    · simp (disch := first | assumption | exact zrm0 | exact zrm1 _ | exact zrm2 _ _ | exact zrm3 _ _ _ | exact zrm4 _ _ _ _ | omega) only [m61, ↓k_dp, ↓k_dn, k_dp, k_dn, k_dT, k_dF, k_ip, k_in, if_true, if_false, ne_eq, not_true_eq_false, not_false_eq_true, Int.reduceAdd, zup_a, zup_e, zup_j, z32_id, k_al0, k_il3, k_pI, k_ic, k_is4, k_il4, k_il2, k_icge, k_al1, k_gI, k_v2r, k_is5, k_il5, k_gR, k_v3, k_inc5, k_goto, k_ifle, k_v3r, k_pop, k_inc4, k_ri, zb0_some, zb1_some, e61_0, e61_1, e61_2, e61_5, e61_6, e61_8, e61_10, e61_11, e61_14, e61_15, e61_18, e61_21, e61_24, e61_25, e61_26, e61_27, e61_30, e61_33, e61_34, e61_36, e61_38, e61_39, e61_42, e61_45, e61_48, e61_49, e61_50, e61_52, e61_55, e61_58, e61_61, e61_62, e61_65, e61_68, e61_71, e61_72, e61_73, e61_76, e61_77, e61_78, e61_81, e61_84, e61_87, e61_90, e61_91, e61_92, e61_93, e61_96, e61_99, e61_100, e61_103, e61_106, e61_108]
    · have hd : 400 ≤ T 0 10 := by omega
      simp (disch := first | assumption | exact zrm0 | exact zrm1 _ | exact zrm2 _ _ | exact zrm3 _ _ _ | exact zrm4 _ _ _ _ | omega) only [m61, ↓k_dp, ↓k_dn, k_dp, k_dn, k_dT, k_dF, k_ip, k_in, if_true, if_false, ne_eq, not_true_eq_false, not_false_eq_true, Int.reduceAdd, zup_a, zup_e, zup_j, z32_id, k_al0, k_il3, k_pI, k_ic, k_is4, k_il4, k_il2, k_icge, k_al1, k_gI, k_v2r, k_is5, k_il5, k_gR, k_v3, k_inc5, k_goto, k_ifle, k_v3r, k_pop, k_inc4, k_ri, zb0_some, zb1_some, e61_0, e61_1, e61_2, e61_5, e61_6, e61_8, e61_10, e61_11, e61_14, e61_15, e61_18, e61_21, e61_24, e61_25, e61_26, e61_27, e61_30, e61_33, e61_34, e61_36, e61_38, e61_39, e61_42, e61_45, e61_48, e61_49, e61_50, e61_52, e61_55, e61_58, e61_61, e61_62, e61_65, e61_68, e61_71, e61_72, e61_73, e61_76, e61_77, e61_78, e61_81, e61_84, e61_87, e61_90, e61_91, e61_92, e61_93, e61_96, e61_99, e61_100, e61_103, e61_106, e61_108, zput_0]
  | m + 1, g0, l5, T, sd, hT, h0, h1, h2, h3 => by
    rw [c_drawOne d x0 a x1 n y sd0 y2 g0 l5 M T sd hT (by omega) ha sep hG h0 (by omega) n1]
    obtain ⟨a1, a2, -⟩ := dDay_ok (sd := sd) hG hT (by omega)
    have e : dDays (zvG M 30) (m + 1) (T, sd) = dDays (zvG M 30) m (dDay (zvG M 30) (T, sd)) := by
      have hc : ∀ (m : Nat) (h h' : Int) (p : zM × Int), zit (fun _ p => dDay (zvG M 30) p) m h p = zit (fun _ p => dDay (zvG M 30) p) m h' p := by
        intro m
        induction m with
        | zero => intro h h' p; rfl
        | succ m ih => intro h h' p; rw [zit, zit]; exact ih _ _ _
      unfold dDays
      rw [zit]
      exact hc _ _ _ _
    rw [e]
    generalize dDay (zvG M 30) (T, sd) = p at a1 a2
    obtain ⟨U, su⟩ := p
    dsimp only at a1 a2
    have ih := c_drawDays0 d x0 a x1 n y sd0 y2 M ha sep hG n1 m (g0 + 1) (0, M 30 7, 0) U su a1 (by omega) (by omega) (by omega) (by omega)
    rw [ih, show g0 + 1 + (m : Int) = g0 + ((m + 1 : Nat) : Int) by omega]
