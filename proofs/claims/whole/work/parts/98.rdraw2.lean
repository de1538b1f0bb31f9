/-! days by draws in the reference, whole -/
theorem r_drawPass (d : Nat) (z0 n y x y2 k i r : Int) (l6 : zV) (M V : zM) (sd f : Int) (hV : okD V (zrG M)) (hG : okG (zrG M)) (i0 : 0 ≤ i) (i1 : i < k) (k1 : k ≤ 60) : zEv true (d + 6) 270 153 [(30, 197, z0), (0, n, y), (0, x, y2), (0, k, 0), (0, i, 0), (0, r, 0), l6] [] (rm M sd f V) = zEv true (d + 6) 270 24 [(30, 197, z0), (0, n, y), (0, x, y2), (0, k, 0), (0, i + 1, 0), (0, r, 0), l6] [] (rm M sd 0 (tDay2 V (zrG M))) := by
  have hs := r_oneDay (d + 4) z0 (rm M sd f V) (by rw [rm_G]; exact hG)
  rw [rm_S, rm_G, rm_fl2, hV.1] at hs
  simp (disch := first | assumption | exact zrm0 | exact zrm1 _ | exact zrm2 _ _ | exact zrm3 _ _ _ | exact zrm4 _ _ _ _ | omega) only [m270, ↓k_dp, ↓k_dn, k_dp, k_dn, k_dT, k_dF, k_ip, k_in, if_true, if_false, ne_eq, not_true_eq_false, not_false_eq_true, Int.reduceAdd, zup_a, zup_e, zup_j, z32_id, k_al0, k_il2, k_pI, k_il1, k_ic, k_gR, k_ild, k_ildS, k_ildW, k_isub, k_s2r, k_is3, k_is4, k_il4, k_il3, k_icge, k_v2r, k_ist, k_is5, k_il5, k_is6, k_il6, k_ifne, k_dup2, k_ishl, k_ixor, k_goto, k_icne, k_v3r, k_v5, k_inc5, k_ifle, k_v2, k_v1, k_inc4, k_ri, zb0_some, zb1_some, e270_0, e270_1, e270_2, e270_5, e270_6, e270_9, e270_10, e270_13, e270_15, e270_16, e270_17, e270_20, e270_21, e270_22, e270_26, e270_27, e270_30, e270_31, e270_34, e270_36, e270_37, e270_38, e270_41, e270_42, e270_43, e270_45, e270_47, e270_48, e270_51, e270_52, e270_53, e270_56, e270_57, e270_59, e270_62, e270_64, e270_66, e270_69, e270_70, e270_73, e270_75, e270_76, e270_77, e270_78, e270_80, e270_81, e270_82, e270_83, e270_86, e270_88, e270_89, e270_92, e270_93, e270_95, e270_96, e270_99, e270_102, e270_103, e270_104, e270_106, e270_107, e270_108, e270_111, e270_114, e270_117, e270_118, e270_121, e270_122, e270_123, e270_126, e270_127, e270_128, e270_131, e270_132, e270_133, e270_136, e270_138, e270_139, e270_141, e270_144, e270_147, e270_148, e270_150, e270_153, e270_154, e270_157, e270_160, e270_163, e270_164, hs]
theorem r_drawTail (d : Nat) (z0 n y x y2 k i r : Int) (l6 : zV) (M U : zM) (su f : Int) (hU : okD U (zrG M)) (hf : f = if sPut U (zrG M) = true then 1 else 0) (hG : okG (zrG M)) (i0 : 0 ≤ i) (i1 : i < k) (k1 : k ≤ 60) : ∃ r', zEv true (d + 6) 270 117 [(30, 197, z0), (0, n, y), (0, x, y2), (0, k, 0), (0, i, 0), (0, r, 0), l6] [] (rm M su f U) = zEv true (d + 6) 270 24 [(30, 197, z0), (0, n, y), (0, x, y2), (0, k, 0), (0, i + 1, 0), (0, r', 0), l6] [] (rm M (dPut (zrG M) (U, su)).2 0 (tDay2 (dPut (zrG M) (U, su)).1 (zrG M))) := by
  obtain ⟨-, -, ⟨g3, g4⟩, -⟩ := okR_M hG
  have e8 : zrG M 0 8 = M 199 2 := zrG_08
  have oP : okD (dPut (zrG M) (U, su)).1 (zrG M) := okD_put hG hU
  by_cases c : 0 < M 199 2
  · have hq := dVal_bd (sd := dNext su) (n := M 199 2) c (by omega)
    have hw := r_whyPut (d + 5) z0 (dVal (dNext su) (M 199 2)) 0 (rm M (dNext su) f U) (by rw [rm_78, rm_S, rm_G, hU.1]; exact hf) hq.1 (by omega)
    rw [rm_S, rm_G, hU.1] at hw
    have hp : dPut (zrG M) (U, su) = (if sWhyPut U (zrG M) (dVal (dNext su) (M 199 2)) = 0 then tPut U (zrG M) (dVal (dNext su) (M 199 2)) else U, dNext su) := by
      unfold dPut
      rw [e8, if_pos c]
    rw [hp] at oP ⊢
    refine ⟨dVal (dNext su) (M 199 2), ?_⟩
    by_cases cw : sWhyPut U (zrG M) (dVal (dNext su) (M 199 2)) = 0
    · rw [if_pos cw] at oP ⊢
      have hd := r_doPut (d + 1) z0 (dVal (dNext su) (M 199 2)) 0 (rm M (dNext su) f U) (by rw [rm_S, hU.1]; exact hU.2.1) (by rw [rm_G]; exact hG) hq.1 (by omega)
      rw [rm_S, rm_G, hU.1, rm_fl2] at hd
      have hk := r_drawPass d z0 n y x y2 k i (dVal (dNext su) (M 199 2)) l6 M (tPut U (zrG M) (dVal (dNext su) (M 199 2))) (dNext su) 1 oP hG i0 i1 k1
      rw [← hk]
      simp (disch := first | assumption | exact zrm0 | exact zrm1 _ | exact zrm2 _ _ | exact zrm3 _ _ _ | exact zrm4 _ _ _ _ | omega) only [m270, ↓k_dp, ↓k_dn, k_dp, k_dn, k_dT, k_dF, k_ip, k_in, if_true, if_false, ne_eq, not_true_eq_false, not_false_eq_true, Int.reduceAdd, zup_a, zup_e, zup_j, z32_id, k_al0, k_il2, k_pI, k_il1, k_ic, k_gR, k_ild, k_ildS, k_ildW, k_isub, k_s2r, k_is3, k_is4, k_il4, k_il3, k_icge, k_v2r, k_ist, k_is5, k_il5, k_is6, k_il6, k_ifne, k_dup2, k_ishl, k_ixor, k_goto, k_icne, k_v3r, k_v5, k_inc5, k_ifle, k_v2, k_v1, k_inc4, k_ri, zb0_some, zb1_some, e270_0, e270_1, e270_2, e270_5, e270_6, e270_9, e270_10, e270_13, e270_15, e270_16, e270_17, e270_20, e270_21, e270_22, e270_24, e270_26, e270_27, e270_30, e270_31, e270_34, e270_36, e270_37, e270_38, e270_41, e270_42, e270_43, e270_45, e270_47, e270_48, e270_51, e270_52, e270_53, e270_56, e270_57, e270_59, e270_62, e270_64, e270_66, e270_69, e270_70, e270_73, e270_75, e270_76, e270_77, e270_78, e270_80, e270_81, e270_82, e270_83, e270_86, e270_88, e270_89, e270_92, e270_93, e270_95, e270_96, e270_99, e270_102, e270_103, e270_104, e270_106, e270_107, e270_108, e270_111, e270_114, e270_117, e270_118, e270_121, e270_122, e270_123, e270_126, e270_127, e270_128, e270_131, e270_132, e270_133, e270_136, e270_138, e270_139, e270_141, e270_144, e270_147, e270_148, e270_150, e270_154, e270_157, e270_160, e270_163, e270_164, rm_o, r_draw, rm_40, rm_sd, hw, cw, hd]
    · rw [if_neg cw] at oP ⊢
      have hk := r_drawPass d z0 n y x y2 k i (dVal (dNext su) (M 199 2)) l6 M U (dNext su) f oP hG i0 i1 k1
      rw [← hk]
      simp (disch := first | assumption | exact zrm0 | exact zrm1 _ | exact zrm2 _ _ | exact zrm3 _ _ _ | exact zrm4 _ _ _ _ | omega) only [m270, ↓k_dp, ↓k_dn, k_dp, k_dn, k_dT, k_dF, k_ip, k_in, if_true, if_false, ne_eq, not_true_eq_false, not_false_eq_true, Int.reduceAdd, zup_a, zup_e, zup_j, z32_id, k_al0, k_il2, k_pI, k_il1, k_ic, k_gR, k_ild, k_ildS, k_ildW, k_isub, k_s2r, k_is3, k_is4, k_il4, k_il3, k_icge, k_v2r, k_ist, k_is5, k_il5, k_is6, k_il6, k_ifne, k_dup2, k_ishl, k_ixor, k_goto, k_icne, k_v3r, k_v5, k_inc5, k_ifle, k_v2, k_v1, k_inc4, k_ri, zb0_some, zb1_some, e270_0, e270_1, e270_2, e270_5, e270_6, e270_9, e270_10, e270_13, e270_15, e270_16, e270_17, e270_20, e270_21, e270_22, e270_24, e270_26, e270_27, e270_30, e270_31, e270_34, e270_36, e270_37, e270_38, e270_41, e270_42, e270_43, e270_45, e270_47, e270_48, e270_51, e270_52, e270_53, e270_56, e270_57, e270_59, e270_62, e270_64, e270_66, e270_69, e270_70, e270_73, e270_75, e270_76, e270_77, e270_78, e270_80, e270_81, e270_82, e270_83, e270_86, e270_88, e270_89, e270_92, e270_93, e270_95, e270_96, e270_99, e270_102, e270_103, e270_104, e270_106, e270_107, e270_108, e270_111, e270_114, e270_117, e270_118, e270_121, e270_122, e270_123, e270_126, e270_127, e270_128, e270_131, e270_132, e270_133, e270_136, e270_138, e270_139, e270_141, e270_144, e270_147, e270_148, e270_150, e270_154, e270_157, e270_160, e270_163, e270_164, rm_o, r_draw, rm_40, rm_sd, hw]
  · have hp : dPut (zrG M) (U, su) = (U, su) := by
      unfold dPut
      rw [e8, if_neg c]
    rw [hp]
    refine ⟨r, ?_⟩
    have hk := r_drawPass d z0 n y x y2 k i r l6 M U su f hU hG i0 i1 k1
    rw [← hk]
    simp (disch := first | assumption | exact zrm0 | exact zrm1 _ | exact zrm2 _ _ | exact zrm3 _ _ _ | exact zrm4 _ _ _ _ | omega) only [m270, ↓k_dp, ↓k_dn, k_dp, k_dn, k_dT, k_dF, k_ip, k_in, if_true, if_false, ne_eq, not_true_eq_false, not_false_eq_true, Int.reduceAdd, zup_a, zup_e, zup_j, z32_id, k_al0, k_il2, k_pI, k_il1, k_ic, k_gR, k_ild, k_ildS, k_ildW, k_isub, k_s2r, k_is3, k_is4, k_il4, k_il3, k_icge, k_v2r, k_ist, k_is5, k_il5, k_is6, k_il6, k_ifne, k_dup2, k_ishl, k_ixor, k_goto, k_icne, k_v3r, k_v5, k_inc5, k_ifle, k_v2, k_v1, k_inc4, k_ri, zb0_some, zb1_some, e270_0, e270_1, e270_2, e270_5, e270_6, e270_9, e270_10, e270_13, e270_15, e270_16, e270_17, e270_20, e270_21, e270_22, e270_24, e270_26, e270_27, e270_30, e270_31, e270_34, e270_36, e270_37, e270_38, e270_41, e270_42, e270_43, e270_45, e270_47, e270_48, e270_51, e270_52, e270_53, e270_56, e270_57, e270_59, e270_62, e270_64, e270_66, e270_69, e270_70, e270_73, e270_75, e270_76, e270_77, e270_78, e270_80, e270_81, e270_82, e270_83, e270_86, e270_88, e270_89, e270_92, e270_93, e270_95, e270_96, e270_99, e270_102, e270_103, e270_104, e270_106, e270_107, e270_108, e270_111, e270_114, e270_117, e270_118, e270_121, e270_122, e270_123, e270_126, e270_127, e270_128, e270_131, e270_132, e270_133, e270_136, e270_138, e270_139, e270_141, e270_144, e270_147, e270_148, e270_150, e270_154, e270_157, e270_160, e270_163, e270_164, rm_o]
theorem r_drawOne (d : Nat) (z0 n y x y2 k i : Int) (l5 l6 : zV) (M T : zM) (sd f : Int) (hT : okD T (zrG M)) (hf : f = if sPut T (zrG M) = true then 1 else 0) (hG : okG (zrG M)) (i0 : 0 ≤ i) (i1 : i < k) (k1 : k ≤ 60) : ∃ l5' l6', zEv true (d + 6) 270 24 [(30, 197, z0), (0, n, y), (0, x, y2), (0, k, 0), (0, i, 0), l5, l6] [] (rm M sd f T) = zEv true (d + 6) 270 24 [(30, 197, z0), (0, n, y), (0, x, y2), (0, k, 0), (0, i + 1, 0), l5', l6'] [] (rm M (dDay (zrG M) (T, sd)).2 0 (dDay (zrG M) (T, sd)).1) := by
  have e7 : zrG M 0 7 = M 199 1 := zrG_07
  have o1 : okD (dHands (zrG M) (T, sd)).1 (zrG M) := okD_hands hG hT
  have hv := dVal_bd (sd := dNext sd) (n := 3) (by omega) (by omega)
  obtain ⟨l6', k2⟩ := r_drawHands d z0 n y x y2 k i l6 M (zup T 0 9 (dVal (dNext sd) 3)) (dNext sd) f (okD_row hT (by unfold sdom; omega) (by omega) (by omega) (okS_u09 hT.2.1 hv.1 (by omega))) hG
  have hh : zit (dHand (zrG M)) (M 199 1).toNat 0 (zup T 0 9 (dVal (dNext sd) 3), dNext sd) = dHands (zrG M) (T, sd) := by
    unfold dHands
    rw [e7]
  rw [hh] at k2
  obtain ⟨r', k3⟩ := r_drawTail d z0 n y x y2 k i (M 199 1) l6' M (dHands (zrG M) (T, sd)).1 (dHands (zrG M) (T, sd)).2 f o1 (by rw [dHands_sPut]; exact hf) hG i0 i1 k1
  rw [k3] at k2
  refine ⟨(0, r', 0), l6', ?_⟩
  unfold dDay
  rw [← k2, e270_24]
  simp (disch := first | assumption | exact zrm0 | exact zrm1 _ | exact zrm2 _ _ | exact zrm3 _ _ _ | exact zrm4 _ _ _ _ | omega) only [m270, ↓k_dp, ↓k_dn, k_dp, k_dn, k_dT, k_dF, k_ip, k_in, if_true, if_false, ne_eq, not_true_eq_false, not_false_eq_true, Int.reduceAdd, zup_a, zup_e, zup_j, z32_id, k_al0, k_il2, k_pI, k_il1, k_ic, k_gR, k_ild, k_ildS, k_ildW, k_isub, k_s2r, k_is3, k_is4, k_il4, k_il3, k_icge, k_v2r, k_ist, k_is5, k_il5, k_is6, k_il6, k_ifne, k_dup2, k_ishl, k_ixor, k_goto, k_icne, k_v3r, k_v5, k_inc5, k_ifle, k_v2, k_v1, k_inc4, k_ri, zb0_some, zb1_some, e270_0, e270_1, e270_2, e270_5, e270_6, e270_9, e270_10, e270_13, e270_15, e270_16, e270_17, e270_20, e270_21, e270_22, e270_26, e270_27, e270_30, e270_31, e270_34, e270_36, e270_37, e270_38, e270_41, e270_42, e270_43, e270_47, e270_48, e270_51, e270_52, e270_53, e270_56, e270_57, e270_59, e270_62, e270_64, e270_66, e270_69, e270_70, e270_73, e270_75, e270_76, e270_77, e270_78, e270_80, e270_81, e270_82, e270_83, e270_86, e270_88, e270_89, e270_92, e270_93, e270_95, e270_96, e270_99, e270_102, e270_103, e270_104, e270_106, e270_107, e270_108, e270_111, e270_114, e270_117, e270_118, e270_121, e270_122, e270_123, e270_126, e270_127, e270_128, e270_131, e270_132, e270_133, e270_136, e270_138, e270_139, e270_141, e270_144, e270_147, e270_148, e270_150, e270_153, e270_154, e270_157, e270_160, e270_163, e270_164, rm_o, r_draw, rm_40, rm_sd, rm_u09]
theorem dDays_succ {G : zM} {m : Nat} {p : zM × Int} : dDays G (m + 1) p = dDays G m (dDay G p) := by
  have hc : ∀ (m : Nat) (h h' : Int) (p : zM × Int), zit (fun _ p => dDay G p) m h p = zit (fun _ p => dDay G p) m h' p := by
    intro m
    induction m with
    | zero => intro h h' p; rfl
    | succ m ih => intro h h' p; rw [zit, zit]; exact ih _ _ _
  unfold dDays
  rw [zit]
  exact hc _ _ _ _
theorem r_drawDays0 (d : Nat) (z0 n y x y2 k : Int) (M : zM) (hG : okG (zrG M)) (k1 : k ≤ 60) : ∀ (m : Nat) (i : Int) (l5 l6 : zV) (T : zM) (sd f : Int), okD T (zrG M) → f = (if sPut T (zrG M) = true then 1 else 0) → 0 ≤ i → i + m = k → T 0 10 + m ≤ 400 → zEv true (d + 6) 270 24 [(30, 197, z0), (0, n, y), (0, x, y2), (0, k, 0), (0, i, 0), l5, l6] [] (rm M sd f T) = some ((0, k, 0), rm M (dDays (zrG M) m (T, sd)).2 (if m = 0 then f else 0) (dDays (zrG M) m (T, sd)).1)
  | 0, i, l5, l6, T, sd, f, hT, hf, h0, h1, h2 => by
    show _ = some ((0, k, 0), rm M sd f T)
    have hk : k ≤ i := by omega
    simp (disch := first | assumption | exact zrm0 | exact zrm1 _ | exact zrm2 _ _ | exact zrm3 _ _ _ | exact zrm4 _ _ _ _ | omega) only [m270, ↓k_dp, ↓k_dn, k_dp, k_dn, k_dT, k_dF, k_ip, k_in, if_true, if_false, ne_eq, not_true_eq_false, not_false_eq_true, Int.reduceAdd, zup_a, zup_e, zup_j, z32_id, k_al0, k_il2, k_pI, k_il1, k_ic, k_gR, k_ild, k_ildS, k_ildW, k_isub, k_s2r, k_is3, k_is4, k_il4, k_il3, k_icge, k_v2r, k_ist, k_is5, k_il5, k_is6, k_il6, k_ifne, k_dup2, k_ishl, k_ixor, k_goto, k_icne, k_v3r, k_v5, k_inc5, k_ifle, k_v2, k_v1, k_inc4, k_ri, zb0_some, zb1_some, e270_0, e270_1, e270_2, e270_5, e270_6, e270_9, e270_10, e270_13, e270_15, e270_16, e270_17, e270_20, e270_21, e270_22, e270_24, e270_26, e270_27, e270_30, e270_31, e270_34, e270_36, e270_37, e270_38, e270_41, e270_42, e270_43, e270_45, e270_47, e270_48, e270_51, e270_52, e270_53, e270_56, e270_57, e270_59, e270_62, e270_64, e270_66, e270_69, e270_70, e270_73, e270_75, e270_76, e270_77, e270_78, e270_80, e270_81, e270_82, e270_83, e270_86, e270_88, e270_89, e270_92, e270_93, e270_95, e270_96, e270_99, e270_102, e270_103, e270_104, e270_106, e270_107, e270_108, e270_111, e270_114, e270_117, e270_118, e270_121, e270_122, e270_123, e270_126, e270_127, e270_128, e270_131, e270_132, e270_133, e270_136, e270_138, e270_139, e270_141, e270_144, e270_147, e270_148, e270_150, e270_153, e270_154, e270_157, e270_160, e270_163, e270_164]
  | m + 1, i, l5, l6, T, sd, f, hT, hf, h0, h1, h2 => by
    obtain ⟨l5', l6', k2⟩ := r_drawOne d z0 n y x y2 k i l5 l6 M T sd f hT hf hG h0 (by omega) k1
    obtain ⟨a1, a2, a3⟩ := dDay_ok (sd := sd) hG hT (by omega)
    rw [k2, dDays_succ]
    generalize dDay (zrG M) (T, sd) = p at a1 a2 a3
    obtain ⟨U, su⟩ := p
    dsimp only at a1 a2 a3
    have ih := r_drawDays0 d z0 n y x y2 k M hG k1 m (i + 1) l5' l6' U su 0 a1 (by rw [a3]; rfl) (by omega) (by omega) (by omega)
    rw [ih]
    have e : (if m = 0 then (0 : Int) else 0) = 0 := by split <;> rfl
    rw [e, if_neg (by omega)]
