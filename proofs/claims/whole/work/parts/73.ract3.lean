/-! the reference: putting, snaps, acts -/
theorem sAhead_bd {S G : zM} {q : Int} (hS : okS S) (hG : okG G) : -500 ≤ sAhead S G q ∧ sAhead S G q ≤ 500 := by
  have h1 := sWay_bd (g := S 3 q) (w := 0) hS hG (by omega) (by omega)
  have h2 := sWay_bd (g := S 4 q) (w := 1) hS hG (by omega) (by omega)
  unfold sAhead
  rw [z32_id (by omega) (by omega)]
  omega
theorem r_put0 (d : Nat) (x0 q y : Int) (M S : zM) (hz : zt S = S) (hS : okS S) (hG : okG (zrG M)) (q0 : 0 ≤ q) (q1 : q < 5) : zEm true (d + 5) 228 [(30, 197, x0), (0, q, y)] (zpR M S) = some ((98, 0, 0), zpR (zup M 199 78 1) (tPut S (zrG M) q)) := by
  have hA : okS (zrS (zpR M S)) := by rw [zrS_pR, hz]; exact hS
  have hB : okG (zrG (zpR M S)) := by rw [zrG_pR]; exact hG
  have hO : zrG (zup M 199 78 1) = zrG M := zrG_out (Or.inr (by omega))
  have hG3 : ∀ T, okG (zrG (zpR (zup M 199 78 1) T)) := fun T => by rw [zrG_pR, hO]; exact hG
  have hP := zt_put0 (S := S) (G := zrG M) hz q0 q1
  have hb := sAhead_bd (q := q) hS hG
  have hn : sAhead S (zrG M) q ≠ -2147483648 := by omega
  unfold tPut
  by_cases c4 : 0 < sAhead S (zrG M) q
  · rw [if_pos c4]
    unfold tPut0 at hP ⊢
    rw [if_pos c4] at hP ⊢
    unfold sAhead at c4 hn hP ⊢
    simp (disch := first | assumption | exact zrm0 | exact zrm1 _ | exact zrm2 _ _ | exact zrm3 _ _ _ | exact zrm4 _ _ _ _ | omega | exact hG3 _) only [m228, ↓k_dp, ↓k_dn, k_dp, k_dn, k_dT, k_dF, k_ip, k_in, if_true, if_false, ne_eq, not_true_eq_false, not_false_eq_true, Int.reduceAdd, zup_a, zup_e, zup_j, z32_id, k_al0, k_gR, k_ic, k_il1, k_iadd, k_ild, k_ildS, k_ildW, k_v3r, k_isub, k_is2, k_il2, k_ifle, k_goto, k_ist, k_s1r, k_v2, k_rv, zb0_some, zb1_some, e228_0, e228_1, e228_2, e228_5, e228_7, e228_8, e228_9, e228_10, e228_11, e228_14, e228_15, e228_16, e228_19, e228_21, e228_22, e228_23, e228_24, e228_25, e228_28, e228_29, e228_30, e228_31, e228_34, e228_36, e228_37, e228_38, e228_39, e228_42, e228_43, e228_46, e228_47, e228_48, e228_49, e228_52, e228_54, e228_55, e228_56, e228_57, e228_60, e228_62, e228_63, e228_64, e228_65, e228_68, e228_70, e228_71, e228_72, e228_73, e228_76, e228_77, e228_78, e228_81, e228_83, e228_84, e228_85, e228_86, e228_89, e228_90, e228_91, e228_94, zpR_o, zpR_0t, zpR_3, zpR_4, r_noiseAll, r_grant, r_size, zrS_pR, zrG_pR, hz, zpR_u5, zpR_u6, zpR_u7, zpR_uo, hP, hO, zpR_put]
  · rw [if_neg c4]
    unfold tPut0 at hP ⊢
    rw [if_neg c4] at hP ⊢
    unfold sAhead at c4 hn hP ⊢
    simp (disch := first | assumption | exact zrm0 | exact zrm1 _ | exact zrm2 _ _ | exact zrm3 _ _ _ | exact zrm4 _ _ _ _ | omega | exact hG3 _) only [m228, ↓k_dp, ↓k_dn, k_dp, k_dn, k_dT, k_dF, k_ip, k_in, if_true, if_false, ne_eq, not_true_eq_false, not_false_eq_true, Int.reduceAdd, zup_a, zup_e, zup_j, z32_id, k_al0, k_gR, k_ic, k_il1, k_iadd, k_ild, k_ildS, k_ildW, k_v3r, k_isub, k_is2, k_il2, k_ifle, k_goto, k_ist, k_s1r, k_v2, k_rv, zb0_some, zb1_some, e228_0, e228_1, e228_2, e228_5, e228_7, e228_8, e228_9, e228_10, e228_11, e228_14, e228_15, e228_16, e228_19, e228_21, e228_22, e228_23, e228_24, e228_25, e228_28, e228_29, e228_30, e228_31, e228_34, e228_36, e228_37, e228_38, e228_39, e228_42, e228_43, e228_46, e228_47, e228_48, e228_49, e228_52, e228_54, e228_55, e228_56, e228_57, e228_60, e228_62, e228_63, e228_64, e228_65, e228_68, e228_70, e228_71, e228_72, e228_73, e228_76, e228_77, e228_78, e228_81, e228_83, e228_84, e228_85, e228_86, e228_89, e228_90, e228_91, e228_94, zpR_o, zpR_0t, zpR_3, zpR_4, r_noiseAll, r_grant, r_size, zrS_pR, zrG_pR, hz, zpR_u5, zpR_u6, zpR_u7, zpR_uo, hP, hO, zpR_put]
theorem r_doPut (d : Nat) (x0 q y : Int) (M : zM) (hS : okS (zrS M)) (hG : okG (zrG M)) (q0 : 0 ≤ q) (q1 : q < 5) : zEm true (d + 5) 228 [(30, 197, x0), (0, q, y)] M = some ((98, 0, 0), zpR (zup M 199 78 1) (tPut (zrS M) (zrG M) q)) := by
  have := r_put0 d x0 q y M (zrS M) zt_r hS hG q0 q1
  rwa [zpR_self] at this
/-- the last snaps, and one more -/
def mSnap (M : zM) : zM := if M 197 24 = 8 then zup (zcpy (zup (zcpy M 202 51 202 0 357) 197 24 7) 199 75 202 357 51) 197 24 8 else zup (zcpy M 199 75 202 (51 * M 197 24) 51) 197 24 (M 197 24 + 1)
theorem r_snap2 (d : Nat) (x0 : Int) (M : zM) (n : Int) (hn : M 197 24 = n) (n0 : 0 ≤ n) (n1 : n ≤ 7) : zEv true d 223 51 [(30, 197, x0), (0, 0, 0)] [] M = some ((98, 0, 0), zup (zcpy M 199 75 202 (51 * n) 51) 197 24 (n + 1)) := by
  have hl := zfor (ph := true) (d := d) (j := 223) (pc := 51) (fun k U => zup U 202 (51 * n + k) (U 199 (75 + k))) (fun k U => 0 ≤ k ∧ U 197 24 = n) (fun k _ => [(30, 197, x0), (0, k, 0)]) (fun U => U) 51
    (fun k b hk hp => ⟨by
      obtain ⟨h0, h1⟩ := hp
      rw [e223_51]
      simp (disch := first | assumption | exact zrm0 | exact zrm1 _ | exact zrm2 _ _ | exact zrm3 _ _ _ | exact zrm4 _ _ _ _ | omega) only [m223, ↓k_dp, ↓k_dn, k_dp, k_dn, k_dT, k_dF, k_ip, k_in, if_true, if_false, ne_eq, not_true_eq_false, not_false_eq_true, Int.reduceAdd, zup_a, zup_e, zup_j, z32_id, k_al0, k_gI, k_ic, k_icne, k_is1, k_il1, k_icge, k_gR, k_iadd, k_ild, k_ildS, k_ildW, k_ist, k_inc1, k_goto, k_dup, k_isub, k_pI, k_imul, k_rv, e223_0, e223_1, e223_4, e223_6, e223_9, e223_10, e223_11, e223_12, e223_15, e223_18, e223_19, e223_22, e223_23, e223_24, e223_27, e223_28, e223_30, e223_31, e223_32, e223_33, e223_36, e223_39, e223_40, e223_41, e223_44, e223_45, e223_46, e223_49, e223_50, e223_52, e223_54, e223_57, e223_58, e223_61, e223_63, e223_64, e223_67, e223_68, e223_69, e223_70, e223_71, e223_74, e223_76, e223_77, e223_78, e223_79, e223_80, e223_83, e223_86, e223_87, e223_88, e223_91, e223_92, e223_93, e223_96, h1], by omega, by rw [zup_a (by omega)]; exact hp.2⟩) 51 0 M (by omega) ⟨Int.le_refl _, hn⟩
  rw [zit_cpy (by omega) (Or.inl (by omega))] at hl
  have e : zcpy M 199 75 202 (51 * n) (51 : Nat) 197 24 = n := hl.2.2
  rw [hl.1]
  simp (disch := first | assumption | exact zrm0 | exact zrm1 _ | exact zrm2 _ _ | exact zrm3 _ _ _ | exact zrm4 _ _ _ _ | omega) only [m223, ↓k_dp, ↓k_dn, k_dp, k_dn, k_dT, k_dF, k_ip, k_in, if_true, if_false, ne_eq, not_true_eq_false, not_false_eq_true, Int.reduceAdd, zup_a, zup_e, zup_j, z32_id, k_al0, k_gI, k_ic, k_icne, k_is1, k_il1, k_icge, k_gR, k_iadd, k_ild, k_ildS, k_ildW, k_ist, k_inc1, k_goto, k_dup, k_isub, k_pI, k_imul, k_rv, e223_0, e223_1, e223_4, e223_6, e223_9, e223_10, e223_11, e223_12, e223_15, e223_18, e223_19, e223_22, e223_23, e223_24, e223_27, e223_28, e223_30, e223_31, e223_32, e223_33, e223_36, e223_39, e223_40, e223_41, e223_44, e223_45, e223_46, e223_49, e223_50, e223_51, e223_52, e223_54, e223_57, e223_58, e223_61, e223_63, e223_64, e223_67, e223_68, e223_69, e223_70, e223_71, e223_74, e223_76, e223_77, e223_78, e223_79, e223_80, e223_83, e223_86, e223_87, e223_88, e223_91, e223_92, e223_93, e223_96, e]
  rfl
theorem r_snap (d : Nat) (x0 : Int) (M : zM) (n0 : 0 ≤ M 197 24) (n1 : M 197 24 ≤ 8) : zEm true (d + 1) 223 [(30, 197, x0)] M = some ((98, 0, 0), mSnap M) := by
  unfold mSnap
  by_cases c : M 197 24 = 8
  · rw [if_pos c]
    have hl := zfor (ph := true) (d := d) (j := 223) (pc := 11) (fun k U => zup U 202 (0 + k) (U 202 (51 + k))) (fun k U => 0 ≤ k ∧ U 197 24 = 8) (fun k _ => [(30, 197, x0), (0, k, 0)]) (fun U => U) 357
      (fun k b hk hp => ⟨by
        obtain ⟨h0, h1⟩ := hp
        have e1 : k + 51 = 51 + k := by omega
        have e2 : 0 + k = k := by omega
        rw [e223_11]
        simp (disch := first | assumption | exact zrm0 | exact zrm1 _ | exact zrm2 _ _ | exact zrm3 _ _ _ | exact zrm4 _ _ _ _ | omega) only [m223, ↓k_dp, ↓k_dn, k_dp, k_dn, k_dT, k_dF, k_ip, k_in, if_true, if_false, ne_eq, not_true_eq_false, not_false_eq_true, Int.reduceAdd, zup_a, zup_e, zup_j, z32_id, k_al0, k_gI, k_ic, k_icne, k_is1, k_il1, k_icge, k_gR, k_iadd, k_ild, k_ildS, k_ildW, k_ist, k_inc1, k_goto, k_dup, k_isub, k_pI, k_imul, k_rv, e223_0, e223_1, e223_4, e223_6, e223_9, e223_10, e223_12, e223_15, e223_18, e223_19, e223_22, e223_23, e223_24, e223_27, e223_28, e223_30, e223_31, e223_32, e223_33, e223_36, e223_39, e223_40, e223_41, e223_44, e223_45, e223_46, e223_49, e223_50, e223_51, e223_52, e223_54, e223_57, e223_58, e223_61, e223_63, e223_64, e223_67, e223_68, e223_69, e223_70, e223_71, e223_74, e223_76, e223_77, e223_78, e223_79, e223_80, e223_83, e223_86, e223_87, e223_88, e223_91, e223_92, e223_93, e223_96, h1, e1, e2], by omega, by rw [zup_a (by omega)]; exact hp.2⟩) 357 0 M (by omega) ⟨Int.le_refl _, c⟩
    rw [zit_cpy (by omega) (Or.inr (by omega))] at hl
    have e : zcpy M 202 51 202 0 (357 : Nat) 197 24 = 8 := hl.2.2
    simp (disch := first | assumption | exact zrm0 | exact zrm1 _ | exact zrm2 _ _ | exact zrm3 _ _ _ | exact zrm4 _ _ _ _ | omega) only [m223, ↓k_dp, ↓k_dn, k_dp, k_dn, k_dT, k_dF, k_ip, k_in, if_true, if_false, ne_eq, not_true_eq_false, not_false_eq_true, Int.reduceAdd, zup_a, zup_e, zup_j, z32_id, k_al0, k_gI, k_ic, k_icne, k_is1, k_il1, k_icge, k_gR, k_iadd, k_ild, k_ildS, k_ildW, k_ist, k_inc1, k_goto, k_dup, k_isub, k_pI, k_imul, k_rv, e223_0, e223_1, e223_4, e223_6, e223_9, e223_10, e223_12, e223_15, e223_18, e223_19, e223_22, e223_23, e223_24, e223_27, e223_28, e223_30, e223_31, e223_32, e223_33, e223_36, e223_39, e223_40, e223_41, e223_44, e223_45, e223_46, e223_49, e223_50, e223_51, e223_52, e223_54, e223_57, e223_58, e223_61, e223_63, e223_64, e223_67, e223_68, e223_69, e223_70, e223_71, e223_74, e223_76, e223_77, e223_78, e223_79, e223_80, e223_83, e223_86, e223_87, e223_88, e223_91, e223_92, e223_93, e223_96, c]
    rw [hl.1]
    simp (disch := first | assumption | exact zrm0 | exact zrm1 _ | exact zrm2 _ _ | exact zrm3 _ _ _ | exact zrm4 _ _ _ _ | omega) only [m223, ↓k_dp, ↓k_dn, k_dp, k_dn, k_dT, k_dF, k_ip, k_in, if_true, if_false, ne_eq, not_true_eq_false, not_false_eq_true, Int.reduceAdd, zup_a, zup_e, zup_j, z32_id, k_al0, k_gI, k_ic, k_icne, k_is1, k_il1, k_icge, k_gR, k_iadd, k_ild, k_ildS, k_ildW, k_ist, k_inc1, k_goto, k_dup, k_isub, k_pI, k_imul, k_rv, e223_0, e223_1, e223_4, e223_6, e223_9, e223_10, e223_11, e223_12, e223_15, e223_18, e223_19, e223_22, e223_23, e223_24, e223_27, e223_28, e223_30, e223_31, e223_32, e223_33, e223_36, e223_39, e223_40, e223_41, e223_44, e223_45, e223_46, e223_49, e223_50, e223_52, e223_54, e223_57, e223_58, e223_61, e223_63, e223_64, e223_67, e223_68, e223_69, e223_70, e223_71, e223_74, e223_76, e223_77, e223_78, e223_79, e223_80, e223_83, e223_86, e223_87, e223_88, e223_91, e223_92, e223_93, e223_96, e, Int.reduceSub]
    rw [r_snap2 d x0 _ 7 (by rw [zup_e (by omega)]) (by omega) (by omega)]
    rfl
  · rw [if_neg c]
    simp (disch := first | assumption | exact zrm0 | exact zrm1 _ | exact zrm2 _ _ | exact zrm3 _ _ _ | exact zrm4 _ _ _ _ | omega) only [m223, ↓k_dp, ↓k_dn, k_dp, k_dn, k_dT, k_dF, k_ip, k_in, if_true, if_false, ne_eq, not_true_eq_false, not_false_eq_true, Int.reduceAdd, zup_a, zup_e, zup_j, z32_id, k_al0, k_gI, k_ic, k_icne, k_is1, k_il1, k_icge, k_gR, k_iadd, k_ild, k_ildS, k_ildW, k_ist, k_inc1, k_goto, k_dup, k_isub, k_pI, k_imul, k_rv, e223_0, e223_1, e223_4, e223_6, e223_9, e223_10, e223_11, e223_12, e223_15, e223_18, e223_19, e223_22, e223_23, e223_24, e223_27, e223_28, e223_30, e223_31, e223_32, e223_33, e223_36, e223_39, e223_40, e223_41, e223_44, e223_45, e223_46, e223_49, e223_50, e223_52, e223_54, e223_57, e223_58, e223_61, e223_63, e223_64, e223_67, e223_68, e223_69, e223_70, e223_71, e223_74, e223_76, e223_77, e223_78, e223_79, e223_80, e223_83, e223_86, e223_87, e223_88, e223_91, e223_92, e223_93, e223_96, c]
    rw [r_snap2 d x0 M (M 197 24) rfl n0 (by omega)]
