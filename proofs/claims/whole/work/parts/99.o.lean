/-! the fewest irons: the class shares them -/
def okQ (M N : zM) (q : Int) : Prop := N 56 2 = zvS M 37 3 q ∧ (∀ h, 0 ≤ h → h < M 30 7 → N 58 h = rB (zvS M 37) (zvG M 30) q h) ∧ (∀ (i : Nat) (n : Int), i ≤ (M 30 7).toNat → 0 ≤ n → n ≤ 200 → N 57 ((M 30 7 - i) * 201 + n) = dL (gB (zvS M 37) (zvG M 30) q) (rB (zvS M 37) (zvG M 30) q) (M 30 7) i n) ∧ ∀ x y, ((30 ≤ x ∧ x ≤ 45) → N x y = M x y)
theorem okQ_up {M N : zM} {q y v : Int} (h : okQ M N q) : okQ M (zup N 52 y v) q :=
  ⟨by rw [zup_a (by omega)]; exact h.1, fun k k0 k1 => by rw [zup_a (by omega)]; exact h.2.1 k k0 k1, fun i n a b c => by rw [zup_a (by omega)]; exact h.2.2.1 i n a b c, fun x y h1 => by rw [zup_a (by omega)]; exact h.2.2.2 x y h1⟩
theorem c_shareK (d : Nat) (x0 irons y h left c : Int) (M N : zM) (q : Int) (j : Nat) (hS : okS (zvS M 37)) (hG : okG (zvG M 30)) (hQ : okQ M N q) (h0 : 0 ≤ h) (h1 : h < M 30 7) (hj : h = M 30 7 - (j + 1)) (l1 : left ≤ 200) (c1 : c ≤ 5000) (hI : dInv (gB (zvS M 37) (zvG M 30) q) (rB (zvS M 37) (zvG M 30) q) (M 30 7) (j + 1) left c) : ∀ (n : Nat) (k : Int), k + n = sMin (rB (zvS M 37) (zvG M 30) q h) left → 0 ≤ k → zEv true (d + 4) 77 32 [(23, 56, x0), (28, 30, 0), (26, 37, 0), (0, irons, y), (10, 52, 10), (0, left, 0), (0, c, 0), (0, h, 0), (0, k, 0)] [] N = zEv true (d + 4) 77 92 [(23, 56, x0), (28, 30, 0), (26, 37, 0), (0, irons, y), (10, 52, 10), (0, left, 0), (0, c, 0), (0, h, 0), (0, zsr (fun k => decide (c ≤ gB (zvS M 37) (zvG M 30) q (M 30 7 - (j + 1)) k + dX (gB (zvS M 37) (zvG M 30) q) (rB (zvS M 37) (zvG M 30) q) (M 30 7) j (left - k))) n k, 0)] [] N
  | 0, k, hn, k0 => by
    have hG2 := hG
    obtain ⟨⟨g6, g6'⟩, ⟨g1, g2⟩, -⟩ := okG_M hG2
    have hN58 := hQ.2.1 h h0 h1
    unfold zsr
    rw [e77_32]
    generalize rB (zvS M 37) (zvG M 30) q h = rr at hn hN58
    by_cases c2 : k < rr
    · have : left ≤ k := by unfold sMin at hn; split at hn <;> omega
      simp (disch := first | assumption | exact zrm0 | exact zrm1 _ | exact zrm2 _ _ | exact zrm3 _ _ _ | exact zrm4 _ _ _ _ | omega) only [m77, ↓k_dp, ↓k_dn, k_dp, k_dn, k_dT, k_dF, k_ip, k_in, if_true, if_false, ne_eq, not_true_eq_false, not_false_eq_true, Int.reduceAdd, zup_a, zup_e, zup_j, z32_id, k_il3, k_is5, k_al0, k_gI, k_is6, k_ic, k_is7, k_il7, k_al1, k_icge, k_al4, k_len, k_is8, k_il8, k_gR, k_ild, k_ildS, k_ildW, k_il5, k_al2, k_v5r, k_iadd, k_imul, k_isub, k_il6, k_inc8, k_goto, k_ist, k_inc7, k_rv, zb0_some, zb1_some, e77_0, e77_1, e77_3, e77_4, e77_7, e77_9, e77_10, e77_12, e77_14, e77_15, e77_18, e77_21, e77_23, e77_25, e77_26, e77_29, e77_30, e77_34, e77_35, e77_38, e77_40, e77_41, e77_44, e77_46, e77_48, e77_51, e77_52, e77_53, e77_54, e77_56, e77_58, e77_61, e77_62, e77_65, e77_67, e77_68, e77_69, e77_72, e77_73, e77_75, e77_76, e77_78, e77_79, e77_80, e77_81, e77_83, e77_86, e77_89, e77_94, e77_96, e77_98, e77_99, e77_101, e77_103, e77_104, e77_106, e77_108, e77_109, e77_110, e77_111, e77_113, e77_115, e77_118, e77_119, e77_121, e77_124, e77_127, hN58]
    · simp (disch := first | assumption | exact zrm0 | exact zrm1 _ | exact zrm2 _ _ | exact zrm3 _ _ _ | exact zrm4 _ _ _ _ | omega) only [m77, ↓k_dp, ↓k_dn, k_dp, k_dn, k_dT, k_dF, k_ip, k_in, if_true, if_false, ne_eq, not_true_eq_false, not_false_eq_true, Int.reduceAdd, zup_a, zup_e, zup_j, z32_id, k_il3, k_is5, k_al0, k_gI, k_is6, k_ic, k_is7, k_il7, k_al1, k_icge, k_al4, k_len, k_is8, k_il8, k_gR, k_ild, k_ildS, k_ildW, k_il5, k_al2, k_v5r, k_iadd, k_imul, k_isub, k_il6, k_inc8, k_goto, k_ist, k_inc7, k_rv, zb0_some, zb1_some, e77_0, e77_1, e77_3, e77_4, e77_7, e77_9, e77_10, e77_12, e77_14, e77_15, e77_18, e77_21, e77_23, e77_25, e77_26, e77_29, e77_30, e77_34, e77_35, e77_38, e77_40, e77_41, e77_44, e77_46, e77_48, e77_51, e77_52, e77_53, e77_54, e77_56, e77_58, e77_61, e77_62, e77_65, e77_67, e77_68, e77_69, e77_72, e77_73, e77_75, e77_76, e77_78, e77_79, e77_80, e77_81, e77_83, e77_86, e77_89, e77_94, e77_96, e77_98, e77_99, e77_101, e77_103, e77_104, e77_106, e77_108, e77_109, e77_110, e77_111, e77_113, e77_115, e77_118, e77_119, e77_121, e77_124, e77_127, hN58]
  | n + 1, k, hn, k0 => by
    have hG2 := hG
    obtain ⟨⟨g6, g6'⟩, ⟨g1, g2⟩, -⟩ := okG_M hG2
    obtain ⟨q56, q58, q57, qM⟩ := hQ
    have hN58 := q58 h h0 h1
    have e7 : zvG M 30 0 7 = M 30 7 := zvG_0 (by omega) (by omega)
    have eS : zvS N 37 = zvS M 37 := zvS_eq (fun x y a1 a2 => qM x y (by omega))
    have eG : zvG N 30 = zvG M 30 := zvG_eq (fun x y a1 a2 => qM x y (by omega))
    have hr := rB_bd (q := q) hS hG
    have hg := gB_bd (q := q) hS hG
    have hk : k < rB (zvS M 37) (zvG M 30) q h ∧ k < left := by unfold sMin at hn; split at hn <;> omega
    have hgk : gB (zvS M 37) (zvG M 30) q h k = if zbit (zvS M 37 3 q) h ≠ 0 then sHn (zvS M 37) (zvG M 30) h 0 k else 0 := by unfold gB; rw [if_pos ⟨⟨h0, by rw [e7]; exact h1⟩, k0, by omega⟩]
    have hc := c_loudWith (d + 1) x0 h 0 k 0 N q (by rw [q56, eS]) h0 (by omega)
    rw [eS, eG, ← hgk] at hc
    have hrow := q57 j (left - k) (by omega) (by omega) (by omega)
    rw [show M 30 7 - (j : Int) = h + 1 by omega] at hrow
    have ex : (h + 1) * 201 + left - k = (h + 1) * 201 + (left - k) := by omega
    have bg := hg h k
    have bL := dL_bd (g := gB (zvS M 37) (zvG M 30) q) (r := rB (zvS M 37) (zvG M 30) q) (H := M 30 7) hg (fun h => (hr h).1) j (left - k) (by omega)
    have hst := dStop hg (fun h => (hr h).1) hI k0 (by rw [← hj]; omega) (by omega)
    rw [← hj] at hst
    unfold zsr
    rw [e77_32, ← hj]
    by_cases cc : c ≤ gB (zvS M 37) (zvG M 30) q h k + dX (gB (zvS M 37) (zvG M 30) q) (rB (zvS M 37) (zvG M 30) q) (M 30 7) j (left - k)
    · have c3 := hst.mpr cc
      rw [decide_eq_true cc, if_pos rfl]
      generalize gB (zvS M 37) (zvG M 30) q h k = gg at hc bg c3
      generalize dL (gB (zvS M 37) (zvG M 30) q) (rB (zvS M 37) (zvG M 30) q) (M 30 7) j (left - k) = dd at bL hrow c3
      generalize rB (zvS M 37) (zvG M 30) q h = rr at hk hN58
      simp (disch := first | assumption | exact zrm0 | exact zrm1 _ | exact zrm2 _ _ | exact zrm3 _ _ _ | exact zrm4 _ _ _ _ | omega) only [m77, ↓k_dp, ↓k_dn, k_dp, k_dn, k_dT, k_dF, k_ip, k_in, if_true, if_false, ne_eq, not_true_eq_false, not_false_eq_true, Int.reduceAdd, zup_a, zup_e, zup_j, z32_id, k_il3, k_is5, k_al0, k_gI, k_is6, k_ic, k_is7, k_il7, k_al1, k_icge, k_al4, k_len, k_is8, k_il8, k_gR, k_ild, k_ildS, k_ildW, k_il5, k_al2, k_v5r, k_iadd, k_imul, k_isub, k_il6, k_inc8, k_goto, k_ist, k_inc7, k_rv, zb0_some, zb1_some, e77_0, e77_1, e77_3, e77_4, e77_7, e77_9, e77_10, e77_12, e77_14, e77_15, e77_18, e77_21, e77_23, e77_25, e77_26, e77_29, e77_30, e77_34, e77_35, e77_38, e77_40, e77_41, e77_44, e77_46, e77_48, e77_51, e77_52, e77_53, e77_54, e77_56, e77_58, e77_61, e77_62, e77_65, e77_67, e77_68, e77_69, e77_72, e77_73, e77_75, e77_76, e77_78, e77_79, e77_80, e77_81, e77_83, e77_86, e77_89, e77_94, e77_96, e77_98, e77_99, e77_101, e77_103, e77_104, e77_106, e77_108, e77_109, e77_110, e77_111, e77_113, e77_115, e77_118, e77_119, e77_121, e77_124, e77_127, hN58, hc, ex, hrow]
    · have c3 : ¬ (c ≤ gB (zvS M 37) (zvG M 30) q h k + dL (gB (zvS M 37) (zvG M 30) q) (rB (zvS M 37) (zvG M 30) q) (M 30 7) j (left - k)) := fun z => cc (hst.mp z)
      have ih := c_shareK d x0 irons y h left c M N q j hS hG ⟨q56, q58, q57, qM⟩ h0 h1 hj l1 c1 hI n (k + 1) (by omega) (by omega)
      rw [← hj] at ih
      rw [decide_eq_false cc, if_neg (by decide), ← ih]
      generalize gB (zvS M 37) (zvG M 30) q h k = gg at hc bg c3
      generalize dL (gB (zvS M 37) (zvG M 30) q) (rB (zvS M 37) (zvG M 30) q) (M 30 7) j (left - k) = dd at bL hrow c3
      have hk2 : k < 20 := by have := (hr h).2.1; omega
      generalize rB (zvS M 37) (zvG M 30) q h = rr at hk hN58
      simp (disch := first | assumption | exact zrm0 | exact zrm1 _ | exact zrm2 _ _ | exact zrm3 _ _ _ | exact zrm4 _ _ _ _ | omega) only [m77, ↓k_dp, ↓k_dn, k_dp, k_dn, k_dT, k_dF, k_ip, k_in, if_true, if_false, ne_eq, not_true_eq_false, not_false_eq_true, Int.reduceAdd, zup_a, zup_e, zup_j, z32_id, k_il3, k_is5, k_al0, k_gI, k_is6, k_ic, k_is7, k_il7, k_al1, k_icge, k_al4, k_len, k_is8, k_il8, k_gR, k_ild, k_ildS, k_ildW, k_il5, k_al2, k_v5r, k_iadd, k_imul, k_isub, k_il6, k_inc8, k_goto, k_ist, k_inc7, k_rv, zb0_some, zb1_some, e77_0, e77_1, e77_3, e77_4, e77_7, e77_9, e77_10, e77_12, e77_14, e77_15, e77_18, e77_21, e77_23, e77_25, e77_26, e77_29, e77_30, e77_34, e77_35, e77_38, e77_40, e77_41, e77_44, e77_46, e77_48, e77_51, e77_52, e77_53, e77_54, e77_56, e77_58, e77_61, e77_62, e77_65, e77_67, e77_68, e77_69, e77_72, e77_73, e77_75, e77_76, e77_78, e77_79, e77_80, e77_81, e77_83, e77_86, e77_89, e77_92, e77_94, e77_96, e77_98, e77_99, e77_101, e77_103, e77_104, e77_106, e77_108, e77_109, e77_110, e77_111, e77_113, e77_115, e77_118, e77_119, e77_121, e77_124, e77_127, hN58, hc, ex, hrow]
theorem c_shareH (d : Nat) (x0 irons y : Int) (M : zM) (q : Int) (hS : okS (zvS M 37)) (hG : okG (zvG M 30)) : ∀ (j : Nat) (left c : Int) (l8 : zV) (N : zM), (j : Int) ≤ M 30 7 → okQ M N q → left ≤ 200 → c ≤ 5000 → -5000 + 100 * (j : Int) ≤ c → dInv (gB (zvS M 37) (zvG M 30) q) (rB (zvS M 37) (zvG M 30) q) (M 30 7) j left c → ∃ N', zEv true (d + 4) 77 12 [(23, 56, x0), (28, 30, 0), (26, 37, 0), (0, irons, y), (10, 52, 10), (0, left, 0), (0, c, 0), (0, M 30 7 - j, 0), l8] [] N = some ((98, 0, 0), N') ∧ (∀ x y, x ≠ 52 → N' x y = N x y) ∧ (∀ h, h < M 30 7 - j → N' 52 h = N 52 h) ∧ ∀ h, M 30 7 - j ≤ h → h < M 30 7 → N' 52 h = dSh (gB (zvS M 37) (zvG M 30) q) (rB (zvS M 37) (zvG M 30) q) (M 30 7) j left c h
  | 0, left, c, l8, N, hj, hQ, l1, c1, c2, hI => by
    have u7 : N 30 7 = M 30 7 := hQ.2.2.2 _ _ (by omega)
    refine ⟨N, ?_, fun _ _ _ => rfl, fun _ _ => rfl, fun h a b => by omega⟩
    rw [e77_12, show M 30 7 - ((0 : Nat) : Int) = M 30 7 by omega]
    simp (disch := first | assumption | exact zrm0 | exact zrm1 _ | exact zrm2 _ _ | exact zrm3 _ _ _ | exact zrm4 _ _ _ _ | omega) only [m77, ↓k_dp, ↓k_dn, k_dp, k_dn, k_dT, k_dF, k_ip, k_in, if_true, if_false, ne_eq, not_true_eq_false, not_false_eq_true, Int.reduceAdd, zup_a, zup_e, zup_j, z32_id, k_il3, k_is5, k_al0, k_gI, k_is6, k_ic, k_is7, k_il7, k_al1, k_icge, k_al4, k_len, k_is8, k_il8, k_gR, k_ild, k_ildS, k_ildW, k_il5, k_al2, k_v5r, k_iadd, k_imul, k_isub, k_il6, k_inc8, k_goto, k_ist, k_inc7, k_rv, zb0_some, zb1_some, e77_0, e77_1, e77_3, e77_4, e77_7, e77_9, e77_10, e77_14, e77_15, e77_18, e77_21, e77_23, e77_25, e77_26, e77_29, e77_30, e77_32, e77_34, e77_35, e77_38, e77_40, e77_41, e77_44, e77_46, e77_48, e77_51, e77_52, e77_53, e77_54, e77_56, e77_58, e77_61, e77_62, e77_65, e77_67, e77_68, e77_69, e77_72, e77_73, e77_75, e77_76, e77_78, e77_79, e77_80, e77_81, e77_83, e77_86, e77_89, e77_92, e77_94, e77_96, e77_98, e77_99, e77_101, e77_103, e77_104, e77_106, e77_108, e77_109, e77_110, e77_111, e77_113, e77_115, e77_118, e77_119, e77_121, e77_124, e77_127, u7]
  | j + 1, left, c, l8, N, hj, hQ, l1, c1, c2, hI => by
    have hG2 := hG
    obtain ⟨⟨g6, g6'⟩, ⟨g1, g2⟩, -⟩ := okG_M hG2
    have u7 : N 30 7 = M 30 7 := hQ.2.2.2 _ _ (by omega)
    have hr := rB_bd (q := q) hS hG
    have hg := gB_bd (q := q) hS hG
    have e7 : zvG M 30 0 7 = M 30 7 := zvG_0 (by omega) (by omega)
    have eS : zvS N 37 = zvS M 37 := zvS_eq (fun x y a1 a2 => hQ.2.2.2 x y (by omega))
    have eG : zvG N 30 = zvG M 30 := zvG_eq (fun x y a1 a2 => hQ.2.2.2 x y (by omega))
    obtain ⟨h, hh⟩ : ∃ h, h = M 30 7 - ((j : Int) + 1) := ⟨_, rfl⟩
    have h0 : 0 ≤ h := by omega
    have h1 : h < M 30 7 := by omega
    have hmin : 0 ≤ sMin (rB (zvS M 37) (zvG M 30) q h) left := by have := (hr h).1; have := hI.1; unfold sMin; split <;> omega
    have hK := c_shareK d x0 irons y h left c M N q j hS hG hQ h0 h1 hh l1 c1 hI (sMin (rB (zvS M 37) (zvG M 30) q h) left).toNat 0 (by omega) (Int.le_refl _)
    obtain ⟨a1, a2, a3, a4, a5⟩ := dN_ok hg (fun h => (hr h).1) hI
    have hnx := dInv_next hg (fun h => (hr h).1) (by omega) hI
    have hdN : zsr (fun k => decide (c ≤ gB (zvS M 37) (zvG M 30) q (M 30 7 - ((j : Int) + 1)) k + dX (gB (zvS M 37) (zvG M 30) q) (rB (zvS M 37) (zvG M 30) q) (M 30 7) j (left - k))) (sMin (rB (zvS M 37) (zvG M 30) q h) left).toNat 0 = dN (gB (zvS M 37) (zvG M 30) q) (rB (zvS M 37) (zvG M 30) q) (M 30 7) j left c := by unfold dN; rw [hh]
    rw [hdN] at hK
    have hgk : gB (zvS M 37) (zvG M 30) q h (dN (gB (zvS M 37) (zvG M 30) q) (rB (zvS M 37) (zvG M 30) q) (M 30 7) j left c) = if zbit (zvS M 37 3 q) h ≠ 0 then sHn (zvS M 37) (zvG M 30) h 0 (dN (gB (zvS M 37) (zvG M 30) q) (rB (zvS M 37) (zvG M 30) q) (M 30 7) j left c) else 0 := by
      unfold gB
      rw [if_pos ⟨⟨h0, by rw [e7]; exact h1⟩, a1, by rw [hh]; exact a2⟩]
    obtain ⟨K, hKK⟩ : ∃ K, K = dN (gB (zvS M 37) (zvG M 30) q) (rB (zvS M 37) (zvG M 30) q) (M 30 7) j left c := ⟨_, rfl⟩
    rw [← hKK] at hK a1 a2 a3 a4 a5 hnx hgk
    rw [← hh] at a2 hnx
    have hc := c_loudWith (d + 1) x0 h 0 K 0 (zup N 52 h K) q (by rw [zup_a (by omega), hQ.1, zvS_out (by omega), eS]) h0 (by omega)
    rw [zvS_out (by omega), zvG_out (by omega), eS, eG, ← hgk] at hc
    have bg := hg h K
    have hl0 := hI.1
    obtain ⟨N', i1, i2, i3, i4⟩ := c_shareH d x0 irons y M q hS hG j (left - K) (c - gB (zvS M 37) (zvG M 30) q h K) (0, K, 0) (zup N 52 h K) (by omega) (okQ_up hQ) (by omega) (by omega) (by omega) hnx
    refine ⟨N', ?_, fun x y hx => by rw [i2 x y hx, zup_a hx], fun a ha => by rw [i3 a (by omega), zup_j (by omega)], fun a b1 b2 => ?_⟩
    · rw [← i1, e77_12, show M 30 7 - ((j + 1 : Nat) : Int) = h by omega, show M 30 7 - (j : Int) = h + 1 by omega]
      have h10 : h < 10 := by omega
      simp (disch := first | assumption | exact zrm0 | exact zrm1 _ | exact zrm2 _ _ | exact zrm3 _ _ _ | exact zrm4 _ _ _ _ | omega) only [m77, ↓k_dp, ↓k_dn, k_dp, k_dn, k_dT, k_dF, k_ip, k_in, if_true, if_false, ne_eq, not_true_eq_false, not_false_eq_true, Int.reduceAdd, zup_a, zup_e, zup_j, z32_id, k_il3, k_is5, k_al0, k_gI, k_is6, k_ic, k_is7, k_il7, k_al1, k_icge, k_al4, k_len, k_is8, k_il8, k_gR, k_ild, k_ildS, k_ildW, k_il5, k_al2, k_v5r, k_iadd, k_imul, k_isub, k_il6, k_inc8, k_goto, k_ist, k_inc7, k_rv, zb0_some, zb1_some, e77_0, e77_1, e77_3, e77_4, e77_7, e77_9, e77_10, e77_14, e77_15, e77_18, e77_21, e77_23, e77_25, e77_26, e77_29, e77_30, e77_34, e77_35, e77_38, e77_40, e77_41, e77_44, e77_46, e77_48, e77_51, e77_52, e77_53, e77_54, e77_56, e77_58, e77_61, e77_62, e77_65, e77_67, e77_68, e77_69, e77_72, e77_73, e77_75, e77_76, e77_78, e77_79, e77_80, e77_81, e77_83, e77_86, e77_89, e77_92, e77_94, e77_96, e77_98, e77_99, e77_101, e77_103, e77_104, e77_106, e77_108, e77_109, e77_110, e77_111, e77_113, e77_115, e77_118, e77_119, e77_121, e77_124, e77_127, u7]
      rw [hK]
      generalize gB (zvS M 37) (zvG M 30) q h K = gg at hc bg
      simp (disch := first | assumption | exact zrm0 | exact zrm1 _ | exact zrm2 _ _ | exact zrm3 _ _ _ | exact zrm4 _ _ _ _ | omega) only [m77, ↓k_dp, ↓k_dn, k_dp, k_dn, k_dT, k_dF, k_ip, k_in, if_true, if_false, ne_eq, not_true_eq_false, not_false_eq_true, Int.reduceAdd, zup_a, zup_e, zup_j, z32_id, k_il3, k_is5, k_al0, k_gI, k_is6, k_ic, k_is7, k_il7, k_al1, k_icge, k_al4, k_len, k_is8, k_il8, k_gR, k_ild, k_ildS, k_ildW, k_il5, k_al2, k_v5r, k_iadd, k_imul, k_isub, k_il6, k_inc8, k_goto, k_ist, k_inc7, k_rv, zb0_some, zb1_some, e77_0, e77_1, e77_3, e77_4, e77_7, e77_9, e77_10, e77_14, e77_15, e77_18, e77_21, e77_23, e77_25, e77_26, e77_29, e77_30, e77_32, e77_34, e77_35, e77_38, e77_40, e77_41, e77_44, e77_46, e77_48, e77_51, e77_52, e77_53, e77_54, e77_56, e77_58, e77_61, e77_62, e77_65, e77_67, e77_68, e77_69, e77_72, e77_73, e77_75, e77_76, e77_78, e77_79, e77_80, e77_81, e77_83, e77_86, e77_89, e77_92, e77_94, e77_96, e77_98, e77_99, e77_101, e77_103, e77_104, e77_106, e77_108, e77_109, e77_110, e77_111, e77_113, e77_115, e77_118, e77_119, e77_121, e77_124, e77_127, hc]
    · unfold dSh
      rw [← hh, ← hKK]
      by_cases ca : a = h
      · rw [if_pos ca, ca, i3 h (by omega), zup_e (by omega)]
      · rw [if_neg ca, i4 a (by omega) b2]
